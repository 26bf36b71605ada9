theorem dX6_allPeople_8 : decode cX6_allPeople 8 = .ok (.iconst 1, 1) := by decide +kernel
theorem dX6_allPeople_9 : decode cX6_allPeople 9 = .ok (.isub, 1) := by decide +kernel
theorem dX6_allPeople_10 : decode cX6_allPeople 10 = .ok (.ireturn, 1) := by decide +kernel
theorem dX6_nothing_0 : decode cX6_nothing 0 = .ok (.aload_n 0, 1) := by decide +kernel
theorem dX6_nothing_1 : decode cX6_nothing 1 = .ok (.aload_n 0, 1) := by decide +kernel
theorem dX6_nothing_2 : decode cX6_nothing 2 = .ok (.invokevirtual 177, 3) := by decide +kernel
theorem dX6_nothing_5 : decode cX6_nothing 5 = .ok (.invokevirtual 180, 3) := by decide +kernel
theorem dX6_nothing_8 : decode cX6_nothing 8 = .ok (.ireturn, 1) := by decide +kernel
theorem dX6_bits_0 : decode cX6_bits 0 = .ok (.iconst 0, 1) := by decide +kernel
theorem dX6_bits_1 : decode cX6_bits 1 = .ok (.istore_n 1, 1) := by decide +kernel
theorem dX6_bits_2 : decode cX6_bits 2 = .ok (.iload_n 0, 1) := by decide +kernel
theorem dX6_bits_3 : decode cX6_bits 3 = .ok (.istore_n 2, 1) := by decide +kernel
theorem dX6_bits_4 : decode cX6_bits 4 = .ok (.iload_n 2, 1) := by decide +kernel
theorem dX6_bits_5 : decode cX6_bits 5 = .ok (.ifCond .le 16, 3) := by decide +kernel
theorem dX6_bits_8 : decode cX6_bits 8 = .ok (.iload_n 1, 1) := by decide +kernel
theorem dX6_bits_9 : decode cX6_bits 9 = .ok (.iload_n 2, 1) := by decide +kernel
theorem dX6_bits_10 : decode cX6_bits 10 = .ok (.iconst 1, 1) := by decide +kernel
theorem dX6_bits_11 : decode cX6_bits 11 = .ok (.iand, 1) := by decide +kernel
theorem dX6_bits_12 : decode cX6_bits 12 = .ok (.iadd, 1) := by decide +kernel
theorem dX6_bits_13 : decode cX6_bits 13 = .ok (.istore_n 1, 1) := by decide +kernel
theorem dX6_bits_14 : decode cX6_bits 14 = .ok (.iload_n 2, 1) := by decide +kernel
theorem dX6_bits_15 : decode cX6_bits 15 = .ok (.iconst 1, 1) := by decide +kernel
theorem dX6_bits_16 : decode cX6_bits 16 = .ok (.ishr, 1) := by decide +kernel
theorem dX6_bits_17 : decode cX6_bits 17 = .ok (.istore_n 2, 1) := by decide +kernel
theorem dX6_bits_18 : decode cX6_bits 18 = .ok (.goto (-14), 3) := by decide +kernel
theorem dX6_bits_21 : decode cX6_bits 21 = .ok (.iload_n 1, 1) := by decide +kernel
theorem dX6_bits_22 : decode cX6_bits 22 = .ok (.ireturn, 1) := by decide +kernel
theorem dX6_states_0 : decode cX6_states 0 = .ok (.aload_n 0, 1) := by decide +kernel
theorem dX6_states_1 : decode cX6_states 1 = .ok (.invokevirtual 156, 3) := by decide +kernel
theorem dX6_states_4 : decode cX6_states 4 = .ok (.aload_n 0, 1) := by decide +kernel
theorem dX6_states_5 : decode cX6_states 5 = .ok (.aload_n 0, 1) := by decide +kernel
theorem dX6_states_6 : decode cX6_states 6 = .ok (.invokevirtual 177, 3) := by decide +kernel
theorem dX6_states_9 : decode cX6_states 9 = .ok (.invokevirtual 180, 3) := by decide +kernel
theorem dX6_states_12 : decode cX6_states 12 = .ok (.idiv, 1) := by decide +kernel
theorem dX6_states_13 : decode cX6_states 13 = .ok (.ireturn, 1) := by decide +kernel
theorem dX6_stuck_0 : decode cX6_stuck 0 = .ok (.iconst 0, 1) := by decide +kernel
theorem dX6_stuck_1 : decode cX6_stuck 1 = .ok (.istore_n 1, 1) := by decide +kernel
theorem dX6_stuck_2 : decode cX6_stuck 2 = .ok (.iconst 0, 1) := by decide +kernel
theorem dX6_stuck_3 : decode cX6_stuck 3 = .ok (.istore_n 2, 1) := by decide +kernel
theorem dX6_stuck_4 : decode cX6_stuck 4 = .ok (.iload_n 2, 1) := by decide +kernel
theorem dX6_stuck_5 : decode cX6_stuck 5 = .ok (.aload_n 0, 1) := by decide +kernel
theorem dX6_stuck_6 : decode cX6_stuck 6 = .ok (.getfield 13, 3) := by decide +kernel
theorem dX6_stuck_9 : decode cX6_stuck 9 = .ok (.iconst 0, 1) := by decide +kernel
theorem dX6_stuck_10 : decode cX6_stuck 10 = .ok (.iaload, 1) := by decide +kernel
theorem dX6_stuck_11 : decode cX6_stuck 11 = .ok (.if_icmp .ge 21, 3) := by decide +kernel
theorem dX6_stuck_14 : decode cX6_stuck 14 = .ok (.iload_n 1, 1) := by decide +kernel
theorem dX6_stuck_15 : decode cX6_stuck 15 = .ok (.aload_n 0, 1) := by decide +kernel
theorem dX6_stuck_16 : decode cX6_stuck 16 = .ok (.getfield 13, 3) := by decide +kernel
theorem dX6_stuck_19 : decode cX6_stuck 19 = .ok (.bipush 28, 2) := by decide +kernel
theorem dX6_stuck_21 : decode cX6_stuck 21 = .ok (.iload_n 2, 1) := by decide +kernel
theorem dX6_stuck_22 : decode cX6_stuck 22 = .ok (.iadd, 1) := by decide +kernel
theorem dX6_stuck_23 : decode cX6_stuck 23 = .ok (.iaload, 1) := by decide +kernel
theorem dX6_stuck_24 : decode cX6_stuck 24 = .ok (.iadd, 1) := by decide +kernel
theorem dX6_stuck_25 : decode cX6_stuck 25 = .ok (.istore_n 1, 1) := by decide +kernel
theorem dX6_stuck_26 : decode cX6_stuck 26 = .ok (.iinc 2 1, 3) := by decide +kernel
theorem dX6_stuck_29 : decode cX6_stuck 29 = .ok (.goto (-25), 3) := by decide +kernel
theorem dX6_stuck_32 : decode cX6_stuck 32 = .ok (.iload_n 1, 1) := by decide +kernel
theorem dX6_stuck_33 : decode cX6_stuck 33 = .ok (.ireturn, 1) := by decide +kernel
theorem dX6_keySet_0 : decode cX6_keySet 0 = .ok (.bipush (-9), 2) := by decide +kernel
theorem dX6_keySet_2 : decode cX6_keySet 2 = .ok (.istore_n 1, 1) := by decide +kernel
theorem dX6_keySet_3 : decode cX6_keySet 3 = .ok (.aload_n 0, 1) := by decide +kernel
theorem dX6_keySet_4 : decode cX6_keySet 4 = .ok (.invokevirtual 183, 3) := by decide +kernel
theorem dX6_keySet_7 : decode cX6_keySet 7 = .ok (.ifCond .le 6, 3) := by decide +kernel
theorem dX6_keySet_10 : decode cX6_keySet 10 = .ok (.bipush (-9), 2) := by decide +kernel
theorem dX6_keySet_12 : decode cX6_keySet 12 = .ok (.ireturn, 1) := by decide +kernel
theorem dX6_keySet_13 : decode cX6_keySet 13 = .ok (.iconst 0, 1) := by decide +kernel
theorem dX6_keySet_14 : decode cX6_keySet 14 = .ok (.istore_n 2, 1) := by decide +kernel
theorem dX6_keySet_15 : decode cX6_keySet 15 = .ok (.iload_n 2, 1) := by decide +kernel
theorem dX6_keySet_16 : decode cX6_keySet 16 = .ok (.aload_n 0, 1) := by decide +kernel
theorem dX6_keySet_17 : decode cX6_keySet 17 = .ok (.invokevirtual 177, 3) := by decide +kernel
theorem dX6_keySet_20 : decode cX6_keySet 20 = .ok (.if_icmp .gt 69, 3) := by decide +kernel
theorem dX6_keySet_23 : decode cX6_keySet 23 = .ok (.iload_n 1, 1) := by decide +kernel
theorem dX6_keySet_24 : decode cX6_keySet 24 = .ok (.ifCond .lt 14, 3) := by decide +kernel
theorem dX6_keySet_27 : decode cX6_keySet 27 = .ok (.iload_n 2, 1) := by decide +kernel
theorem dX6_keySet_28 : decode cX6_keySet 28 = .ok (.invokestatic 186, 3) := by decide +kernel
theorem dX6_keySet_31 : decode cX6_keySet 31 = .ok (.iload_n 1, 1) := by decide +kernel
theorem dX6_keySet_32 : decode cX6_keySet 32 = .ok (.invokestatic 186, 3) := by decide +kernel
theorem dX6_keySet_35 : decode cX6_keySet 35 = .ok (.if_icmp .ge 48, 3) := by decide +kernel
theorem dX6_keySet_38 : decode cX6_keySet 38 = .ok (.iload_n 2, 1) := by decide +kernel
theorem dX6_keySet_39 : decode cX6_keySet 39 = .ok (.invokestatic 186, 3) := by decide +kernel
theorem dX6_keySet_42 : decode cX6_keySet 42 = .ok (.aload_n 0, 1) := by decide +kernel
theorem dX6_keySet_43 : decode cX6_keySet 43 = .ok (.getfield 13, 3) := by decide +kernel
theorem dX6_keySet_46 : decode cX6_keySet 46 = .ok (.iconst 0, 1) := by decide +kernel
theorem dX6_keySet_47 : decode cX6_keySet 47 = .ok (.iaload, 1) := by decide +kernel
theorem dX6_keySet_48 : decode cX6_keySet 48 = .ok (.if_icmp .ge 6, 3) := by decide +kernel
theorem dX6_keySet_51 : decode cX6_keySet 51 = .ok (.goto 32, 3) := by decide +kernel
theorem dX6_keySet_54 : decode cX6_keySet 54 = .ok (.aload_n 0, 1) := by decide +kernel
theorem dX6_keySet_55 : decode cX6_keySet 55 = .ok (.iload_n 2, 1) := by decide +kernel
theorem dX6_keySet_56 : decode cX6_keySet 56 = .ok (.invokestatic 186, 3) := by decide +kernel
theorem dX6_keySet_59 : decode cX6_keySet 59 = .ok (.invokevirtual 137, 3) := by decide +kernel
theorem dX6_keySet_62 : decode cX6_keySet 62 = .ok (.aload_n 0, 1) := by decide +kernel
theorem dX6_keySet_63 : decode cX6_keySet 63 = .ok (.iload_n 2, 1) := by decide +kernel
theorem dX6_keySet_64 : decode cX6_keySet 64 = .ok (.invokevirtual 180, 3) := by decide +kernel
theorem dX6_keySet_67 : decode cX6_keySet 67 = .ok (.idiv, 1) := by decide +kernel
theorem dX6_keySet_68 : decode cX6_keySet 68 = .ok (.aload_n 0, 1) := by decide +kernel
theorem dX6_keySet_69 : decode cX6_keySet 69 = .ok (.aload_n 0, 1) := by decide +kernel
theorem dX6_keySet_70 : decode cX6_keySet 70 = .ok (.getfield 13, 3) := by decide +kernel
theorem dX6_keySet_73 : decode cX6_keySet 73 = .ok (.iconst 0, 1) := by decide +kernel
theorem dX6_keySet_74 : decode cX6_keySet 74 = .ok (.iaload, 1) := by decide +kernel
theorem dX6_keySet_75 : decode cX6_keySet 75 = .ok (.invokevirtual 137, 3) := by decide +kernel
theorem dX6_keySet_78 : decode cX6_keySet 78 = .ok (.if_icmp .ne 5, 3) := by decide +kernel
theorem dX6_keySet_81 : decode cX6_keySet 81 = .ok (.iload_n 2, 1) := by decide +kernel
theorem dX6_keySet_82 : decode cX6_keySet 82 = .ok (.istore_n 1, 1) := by decide +kernel
theorem dX6_keySet_83 : decode cX6_keySet 83 = .ok (.iinc 2 1, 3) := by decide +kernel
theorem dX6_keySet_86 : decode cX6_keySet 86 = .ok (.goto (-71), 3) := by decide +kernel
theorem dX6_keySet_89 : decode cX6_keySet 89 = .ok (.iload_n 1, 1) := by decide +kernel
theorem dX6_keySet_90 : decode cX6_keySet 90 = .ok (.ireturn, 1) := by decide +kernel
theorem dX6_keys_0 : decode cX6_keys 0 = .ok (.iload_n 1, 1) := by decide +kernel
theorem dX6_keys_1 : decode cX6_keys 1 = .ok (.iconst 2, 1) := by decide +kernel
theorem dX6_keys_2 : decode cX6_keys 2 = .ok (.invokestatic 40, 3) := by decide +kernel
theorem dX6_keys_5 : decode cX6_keys 5 = .ok (.ifCond .ne 10, 3) := by decide +kernel
theorem dX6_keys_8 : decode cX6_keys 8 = .ok (.aload_n 0, 1) := by decide +kernel
theorem dX6_keys_9 : decode cX6_keys 9 = .ok (.bipush (-2), 2) := by decide +kernel
theorem dX6_keys_11 : decode cX6_keys 11 = .ok (.invokevirtual 52, 3) := by decide +kernel
theorem dX6_keys_14 : decode cX6_keys 14 = .ok (.ireturn, 1) := by decide +kernel
theorem dX6_keys_15 : decode cX6_keys 15 = .ok (.aload_n 0, 1) := by decide +kernel
theorem dX6_keys_16 : decode cX6_keys 16 = .ok (.invokevirtual 189, 3) := by decide +kernel
theorem dX6_keys_19 : decode cX6_keys 19 = .ok (.istore_n 2, 1) := by decide +kernel
theorem dX6_keys_20 : decode cX6_keys 20 = .ok (.iload_n 2, 1) := by decide +kernel
theorem dX6_keys_21 : decode cX6_keys 21 = .ok (.ifCond .lt 8, 3) := by decide +kernel
theorem dX6_keys_24 : decode cX6_keys 24 = .ok (.iload_n 1, 1) := by decide +kernel
theorem dX6_keys_25 : decode cX6_keys 25 = .ok (.iconst 1, 1) := by decide +kernel
theorem dX6_keys_26 : decode cX6_keys 26 = .ok (.if_icmp .ne 7, 3) := by decide +kernel
theorem dX6_keys_29 : decode cX6_keys 29 = .ok (.iload_n 2, 1) := by decide +kernel
theorem dX6_keys_30 : decode cX6_keys 30 = .ok (.goto 7, 3) := by decide +kernel
theorem dX6_keys_33 : decode cX6_keys 33 = .ok (.iload_n 2, 1) := by decide +kernel
theorem dX6_keys_34 : decode cX6_keys 34 = .ok (.invokestatic 186, 3) := by decide +kernel
theorem dX6_keys_37 : decode cX6_keys 37 = .ok (.ireturn, 1) := by decide +kernel
theorem dX6_findsBeen_0 : decode cX6_findsBeen 0 = .ok (.aload_n 0, 1) := by decide +kernel
theorem dX6_findsBeen_1 : decode cX6_findsBeen 1 = .ok (.invokevirtual 131, 3) := by decide +kernel
theorem dX6_findsBeen_4 : decode cX6_findsBeen 4 = .ok (.istore_n 1, 1) := by decide +kernel
theorem dX6_findsBeen_5 : decode cX6_findsBeen 5 = .ok (.aload_n 0, 1) := by decide +kernel
theorem dX6_findsBeen_6 : decode cX6_findsBeen 6 = .ok (.iconst 0, 1) := by decide +kernel
theorem dX6_findsBeen_7 : decode cX6_findsBeen 7 = .ok (.putfield 192, 3) := by decide +kernel
theorem dX6_findsBeen_10 : decode cX6_findsBeen 10 = .ok (.aload_n 0, 1) := by decide +kernel
theorem dX6_findsBeen_11 : decode cX6_findsBeen 11 = .ok (.aload_n 0, 1) := by decide +kernel
theorem dX6_findsBeen_12 : decode cX6_findsBeen 12 = .ok (.invokevirtual 177, 3) := by decide +kernel
theorem dX6_findsBeen_15 : decode cX6_findsBeen 15 = .ok (.putfield 195, 3) := by decide +kernel
theorem dX6_findsBeen_18 : decode cX6_findsBeen 18 = .ok (.aload_n 0, 1) := by decide +kernel
theorem dX6_findsBeen_19 : decode cX6_findsBeen 19 = .ok (.invokevirtual 147, 3) := by decide +kernel
theorem dX6_findsBeen_22 : decode cX6_findsBeen 22 = .ok (.iconst 0, 1) := by decide +kernel
theorem dX6_findsBeen_23 : decode cX6_findsBeen 23 = .ok (.istore_n 2, 1) := by decide +kernel
theorem dX6_findsBeen_24 : decode cX6_findsBeen 24 = .ok (.iload_n 2, 1) := by decide +kernel
theorem dX6_findsBeen_25 : decode cX6_findsBeen 25 = .ok (.aload_n 0, 1) := by decide +kernel
theorem dX6_findsBeen_26 : decode cX6_findsBeen 26 = .ok (.invokevirtual 156, 3) := by decide +kernel
theorem dX6_findsBeen_29 : decode cX6_findsBeen 29 = .ok (.if_icmp .ge 80, 3) := by decide +kernel
theorem dX6_findsBeen_32 : decode cX6_findsBeen 32 = .ok (.aload_n 0, 1) := by decide +kernel
theorem dX6_findsBeen_33 : decode cX6_findsBeen 33 = .ok (.invokevirtual 174, 3) := by decide +kernel
theorem dX6_findsBeen_36 : decode cX6_findsBeen 36 = .ok (.aload_n 0, 1) := by decide +kernel
theorem dX6_findsBeen_37 : decode cX6_findsBeen 37 = .ok (.iload_n 2, 1) := by decide +kernel
theorem dX6_findsBeen_38 : decode cX6_findsBeen 38 = .ok (.invokevirtual 150, 3) := by decide +kernel
theorem dX6_findsBeen_41 : decode cX6_findsBeen 41 = .ok (.aload_n 0, 1) := by decide +kernel
theorem dX6_findsBeen_42 : decode cX6_findsBeen 42 = .ok (.invokevirtual 131, 3) := by decide +kernel
theorem dX6_findsBeen_45 : decode cX6_findsBeen 45 = .ok (.iload_n 1, 1) := by decide +kernel
theorem dX6_findsBeen_46 : decode cX6_findsBeen 46 = .ok (.if_icmp .eq 6, 3) := by decide +kernel
theorem dX6_findsBeen_49 : decode cX6_findsBeen 49 = .ok (.goto 54, 3) := by decide +kernel
theorem dX6_findsBeen_52 : decode cX6_findsBeen 52 = .ok (.aload_n 0, 1) := by decide +kernel
theorem dX6_findsBeen_53 : decode cX6_findsBeen 53 = .ok (.dup, 1) := by decide +kernel
theorem dX6_findsBeen_54 : decode cX6_findsBeen 54 = .ok (.getfield 192, 3) := by decide +kernel
theorem dX6_findsBeen_57 : decode cX6_findsBeen 57 = .ok (.iconst 1, 1) := by decide +kernel
theorem dX6_findsBeen_58 : decode cX6_findsBeen 58 = .ok (.iadd, 1) := by decide +kernel
theorem dX6_findsBeen_59 : decode cX6_findsBeen 59 = .ok (.putfield 192, 3) := by decide +kernel
theorem dX6_findsBeen_62 : decode cX6_findsBeen 62 = .ok (.iconst 0, 1) := by decide +kernel
theorem dX6_findsBeen_63 : decode cX6_findsBeen 63 = .ok (.istore_n 3, 1) := by decide +kernel
theorem dX6_findsBeen_64 : decode cX6_findsBeen 64 = .ok (.iload_n 3, 1) := by decide +kernel
theorem dX6_findsBeen_65 : decode cX6_findsBeen 65 = .ok (.aload_n 0, 1) := by decide +kernel
theorem dX6_findsBeen_66 : decode cX6_findsBeen 66 = .ok (.getfield 13, 3) := by decide +kernel
theorem dX6_findsBeen_69 : decode cX6_findsBeen 69 = .ok (.iconst 2, 1) := by decide +kernel
theorem dX6_findsBeen_70 : decode cX6_findsBeen 70 = .ok (.iaload, 1) := by decide +kernel
theorem dX6_findsBeen_71 : decode cX6_findsBeen 71 = .ok (.if_icmp .ge 32, 3) := by decide +kernel
theorem dX6_findsBeen_74 : decode cX6_findsBeen 74 = .ok (.aload_n 0, 1) := by decide +kernel
theorem dX6_findsBeen_75 : decode cX6_findsBeen 75 = .ok (.iload_n 2, 1) := by decide +kernel
theorem dX6_findsBeen_76 : decode cX6_findsBeen 76 = .ok (.iload_n 3, 1) := by decide +kernel
theorem dX6_findsBeen_77 : decode cX6_findsBeen 77 = .ok (.invokevirtual 144, 3) := by decide +kernel
theorem dX6_findsBeen_80 : decode cX6_findsBeen 80 = .ok (.ifCond .ne 17, 3) := by decide +kernel
theorem dX6_findsBeen_83 : decode cX6_findsBeen 83 = .ok (.aload_n 0, 1) := by decide +kernel
theorem dX6_findsBeen_84 : decode cX6_findsBeen 84 = .ok (.dup, 1) := by decide +kernel
theorem dX6_findsBeen_85 : decode cX6_findsBeen 85 = .ok (.getfield 195, 3) := by decide +kernel
theorem dX6_findsBeen_88 : decode cX6_findsBeen 88 = .ok (.iconst 1, 1) := by decide +kernel
theorem dX6_findsBeen_89 : decode cX6_findsBeen 89 = .ok (.iload_n 3, 1) := by decide +kernel
theorem dX6_findsBeen_90 : decode cX6_findsBeen 90 = .ok (.ishl, 1) := by decide +kernel
theorem dX6_findsBeen_91 : decode cX6_findsBeen 91 = .ok (.iconst (-1), 1) := by decide +kernel
theorem dX6_findsBeen_92 : decode cX6_findsBeen 92 = .ok (.ixor, 1) := by decide +kernel
theorem dX6_findsBeen_93 : decode cX6_findsBeen 93 = .ok (.iand, 1) := by decide +kernel
theorem dX6_findsBeen_94 : decode cX6_findsBeen 94 = .ok (.putfield 195, 3) := by decide +kernel
theorem dX6_findsBeen_97 : decode cX6_findsBeen 97 = .ok (.iinc 3 1, 3) := by decide +kernel
theorem dX6_findsBeen_100 : decode cX6_findsBeen 100 = .ok (.goto (-36), 3) := by decide +kernel
theorem dX6_findsBeen_103 : decode cX6_findsBeen 103 = .ok (.iinc 2 1, 3) := by decide +kernel
theorem dX6_findsBeen_106 : decode cX6_findsBeen 106 = .ok (.goto (-82), 3) := by decide +kernel
theorem dX6_findsBeen_109 : decode cX6_findsBeen 109 = .ok (.aload_n 0, 1) := by decide +kernel
theorem dX6_findsBeen_110 : decode cX6_findsBeen 110 = .ok (.invokevirtual 153, 3) := by decide +kernel
theorem dX6_findsBeen_113 : decode cX6_findsBeen 113 = .ok (.return_, 1) := by decide +kernel
theorem dX6_been_0 : decode cX6_been 0 = .ok (.aload_n 0, 1) := by decide +kernel
theorem dX6_been_1 : decode cX6_been 1 = .ok (.invokevirtual 198, 3) := by decide +kernel
theorem dX6_been_4 : decode cX6_been 4 = .ok (.aload_n 0, 1) := by decide +kernel
theorem dX6_been_5 : decode cX6_been 5 = .ok (.getfield 192, 3) := by decide +kernel
theorem dX6_been_8 : decode cX6_been 8 = .ok (.ireturn, 1) := by decide +kernel
theorem dX6_sure_0 : decode cX6_sure 0 = .ok (.aload_n 0, 1) := by decide +kernel
theorem dX6_sure_1 : decode cX6_sure 1 = .ok (.invokevirtual 198, 3) := by decide +kernel
theorem dX6_sure_4 : decode cX6_sure 4 = .ok (.aload_n 0, 1) := by decide +kernel
theorem dX6_sure_5 : decode cX6_sure 5 = .ok (.getfield 192, 3) := by decide +kernel
theorem dX6_sure_8 : decode cX6_sure 8 = .ok (.ifCond .ne 7, 3) := by decide +kernel
theorem dX6_sure_11 : decode cX6_sure 11 = .ok (.iconst 0, 1) := by decide +kernel
theorem dX6_sure_12 : decode cX6_sure 12 = .ok (.goto 7, 3) := by decide +kernel
theorem dX6_sure_15 : decode cX6_sure 15 = .ok (.aload_n 0, 1) := by decide +kernel
theorem dX6_sure_16 : decode cX6_sure 16 = .ok (.getfield 195, 3) := by decide +kernel
theorem dX6_sure_19 : decode cX6_sure 19 = .ok (.ireturn, 1) := by decide +kernel
theorem dX6_divisorsOf_0 : decode cX6_divisorsOf 0 = .ok (.iconst 1, 1) := by decide +kernel
theorem dX6_divisorsOf_1 : decode cX6_divisorsOf 1 = .ok (.istore_n 1, 1) := by decide +kernel
theorem dX6_divisorsOf_2 : decode cX6_divisorsOf 2 = .ok (.iload_n 0, 1) := by decide +kernel
theorem dX6_divisorsOf_3 : decode cX6_divisorsOf 3 = .ok (.istore_n 2, 1) := by decide +kernel
theorem dX6_divisorsOf_4 : decode cX6_divisorsOf 4 = .ok (.iconst 2, 1) := by decide +kernel
theorem dX6_divisorsOf_5 : decode cX6_divisorsOf 5 = .ok (.istore_n 3, 1) := by decide +kernel
theorem dX6_divisorsOf_6 : decode cX6_divisorsOf 6 = .ok (.iload_n 3, 1) := by decide +kernel
theorem dX6_divisorsOf_7 : decode cX6_divisorsOf 7 = .ok (.iload_n 2, 1) := by decide +kernel
theorem dX6_divisorsOf_8 : decode cX6_divisorsOf 8 = .ok (.iload_n 3, 1) := by decide +kernel
theorem dX6_divisorsOf_9 : decode cX6_divisorsOf 9 = .ok (.idiv, 1) := by decide +kernel
theorem dX6_divisorsOf_10 : decode cX6_divisorsOf 10 = .ok (.if_icmp .gt 33, 3) := by decide +kernel
theorem dX6_divisorsOf_13 : decode cX6_divisorsOf 13 = .ok (.iconst 1, 1) := by decide +kernel
theorem dX6_divisorsOf_14 : decode cX6_divisorsOf 14 = .ok (.istore 4, 2) := by decide +kernel
theorem dX6_divisorsOf_16 : decode cX6_divisorsOf 16 = .ok (.iload_n 2, 1) := by decide +kernel
theorem dX6_divisorsOf_17 : decode cX6_divisorsOf 17 = .ok (.iload_n 3, 1) := by decide +kernel
theorem dX6_divisorsOf_18 : decode cX6_divisorsOf 18 = .ok (.irem, 1) := by decide +kernel
theorem dX6_divisorsOf_19 : decode cX6_divisorsOf 19 = .ok (.ifCond .ne 13, 3) := by decide +kernel
theorem dX6_divisorsOf_22 : decode cX6_divisorsOf 22 = .ok (.iload_n 2, 1) := by decide +kernel
theorem dX6_divisorsOf_23 : decode cX6_divisorsOf 23 = .ok (.iload_n 3, 1) := by decide +kernel
theorem dX6_divisorsOf_24 : decode cX6_divisorsOf 24 = .ok (.idiv, 1) := by decide +kernel
theorem dX6_divisorsOf_25 : decode cX6_divisorsOf 25 = .ok (.istore_n 2, 1) := by decide +kernel
theorem dX6_divisorsOf_26 : decode cX6_divisorsOf 26 = .ok (.iinc 4 1, 3) := by decide +kernel
theorem dX6_divisorsOf_29 : decode cX6_divisorsOf 29 = .ok (.goto (-13), 3) := by decide +kernel
theorem dX6_divisorsOf_32 : decode cX6_divisorsOf 32 = .ok (.iload_n 1, 1) := by decide +kernel
theorem dX6_divisorsOf_33 : decode cX6_divisorsOf 33 = .ok (.iload 4, 2) := by decide +kernel
theorem dX6_divisorsOf_35 : decode cX6_divisorsOf 35 = .ok (.imul, 1) := by decide +kernel
theorem dX6_divisorsOf_36 : decode cX6_divisorsOf 36 = .ok (.istore_n 1, 1) := by decide +kernel
theorem dX6_divisorsOf_37 : decode cX6_divisorsOf 37 = .ok (.iinc 3 1, 3) := by decide +kernel
theorem dX6_divisorsOf_40 : decode cX6_divisorsOf 40 = .ok (.goto (-34), 3) := by decide +kernel
theorem dX6_divisorsOf_43 : decode cX6_divisorsOf 43 = .ok (.iload_n 2, 1) := by decide +kernel
theorem dX6_divisorsOf_44 : decode cX6_divisorsOf 44 = .ok (.iconst 1, 1) := by decide +kernel
theorem dX6_divisorsOf_45 : decode cX6_divisorsOf 45 = .ok (.if_icmp .le 9, 3) := by decide +kernel
theorem dX6_divisorsOf_48 : decode cX6_divisorsOf 48 = .ok (.iconst 2, 1) := by decide +kernel
theorem dX6_divisorsOf_49 : decode cX6_divisorsOf 49 = .ok (.iload_n 1, 1) := by decide +kernel
theorem dX6_divisorsOf_50 : decode cX6_divisorsOf 50 = .ok (.imul, 1) := by decide +kernel
theorem dX6_divisorsOf_51 : decode cX6_divisorsOf 51 = .ok (.goto 4, 3) := by decide +kernel
theorem dX6_divisorsOf_54 : decode cX6_divisorsOf 54 = .ok (.iload_n 1, 1) := by decide +kernel
theorem dX6_divisorsOf_55 : decode cX6_divisorsOf 55 = .ok (.ireturn, 1) := by decide +kernel
theorem dX6_forEverOf_0 : decode cX6_forEverOf 0 = .ok (.iload_n 1, 1) := by decide +kernel
theorem dX6_forEverOf_1 : decode cX6_forEverOf 1 = .ok (.invokestatic 201, 3) := by decide +kernel
theorem dX6_forEverOf_4 : decode cX6_forEverOf 4 = .ok (.aload_n 0, 1) := by decide +kernel
theorem dX6_forEverOf_5 : decode cX6_forEverOf 5 = .ok (.getfield 13, 3) := by decide +kernel
theorem dX6_forEverOf_8 : decode cX6_forEverOf 8 = .ok (.iconst 1, 1) := by decide +kernel
theorem dX6_forEverOf_9 : decode cX6_forEverOf 9 = .ok (.iaload, 1) := by decide +kernel
theorem dX6_forEverOf_10 : decode cX6_forEverOf 10 = .ok (.irem, 1) := by decide +kernel
theorem dX6_forEverOf_11 : decode cX6_forEverOf 11 = .ok (.ireturn, 1) := by decide +kernel
theorem dX6_forEver_0 : decode cX6_forEver 0 = .ok (.iload_n 1, 1) := by decide +kernel
theorem dX6_forEver_1 : decode cX6_forEver 1 = .ok (.iconst 1, 1) := by decide +kernel
theorem dX6_forEver_2 : decode cX6_forEver 2 = .ok (.ldc 204, 2) := by decide +kernel
theorem dX6_forEver_4 : decode cX6_forEver 4 = .ok (.invokestatic 44, 3) := by decide +kernel
theorem dX6_forEver_7 : decode cX6_forEver 7 = .ok (.istore_n 2, 1) := by decide +kernel
theorem dX6_forEver_8 : decode cX6_forEver 8 = .ok (.iload_n 2, 1) := by decide +kernel
theorem dX6_forEver_9 : decode cX6_forEver 9 = .ok (.ifCond .eq 11, 3) := by decide +kernel
theorem dX6_forEver_12 : decode cX6_forEver 12 = .ok (.aload_n 0, 1) := by decide +kernel
theorem dX6_forEver_13 : decode cX6_forEver 13 = .ok (.iload_n 2, 1) := by decide +kernel
theorem dX6_forEver_14 : decode cX6_forEver 14 = .ok (.invokevirtual 52, 3) := by decide +kernel
theorem dX6_forEver_17 : decode cX6_forEver 17 = .ok (.goto 8, 3) := by decide +kernel
theorem dX6_forEver_20 : decode cX6_forEver 20 = .ok (.aload_n 0, 1) := by decide +kernel
theorem dX6_forEver_21 : decode cX6_forEver 21 = .ok (.iload_n 1, 1) := by decide +kernel
theorem dX6_forEver_22 : decode cX6_forEver 22 = .ok (.invokevirtual 205, 3) := by decide +kernel
theorem dX6_forEver_25 : decode cX6_forEver 25 = .ok (.ireturn, 1) := by decide +kernel
theorem dX6_nth_0 : decode cX6_nth 0 = .ok (.iload_n 1, 1) := by decide +kernel
theorem dX6_nth_1 : decode cX6_nth 1 = .ok (.iconst 1, 1) := by decide +kernel
theorem dX6_nth_2 : decode cX6_nth 2 = .ok (.bipush 40, 2) := by decide +kernel
theorem dX6_nth_4 : decode cX6_nth 4 = .ok (.invokestatic 44, 3) := by decide +kernel
theorem dX6_nth_7 : decode cX6_nth 7 = .ok (.istore_n 2, 1) := by decide +kernel
theorem dX6_nth_8 : decode cX6_nth 8 = .ok (.iload_n 2, 1) := by decide +kernel
theorem dX6_nth_9 : decode cX6_nth 9 = .ok (.ifCond .eq 9, 3) := by decide +kernel
theorem dX6_nth_12 : decode cX6_nth 12 = .ok (.aload_n 0, 1) := by decide +kernel
theorem dX6_nth_13 : decode cX6_nth 13 = .ok (.iload_n 2, 1) := by decide +kernel
theorem dX6_nth_14 : decode cX6_nth 14 = .ok (.invokevirtual 52, 3) := by decide +kernel
theorem dX6_nth_17 : decode cX6_nth 17 = .ok (.ireturn, 1) := by decide +kernel
theorem dX6_nth_18 : decode cX6_nth 18 = .ok (.iload_n 1, 1) := by decide +kernel
theorem dX6_nth_19 : decode cX6_nth 19 = .ok (.istore_n 3, 1) := by decide +kernel
theorem dX6_nth_20 : decode cX6_nth 20 = .ok (.iconst 0, 1) := by decide +kernel
theorem dX6_nth_21 : decode cX6_nth 21 = .ok (.istore 4, 2) := by decide +kernel
theorem dX6_nth_23 : decode cX6_nth 23 = .ok (.iload_n 3, 1) := by decide +kernel
theorem dX6_nth_24 : decode cX6_nth 24 = .ok (.ifCond .le 26, 3) := by decide +kernel
theorem dX6_nth_27 : decode cX6_nth 27 = .ok (.iinc 4 1, 3) := by decide +kernel
theorem dX6_nth_30 : decode cX6_nth 30 = .ok (.iload_n 3, 1) := by decide +kernel
theorem dX6_nth_31 : decode cX6_nth 31 = .ok (.aload_n 0, 1) := by decide +kernel
theorem dX6_nth_32 : decode cX6_nth 32 = .ok (.iload 4, 2) := by decide +kernel
theorem dX6_nth_34 : decode cX6_nth 34 = .ok (.invokevirtual 205, 3) := by decide +kernel
theorem dX6_nth_37 : decode cX6_nth 37 = .ok (.ifCond .ne 7, 3) := by decide +kernel
theorem dX6_nth_40 : decode cX6_nth 40 = .ok (.iconst 0, 1) := by decide +kernel
theorem dX6_nth_41 : decode cX6_nth 41 = .ok (.goto 4, 3) := by decide +kernel
theorem dX6_nth_44 : decode cX6_nth 44 = .ok (.iconst 1, 1) := by decide +kernel
theorem dX6_nth_45 : decode cX6_nth 45 = .ok (.isub, 1) := by decide +kernel
theorem dX6_nth_46 : decode cX6_nth 46 = .ok (.istore_n 3, 1) := by decide +kernel
theorem dX6_nth_47 : decode cX6_nth 47 = .ok (.goto (-24), 3) := by decide +kernel
theorem dX6_nth_50 : decode cX6_nth 50 = .ok (.iload 4, 2) := by decide +kernel
theorem dX6_nth_52 : decode cX6_nth 52 = .ok (.ireturn, 1) := by decide +kernel
theorem dX6_open_0 : decode cX6_open 0 = .ok (.iload_n 1, 1) := by decide +kernel
theorem dX6_open_1 : decode cX6_open 1 = .ok (.iconst 1, 1) := by decide +kernel
theorem dX6_open_2 : decode cX6_open 2 = .ok (.sipush 2000, 3) := by decide +kernel
theorem dX6_open_5 : decode cX6_open 5 = .ok (.invokestatic 44, 3) := by decide +kernel
theorem dX6_open_8 : decode cX6_open 8 = .ok (.istore_n 2, 1) := by decide +kernel
theorem dX6_open_9 : decode cX6_open 9 = .ok (.iload_n 2, 1) := by decide +kernel
theorem dX6_open_10 : decode cX6_open 10 = .ok (.ifCond .eq 9, 3) := by decide +kernel
theorem dX6_open_13 : decode cX6_open 13 = .ok (.aload_n 0, 1) := by decide +kernel
theorem dX6_open_14 : decode cX6_open 14 = .ok (.iload_n 2, 1) := by decide +kernel
theorem dX6_open_15 : decode cX6_open 15 = .ok (.invokevirtual 52, 3) := by decide +kernel
theorem dX6_open_18 : decode cX6_open 18 = .ok (.ireturn, 1) := by decide +kernel
theorem dX6_open_19 : decode cX6_open 19 = .ok (.iconst 0, 1) := by decide +kernel
theorem dX6_open_20 : decode cX6_open 20 = .ok (.istore_n 3, 1) := by decide +kernel
theorem dX6_open_21 : decode cX6_open 21 = .ok (.iconst 1, 1) := by decide +kernel
theorem dX6_open_22 : decode cX6_open 22 = .ok (.istore 4, 2) := by decide +kernel
theorem dX6_open_24 : decode cX6_open 24 = .ok (.iload 4, 2) := by decide +kernel
theorem dX6_open_26 : decode cX6_open 26 = .ok (.iload_n 1, 1) := by decide +kernel
theorem dX6_open_27 : decode cX6_open 27 = .ok (.if_icmp .gt 26, 3) := by decide +kernel
theorem dX6_open_30 : decode cX6_open 30 = .ok (.iload_n 3, 1) := by decide +kernel
theorem dX6_open_31 : decode cX6_open 31 = .ok (.aload_n 0, 1) := by decide +kernel
theorem dX6_open_32 : decode cX6_open 32 = .ok (.iload 4, 2) := by decide +kernel
theorem dX6_open_34 : decode cX6_open 34 = .ok (.invokevirtual 205, 3) := by decide +kernel
theorem dX6_open_37 : decode cX6_open 37 = .ok (.ifCond .ne 7, 3) := by decide +kernel
theorem dX6_open_40 : decode cX6_open 40 = .ok (.iconst 0, 1) := by decide +kernel
theorem dX6_open_41 : decode cX6_open 41 = .ok (.goto 4, 3) := by decide +kernel
theorem dX6_open_44 : decode cX6_open 44 = .ok (.iconst 1, 1) := by decide +kernel
theorem dX6_open_45 : decode cX6_open 45 = .ok (.iadd, 1) := by decide +kernel
theorem dX6_open_46 : decode cX6_open 46 = .ok (.istore_n 3, 1) := by decide +kernel
theorem dX6_open_47 : decode cX6_open 47 = .ok (.iinc 4 1, 3) := by decide +kernel
theorem dX6_open_50 : decode cX6_open 50 = .ok (.goto (-26), 3) := by decide +kernel
theorem dX6_open_53 : decode cX6_open 53 = .ok (.iload_n 3, 1) := by decide +kernel
theorem dX6_open_54 : decode cX6_open 54 = .ok (.ireturn, 1) := by decide +kernel
theorem dX6_logAt_0 : decode cX6_logAt 0 = .ok (.aload_n 0, 1) := by decide +kernel
theorem dX6_logAt_1 : decode cX6_logAt 1 = .ok (.getfield 13, 3) := by decide +kernel
theorem dX6_logAt_4 : decode cX6_logAt 4 = .ok (.bipush 68, 2) := by decide +kernel
theorem dX6_logAt_6 : decode cX6_logAt 6 = .ok (.iload_n 1, 1) := by decide +kernel
theorem dX6_logAt_7 : decode cX6_logAt 7 = .ok (.iadd, 1) := by decide +kernel
theorem dX6_logAt_8 : decode cX6_logAt 8 = .ok (.iaload, 1) := by decide +kernel
theorem dX6_logAt_9 : decode cX6_logAt 9 = .ok (.ireturn, 1) := by decide +kernel
theorem dX6_unknown_0 : decode cX6_unknown 0 = .ok (.iconst 0, 1) := by decide +kernel
theorem dX6_unknown_1 : decode cX6_unknown 1 = .ok (.istore_n 1, 1) := by decide +kernel
theorem dX6_unknown_2 : decode cX6_unknown 2 = .ok (.iconst 0, 1) := by decide +kernel
theorem dX6_unknown_3 : decode cX6_unknown 3 = .ok (.istore_n 2, 1) := by decide +kernel
theorem dX6_unknown_4 : decode cX6_unknown 4 = .ok (.iload_n 2, 1) := by decide +kernel
theorem dX6_unknown_5 : decode cX6_unknown 5 = .ok (.aload_n 0, 1) := by decide +kernel
theorem dX6_unknown_6 : decode cX6_unknown 6 = .ok (.getfield 13, 3) := by decide +kernel
theorem dX6_unknown_9 : decode cX6_unknown 9 = .ok (.iconst 3, 1) := by decide +kernel
theorem dX6_unknown_10 : decode cX6_unknown 10 = .ok (.iaload, 1) := by decide +kernel
theorem dX6_unknown_11 : decode cX6_unknown 11 = .ok (.if_icmp .ge 27, 3) := by decide +kernel
theorem dX6_unknown_14 : decode cX6_unknown 14 = .ok (.iload_n 1, 1) := by decide +kernel
theorem dX6_unknown_15 : decode cX6_unknown 15 = .ok (.aload_n 0, 1) := by decide +kernel
theorem dX6_unknown_16 : decode cX6_unknown 16 = .ok (.iload_n 2, 1) := by decide +kernel
theorem dX6_unknown_17 : decode cX6_unknown 17 = .ok (.invokevirtual 208, 3) := by decide +kernel
theorem dX6_unknown_20 : decode cX6_unknown 20 = .ok (.bipush 9, 2) := by decide +kernel
theorem dX6_unknown_22 : decode cX6_unknown 22 = .ok (.if_icmp .ne 7, 3) := by decide +kernel
theorem dX6_unknown_25 : decode cX6_unknown 25 = .ok (.iconst 1, 1) := by decide +kernel
theorem dX6_unknown_26 : decode cX6_unknown 26 = .ok (.goto 4, 3) := by decide +kernel
theorem dX6_unknown_29 : decode cX6_unknown 29 = .ok (.iconst 0, 1) := by decide +kernel
theorem dX6_unknown_30 : decode cX6_unknown 30 = .ok (.iadd, 1) := by decide +kernel
theorem dX6_unknown_31 : decode cX6_unknown 31 = .ok (.istore_n 1, 1) := by decide +kernel
theorem dX6_unknown_32 : decode cX6_unknown 32 = .ok (.iinc 2 1, 3) := by decide +kernel
theorem dX6_unknown_35 : decode cX6_unknown 35 = .ok (.goto (-31), 3) := by decide +kernel
theorem dX6_unknown_38 : decode cX6_unknown 38 = .ok (.iload_n 1, 1) := by decide +kernel
theorem dX6_unknown_39 : decode cX6_unknown 39 = .ok (.ireturn, 1) := by decide +kernel
theorem dX6_log_0 : decode cX6_log 0 = .ok (.iload_n 1, 1) := by decide +kernel
theorem dX6_log_1 : decode cX6_log 1 = .ok (.bipush 9, 2) := by decide +kernel
theorem dX6_log_3 : decode cX6_log 3 = .ok (.if_icmp .eq 15, 3) := by decide +kernel
theorem dX6_log_6 : decode cX6_log 6 = .ok (.aload_n 0, 1) := by decide +kernel
theorem dX6_log_7 : decode cX6_log 7 = .ok (.iload_n 1, 1) := by decide +kernel
theorem dX6_log_8 : decode cX6_log 8 = .ok (.invokevirtual 118, 3) := by decide +kernel
theorem dX6_log_11 : decode cX6_log 11 = .ok (.ifCond .ne 7, 3) := by decide +kernel
theorem dX6_log_14 : decode cX6_log 14 = .ok (.iconst (-1), 1) := by decide +kernel
theorem dX6_log_15 : decode cX6_log 15 = .ok (.goto 20, 3) := by decide +kernel
theorem dX6_log_18 : decode cX6_log 18 = .ok (.aload_n 0, 1) := by decide +kernel
theorem dX6_log_19 : decode cX6_log 19 = .ok (.getfield 13, 3) := by decide +kernel
theorem dX6_log_22 : decode cX6_log 22 = .ok (.iconst 3, 1) := by decide +kernel
theorem dX6_log_23 : decode cX6_log 23 = .ok (.iaload, 1) := by decide +kernel
theorem dX6_log_24 : decode cX6_log 24 = .ok (.bipush 10, 2) := by decide +kernel
theorem dX6_log_26 : decode cX6_log 26 = .ok (.if_icmp .ne 8, 3) := by decide +kernel
theorem dX6_log_29 : decode cX6_log 29 = .ok (.bipush (-6), 2) := by decide +kernel
theorem dX6_log_31 : decode cX6_log 31 = .ok (.goto 4, 3) := by decide +kernel
theorem dX6_log_34 : decode cX6_log 34 = .ok (.iconst 0, 1) := by decide +kernel
theorem dX6_log_35 : decode cX6_log 35 = .ok (.istore_n 2, 1) := by decide +kernel
theorem dX6_log_36 : decode cX6_log 36 = .ok (.iload_n 2, 1) := by decide +kernel
theorem dX6_log_37 : decode cX6_log 37 = .ok (.ifCond .eq 9, 3) := by decide +kernel
theorem dX6_log_40 : decode cX6_log 40 = .ok (.aload_n 0, 1) := by decide +kernel
theorem dX6_log_41 : decode cX6_log 41 = .ok (.iload_n 2, 1) := by decide +kernel
theorem dX6_log_42 : decode cX6_log 42 = .ok (.invokevirtual 52, 3) := by decide +kernel
theorem dX6_log_45 : decode cX6_log 45 = .ok (.ireturn, 1) := by decide +kernel
theorem dX6_log_46 : decode cX6_log 46 = .ok (.aload_n 0, 1) := by decide +kernel
theorem dX6_log_47 : decode cX6_log 47 = .ok (.getfield 13, 3) := by decide +kernel
theorem dX6_log_50 : decode cX6_log 50 = .ok (.bipush 68, 2) := by decide +kernel
theorem dX6_log_52 : decode cX6_log 52 = .ok (.aload_n 0, 1) := by decide +kernel
theorem dX6_log_53 : decode cX6_log 53 = .ok (.getfield 13, 3) := by decide +kernel
theorem dX6_log_56 : decode cX6_log 56 = .ok (.iconst 3, 1) := by decide +kernel
theorem dX6_log_57 : decode cX6_log 57 = .ok (.iaload, 1) := by decide +kernel
theorem dX6_log_58 : decode cX6_log 58 = .ok (.iadd, 1) := by decide +kernel
theorem dX6_log_59 : decode cX6_log 59 = .ok (.iload_n 1, 1) := by decide +kernel
theorem dX6_log_60 : decode cX6_log 60 = .ok (.iastore, 1) := by decide +kernel
theorem dX6_log_61 : decode cX6_log 61 = .ok (.aload_n 0, 1) := by decide +kernel
theorem dX6_log_62 : decode cX6_log 62 = .ok (.getfield 13, 3) := by decide +kernel
theorem dX6_log_65 : decode cX6_log 65 = .ok (.iconst 3, 1) := by decide +kernel
theorem dX6_log_66 : decode cX6_log 66 = .ok (.dup2, 1) := by decide +kernel
theorem dX6_log_67 : decode cX6_log 67 = .ok (.iaload, 1) := by decide +kernel
theorem dX6_log_68 : decode cX6_log 68 = .ok (.iconst 1, 1) := by decide +kernel
theorem dX6_log_69 : decode cX6_log 69 = .ok (.iadd, 1) := by decide +kernel
theorem dX6_log_70 : decode cX6_log 70 = .ok (.iastore, 1) := by decide +kernel
theorem dX6_log_71 : decode cX6_log 71 = .ok (.aload_n 0, 1) := by decide +kernel
theorem dX6_log_72 : decode cX6_log 72 = .ok (.getfield 13, 3) := by decide +kernel
theorem dX6_log_75 : decode cX6_log 75 = .ok (.iconst 3, 1) := by decide +kernel
theorem dX6_log_76 : decode cX6_log 76 = .ok (.iaload, 1) := by decide +kernel
theorem dX6_log_77 : decode cX6_log 77 = .ok (.ireturn, 1) := by decide +kernel
theorem dX6_order_0 : decode cX6_order 0 = .ok (.aload_n 0, 1) := by decide +kernel
theorem dX6_order_1 : decode cX6_order 1 = .ok (.iload_n 1, 1) := by decide +kernel
theorem dX6_order_2 : decode cX6_order 2 = .ok (.invokevirtual 115, 3) := by decide +kernel
theorem dX6_order_5 : decode cX6_order 5 = .ok (.ifCond .ne 9, 3) := by decide +kernel
theorem dX6_order_8 : decode cX6_order 8 = .ok (.aload_n 0, 1) := by decide +kernel
theorem dX6_order_9 : decode cX6_order 9 = .ok (.iconst (-1), 1) := by decide +kernel
theorem dX6_order_10 : decode cX6_order 10 = .ok (.invokevirtual 52, 3) := by decide +kernel
theorem dX6_order_13 : decode cX6_order 13 = .ok (.ireturn, 1) := by decide +kernel
theorem dX6_order_14 : decode cX6_order 14 = .ok (.iconst 0, 1) := by decide +kernel
theorem dX6_order_15 : decode cX6_order 15 = .ok (.istore_n 2, 1) := by decide +kernel
theorem dX6_order_16 : decode cX6_order 16 = .ok (.iconst 0, 1) := by decide +kernel
theorem dX6_order_17 : decode cX6_order 17 = .ok (.istore_n 3, 1) := by decide +kernel
theorem dX6_order_18 : decode cX6_order 18 = .ok (.iload_n 3, 1) := by decide +kernel
theorem dX6_order_19 : decode cX6_order 19 = .ok (.aload_n 0, 1) := by decide +kernel
theorem dX6_order_20 : decode cX6_order 20 = .ok (.getfield 13, 3) := by decide +kernel
theorem dX6_order_23 : decode cX6_order 23 = .ok (.iconst 3, 1) := by decide +kernel
theorem dX6_order_24 : decode cX6_order 24 = .ok (.iaload, 1) := by decide +kernel
theorem dX6_order_25 : decode cX6_order 25 = .ok (.if_icmp .ge 40, 3) := by decide +kernel
theorem dX6_order_28 : decode cX6_order 28 = .ok (.iload_n 2, 1) := by decide +kernel
theorem dX6_order_29 : decode cX6_order 29 = .ok (.aload_n 0, 1) := by decide +kernel
theorem dX6_order_30 : decode cX6_order 30 = .ok (.iload_n 3, 1) := by decide +kernel
theorem dX6_order_31 : decode cX6_order 31 = .ok (.invokevirtual 208, 3) := by decide +kernel
theorem dX6_order_34 : decode cX6_order 34 = .ok (.bipush 9, 2) := by decide +kernel
theorem dX6_order_36 : decode cX6_order 36 = .ok (.if_icmp .eq 20, 3) := by decide +kernel
theorem dX6_order_39 : decode cX6_order 39 = .ok (.aload_n 0, 1) := by decide +kernel
theorem dX6_order_40 : decode cX6_order 40 = .ok (.aload_n 0, 1) := by decide +kernel
theorem dX6_order_41 : decode cX6_order 41 = .ok (.iload_n 3, 1) := by decide +kernel
theorem dX6_order_42 : decode cX6_order 42 = .ok (.invokevirtual 208, 3) := by decide +kernel
theorem dX6_order_45 : decode cX6_order 45 = .ok (.iload_n 1, 1) := by decide +kernel
theorem dX6_order_46 : decode cX6_order 46 = .ok (.invokevirtual 112, 3) := by decide +kernel
theorem dX6_order_49 : decode cX6_order 49 = .ok (.ifCond .eq 7, 3) := by decide +kernel
theorem dX6_order_52 : decode cX6_order 52 = .ok (.iconst 1, 1) := by decide +kernel
theorem dX6_order_53 : decode cX6_order 53 = .ok (.goto 4, 3) := by decide +kernel
theorem dX6_order_56 : decode cX6_order 56 = .ok (.iconst 0, 1) := by decide +kernel
theorem dX6_order_57 : decode cX6_order 57 = .ok (.iadd, 1) := by decide +kernel
theorem dX6_order_58 : decode cX6_order 58 = .ok (.istore_n 2, 1) := by decide +kernel
theorem dX6_order_59 : decode cX6_order 59 = .ok (.iinc 3 1, 3) := by decide +kernel
theorem dX6_order_62 : decode cX6_order 62 = .ok (.goto (-44), 3) := by decide +kernel
theorem dX6_order_65 : decode cX6_order 65 = .ok (.aload_n 0, 1) := by decide +kernel
theorem dX6_order_66 : decode cX6_order 66 = .ok (.getfield 13, 3) := by decide +kernel
theorem dX6_order_69 : decode cX6_order 69 = .ok (.iconst 4, 1) := by decide +kernel
theorem dX6_order_70 : decode cX6_order 70 = .ok (.iload_n 1, 1) := by decide +kernel
theorem dX6_order_71 : decode cX6_order 71 = .ok (.iadd, 1) := by decide +kernel
theorem dX6_order_72 : decode cX6_order 72 = .ok (.iconst 1, 1) := by decide +kernel
theorem dX6_order_73 : decode cX6_order 73 = .ok (.isub, 1) := by decide +kernel
theorem dX6_order_74 : decode cX6_order 74 = .ok (.iaload, 1) := by decide +kernel
theorem dX6_order_75 : decode cX6_order 75 = .ok (.istore_n 3, 1) := by decide +kernel
theorem dX6_order_76 : decode cX6_order 76 = .ok (.iload_n 2, 1) := by decide +kernel
theorem dX6_order_77 : decode cX6_order 77 = .ok (.ifCond .ne 18, 3) := by decide +kernel
theorem dX6_order_80 : decode cX6_order 80 = .ok (.iload_n 3, 1) := by decide +kernel
theorem dX6_order_81 : decode cX6_order 81 = .ok (.ifCond .ne 12, 3) := by decide +kernel
theorem dX6_order_84 : decode cX6_order 84 = .ok (.aload_n 0, 1) := by decide +kernel
theorem dX6_order_85 : decode cX6_order 85 = .ok (.getfield 13, 3) := by decide +kernel
theorem dX6_order_88 : decode cX6_order 88 = .ok (.iconst 3, 1) := by decide +kernel
theorem dX6_order_89 : decode cX6_order 89 = .ok (.iaload, 1) := by decide +kernel
theorem dX6_order_90 : decode cX6_order 90 = .ok (.goto 4, 3) := by decide +kernel
theorem dX6_order_93 : decode cX6_order 93 = .ok (.iconst 0, 1) := by decide +kernel
theorem dX6_order_94 : decode cX6_order 94 = .ok (.ireturn, 1) := by decide +kernel
theorem dX6_order_95 : decode cX6_order 95 = .ok (.iconst 0, 1) := by decide +kernel
theorem dX6_order_96 : decode cX6_order 96 = .ok (.istore 4, 2) := by decide +kernel
theorem dX6_order_98 : decode cX6_order 98 = .ok (.iconst 1, 1) := by decide +kernel
theorem dX6_order_99 : decode cX6_order 99 = .ok (.istore 5, 2) := by decide +kernel
theorem dX6_order_101 : decode cX6_order 101 = .ok (.iload 5, 2) := by decide +kernel
theorem dX6_order_103 : decode cX6_order 103 = .ok (.iload_n 2, 1) := by decide +kernel
theorem dX6_order_104 : decode cX6_order 104 = .ok (.if_icmp .gt 33, 3) := by decide +kernel
theorem dX6_order_107 : decode cX6_order 107 = .ok (.iload 4, 2) := by decide +kernel
theorem dX6_order_109 : decode cX6_order 109 = .ok (.iload_n 3, 1) := by decide +kernel
theorem dX6_order_110 : decode cX6_order 110 = .ok (.iload 5, 2) := by decide +kernel
theorem dX6_order_112 : decode cX6_order 112 = .ok (.iadd, 1) := by decide +kernel
theorem dX6_order_113 : decode cX6_order 113 = .ok (.aload_n 0, 1) := by decide +kernel
theorem dX6_order_114 : decode cX6_order 114 = .ok (.getfield 13, 3) := by decide +kernel
theorem dX6_order_117 : decode cX6_order 117 = .ok (.iconst 1, 1) := by decide +kernel
theorem dX6_order_118 : decode cX6_order 118 = .ok (.iaload, 1) := by decide +kernel
theorem dX6_order_119 : decode cX6_order 119 = .ok (.irem, 1) := by decide +kernel
theorem dX6_order_120 : decode cX6_order 120 = .ok (.ifCond .ne 7, 3) := by decide +kernel
theorem dX6_order_123 : decode cX6_order 123 = .ok (.iconst 1, 1) := by decide +kernel
theorem dX6_order_124 : decode cX6_order 124 = .ok (.goto 4, 3) := by decide +kernel
theorem dX6_order_127 : decode cX6_order 127 = .ok (.iconst 0, 1) := by decide +kernel
theorem dX6_order_128 : decode cX6_order 128 = .ok (.iadd, 1) := by decide +kernel
theorem dX6_order_129 : decode cX6_order 129 = .ok (.istore 4, 2) := by decide +kernel
theorem dX6_order_131 : decode cX6_order 131 = .ok (.iinc 5 1, 3) := by decide +kernel
theorem dX6_order_134 : decode cX6_order 134 = .ok (.goto (-33), 3) := by decide +kernel
theorem dX6_order_137 : decode cX6_order 137 = .ok (.iload 4, 2) := by decide +kernel
theorem dX6_order_139 : decode cX6_order 139 = .ok (.ireturn, 1) := by decide +kernel
theorem dX6_fills_0 : decode cX6_fills 0 = .ok (.aload_n 0, 1) := by decide +kernel
theorem dX6_fills_1 : decode cX6_fills 1 = .ok (.invokevirtual 211, 3) := by decide +kernel
theorem dX6_fills_4 : decode cX6_fills 4 = .ok (.istore_n 1, 1) := by decide +kernel
theorem dX6_fills_5 : decode cX6_fills 5 = .ok (.iload_n 1, 1) := by decide +kernel
theorem dX6_fills_6 : decode cX6_fills 6 = .ok (.iconst 3, 1) := by decide +kernel
theorem dX6_fills_7 : decode cX6_fills 7 = .ok (.if_icmp .le 10, 3) := by decide +kernel
theorem dX6_fills_10 : decode cX6_fills 10 = .ok (.aload_n 0, 1) := by decide +kernel
theorem dX6_fills_11 : decode cX6_fills 11 = .ok (.bipush (-6), 2) := by decide +kernel
theorem dX6_fills_13 : decode cX6_fills 13 = .ok (.invokevirtual 52, 3) := by decide +kernel
theorem dX6_fills_16 : decode cX6_fills 16 = .ok (.ireturn, 1) := by decide +kernel
theorem dX6_fills_17 : decode cX6_fills 17 = .ok (.iconst 1, 1) := by decide +kernel
theorem dX6_fills_18 : decode cX6_fills 18 = .ok (.istore_n 2, 1) := by decide +kernel
theorem dX6_fills_19 : decode cX6_fills 19 = .ok (.iconst 0, 1) := by decide +kernel
theorem dX6_fills_20 : decode cX6_fills 20 = .ok (.istore_n 3, 1) := by decide +kernel
theorem dX6_fills_21 : decode cX6_fills 21 = .ok (.iload_n 3, 1) := by decide +kernel
theorem dX6_fills_22 : decode cX6_fills 22 = .ok (.iload_n 1, 1) := by decide +kernel
theorem dX6_fills_23 : decode cX6_fills 23 = .ok (.if_icmp .ge 18, 3) := by decide +kernel
theorem dX6_fills_26 : decode cX6_fills 26 = .ok (.iload_n 2, 1) := by decide +kernel
theorem dX6_fills_27 : decode cX6_fills 27 = .ok (.aload_n 0, 1) := by decide +kernel
theorem dX6_fills_28 : decode cX6_fills 28 = .ok (.getfield 13, 3) := by decide +kernel
theorem dX6_fills_31 : decode cX6_fills 31 = .ok (.iconst 2, 1) := by decide +kernel
theorem dX6_fills_32 : decode cX6_fills 32 = .ok (.iaload, 1) := by decide +kernel
theorem dX6_fills_33 : decode cX6_fills 33 = .ok (.imul, 1) := by decide +kernel
theorem dX6_fills_34 : decode cX6_fills 34 = .ok (.istore_n 2, 1) := by decide +kernel
theorem dX6_fills_35 : decode cX6_fills 35 = .ok (.iinc 3 1, 3) := by decide +kernel
theorem dX6_fills_38 : decode cX6_fills 38 = .ok (.goto (-17), 3) := by decide +kernel
theorem dX6_fills_41 : decode cX6_fills 41 = .ok (.aload_n 0, 1) := by decide +kernel
theorem dX6_fills_42 : decode cX6_fills 42 = .ok (.invokevirtual 131, 3) := by decide +kernel
theorem dX6_fills_45 : decode cX6_fills 45 = .ok (.istore_n 3, 1) := by decide +kernel
theorem dX6_fills_46 : decode cX6_fills 46 = .ok (.iconst 0, 1) := by decide +kernel
theorem dX6_fills_47 : decode cX6_fills 47 = .ok (.istore 4, 2) := by decide +kernel
theorem dX6_fills_49 : decode cX6_fills 49 = .ok (.aload_n 0, 1) := by decide +kernel
theorem dX6_fills_50 : decode cX6_fills 50 = .ok (.invokevirtual 147, 3) := by decide +kernel
theorem dX6_fills_53 : decode cX6_fills 53 = .ok (.iconst 0, 1) := by decide +kernel
theorem dX6_fills_54 : decode cX6_fills 54 = .ok (.istore 5, 2) := by decide +kernel
theorem dX6_fills_56 : decode cX6_fills 56 = .ok (.iload 5, 2) := by decide +kernel
theorem dX6_fills_58 : decode cX6_fills 58 = .ok (.iload_n 2, 1) := by decide +kernel
theorem dX6_fills_59 : decode cX6_fills 59 = .ok (.if_icmp .ge 99, 3) := by decide +kernel
theorem dX6_fills_62 : decode cX6_fills 62 = .ok (.aload_n 0, 1) := by decide +kernel
theorem dX6_fills_63 : decode cX6_fills 63 = .ok (.invokevirtual 174, 3) := by decide +kernel
theorem dX6_fills_66 : decode cX6_fills 66 = .ok (.iload 5, 2) := by decide +kernel
theorem dX6_fills_68 : decode cX6_fills 68 = .ok (.istore 6, 2) := by decide +kernel
theorem dX6_fills_70 : decode cX6_fills 70 = .ok (.iconst 0, 1) := by decide +kernel
theorem dX6_fills_71 : decode cX6_fills 71 = .ok (.istore 7, 2) := by decide +kernel
theorem dX6_fills_73 : decode cX6_fills 73 = .ok (.iload 7, 2) := by decide +kernel
theorem dX6_fills_75 : decode cX6_fills 75 = .ok (.aload_n 0, 1) := by decide +kernel
theorem dX6_fills_76 : decode cX6_fills 76 = .ok (.getfield 13, 3) := by decide +kernel
theorem dX6_fills_79 : decode cX6_fills 79 = .ok (.iconst 3, 1) := by decide +kernel
theorem dX6_fills_80 : decode cX6_fills 80 = .ok (.iaload, 1) := by decide +kernel
theorem dX6_fills_81 : decode cX6_fills 81 = .ok (.if_icmp .ge 53, 3) := by decide +kernel
theorem dX6_fills_84 : decode cX6_fills 84 = .ok (.aload_n 0, 1) := by decide +kernel
theorem dX6_fills_85 : decode cX6_fills 85 = .ok (.iload 7, 2) := by decide +kernel
theorem dX6_fills_87 : decode cX6_fills 87 = .ok (.invokevirtual 208, 3) := by decide +kernel
theorem dX6_fills_90 : decode cX6_fills 90 = .ok (.istore 8, 2) := by decide +kernel
theorem dX6_fills_92 : decode cX6_fills 92 = .ok (.iload 8, 2) := by decide +kernel
theorem dX6_fills_94 : decode cX6_fills 94 = .ok (.bipush 9, 2) := by decide +kernel
theorem dX6_fills_96 : decode cX6_fills 96 = .ok (.if_icmp .ne 25, 3) := by decide +kernel
theorem dX6_fills_99 : decode cX6_fills 99 = .ok (.iload 6, 2) := by decide +kernel
theorem dX6_fills_101 : decode cX6_fills 101 = .ok (.aload_n 0, 1) := by decide +kernel
theorem dX6_fills_102 : decode cX6_fills 102 = .ok (.getfield 13, 3) := by decide +kernel
theorem dX6_fills_105 : decode cX6_fills 105 = .ok (.iconst 2, 1) := by decide +kernel
theorem dX6_fills_106 : decode cX6_fills 106 = .ok (.iaload, 1) := by decide +kernel
theorem dX6_fills_107 : decode cX6_fills 107 = .ok (.irem, 1) := by decide +kernel
theorem dX6_fills_108 : decode cX6_fills 108 = .ok (.istore 8, 2) := by decide +kernel
theorem dX6_fills_110 : decode cX6_fills 110 = .ok (.iload 6, 2) := by decide +kernel
theorem dX6_fills_112 : decode cX6_fills 112 = .ok (.aload_n 0, 1) := by decide +kernel
theorem dX6_fills_113 : decode cX6_fills 113 = .ok (.getfield 13, 3) := by decide +kernel
theorem dX6_fills_116 : decode cX6_fills 116 = .ok (.iconst 2, 1) := by decide +kernel
theorem dX6_fills_117 : decode cX6_fills 117 = .ok (.iaload, 1) := by decide +kernel
theorem dX6_fills_118 : decode cX6_fills 118 = .ok (.idiv, 1) := by decide +kernel
theorem dX6_fills_119 : decode cX6_fills 119 = .ok (.istore 6, 2) := by decide +kernel
theorem dX6_fills_121 : decode cX6_fills 121 = .ok (.aload_n 0, 1) := by decide +kernel
theorem dX6_fills_122 : decode cX6_fills 122 = .ok (.iload 8, 2) := by decide +kernel
theorem dX6_fills_124 : decode cX6_fills 124 = .ok (.invokevirtual 128, 3) := by decide +kernel
theorem dX6_fills_127 : decode cX6_fills 127 = .ok (.pop, 1) := by decide +kernel
theorem dX6_fills_128 : decode cX6_fills 128 = .ok (.iinc 7 1, 3) := by decide +kernel
theorem dX6_fills_131 : decode cX6_fills 131 = .ok (.goto (-58), 3) := by decide +kernel
theorem dX6_fills_134 : decode cX6_fills 134 = .ok (.iload 4, 2) := by decide +kernel
theorem dX6_fills_136 : decode cX6_fills 136 = .ok (.aload_n 0, 1) := by decide +kernel
theorem dX6_fills_137 : decode cX6_fills 137 = .ok (.invokevirtual 131, 3) := by decide +kernel
theorem dX6_fills_140 : decode cX6_fills 140 = .ok (.iload_n 3, 1) := by decide +kernel
theorem dX6_fills_141 : decode cX6_fills 141 = .ok (.if_icmp .ne 7, 3) := by decide +kernel
theorem dX6_fills_144 : decode cX6_fills 144 = .ok (.iconst 1, 1) := by decide +kernel
theorem dX6_fills_145 : decode cX6_fills 145 = .ok (.goto 4, 3) := by decide +kernel
theorem dX6_fills_148 : decode cX6_fills 148 = .ok (.iconst 0, 1) := by decide +kernel
theorem dX6_fills_149 : decode cX6_fills 149 = .ok (.iadd, 1) := by decide +kernel
theorem dX6_fills_150 : decode cX6_fills 150 = .ok (.istore 4, 2) := by decide +kernel
theorem dX6_fills_152 : decode cX6_fills 152 = .ok (.iinc 5 1, 3) := by decide +kernel
theorem dX6_fills_155 : decode cX6_fills 155 = .ok (.goto (-99), 3) := by decide +kernel
theorem dX6_fills_158 : decode cX6_fills 158 = .ok (.aload_n 0, 1) := by decide +kernel
theorem dX6_fills_159 : decode cX6_fills 159 = .ok (.invokevirtual 153, 3) := by decide +kernel
theorem dX6_fills_162 : decode cX6_fills 162 = .ok (.iload 4, 2) := by decide +kernel
theorem dX6_fills_164 : decode cX6_fills 164 = .ok (.ireturn, 1) := by decide +kernel
theorem dX6_run_0 : decode cX6_run 0 = .ok (.aload_n 0, 1) := by decide +kernel
theorem dX6_run_1 : decode cX6_run 1 = .ok (.iload_n 1, 1) := by decide +kernel
theorem dX6_run_2 : decode cX6_run 2 = .ok (.invokevirtual 115, 3) := by decide +kernel
theorem dX6_run_5 : decode cX6_run 5 = .ok (.ifCond .ne 7, 3) := by decide +kernel
theorem dX6_run_8 : decode cX6_run 8 = .ok (.iconst (-1), 1) := by decide +kernel
theorem dX6_run_9 : decode cX6_run 9 = .ok (.goto 16, 3) := by decide +kernel
theorem dX6_run_12 : decode cX6_run 12 = .ok (.aload_n 0, 1) := by decide +kernel
theorem dX6_run_13 : decode cX6_run 13 = .ok (.invokevirtual 211, 3) := by decide +kernel
theorem dX6_run_16 : decode cX6_run 16 = .ok (.ifCond .le 8, 3) := by decide +kernel
theorem dX6_run_19 : decode cX6_run 19 = .ok (.bipush (-3), 2) := by decide +kernel
theorem dX6_run_21 : decode cX6_run 21 = .ok (.goto 4, 3) := by decide +kernel
theorem dX6_run_24 : decode cX6_run 24 = .ok (.iconst 0, 1) := by decide +kernel
theorem dX6_run_25 : decode cX6_run 25 = .ok (.istore_n 2, 1) := by decide +kernel
theorem dX6_run_26 : decode cX6_run 26 = .ok (.iload_n 2, 1) := by decide +kernel
theorem dX6_run_27 : decode cX6_run 27 = .ok (.ifCond .eq 9, 3) := by decide +kernel
theorem dX6_run_30 : decode cX6_run 30 = .ok (.aload_n 0, 1) := by decide +kernel
theorem dX6_run_31 : decode cX6_run 31 = .ok (.iload_n 2, 1) := by decide +kernel
theorem dX6_run_32 : decode cX6_run 32 = .ok (.invokevirtual 52, 3) := by decide +kernel
theorem dX6_run_35 : decode cX6_run 35 = .ok (.ireturn, 1) := by decide +kernel
theorem dX6_run_36 : decode cX6_run 36 = .ok (.aload_n 0, 1) := by decide +kernel
theorem dX6_run_37 : decode cX6_run 37 = .ok (.getfield 13, 3) := by decide +kernel
theorem dX6_run_40 : decode cX6_run 40 = .ok (.iconst 4, 1) := by decide +kernel
theorem dX6_run_41 : decode cX6_run 41 = .ok (.iload_n 1, 1) := by decide +kernel
theorem dX6_run_42 : decode cX6_run 42 = .ok (.iadd, 1) := by decide +kernel
theorem dX6_run_43 : decode cX6_run 43 = .ok (.iconst 1, 1) := by decide +kernel
theorem dX6_run_44 : decode cX6_run 44 = .ok (.isub, 1) := by decide +kernel
theorem dX6_run_45 : decode cX6_run 45 = .ok (.iaload, 1) := by decide +kernel
theorem dX6_run_46 : decode cX6_run 46 = .ok (.istore_n 3, 1) := by decide +kernel
theorem dX6_run_47 : decode cX6_run 47 = .ok (.iconst 0, 1) := by decide +kernel
theorem dX6_run_48 : decode cX6_run 48 = .ok (.istore 4, 2) := by decide +kernel
theorem dX6_run_50 : decode cX6_run 50 = .ok (.iload 4, 2) := by decide +kernel
theorem dX6_run_52 : decode cX6_run 52 = .ok (.aload_n 0, 1) := by decide +kernel
theorem dX6_run_53 : decode cX6_run 53 = .ok (.getfield 13, 3) := by decide +kernel
theorem dX6_run_56 : decode cX6_run 56 = .ok (.iconst 3, 1) := by decide +kernel
theorem dX6_run_57 : decode cX6_run 57 = .ok (.iaload, 1) := by decide +kernel
theorem dX6_run_58 : decode cX6_run 58 = .ok (.if_icmp .ge 31, 3) := by decide +kernel
theorem dX6_run_61 : decode cX6_run 61 = .ok (.iload_n 3, 1) := by decide +kernel
theorem dX6_run_62 : decode cX6_run 62 = .ok (.aload_n 0, 1) := by decide +kernel
theorem dX6_run_63 : decode cX6_run 63 = .ok (.aload_n 0, 1) := by decide +kernel
theorem dX6_run_64 : decode cX6_run 64 = .ok (.iload 4, 2) := by decide +kernel
theorem dX6_run_66 : decode cX6_run 66 = .ok (.invokevirtual 208, 3) := by decide +kernel
theorem dX6_run_69 : decode cX6_run 69 = .ok (.iload_n 1, 1) := by decide +kernel
theorem dX6_run_70 : decode cX6_run 70 = .ok (.invokevirtual 112, 3) := by decide +kernel
theorem dX6_run_73 : decode cX6_run 73 = .ok (.ifCond .eq 7, 3) := by decide +kernel
theorem dX6_run_76 : decode cX6_run 76 = .ok (.iconst 1, 1) := by decide +kernel
theorem dX6_run_77 : decode cX6_run 77 = .ok (.goto 4, 3) := by decide +kernel
theorem dX6_run_80 : decode cX6_run 80 = .ok (.iconst 0, 1) := by decide +kernel
theorem dX6_run_81 : decode cX6_run 81 = .ok (.iadd, 1) := by decide +kernel
theorem dX6_run_82 : decode cX6_run 82 = .ok (.istore_n 3, 1) := by decide +kernel
theorem dX6_run_83 : decode cX6_run 83 = .ok (.iinc 4 1, 3) := by decide +kernel
theorem dX6_run_86 : decode cX6_run 86 = .ok (.goto (-36), 3) := by decide +kernel
theorem dX6_run_89 : decode cX6_run 89 = .ok (.iload_n 3, 1) := by decide +kernel
theorem dX6_run_90 : decode cX6_run 90 = .ok (.aload_n 0, 1) := by decide +kernel
theorem dX6_run_91 : decode cX6_run 91 = .ok (.getfield 13, 3) := by decide +kernel
theorem dX6_run_94 : decode cX6_run 94 = .ok (.iconst 1, 1) := by decide +kernel
theorem dX6_run_95 : decode cX6_run 95 = .ok (.iaload, 1) := by decide +kernel
theorem dX6_run_96 : decode cX6_run 96 = .ok (.irem, 1) := by decide +kernel
theorem dX6_run_97 : decode cX6_run 97 = .ok (.ireturn, 1) := by decide +kernel
theorem dX6_shuts_0 : decode cX6_shuts 0 = .ok (.iconst 0, 1) := by decide +kernel
theorem dX6_shuts_1 : decode cX6_shuts 1 = .ok (.istore_n 2, 1) := by decide +kernel
theorem dX6_shuts_2 : decode cX6_shuts 2 = .ok (.iconst 1, 1) := by decide +kernel
theorem dX6_shuts_3 : decode cX6_shuts 3 = .ok (.istore_n 3, 1) := by decide +kernel
theorem dX6_shuts_4 : decode cX6_shuts 4 = .ok (.iload_n 3, 1) := by decide +kernel
theorem dX6_shuts_5 : decode cX6_shuts 5 = .ok (.aload_n 0, 1) := by decide +kernel
theorem dX6_shuts_6 : decode cX6_shuts 6 = .ok (.getfield 13, 3) := by decide +kernel
theorem dX6_shuts_9 : decode cX6_shuts 9 = .ok (.iconst 0, 1) := by decide +kernel
theorem dX6_shuts_10 : decode cX6_shuts 10 = .ok (.iaload, 1) := by decide +kernel
theorem dX6_shuts_11 : decode cX6_shuts 11 = .ok (.if_icmp .gt 49, 3) := by decide +kernel
theorem dX6_shuts_14 : decode cX6_shuts 14 = .ok (.iload_n 2, 1) := by decide +kernel
theorem dX6_shuts_15 : decode cX6_shuts 15 = .ok (.ifCond .ne 33, 3) := by decide +kernel
theorem dX6_shuts_18 : decode cX6_shuts 18 = .ok (.aload_n 0, 1) := by decide +kernel
theorem dX6_shuts_19 : decode cX6_shuts 19 = .ok (.iload_n 1, 1) := by decide +kernel
theorem dX6_shuts_20 : decode cX6_shuts 20 = .ok (.iload_n 3, 1) := by decide +kernel
theorem dX6_shuts_21 : decode cX6_shuts 21 = .ok (.invokevirtual 112, 3) := by decide +kernel
theorem dX6_shuts_24 : decode cX6_shuts 24 = .ok (.ifCond .eq 28, 3) := by decide +kernel
theorem dX6_shuts_27 : decode cX6_shuts 27 = .ok (.aload_n 0, 1) := by decide +kernel
theorem dX6_shuts_28 : decode cX6_shuts 28 = .ok (.getfield 13, 3) := by decide +kernel
theorem dX6_shuts_31 : decode cX6_shuts 31 = .ok (.iconst 4, 1) := by decide +kernel
theorem dX6_shuts_32 : decode cX6_shuts 32 = .ok (.iload_n 3, 1) := by decide +kernel
theorem dX6_shuts_33 : decode cX6_shuts 33 = .ok (.iadd, 1) := by decide +kernel
theorem dX6_shuts_34 : decode cX6_shuts 34 = .ok (.iconst 1, 1) := by decide +kernel
theorem dX6_shuts_35 : decode cX6_shuts 35 = .ok (.isub, 1) := by decide +kernel
theorem dX6_shuts_36 : decode cX6_shuts 36 = .ok (.iaload, 1) := by decide +kernel
theorem dX6_shuts_37 : decode cX6_shuts 37 = .ok (.aload_n 0, 1) := by decide +kernel
theorem dX6_shuts_38 : decode cX6_shuts 38 = .ok (.getfield 13, 3) := by decide +kernel
theorem dX6_shuts_41 : decode cX6_shuts 41 = .ok (.iconst 1, 1) := by decide +kernel
theorem dX6_shuts_42 : decode cX6_shuts 42 = .ok (.iaload, 1) := by decide +kernel
theorem dX6_shuts_43 : decode cX6_shuts 43 = .ok (.iconst 1, 1) := by decide +kernel
theorem dX6_shuts_44 : decode cX6_shuts 44 = .ok (.isub, 1) := by decide +kernel
theorem dX6_shuts_45 : decode cX6_shuts 45 = .ok (.if_icmp .ne 7, 3) := by decide +kernel
theorem dX6_shuts_48 : decode cX6_shuts 48 = .ok (.iconst 1, 1) := by decide +kernel
theorem dX6_shuts_49 : decode cX6_shuts 49 = .ok (.goto 4, 3) := by decide +kernel
theorem dX6_shuts_52 : decode cX6_shuts 52 = .ok (.iconst 0, 1) := by decide +kernel
theorem dX6_shuts_53 : decode cX6_shuts 53 = .ok (.istore_n 2, 1) := by decide +kernel
theorem dX6_shuts_54 : decode cX6_shuts 54 = .ok (.iinc 3 1, 3) := by decide +kernel
theorem dX6_shuts_57 : decode cX6_shuts 57 = .ok (.goto (-53), 3) := by decide +kernel
theorem dX6_shuts_60 : decode cX6_shuts 60 = .ok (.iload_n 2, 1) := by decide +kernel
theorem dX6_shuts_61 : decode cX6_shuts 61 = .ok (.ireturn, 1) := by decide +kernel
theorem dX6_judge_0 : decode cX6_judge 0 = .ok (.aload_n 0, 1) := by decide +kernel
theorem dX6_judge_1 : decode cX6_judge 1 = .ok (.invokevirtual 211, 3) := by decide +kernel
theorem dX6_judge_4 : decode cX6_judge 4 = .ok (.ifCond .le 10, 3) := by decide +kernel
theorem dX6_judge_7 : decode cX6_judge 7 = .ok (.aload_n 0, 1) := by decide +kernel
theorem dX6_judge_8 : decode cX6_judge 8 = .ok (.bipush (-3), 2) := by decide +kernel
theorem dX6_judge_10 : decode cX6_judge 10 = .ok (.invokevirtual 52, 3) := by decide +kernel
theorem dX6_judge_13 : decode cX6_judge 13 = .ok (.ireturn, 1) := by decide +kernel
theorem dX6_judge_14 : decode cX6_judge 14 = .ok (.aload_n 0, 1) := by decide +kernel
theorem dX6_judge_15 : decode cX6_judge 15 = .ok (.invokevirtual 147, 3) := by decide +kernel
theorem dX6_judge_18 : decode cX6_judge 18 = .ok (.bipush (-9), 2) := by decide +kernel
theorem dX6_judge_20 : decode cX6_judge 20 = .ok (.istore_n 1, 1) := by decide +kernel
theorem dX6_judge_21 : decode cX6_judge 21 = .ok (.iconst 0, 1) := by decide +kernel
theorem dX6_judge_22 : decode cX6_judge 22 = .ok (.istore_n 2, 1) := by decide +kernel
theorem dX6_judge_23 : decode cX6_judge 23 = .ok (.iload_n 2, 1) := by decide +kernel
theorem dX6_judge_24 : decode cX6_judge 24 = .ok (.aload_n 0, 1) := by decide +kernel
theorem dX6_judge_25 : decode cX6_judge 25 = .ok (.getfield 13, 3) := by decide +kernel
theorem dX6_judge_28 : decode cX6_judge 28 = .ok (.iconst 3, 1) := by decide +kernel
theorem dX6_judge_29 : decode cX6_judge 29 = .ok (.iaload, 1) := by decide +kernel
theorem dX6_judge_30 : decode cX6_judge 30 = .ok (.if_icmp .ge 37, 3) := by decide +kernel
theorem dX6_judge_33 : decode cX6_judge 33 = .ok (.iload_n 1, 1) := by decide +kernel
theorem dX6_judge_34 : decode cX6_judge 34 = .ok (.ifCond .ge 33, 3) := by decide +kernel
theorem dX6_judge_37 : decode cX6_judge 37 = .ok (.aload_n 0, 1) := by decide +kernel
theorem dX6_judge_38 : decode cX6_judge 38 = .ok (.aload_n 0, 1) := by decide +kernel
theorem dX6_judge_39 : decode cX6_judge 39 = .ok (.iload_n 2, 1) := by decide +kernel
theorem dX6_judge_40 : decode cX6_judge 40 = .ok (.invokevirtual 208, 3) := by decide +kernel
theorem dX6_judge_43 : decode cX6_judge 43 = .ok (.invokevirtual 214, 3) := by decide +kernel
theorem dX6_judge_46 : decode cX6_judge 46 = .ok (.ifCond .eq 5, 3) := by decide +kernel
theorem dX6_judge_49 : decode cX6_judge 49 = .ok (.iload_n 2, 1) := by decide +kernel
theorem dX6_judge_50 : decode cX6_judge 50 = .ok (.istore_n 1, 1) := by decide +kernel
theorem dX6_judge_51 : decode cX6_judge 51 = .ok (.aload_n 0, 1) := by decide +kernel
theorem dX6_judge_52 : decode cX6_judge 52 = .ok (.aload_n 0, 1) := by decide +kernel
theorem dX6_judge_53 : decode cX6_judge 53 = .ok (.iload_n 2, 1) := by decide +kernel
theorem dX6_judge_54 : decode cX6_judge 54 = .ok (.invokevirtual 208, 3) := by decide +kernel
theorem dX6_judge_57 : decode cX6_judge 57 = .ok (.invokevirtual 128, 3) := by decide +kernel
theorem dX6_judge_60 : decode cX6_judge 60 = .ok (.pop, 1) := by decide +kernel
theorem dX6_judge_61 : decode cX6_judge 61 = .ok (.iinc 2 1, 3) := by decide +kernel
theorem dX6_judge_64 : decode cX6_judge 64 = .ok (.goto (-41), 3) := by decide +kernel
theorem dX6_judge_67 : decode cX6_judge 67 = .ok (.aload_n 0, 1) := by decide +kernel
theorem dX6_judge_68 : decode cX6_judge 68 = .ok (.invokevirtual 153, 3) := by decide +kernel
theorem dX6_judge_71 : decode cX6_judge 71 = .ok (.iload_n 1, 1) := by decide +kernel
theorem dX6_judge_72 : decode cX6_judge 72 = .ok (.ireturn, 1) := by decide +kernel
theorem dX6_clear_0 : decode cX6_clear 0 = .ok (.aload_n 0, 1) := by decide +kernel
theorem dX6_clear_1 : decode cX6_clear 1 = .ok (.getfield 13, 3) := by decide +kernel
theorem dX6_clear_4 : decode cX6_clear 4 = .ok (.iconst 3, 1) := by decide +kernel
theorem dX6_clear_5 : decode cX6_clear 5 = .ok (.iaload, 1) := by decide +kernel
theorem dX6_clear_6 : decode cX6_clear 6 = .ok (.istore_n 1, 1) := by decide +kernel
theorem dX6_clear_7 : decode cX6_clear 7 = .ok (.aload_n 0, 1) := by decide +kernel
theorem dX6_clear_8 : decode cX6_clear 8 = .ok (.getfield 13, 3) := by decide +kernel
theorem dX6_clear_11 : decode cX6_clear 11 = .ok (.iconst 3, 1) := by decide +kernel
theorem dX6_clear_12 : decode cX6_clear 12 = .ok (.iconst 0, 1) := by decide +kernel
theorem dX6_clear_13 : decode cX6_clear 13 = .ok (.iastore, 1) := by decide +kernel
theorem dX6_clear_14 : decode cX6_clear 14 = .ok (.iload_n 1, 1) := by decide +kernel
theorem dX6_clear_15 : decode cX6_clear 15 = .ok (.ireturn, 1) := by decide +kernel
theorem dX6_then_0 : decode cX6_then 0 = .ok (.aload_n 0, 1) := by decide +kernel
theorem dX6_then_1 : decode cX6_then 1 = .ok (.iload_n 2, 1) := by decide +kernel
theorem dX6_then_2 : decode cX6_then 2 = .ok (.invokevirtual 137, 3) := by decide +kernel
theorem dX6_then_5 : decode cX6_then 5 = .ok (.istore_n 3, 1) := by decide +kernel
theorem dX6_then_6 : decode cX6_then 6 = .ok (.aload_n 0, 1) := by decide +kernel
theorem dX6_then_7 : decode cX6_then 7 = .ok (.iload_n 1, 1) := by decide +kernel
theorem dX6_then_8 : decode cX6_then 8 = .ok (.iload_n 2, 1) := by decide +kernel
theorem dX6_then_9 : decode cX6_then 9 = .ok (.invokevirtual 144, 3) := by decide +kernel
theorem dX6_then_12 : decode cX6_then 12 = .ok (.aload_n 0, 1) := by decide +kernel
theorem dX6_then_13 : decode cX6_then 13 = .ok (.getfield 13, 3) := by decide +kernel
theorem dX6_then_16 : decode cX6_then 16 = .ok (.iconst 1, 1) := by decide +kernel
theorem dX6_then_17 : decode cX6_then 17 = .ok (.iaload, 1) := by decide +kernel
theorem dX6_then_18 : decode cX6_then 18 = .ok (.iconst 1, 1) := by decide +kernel
theorem dX6_then_19 : decode cX6_then 19 = .ok (.isub, 1) := by decide +kernel
theorem dX6_then_20 : decode cX6_then 20 = .ok (.if_icmp .ge 9, 3) := by decide +kernel
theorem dX6_then_23 : decode cX6_then 23 = .ok (.iload_n 1, 1) := by decide +kernel
theorem dX6_then_24 : decode cX6_then 24 = .ok (.iload_n 3, 1) := by decide +kernel
theorem dX6_then_25 : decode cX6_then 25 = .ok (.iadd, 1) := by decide +kernel
theorem dX6_then_26 : decode cX6_then 26 = .ok (.goto 15, 3) := by decide +kernel
theorem dX6_then_29 : decode cX6_then 29 = .ok (.iload_n 1, 1) := by decide +kernel
theorem dX6_then_30 : decode cX6_then 30 = .ok (.iload_n 3, 1) := by decide +kernel
theorem dX6_then_31 : decode cX6_then 31 = .ok (.aload_n 0, 1) := by decide +kernel
theorem dX6_then_32 : decode cX6_then 32 = .ok (.getfield 13, 3) := by decide +kernel
theorem dX6_then_35 : decode cX6_then 35 = .ok (.iconst 1, 1) := by decide +kernel
theorem dX6_then_36 : decode cX6_then 36 = .ok (.iaload, 1) := by decide +kernel
theorem dX6_then_37 : decode cX6_then 37 = .ok (.iconst 1, 1) := by decide +kernel
theorem dX6_then_38 : decode cX6_then 38 = .ok (.isub, 1) := by decide +kernel
theorem dX6_then_39 : decode cX6_then 39 = .ok (.imul, 1) := by decide +kernel
theorem dX6_then_40 : decode cX6_then 40 = .ok (.isub, 1) := by decide +kernel
theorem dX6_then_41 : decode cX6_then 41 = .ok (.ireturn, 1) := by decide +kernel
theorem dX6_worthOf_0 : decode cX6_worthOf 0 = .ok (.iconst 1, 1) := by decide +kernel
theorem dX6_worthOf_1 : decode cX6_worthOf 1 = .ok (.istore_n 2, 1) := by decide +kernel
theorem dX6_worthOf_2 : decode cX6_worthOf 2 = .ok (.iconst 0, 1) := by decide +kernel
theorem dX6_worthOf_3 : decode cX6_worthOf 3 = .ok (.istore_n 3, 1) := by decide +kernel
theorem dX6_worthOf_4 : decode cX6_worthOf 4 = .ok (.iload_n 3, 1) := by decide +kernel
theorem dX6_worthOf_5 : decode cX6_worthOf 5 = .ok (.aload_n 0, 1) := by decide +kernel
theorem dX6_worthOf_6 : decode cX6_worthOf 6 = .ok (.getfield 13, 3) := by decide +kernel
theorem dX6_worthOf_9 : decode cX6_worthOf 9 = .ok (.iconst 2, 1) := by decide +kernel
theorem dX6_worthOf_10 : decode cX6_worthOf 10 = .ok (.iaload, 1) := by decide +kernel
theorem dX6_worthOf_11 : decode cX6_worthOf 11 = .ok (.if_icmp .ge 45, 3) := by decide +kernel
theorem dX6_worthOf_14 : decode cX6_worthOf 14 = .ok (.aload_n 0, 1) := by decide +kernel
theorem dX6_worthOf_15 : decode cX6_worthOf 15 = .ok (.getfield 37, 3) := by decide +kernel
theorem dX6_worthOf_18 : decode cX6_worthOf 18 = .ok (.aload_n 0, 1) := by decide +kernel
theorem dX6_worthOf_19 : decode cX6_worthOf 19 = .ok (.iload_n 1, 1) := by decide +kernel
theorem dX6_worthOf_20 : decode cX6_worthOf 20 = .ok (.iload_n 3, 1) := by decide +kernel
theorem dX6_worthOf_21 : decode cX6_worthOf 21 = .ok (.invokevirtual 217, 3) := by decide +kernel
theorem dX6_worthOf_24 : decode cX6_worthOf 24 = .ok (.iaload, 1) := by decide +kernel
theorem dX6_worthOf_25 : decode cX6_worthOf 25 = .ok (.istore 4, 2) := by decide +kernel
theorem dX6_worthOf_27 : decode cX6_worthOf 27 = .ok (.iload 4, 2) := by decide +kernel
theorem dX6_worthOf_29 : decode cX6_worthOf 29 = .ok (.ifCond .ne 5, 3) := by decide +kernel
theorem dX6_worthOf_32 : decode cX6_worthOf 32 = .ok (.iconst 1, 1) := by decide +kernel
theorem dX6_worthOf_33 : decode cX6_worthOf 33 = .ok (.ireturn, 1) := by decide +kernel
theorem dX6_worthOf_34 : decode cX6_worthOf 34 = .ok (.iload_n 2, 1) := by decide +kernel
theorem dX6_worthOf_35 : decode cX6_worthOf 35 = .ok (.ifCond .eq 13, 3) := by decide +kernel
theorem dX6_worthOf_38 : decode cX6_worthOf 38 = .ok (.iload 4, 2) := by decide +kernel
theorem dX6_worthOf_40 : decode cX6_worthOf 40 = .ok (.iconst 1, 1) := by decide +kernel
theorem dX6_worthOf_41 : decode cX6_worthOf 41 = .ok (.if_icmp .ne 7, 3) := by decide +kernel
theorem dX6_worthOf_44 : decode cX6_worthOf 44 = .ok (.iconst 1, 1) := by decide +kernel
theorem dX6_worthOf_45 : decode cX6_worthOf 45 = .ok (.goto 4, 3) := by decide +kernel
theorem dX6_worthOf_48 : decode cX6_worthOf 48 = .ok (.iconst 0, 1) := by decide +kernel
theorem dX6_worthOf_49 : decode cX6_worthOf 49 = .ok (.istore_n 2, 1) := by decide +kernel
theorem dX6_worthOf_50 : decode cX6_worthOf 50 = .ok (.iinc 3 1, 3) := by decide +kernel
theorem dX6_worthOf_53 : decode cX6_worthOf 53 = .ok (.goto (-49), 3) := by decide +kernel
theorem dX6_worthOf_56 : decode cX6_worthOf 56 = .ok (.iload_n 2, 1) := by decide +kernel
theorem dX6_worthOf_57 : decode cX6_worthOf 57 = .ok (.ifCond .eq 7, 3) := by decide +kernel
theorem dX6_worthOf_60 : decode cX6_worthOf 60 = .ok (.iconst 0, 1) := by decide +kernel
theorem dX6_worthOf_61 : decode cX6_worthOf 61 = .ok (.goto 4, 3) := by decide +kernel
theorem dX6_worthOf_64 : decode cX6_worthOf 64 = .ok (.iconst 2, 1) := by decide +kernel
theorem dX6_worthOf_65 : decode cX6_worthOf 65 = .ok (.ireturn, 1) := by decide +kernel
theorem dX6_match_0 : decode cX6_match 0 = .ok (.aload_n 0, 1) := by decide +kernel
theorem dX6_match_1 : decode cX6_match 1 = .ok (.invokevirtual 134, 3) := by decide +kernel
theorem dX6_match_4 : decode cX6_match 4 = .ok (.ifCond .eq 5, 3) := by decide +kernel
theorem dX6_match_7 : decode cX6_match 7 = .ok (.iconst 0, 1) := by decide +kernel
theorem dX6_match_8 : decode cX6_match 8 = .ok (.ireturn, 1) := by decide +kernel
theorem dX6_match_9 : decode cX6_match 9 = .ok (.aload_n 0, 1) := by decide +kernel
theorem dX6_match_10 : decode cX6_match 10 = .ok (.getfield 13, 3) := by decide +kernel
theorem dX6_match_13 : decode cX6_match 13 = .ok (.iconst 2, 1) := by decide +kernel
theorem dX6_match_14 : decode cX6_match 14 = .ok (.iaload, 1) := by decide +kernel
theorem dX6_match_15 : decode cX6_match 15 = .ok (.ifCond .ne 5, 3) := by decide +kernel
theorem dX6_match_18 : decode cX6_match 18 = .ok (.iconst 2, 1) := by decide +kernel
theorem dX6_match_19 : decode cX6_match 19 = .ok (.ireturn, 1) := by decide +kernel
theorem dX6_match_20 : decode cX6_match 20 = .ok (.iconst 0, 1) := by decide +kernel
theorem dX6_match_21 : decode cX6_match 21 = .ok (.istore_n 1, 1) := by decide +kernel
theorem dX6_match_22 : decode cX6_match 22 = .ok (.iload_n 1, 1) := by decide +kernel
theorem dX6_match_23 : decode cX6_match 23 = .ok (.aload_n 0, 1) := by decide +kernel
theorem dX6_match_24 : decode cX6_match 24 = .ok (.invokevirtual 156, 3) := by decide +kernel
theorem dX6_match_27 : decode cX6_match 27 = .ok (.if_icmp .ge 28, 3) := by decide +kernel
theorem dX6_match_30 : decode cX6_match 30 = .ok (.aload_n 0, 1) := by decide +kernel
theorem dX6_match_31 : decode cX6_match 31 = .ok (.getfield 37, 3) := by decide +kernel
theorem dX6_match_34 : decode cX6_match 34 = .ok (.iload_n 1, 1) := by decide +kernel
theorem dX6_match_35 : decode cX6_match 35 = .ok (.aload_n 0, 1) := by decide +kernel
theorem dX6_match_36 : decode cX6_match 36 = .ok (.iload_n 1, 1) := by decide +kernel
theorem dX6_match_37 : decode cX6_match 37 = .ok (.invokevirtual 159, 3) := by decide +kernel
theorem dX6_match_40 : decode cX6_match 40 = .ok (.ifCond .eq 7, 3) := by decide +kernel
theorem dX6_match_43 : decode cX6_match 43 = .ok (.iconst 0, 1) := by decide +kernel
theorem dX6_match_44 : decode cX6_match 44 = .ok (.goto 4, 3) := by decide +kernel
theorem dX6_match_47 : decode cX6_match 47 = .ok (.iconst 2, 1) := by decide +kernel
theorem dX6_match_48 : decode cX6_match 48 = .ok (.iastore, 1) := by decide +kernel
theorem dX6_match_49 : decode cX6_match 49 = .ok (.iinc 1 1, 3) := by decide +kernel
theorem dX6_match_52 : decode cX6_match 52 = .ok (.goto (-30), 3) := by decide +kernel
theorem dX6_match_55 : decode cX6_match 55 = .ok (.iconst 1, 1) := by decide +kernel
theorem dX6_match_56 : decode cX6_match 56 = .ok (.istore_n 1, 1) := by decide +kernel
theorem dX6_match_57 : decode cX6_match 57 = .ok (.iload_n 1, 1) := by decide +kernel
theorem dX6_match_58 : decode cX6_match 58 = .ok (.ifCond .eq 68, 3) := by decide +kernel
theorem dX6_match_61 : decode cX6_match 61 = .ok (.iconst 0, 1) := by decide +kernel
theorem dX6_match_62 : decode cX6_match 62 = .ok (.istore_n 1, 1) := by decide +kernel
theorem dX6_match_63 : decode cX6_match 63 = .ok (.iconst 0, 1) := by decide +kernel
theorem dX6_match_64 : decode cX6_match 64 = .ok (.istore_n 2, 1) := by decide +kernel
theorem dX6_match_65 : decode cX6_match 65 = .ok (.iload_n 2, 1) := by decide +kernel
theorem dX6_match_66 : decode cX6_match 66 = .ok (.aload_n 0, 1) := by decide +kernel
theorem dX6_match_67 : decode cX6_match 67 = .ok (.invokevirtual 156, 3) := by decide +kernel
theorem dX6_match_70 : decode cX6_match 70 = .ok (.if_icmp .ge 53, 3) := by decide +kernel
theorem dX6_match_73 : decode cX6_match 73 = .ok (.aload_n 0, 1) := by decide +kernel
theorem dX6_match_74 : decode cX6_match 74 = .ok (.getfield 37, 3) := by decide +kernel
theorem dX6_match_77 : decode cX6_match 77 = .ok (.iload_n 2, 1) := by decide +kernel
theorem dX6_match_78 : decode cX6_match 78 = .ok (.iaload, 1) := by decide +kernel
theorem dX6_match_79 : decode cX6_match 79 = .ok (.iconst 2, 1) := by decide +kernel
theorem dX6_match_80 : decode cX6_match 80 = .ok (.if_icmp .eq 6, 3) := by decide +kernel
theorem dX6_match_83 : decode cX6_match 83 = .ok (.goto 34, 3) := by decide +kernel
theorem dX6_match_86 : decode cX6_match 86 = .ok (.aload_n 0, 1) := by decide +kernel
theorem dX6_match_87 : decode cX6_match 87 = .ok (.getfield 37, 3) := by decide +kernel
theorem dX6_match_90 : decode cX6_match 90 = .ok (.iload_n 2, 1) := by decide +kernel
theorem dX6_match_91 : decode cX6_match 91 = .ok (.aload_n 0, 1) := by decide +kernel
theorem dX6_match_92 : decode cX6_match 92 = .ok (.iload_n 2, 1) := by decide +kernel
theorem dX6_match_93 : decode cX6_match 93 = .ok (.invokevirtual 220, 3) := by decide +kernel
theorem dX6_match_96 : decode cX6_match 96 = .ok (.iastore, 1) := by decide +kernel
theorem dX6_match_97 : decode cX6_match 97 = .ok (.iload_n 1, 1) := by decide +kernel
theorem dX6_match_98 : decode cX6_match 98 = .ok (.ifCond .ne 13, 3) := by decide +kernel
theorem dX6_match_101 : decode cX6_match 101 = .ok (.aload_n 0, 1) := by decide +kernel
theorem dX6_match_102 : decode cX6_match 102 = .ok (.getfield 37, 3) := by decide +kernel
theorem dX6_match_105 : decode cX6_match 105 = .ok (.iload_n 2, 1) := by decide +kernel
theorem dX6_match_106 : decode cX6_match 106 = .ok (.iaload, 1) := by decide +kernel
theorem dX6_match_107 : decode cX6_match 107 = .ok (.iconst 2, 1) := by decide +kernel
theorem dX6_match_108 : decode cX6_match 108 = .ok (.if_icmp .eq 7, 3) := by decide +kernel
theorem dX6_match_111 : decode cX6_match 111 = .ok (.iconst 1, 1) := by decide +kernel
theorem dX6_match_112 : decode cX6_match 112 = .ok (.goto 4, 3) := by decide +kernel
theorem dX6_match_115 : decode cX6_match 115 = .ok (.iconst 0, 1) := by decide +kernel
theorem dX6_match_116 : decode cX6_match 116 = .ok (.istore_n 1, 1) := by decide +kernel
theorem dX6_match_117 : decode cX6_match 117 = .ok (.iinc 2 1, 3) := by decide +kernel
theorem dX6_match_120 : decode cX6_match 120 = .ok (.goto (-55), 3) := by decide +kernel
theorem dX6_match_123 : decode cX6_match 123 = .ok (.goto (-66), 3) := by decide +kernel
theorem dX6_match_126 : decode cX6_match 126 = .ok (.aload_n 0, 1) := by decide +kernel
theorem dX6_match_127 : decode cX6_match 127 = .ok (.getfield 37, 3) := by decide +kernel
theorem dX6_match_130 : decode cX6_match 130 = .ok (.iconst 0, 1) := by decide +kernel
theorem dX6_match_131 : decode cX6_match 131 = .ok (.iaload, 1) := by decide +kernel
theorem dX6_match_132 : decode cX6_match 132 = .ok (.ireturn, 1) := by decide +kernel
theorem dX6_seeds_0 : decode cX6_seeds 0 = .ok (.iload_n 1, 1) := by decide +kernel
theorem dX6_seeds_1 : decode cX6_seeds 1 = .ok (.iconst 0, 1) := by decide +kernel
theorem dX6_seeds_2 : decode cX6_seeds 2 = .ok (.bipush 99, 2) := by decide +kernel
theorem dX6_seeds_4 : decode cX6_seeds 4 = .ok (.invokestatic 44, 3) := by decide +kernel
theorem dX6_seeds_7 : decode cX6_seeds 7 = .ok (.istore_n 3, 1) := by decide +kernel
theorem dX6_seeds_8 : decode cX6_seeds 8 = .ok (.iload_n 3, 1) := by decide +kernel
theorem dX6_seeds_9 : decode cX6_seeds 9 = .ok (.ifCond .ne 15, 3) := by decide +kernel
theorem dX6_seeds_12 : decode cX6_seeds 12 = .ok (.aload_n 0, 1) := by decide +kernel
theorem dX6_seeds_13 : decode cX6_seeds 13 = .ok (.getfield 13, 3) := by decide +kernel
theorem dX6_seeds_16 : decode cX6_seeds 16 = .ok (.iconst 2, 1) := by decide +kernel
theorem dX6_seeds_17 : decode cX6_seeds 17 = .ok (.iaload, 1) := by decide +kernel
theorem dX6_seeds_18 : decode cX6_seeds 18 = .ok (.ifCond .ne 6, 3) := by decide +kernel
theorem dX6_seeds_21 : decode cX6_seeds 21 = .ok (.bipush (-3), 2) := by decide +kernel
theorem dX6_seeds_23 : decode cX6_seeds 23 = .ok (.istore_n 3, 1) := by decide +kernel
theorem dX6_seeds_24 : decode cX6_seeds 24 = .ok (.iload_n 3, 1) := by decide +kernel
theorem dX6_seeds_25 : decode cX6_seeds 25 = .ok (.ifCond .eq 9, 3) := by decide +kernel
theorem dX6_seeds_28 : decode cX6_seeds 28 = .ok (.aload_n 0, 1) := by decide +kernel
theorem dX6_seeds_29 : decode cX6_seeds 29 = .ok (.iload_n 3, 1) := by decide +kernel
theorem dX6_seeds_30 : decode cX6_seeds 30 = .ok (.invokevirtual 52, 3) := by decide +kernel
theorem dX6_seeds_33 : decode cX6_seeds 33 = .ok (.ireturn, 1) := by decide +kernel
theorem dX6_seeds_34 : decode cX6_seeds 34 = .ok (.iload_n 2, 1) := by decide +kernel
theorem dX6_seeds_35 : decode cX6_seeds 35 = .ok (.istore 4, 2) := by decide +kernel
theorem dX6_seeds_37 : decode cX6_seeds 37 = .ok (.aload_n 0, 1) := by decide +kernel
theorem dX6_seeds_38 : decode cX6_seeds 38 = .ok (.invokevirtual 147, 3) := by decide +kernel
theorem dX6_seeds_41 : decode cX6_seeds 41 = .ok (.iconst 0, 1) := by decide +kernel
theorem dX6_seeds_42 : decode cX6_seeds 42 = .ok (.istore 5, 2) := by decide +kernel
theorem dX6_seeds_44 : decode cX6_seeds 44 = .ok (.iload 5, 2) := by decide +kernel
theorem dX6_seeds_46 : decode cX6_seeds 46 = .ok (.iload_n 1, 1) := by decide +kernel
theorem dX6_seeds_47 : decode cX6_seeds 47 = .ok (.if_icmp .ge 40, 3) := by decide +kernel
theorem dX6_seeds_50 : decode cX6_seeds 50 = .ok (.iload 4, 2) := by decide +kernel
theorem dX6_seeds_52 : decode cX6_seeds 52 = .ok (.ldc 223, 2) := by decide +kernel
theorem dX6_seeds_54 : decode cX6_seeds 54 = .ok (.imul, 1) := by decide +kernel
theorem dX6_seeds_55 : decode cX6_seeds 55 = .ok (.ldc 224, 2) := by decide +kernel
theorem dX6_seeds_57 : decode cX6_seeds 57 = .ok (.iadd, 1) := by decide +kernel
theorem dX6_seeds_58 : decode cX6_seeds 58 = .ok (.istore 4, 2) := by decide +kernel
theorem dX6_seeds_60 : decode cX6_seeds 60 = .ok (.aload_n 0, 1) := by decide +kernel
theorem dX6_seeds_61 : decode cX6_seeds 61 = .ok (.iload 4, 2) := by decide +kernel
theorem dX6_seeds_63 : decode cX6_seeds 63 = .ok (.ldc 225, 2) := by decide +kernel
theorem dX6_seeds_65 : decode cX6_seeds 65 = .ok (.iand, 1) := by decide +kernel
theorem dX6_seeds_66 : decode cX6_seeds 66 = .ok (.sipush 256, 3) := by decide +kernel
theorem dX6_seeds_69 : decode cX6_seeds 69 = .ok (.idiv, 1) := by decide +kernel
theorem dX6_seeds_70 : decode cX6_seeds 70 = .ok (.aload_n 0, 1) := by decide +kernel
theorem dX6_seeds_71 : decode cX6_seeds 71 = .ok (.getfield 13, 3) := by decide +kernel
theorem dX6_seeds_74 : decode cX6_seeds 74 = .ok (.iconst 2, 1) := by decide +kernel
theorem dX6_seeds_75 : decode cX6_seeds 75 = .ok (.iaload, 1) := by decide +kernel
theorem dX6_seeds_76 : decode cX6_seeds 76 = .ok (.irem, 1) := by decide +kernel
theorem dX6_seeds_77 : decode cX6_seeds 77 = .ok (.invokevirtual 128, 3) := by decide +kernel
theorem dX6_seeds_80 : decode cX6_seeds 80 = .ok (.pop, 1) := by decide +kernel
theorem dX6_seeds_81 : decode cX6_seeds 81 = .ok (.iinc 5 1, 3) := by decide +kernel
theorem dX6_seeds_84 : decode cX6_seeds 84 = .ok (.goto (-40), 3) := by decide +kernel
theorem dX6_seeds_87 : decode cX6_seeds 87 = .ok (.aload_n 0, 1) := by decide +kernel
theorem dX6_seeds_88 : decode cX6_seeds 88 = .ok (.invokevirtual 131, 3) := by decide +kernel
theorem dX6_seeds_91 : decode cX6_seeds 91 = .ok (.istore 5, 2) := by decide +kernel
theorem dX6_seeds_93 : decode cX6_seeds 93 = .ok (.aload_n 0, 1) := by decide +kernel
theorem dX6_seeds_94 : decode cX6_seeds 94 = .ok (.invokevirtual 153, 3) := by decide +kernel
theorem dX6_seeds_97 : decode cX6_seeds 97 = .ok (.iload 5, 2) := by decide +kernel
theorem dX6_seeds_99 : decode cX6_seeds 99 = .ok (.ireturn, 1) := by decide +kernel
theorem dX6_image_0 : decode cX6_image 0 = .ok (.aload_n 0, 1) := by decide +kernel
theorem dX6_image_1 : decode cX6_image 1 = .ok (.getfield 13, 3) := by decide +kernel
theorem dX6_image_4 : decode cX6_image 4 = .ok (.aload_n 0, 1) := by decide +kernel
theorem dX6_image_5 : decode cX6_image 5 = .ok (.getfield 16, 3) := by decide +kernel
theorem dX6_image_8 : decode cX6_image 8 = .ok (.invokestatic 95, 3) := by decide +kernel
theorem dX6_image_11 : decode cX6_image 11 = .ok (.aload_n 0, 1) := by decide +kernel
theorem dX6_image_12 : decode cX6_image 12 = .ok (.iconst 1, 1) := by decide +kernel
theorem dX6_image_13 : decode cX6_image 13 = .ok (.putfield 226, 3) := by decide +kernel
theorem dX6_image_16 : decode cX6_image 16 = .ok (.aload_n 0, 1) := by decide +kernel
theorem dX6_image_17 : decode cX6_image 17 = .ok (.getfield 13, 3) := by decide +kernel
theorem dX6_image_20 : decode cX6_image 20 = .ok (.iconst 2, 1) := by decide +kernel
theorem dX6_image_21 : decode cX6_image 21 = .ok (.iaload, 1) := by decide +kernel
theorem dX6_image_22 : decode cX6_image 22 = .ok (.ireturn, 1) := by decide +kernel
theorem dX6_on_0 : decode cX6_on 0 = .ok (.aload_n 0, 1) := by decide +kernel
theorem dX6_on_1 : decode cX6_on 1 = .ok (.getfield 226, 3) := by decide +kernel
theorem dX6_on_4 : decode cX6_on 4 = .ok (.ifCond .ne 10, 3) := by decide +kernel
theorem dX6_on_7 : decode cX6_on 7 = .ok (.aload_n 0, 1) := by decide +kernel
theorem dX6_on_8 : decode cX6_on 8 = .ok (.bipush (-3), 2) := by decide +kernel
theorem dX6_on_10 : decode cX6_on 10 = .ok (.invokevirtual 52, 3) := by decide +kernel
theorem dX6_on_13 : decode cX6_on 13 = .ok (.ireturn, 1) := by decide +kernel
theorem dX6_on_14 : decode cX6_on 14 = .ok (.aload_n 0, 1) := by decide +kernel
theorem dX6_on_15 : decode cX6_on 15 = .ok (.getfield 16, 3) := by decide +kernel
theorem dX6_on_18 : decode cX6_on 18 = .ok (.aload_n 0, 1) := by decide +kernel
theorem dX6_on_19 : decode cX6_on 19 = .ok (.getfield 13, 3) := by decide +kernel
theorem dX6_on_22 : decode cX6_on 22 = .ok (.invokestatic 95, 3) := by decide +kernel
theorem dX6_on_25 : decode cX6_on 25 = .ok (.aload_n 0, 1) := by decide +kernel
theorem dX6_on_26 : decode cX6_on 26 = .ok (.getfield 13, 3) := by decide +kernel
theorem dX6_on_29 : decode cX6_on 29 = .ok (.iconst 2, 1) := by decide +kernel
theorem dX6_on_30 : decode cX6_on 30 = .ok (.iaload, 1) := by decide +kernel
theorem dX6_on_31 : decode cX6_on 31 = .ok (.ireturn, 1) := by decide +kernel
theorem dX6_count_0 : decode cX6_count 0 = .ok (.iload_n 1, 1) := by decide +kernel
theorem dX6_count_1 : decode cX6_count 1 = .ok (.bipush 10, 2) := by decide +kernel
theorem dX6_count_3 : decode cX6_count 3 = .ok (.if_icmp .le 19, 3) := by decide +kernel
theorem dX6_count_6 : decode cX6_count 6 = .ok (.iload_n 1, 1) := by decide +kernel
theorem dX6_count_7 : decode cX6_count 7 = .ok (.bipush 17, 2) := by decide +kernel
theorem dX6_count_9 : decode cX6_count 9 = .ok (.if_icmp .ge 13, 3) := by decide +kernel
theorem dX6_count_12 : decode cX6_count 12 = .ok (.aload_n 0, 1) := by decide +kernel
theorem dX6_count_13 : decode cX6_count 13 = .ok (.getfield 7, 3) := by decide +kernel
theorem dX6_count_16 : decode cX6_count 16 = .ok (.iload_n 1, 1) := by decide +kernel
theorem dX6_count_17 : decode cX6_count 17 = .ok (.bipush 10, 2) := by decide +kernel
theorem dX6_count_19 : decode cX6_count 19 = .ok (.isub, 1) := by decide +kernel
theorem dX6_count_20 : decode cX6_count 20 = .ok (.iaload, 1) := by decide +kernel
theorem dX6_count_21 : decode cX6_count 21 = .ok (.ireturn, 1) := by decide +kernel
theorem dX6_count_22 : decode cX6_count 22 = .ok (.iconst 0, 1) := by decide +kernel
theorem dX6_count_23 : decode cX6_count 23 = .ok (.istore_n 2, 1) := by decide +kernel
theorem dX6_count_24 : decode cX6_count 24 = .ok (.iload_n 1, 1) := by decide +kernel
theorem dX6_count_25 : decode cX6_count 25 = .ok (.tableswitch 118 0 7 #[47, 47, 47, 54, 93, 98, 105, 110], 47) := by decide +kernel
theorem dX6_count_72 : decode cX6_count 72 = .ok (.aload_n 0, 1) := by decide +kernel
theorem dX6_count_73 : decode cX6_count 73 = .ok (.getfield 13, 3) := by decide +kernel
theorem dX6_count_76 : decode cX6_count 76 = .ok (.iload_n 1, 1) := by decide +kernel
theorem dX6_count_77 : decode cX6_count 77 = .ok (.iaload, 1) := by decide +kernel
theorem dX6_count_78 : decode cX6_count 78 = .ok (.ireturn, 1) := by decide +kernel
theorem dX6_count_79 : decode cX6_count 79 = .ok (.iconst 0, 1) := by decide +kernel
theorem dX6_count_80 : decode cX6_count 80 = .ok (.istore_n 3, 1) := by decide +kernel
theorem dX6_count_81 : decode cX6_count 81 = .ok (.iload_n 3, 1) := by decide +kernel
theorem dX6_count_82 : decode cX6_count 82 = .ok (.aload_n 0, 1) := by decide +kernel
theorem dX6_count_83 : decode cX6_count 83 = .ok (.getfield 13, 3) := by decide +kernel
theorem dX6_count_86 : decode cX6_count 86 = .ok (.iconst 0, 1) := by decide +kernel
theorem dX6_count_87 : decode cX6_count 87 = .ok (.iaload, 1) := by decide +kernel
theorem dX6_count_88 : decode cX6_count 88 = .ok (.if_icmp .ge 28, 3) := by decide +kernel
theorem dX6_count_91 : decode cX6_count 91 = .ok (.iload_n 2, 1) := by decide +kernel
theorem dX6_count_92 : decode cX6_count 92 = .ok (.aload_n 0, 1) := by decide +kernel
theorem dX6_count_93 : decode cX6_count 93 = .ok (.getfield 13, 3) := by decide +kernel
theorem dX6_count_96 : decode cX6_count 96 = .ok (.iconst 4, 1) := by decide +kernel
theorem dX6_count_97 : decode cX6_count 97 = .ok (.iload_n 3, 1) := by decide +kernel
theorem dX6_count_98 : decode cX6_count 98 = .ok (.iadd, 1) := by decide +kernel
theorem dX6_count_99 : decode cX6_count 99 = .ok (.iaload, 1) := by decide +kernel
theorem dX6_count_100 : decode cX6_count 100 = .ok (.ifCond .ne 7, 3) := by decide +kernel
theorem dX6_count_103 : decode cX6_count 103 = .ok (.iconst 0, 1) := by decide +kernel
theorem dX6_count_104 : decode cX6_count 104 = .ok (.goto 4, 3) := by decide +kernel
theorem dX6_count_107 : decode cX6_count 107 = .ok (.iconst 1, 1) := by decide +kernel
theorem dX6_count_108 : decode cX6_count 108 = .ok (.iadd, 1) := by decide +kernel
theorem dX6_count_109 : decode cX6_count 109 = .ok (.istore_n 2, 1) := by decide +kernel
theorem dX6_count_110 : decode cX6_count 110 = .ok (.iinc 3 1, 3) := by decide +kernel
theorem dX6_count_113 : decode cX6_count 113 = .ok (.goto (-32), 3) := by decide +kernel
theorem dX6_count_116 : decode cX6_count 116 = .ok (.iload_n 2, 1) := by decide +kernel
theorem dX6_count_117 : decode cX6_count 117 = .ok (.ireturn, 1) := by decide +kernel
theorem dX6_count_118 : decode cX6_count 118 = .ok (.aload_n 0, 1) := by decide +kernel
theorem dX6_count_119 : decode cX6_count 119 = .ok (.invokevirtual 183, 3) := by decide +kernel
theorem dX6_count_122 : decode cX6_count 122 = .ok (.ireturn, 1) := by decide +kernel
theorem dX6_count_123 : decode cX6_count 123 = .ok (.aload_n 0, 1) := by decide +kernel
theorem dX6_count_124 : decode cX6_count 124 = .ok (.getfield 13, 3) := by decide +kernel
theorem dX6_count_127 : decode cX6_count 127 = .ok (.iconst 3, 1) := by decide +kernel
theorem dX6_count_128 : decode cX6_count 128 = .ok (.iaload, 1) := by decide +kernel
theorem dX6_count_129 : decode cX6_count 129 = .ok (.ireturn, 1) := by decide +kernel
theorem dX6_count_130 : decode cX6_count 130 = .ok (.aload_n 0, 1) := by decide +kernel
theorem dX6_count_131 : decode cX6_count 131 = .ok (.getfield 48, 3) := by decide +kernel
theorem dX6_count_134 : decode cX6_count 134 = .ok (.ireturn, 1) := by decide +kernel
theorem dX6_count_135 : decode cX6_count 135 = .ok (.aload_n 0, 1) := by decide +kernel
theorem dX6_count_136 : decode cX6_count 136 = .ok (.getfield 13, 3) := by decide +kernel
theorem dX6_count_139 : decode cX6_count 139 = .ok (.bipush 78, 2) := by decide +kernel
theorem dX6_count_141 : decode cX6_count 141 = .ok (.iaload, 1) := by decide +kernel
theorem dX6_count_142 : decode cX6_count 142 = .ok (.ireturn, 1) := by decide +kernel
theorem dX6_count_143 : decode cX6_count 143 = .ok (.bipush (-9), 2) := by decide +kernel
theorem dX6_count_145 : decode cX6_count 145 = .ok (.ireturn, 1) := by decide +kernel
theorem dJ6_bitCount_0f7a4_0 : decode cJ6_bitCount_0f7a4 0 = .ok (.iload_n 0, 1) := by decide +kernel
theorem dJ6_bitCount_0f7a4_1 : decode cJ6_bitCount_0f7a4 1 = .ok (.iload_n 0, 1) := by decide +kernel
theorem dJ6_bitCount_0f7a4_2 : decode cJ6_bitCount_0f7a4 2 = .ok (.iconst 1, 1) := by decide +kernel
theorem dJ6_bitCount_0f7a4_3 : decode cJ6_bitCount_0f7a4 3 = .ok (.iushr, 1) := by decide +kernel
theorem dJ6_bitCount_0f7a4_4 : decode cJ6_bitCount_0f7a4 4 = .ok (.ldc_w 265, 3) := by decide +kernel
theorem dJ6_bitCount_0f7a4_7 : decode cJ6_bitCount_0f7a4 7 = .ok (.iand, 1) := by decide +kernel
theorem dJ6_bitCount_0f7a4_8 : decode cJ6_bitCount_0f7a4 8 = .ok (.isub, 1) := by decide +kernel
theorem dJ6_bitCount_0f7a4_9 : decode cJ6_bitCount_0f7a4 9 = .ok (.istore_n 0, 1) := by decide +kernel
theorem dJ6_bitCount_0f7a4_10 : decode cJ6_bitCount_0f7a4 10 = .ok (.iload_n 0, 1) := by decide +kernel
theorem dJ6_bitCount_0f7a4_11 : decode cJ6_bitCount_0f7a4 11 = .ok (.ldc_w 266, 3) := by decide +kernel
theorem dJ6_bitCount_0f7a4_14 : decode cJ6_bitCount_0f7a4 14 = .ok (.iand, 1) := by decide +kernel
theorem dJ6_bitCount_0f7a4_15 : decode cJ6_bitCount_0f7a4 15 = .ok (.iload_n 0, 1) := by decide +kernel
theorem dJ6_bitCount_0f7a4_16 : decode cJ6_bitCount_0f7a4 16 = .ok (.iconst 2, 1) := by decide +kernel
theorem dJ6_bitCount_0f7a4_17 : decode cJ6_bitCount_0f7a4 17 = .ok (.iushr, 1) := by decide +kernel
theorem dJ6_bitCount_0f7a4_18 : decode cJ6_bitCount_0f7a4 18 = .ok (.ldc_w 266, 3) := by decide +kernel
theorem dJ6_bitCount_0f7a4_21 : decode cJ6_bitCount_0f7a4 21 = .ok (.iand, 1) := by decide +kernel
theorem dJ6_bitCount_0f7a4_22 : decode cJ6_bitCount_0f7a4 22 = .ok (.iadd, 1) := by decide +kernel
theorem dJ6_bitCount_0f7a4_23 : decode cJ6_bitCount_0f7a4 23 = .ok (.istore_n 0, 1) := by decide +kernel
theorem dJ6_bitCount_0f7a4_24 : decode cJ6_bitCount_0f7a4 24 = .ok (.iload_n 0, 1) := by decide +kernel
theorem dJ6_bitCount_0f7a4_25 : decode cJ6_bitCount_0f7a4 25 = .ok (.iload_n 0, 1) := by decide +kernel
theorem dJ6_bitCount_0f7a4_26 : decode cJ6_bitCount_0f7a4 26 = .ok (.iconst 4, 1) := by decide +kernel
theorem dJ6_bitCount_0f7a4_27 : decode cJ6_bitCount_0f7a4 27 = .ok (.iushr, 1) := by decide +kernel
theorem dJ6_bitCount_0f7a4_28 : decode cJ6_bitCount_0f7a4 28 = .ok (.iadd, 1) := by decide +kernel
theorem dJ6_bitCount_0f7a4_29 : decode cJ6_bitCount_0f7a4 29 = .ok (.ldc_w 267, 3) := by decide +kernel
theorem dJ6_bitCount_0f7a4_32 : decode cJ6_bitCount_0f7a4 32 = .ok (.iand, 1) := by decide +kernel
theorem dJ6_bitCount_0f7a4_33 : decode cJ6_bitCount_0f7a4 33 = .ok (.istore_n 0, 1) := by decide +kernel
theorem dJ6_bitCount_0f7a4_34 : decode cJ6_bitCount_0f7a4 34 = .ok (.iload_n 0, 1) := by decide +kernel
theorem dJ6_bitCount_0f7a4_35 : decode cJ6_bitCount_0f7a4 35 = .ok (.iload_n 0, 1) := by decide +kernel
theorem dJ6_bitCount_0f7a4_36 : decode cJ6_bitCount_0f7a4 36 = .ok (.bipush 8, 2) := by decide +kernel
theorem dJ6_bitCount_0f7a4_38 : decode cJ6_bitCount_0f7a4 38 = .ok (.iushr, 1) := by decide +kernel
theorem dJ6_bitCount_0f7a4_39 : decode cJ6_bitCount_0f7a4 39 = .ok (.iadd, 1) := by decide +kernel
theorem dJ6_bitCount_0f7a4_40 : decode cJ6_bitCount_0f7a4 40 = .ok (.istore_n 0, 1) := by decide +kernel
theorem dJ6_bitCount_0f7a4_41 : decode cJ6_bitCount_0f7a4 41 = .ok (.iload_n 0, 1) := by decide +kernel
theorem dJ6_bitCount_0f7a4_42 : decode cJ6_bitCount_0f7a4 42 = .ok (.iload_n 0, 1) := by decide +kernel
theorem dJ6_bitCount_0f7a4_43 : decode cJ6_bitCount_0f7a4 43 = .ok (.bipush 16, 2) := by decide +kernel
theorem dJ6_bitCount_0f7a4_45 : decode cJ6_bitCount_0f7a4 45 = .ok (.iushr, 1) := by decide +kernel
theorem dJ6_bitCount_0f7a4_46 : decode cJ6_bitCount_0f7a4 46 = .ok (.iadd, 1) := by decide +kernel
theorem dJ6_bitCount_0f7a4_47 : decode cJ6_bitCount_0f7a4 47 = .ok (.istore_n 0, 1) := by decide +kernel
theorem dJ6_bitCount_0f7a4_48 : decode cJ6_bitCount_0f7a4 48 = .ok (.iload_n 0, 1) := by decide +kernel
theorem dJ6_bitCount_0f7a4_49 : decode cJ6_bitCount_0f7a4 49 = .ok (.bipush 63, 2) := by decide +kernel
theorem dJ6_bitCount_0f7a4_51 : decode cJ6_bitCount_0f7a4 51 = .ok (.iand, 1) := by decide +kernel
theorem dJ6_bitCount_0f7a4_52 : decode cJ6_bitCount_0f7a4 52 = .ok (.ireturn, 1) := by decide +kernel
theorem dL_law_0 : decode cL_law 0 = .ok (.new 7, 3) := by decide +kernel
theorem dL_law_3 : decode cL_law 3 = .ok (.dup, 1) := by decide +kernel
theorem dL_law_4 : decode cL_law 4 = .ok (.invokespecial 9, 3) := by decide +kernel
theorem dL_law_7 : decode cL_law 7 = .ok (.astore_n 1, 1) := by decide +kernel
theorem dL_law_8 : decode cL_law 8 = .ok (.new 10, 3) := by decide +kernel
theorem dL_law_11 : decode cL_law 11 = .ok (.dup, 1) := by decide +kernel
theorem dL_law_12 : decode cL_law 12 = .ok (.invokespecial 12, 3) := by decide +kernel
theorem dL_law_15 : decode cL_law 15 = .ok (.astore_n 2, 1) := by decide +kernel
theorem dL_law_16 : decode cL_law 16 = .ok (.iconst 0, 1) := by decide +kernel
theorem dL_law_17 : decode cL_law 17 = .ok (.istore_n 3, 1) := by decide +kernel
theorem dL_law_18 : decode cL_law 18 = .ok (.iload_n 3, 1) := by decide +kernel
theorem dL_law_19 : decode cL_law 19 = .ok (.aload_n 0, 1) := by decide +kernel
theorem dL_law_20 : decode cL_law 20 = .ok (.arraylength, 1) := by decide +kernel
theorem dL_law_21 : decode cL_law 21 = .ok (.iconst 4, 1) := by decide +kernel
theorem dL_law_22 : decode cL_law 22 = .ok (.isub, 1) := by decide +kernel
theorem dL_law_23 : decode cL_law 23 = .ok (.if_icmp .gt 785, 3) := by decide +kernel
theorem dL_law_26 : decode cL_law 26 = .ok (.aload_n 0, 1) := by decide +kernel
theorem dL_law_27 : decode cL_law 27 = .ok (.iload_n 3, 1) := by decide +kernel
theorem dL_law_28 : decode cL_law 28 = .ok (.iaload, 1) := by decide +kernel
theorem dL_law_29 : decode cL_law 29 = .ok (.bipush 31, 2) := by decide +kernel
theorem dL_law_31 : decode cL_law 31 = .ok (.iand, 1) := by decide +kernel
theorem dL_law_32 : decode cL_law 32 = .ok (.tableswitch 770 0 31 #[144, 167, 180, 213, 246, 269, 292, 305, 318, 361, 374, 387, 400, 423, 436, 449, 472, 485, 498, 521, 544, 567, 590, 613, 626, 649, 662, 675, 688, 721, 734, 747], 144) := by decide +kernel
theorem dL_law_176 : decode cL_law 176 = .ok (.aload_n 1, 1) := by decide +kernel
theorem dL_law_177 : decode cL_law 177 = .ok (.aload_n 0, 1) := by decide +kernel
theorem dL_law_178 : decode cL_law 178 = .ok (.iload_n 3, 1) := by decide +kernel
theorem dL_law_179 : decode cL_law 179 = .ok (.iconst 1, 1) := by decide +kernel
theorem dL_law_180 : decode cL_law 180 = .ok (.iadd, 1) := by decide +kernel
theorem dL_law_181 : decode cL_law 181 = .ok (.iaload, 1) := by decide +kernel
theorem dL_law_182 : decode cL_law 182 = .ok (.invokevirtual 13, 3) := by decide +kernel
theorem dL_law_185 : decode cL_law 185 = .ok (.aload_n 2, 1) := by decide +kernel
theorem dL_law_186 : decode cL_law 186 = .ok (.aload_n 0, 1) := by decide +kernel
theorem dL_law_187 : decode cL_law 187 = .ok (.iload_n 3, 1) := by decide +kernel
theorem dL_law_188 : decode cL_law 188 = .ok (.iconst 1, 1) := by decide +kernel
theorem dL_law_189 : decode cL_law 189 = .ok (.iadd, 1) := by decide +kernel
theorem dL_law_190 : decode cL_law 190 = .ok (.iaload, 1) := by decide +kernel
theorem dL_law_191 : decode cL_law 191 = .ok (.invokevirtual 17, 3) := by decide +kernel
theorem dL_law_194 : decode cL_law 194 = .ok (.if_icmp .eq 608, 3) := by decide +kernel
theorem dL_law_197 : decode cL_law 197 = .ok (.iconst 0, 1) := by decide +kernel
theorem dL_law_198 : decode cL_law 198 = .ok (.ireturn, 1) := by decide +kernel
theorem dL_law_199 : decode cL_law 199 = .ok (.aload_n 1, 1) := by decide +kernel
theorem dL_law_200 : decode cL_law 200 = .ok (.invokevirtual 18, 3) := by decide +kernel
theorem dL_law_203 : decode cL_law 203 = .ok (.aload_n 2, 1) := by decide +kernel
theorem dL_law_204 : decode cL_law 204 = .ok (.invokevirtual 22, 3) := by decide +kernel
theorem dL_law_207 : decode cL_law 207 = .ok (.if_icmp .eq 595, 3) := by decide +kernel
theorem dL_law_210 : decode cL_law 210 = .ok (.iconst 0, 1) := by decide +kernel
theorem dL_law_211 : decode cL_law 211 = .ok (.ireturn, 1) := by decide +kernel
theorem dL_law_212 : decode cL_law 212 = .ok (.aload_n 1, 1) := by decide +kernel
theorem dL_law_213 : decode cL_law 213 = .ok (.aload_n 0, 1) := by decide +kernel
theorem dL_law_214 : decode cL_law 214 = .ok (.iload_n 3, 1) := by decide +kernel
theorem dL_law_215 : decode cL_law 215 = .ok (.iconst 1, 1) := by decide +kernel
theorem dL_law_216 : decode cL_law 216 = .ok (.iadd, 1) := by decide +kernel
theorem dL_law_217 : decode cL_law 217 = .ok (.iaload, 1) := by decide +kernel
theorem dL_law_218 : decode cL_law 218 = .ok (.aload_n 0, 1) := by decide +kernel
theorem dL_law_219 : decode cL_law 219 = .ok (.iload_n 3, 1) := by decide +kernel
theorem dL_law_220 : decode cL_law 220 = .ok (.iconst 2, 1) := by decide +kernel
theorem dL_law_221 : decode cL_law 221 = .ok (.iadd, 1) := by decide +kernel
theorem dL_law_222 : decode cL_law 222 = .ok (.iaload, 1) := by decide +kernel
theorem dL_law_223 : decode cL_law 223 = .ok (.invokevirtual 23, 3) := by decide +kernel
theorem dL_law_226 : decode cL_law 226 = .ok (.aload_n 2, 1) := by decide +kernel
theorem dL_law_227 : decode cL_law 227 = .ok (.aload_n 0, 1) := by decide +kernel
theorem dL_law_228 : decode cL_law 228 = .ok (.iload_n 3, 1) := by decide +kernel
theorem dL_law_229 : decode cL_law 229 = .ok (.iconst 1, 1) := by decide +kernel
theorem dL_law_230 : decode cL_law 230 = .ok (.iadd, 1) := by decide +kernel
theorem dL_law_231 : decode cL_law 231 = .ok (.iaload, 1) := by decide +kernel
theorem dL_law_232 : decode cL_law 232 = .ok (.aload_n 0, 1) := by decide +kernel
theorem dL_law_233 : decode cL_law 233 = .ok (.iload_n 3, 1) := by decide +kernel
theorem dL_law_234 : decode cL_law 234 = .ok (.iconst 2, 1) := by decide +kernel
theorem dL_law_235 : decode cL_law 235 = .ok (.iadd, 1) := by decide +kernel
theorem dL_law_236 : decode cL_law 236 = .ok (.iaload, 1) := by decide +kernel
theorem dL_law_237 : decode cL_law 237 = .ok (.invokevirtual 27, 3) := by decide +kernel
theorem dL_law_240 : decode cL_law 240 = .ok (.if_icmp .eq 562, 3) := by decide +kernel
theorem dL_law_243 : decode cL_law 243 = .ok (.iconst 0, 1) := by decide +kernel
theorem dL_law_244 : decode cL_law 244 = .ok (.ireturn, 1) := by decide +kernel
theorem dL_law_245 : decode cL_law 245 = .ok (.aload_n 1, 1) := by decide +kernel
theorem dL_law_246 : decode cL_law 246 = .ok (.aload_n 0, 1) := by decide +kernel
theorem dL_law_247 : decode cL_law 247 = .ok (.iload_n 3, 1) := by decide +kernel
theorem dL_law_248 : decode cL_law 248 = .ok (.iconst 1, 1) := by decide +kernel
theorem dL_law_249 : decode cL_law 249 = .ok (.iadd, 1) := by decide +kernel
theorem dL_law_250 : decode cL_law 250 = .ok (.iaload, 1) := by decide +kernel
theorem dL_law_251 : decode cL_law 251 = .ok (.aload_n 0, 1) := by decide +kernel
theorem dL_law_252 : decode cL_law 252 = .ok (.iload_n 3, 1) := by decide +kernel
theorem dL_law_253 : decode cL_law 253 = .ok (.iconst 2, 1) := by decide +kernel
theorem dL_law_254 : decode cL_law 254 = .ok (.iadd, 1) := by decide +kernel
theorem dL_law_255 : decode cL_law 255 = .ok (.iaload, 1) := by decide +kernel
theorem dL_law_256 : decode cL_law 256 = .ok (.invokevirtual 28, 3) := by decide +kernel
theorem dL_law_259 : decode cL_law 259 = .ok (.aload_n 2, 1) := by decide +kernel
theorem dL_law_260 : decode cL_law 260 = .ok (.aload_n 0, 1) := by decide +kernel
theorem dL_law_261 : decode cL_law 261 = .ok (.iload_n 3, 1) := by decide +kernel
theorem dL_law_262 : decode cL_law 262 = .ok (.iconst 1, 1) := by decide +kernel
theorem dL_law_263 : decode cL_law 263 = .ok (.iadd, 1) := by decide +kernel
theorem dL_law_264 : decode cL_law 264 = .ok (.iaload, 1) := by decide +kernel
theorem dL_law_265 : decode cL_law 265 = .ok (.aload_n 0, 1) := by decide +kernel
theorem dL_law_266 : decode cL_law 266 = .ok (.iload_n 3, 1) := by decide +kernel
theorem dL_law_267 : decode cL_law 267 = .ok (.iconst 2, 1) := by decide +kernel
theorem dL_law_268 : decode cL_law 268 = .ok (.iadd, 1) := by decide +kernel
theorem dL_law_269 : decode cL_law 269 = .ok (.iaload, 1) := by decide +kernel
theorem dL_law_270 : decode cL_law 270 = .ok (.invokevirtual 31, 3) := by decide +kernel
theorem dL_law_273 : decode cL_law 273 = .ok (.if_icmp .eq 529, 3) := by decide +kernel
theorem dL_law_276 : decode cL_law 276 = .ok (.iconst 0, 1) := by decide +kernel
theorem dL_law_277 : decode cL_law 277 = .ok (.ireturn, 1) := by decide +kernel
theorem dL_law_278 : decode cL_law 278 = .ok (.aload_n 1, 1) := by decide +kernel
theorem dL_law_279 : decode cL_law 279 = .ok (.aload_n 0, 1) := by decide +kernel
theorem dL_law_280 : decode cL_law 280 = .ok (.iload_n 3, 1) := by decide +kernel
theorem dL_law_281 : decode cL_law 281 = .ok (.iconst 1, 1) := by decide +kernel
theorem dL_law_282 : decode cL_law 282 = .ok (.iadd, 1) := by decide +kernel
theorem dL_law_283 : decode cL_law 283 = .ok (.iaload, 1) := by decide +kernel
theorem dL_law_284 : decode cL_law 284 = .ok (.invokevirtual 32, 3) := by decide +kernel
theorem dL_law_287 : decode cL_law 287 = .ok (.aload_n 2, 1) := by decide +kernel
theorem dL_law_288 : decode cL_law 288 = .ok (.aload_n 0, 1) := by decide +kernel
theorem dL_law_289 : decode cL_law 289 = .ok (.iload_n 3, 1) := by decide +kernel
theorem dL_law_290 : decode cL_law 290 = .ok (.iconst 1, 1) := by decide +kernel
theorem dL_law_291 : decode cL_law 291 = .ok (.iadd, 1) := by decide +kernel
theorem dL_law_292 : decode cL_law 292 = .ok (.iaload, 1) := by decide +kernel
theorem dL_law_293 : decode cL_law 293 = .ok (.invokevirtual 35, 3) := by decide +kernel
theorem dL_law_296 : decode cL_law 296 = .ok (.if_icmp .eq 506, 3) := by decide +kernel
theorem dL_law_299 : decode cL_law 299 = .ok (.iconst 0, 1) := by decide +kernel
theorem dL_law_300 : decode cL_law 300 = .ok (.ireturn, 1) := by decide +kernel
theorem dL_law_301 : decode cL_law 301 = .ok (.aload_n 1, 1) := by decide +kernel
theorem dL_law_302 : decode cL_law 302 = .ok (.aload_n 0, 1) := by decide +kernel
theorem dL_law_303 : decode cL_law 303 = .ok (.iload_n 3, 1) := by decide +kernel
theorem dL_law_304 : decode cL_law 304 = .ok (.iconst 1, 1) := by decide +kernel
theorem dL_law_305 : decode cL_law 305 = .ok (.iadd, 1) := by decide +kernel
theorem dL_law_306 : decode cL_law 306 = .ok (.iaload, 1) := by decide +kernel
theorem dL_law_307 : decode cL_law 307 = .ok (.invokevirtual 36, 3) := by decide +kernel
theorem dL_law_310 : decode cL_law 310 = .ok (.aload_n 2, 1) := by decide +kernel
theorem dL_law_311 : decode cL_law 311 = .ok (.aload_n 0, 1) := by decide +kernel
theorem dL_law_312 : decode cL_law 312 = .ok (.iload_n 3, 1) := by decide +kernel
theorem dL_law_313 : decode cL_law 313 = .ok (.iconst 1, 1) := by decide +kernel
theorem dL_law_314 : decode cL_law 314 = .ok (.iadd, 1) := by decide +kernel
theorem dL_law_315 : decode cL_law 315 = .ok (.iaload, 1) := by decide +kernel
theorem dL_law_316 : decode cL_law 316 = .ok (.invokevirtual 39, 3) := by decide +kernel
theorem dL_law_319 : decode cL_law 319 = .ok (.if_icmp .eq 483, 3) := by decide +kernel
theorem dL_law_322 : decode cL_law 322 = .ok (.iconst 0, 1) := by decide +kernel
theorem dL_law_323 : decode cL_law 323 = .ok (.ireturn, 1) := by decide +kernel
theorem dL_law_324 : decode cL_law 324 = .ok (.aload_n 1, 1) := by decide +kernel
theorem dL_law_325 : decode cL_law 325 = .ok (.invokevirtual 40, 3) := by decide +kernel
theorem dL_law_328 : decode cL_law 328 = .ok (.aload_n 2, 1) := by decide +kernel
theorem dL_law_329 : decode cL_law 329 = .ok (.invokevirtual 43, 3) := by decide +kernel
theorem dL_law_332 : decode cL_law 332 = .ok (.if_icmp .eq 470, 3) := by decide +kernel
theorem dL_law_335 : decode cL_law 335 = .ok (.iconst 0, 1) := by decide +kernel
theorem dL_law_336 : decode cL_law 336 = .ok (.ireturn, 1) := by decide +kernel
theorem dL_law_337 : decode cL_law 337 = .ok (.aload_n 1, 1) := by decide +kernel
theorem dL_law_338 : decode cL_law 338 = .ok (.invokevirtual 44, 3) := by decide +kernel
theorem dL_law_341 : decode cL_law 341 = .ok (.aload_n 2, 1) := by decide +kernel
theorem dL_law_342 : decode cL_law 342 = .ok (.invokevirtual 47, 3) := by decide +kernel
theorem dL_law_345 : decode cL_law 345 = .ok (.if_icmp .eq 457, 3) := by decide +kernel
theorem dL_law_348 : decode cL_law 348 = .ok (.iconst 0, 1) := by decide +kernel
theorem dL_law_349 : decode cL_law 349 = .ok (.ireturn, 1) := by decide +kernel
theorem dL_law_350 : decode cL_law 350 = .ok (.aload_n 1, 1) := by decide +kernel
theorem dL_law_351 : decode cL_law 351 = .ok (.aload_n 0, 1) := by decide +kernel
theorem dL_law_352 : decode cL_law 352 = .ok (.iload_n 3, 1) := by decide +kernel
theorem dL_law_353 : decode cL_law 353 = .ok (.iconst 1, 1) := by decide +kernel
theorem dL_law_354 : decode cL_law 354 = .ok (.iadd, 1) := by decide +kernel
theorem dL_law_355 : decode cL_law 355 = .ok (.iaload, 1) := by decide +kernel
theorem dL_law_356 : decode cL_law 356 = .ok (.aload_n 0, 1) := by decide +kernel
theorem dL_law_357 : decode cL_law 357 = .ok (.iload_n 3, 1) := by decide +kernel
theorem dL_law_358 : decode cL_law 358 = .ok (.iconst 2, 1) := by decide +kernel
theorem dL_law_359 : decode cL_law 359 = .ok (.iadd, 1) := by decide +kernel
theorem dL_law_360 : decode cL_law 360 = .ok (.iaload, 1) := by decide +kernel
theorem dL_law_361 : decode cL_law 361 = .ok (.aload_n 0, 1) := by decide +kernel
theorem dL_law_362 : decode cL_law 362 = .ok (.iload_n 3, 1) := by decide +kernel
theorem dL_law_363 : decode cL_law 363 = .ok (.iconst 3, 1) := by decide +kernel
theorem dL_law_364 : decode cL_law 364 = .ok (.iadd, 1) := by decide +kernel
theorem dL_law_365 : decode cL_law 365 = .ok (.iaload, 1) := by decide +kernel
theorem dL_law_366 : decode cL_law 366 = .ok (.invokevirtual 48, 3) := by decide +kernel
theorem dL_law_369 : decode cL_law 369 = .ok (.aload_n 2, 1) := by decide +kernel
theorem dL_law_370 : decode cL_law 370 = .ok (.aload_n 0, 1) := by decide +kernel
theorem dL_law_371 : decode cL_law 371 = .ok (.iload_n 3, 1) := by decide +kernel
theorem dL_law_372 : decode cL_law 372 = .ok (.iconst 1, 1) := by decide +kernel
theorem dL_law_373 : decode cL_law 373 = .ok (.iadd, 1) := by decide +kernel
theorem dL_law_374 : decode cL_law 374 = .ok (.iaload, 1) := by decide +kernel
theorem dL_law_375 : decode cL_law 375 = .ok (.aload_n 0, 1) := by decide +kernel
theorem dL_law_376 : decode cL_law 376 = .ok (.iload_n 3, 1) := by decide +kernel
theorem dL_law_377 : decode cL_law 377 = .ok (.iconst 2, 1) := by decide +kernel
theorem dL_law_378 : decode cL_law 378 = .ok (.iadd, 1) := by decide +kernel
theorem dL_law_379 : decode cL_law 379 = .ok (.iaload, 1) := by decide +kernel
theorem dL_law_380 : decode cL_law 380 = .ok (.aload_n 0, 1) := by decide +kernel
theorem dL_law_381 : decode cL_law 381 = .ok (.iload_n 3, 1) := by decide +kernel
theorem dL_law_382 : decode cL_law 382 = .ok (.iconst 3, 1) := by decide +kernel
theorem dL_law_383 : decode cL_law 383 = .ok (.iadd, 1) := by decide +kernel
theorem dL_law_384 : decode cL_law 384 = .ok (.iaload, 1) := by decide +kernel
theorem dL_law_385 : decode cL_law 385 = .ok (.invokevirtual 52, 3) := by decide +kernel
theorem dL_law_388 : decode cL_law 388 = .ok (.if_icmp .eq 414, 3) := by decide +kernel
theorem dL_law_391 : decode cL_law 391 = .ok (.iconst 0, 1) := by decide +kernel
theorem dL_law_392 : decode cL_law 392 = .ok (.ireturn, 1) := by decide +kernel
theorem dL_law_393 : decode cL_law 393 = .ok (.aload_n 1, 1) := by decide +kernel
theorem dL_law_394 : decode cL_law 394 = .ok (.invokevirtual 53, 3) := by decide +kernel
theorem dL_law_397 : decode cL_law 397 = .ok (.aload_n 2, 1) := by decide +kernel
theorem dL_law_398 : decode cL_law 398 = .ok (.invokevirtual 56, 3) := by decide +kernel
theorem dL_law_401 : decode cL_law 401 = .ok (.if_icmp .eq 401, 3) := by decide +kernel
theorem dL_law_404 : decode cL_law 404 = .ok (.iconst 0, 1) := by decide +kernel
theorem dL_law_405 : decode cL_law 405 = .ok (.ireturn, 1) := by decide +kernel
theorem dL_law_406 : decode cL_law 406 = .ok (.aload_n 1, 1) := by decide +kernel
theorem dL_law_407 : decode cL_law 407 = .ok (.invokevirtual 57, 3) := by decide +kernel
theorem dL_law_410 : decode cL_law 410 = .ok (.aload_n 2, 1) := by decide +kernel
theorem dL_law_411 : decode cL_law 411 = .ok (.invokevirtual 60, 3) := by decide +kernel
theorem dL_law_414 : decode cL_law 414 = .ok (.if_icmp .eq 388, 3) := by decide +kernel
theorem dL_law_417 : decode cL_law 417 = .ok (.iconst 0, 1) := by decide +kernel
theorem dL_law_418 : decode cL_law 418 = .ok (.ireturn, 1) := by decide +kernel
theorem dL_law_419 : decode cL_law 419 = .ok (.aload_n 1, 1) := by decide +kernel
theorem dL_law_420 : decode cL_law 420 = .ok (.invokevirtual 61, 3) := by decide +kernel
theorem dL_law_423 : decode cL_law 423 = .ok (.aload_n 2, 1) := by decide +kernel
theorem dL_law_424 : decode cL_law 424 = .ok (.invokevirtual 64, 3) := by decide +kernel
theorem dL_law_427 : decode cL_law 427 = .ok (.if_icmp .eq 375, 3) := by decide +kernel
theorem dL_law_430 : decode cL_law 430 = .ok (.iconst 0, 1) := by decide +kernel
theorem dL_law_431 : decode cL_law 431 = .ok (.ireturn, 1) := by decide +kernel
theorem dL_law_432 : decode cL_law 432 = .ok (.aload_n 1, 1) := by decide +kernel
theorem dL_law_433 : decode cL_law 433 = .ok (.aload_n 0, 1) := by decide +kernel
theorem dL_law_434 : decode cL_law 434 = .ok (.iload_n 3, 1) := by decide +kernel
theorem dL_law_435 : decode cL_law 435 = .ok (.iconst 1, 1) := by decide +kernel
theorem dL_law_436 : decode cL_law 436 = .ok (.iadd, 1) := by decide +kernel
theorem dL_law_437 : decode cL_law 437 = .ok (.iaload, 1) := by decide +kernel
theorem dL_law_438 : decode cL_law 438 = .ok (.invokevirtual 65, 3) := by decide +kernel
theorem dL_law_441 : decode cL_law 441 = .ok (.aload_n 2, 1) := by decide +kernel
theorem dL_law_442 : decode cL_law 442 = .ok (.aload_n 0, 1) := by decide +kernel
theorem dL_law_443 : decode cL_law 443 = .ok (.iload_n 3, 1) := by decide +kernel
theorem dL_law_444 : decode cL_law 444 = .ok (.iconst 1, 1) := by decide +kernel
theorem dL_law_445 : decode cL_law 445 = .ok (.iadd, 1) := by decide +kernel
theorem dL_law_446 : decode cL_law 446 = .ok (.iaload, 1) := by decide +kernel
theorem dL_law_447 : decode cL_law 447 = .ok (.invokevirtual 68, 3) := by decide +kernel
theorem dL_law_450 : decode cL_law 450 = .ok (.if_icmp .eq 352, 3) := by decide +kernel
theorem dL_law_453 : decode cL_law 453 = .ok (.iconst 0, 1) := by decide +kernel
theorem dL_law_454 : decode cL_law 454 = .ok (.ireturn, 1) := by decide +kernel
theorem dL_law_455 : decode cL_law 455 = .ok (.aload_n 1, 1) := by decide +kernel
theorem dL_law_456 : decode cL_law 456 = .ok (.invokevirtual 69, 3) := by decide +kernel
theorem dL_law_459 : decode cL_law 459 = .ok (.aload_n 2, 1) := by decide +kernel
theorem dL_law_460 : decode cL_law 460 = .ok (.invokevirtual 72, 3) := by decide +kernel
theorem dL_law_463 : decode cL_law 463 = .ok (.if_icmp .eq 339, 3) := by decide +kernel
theorem dL_law_466 : decode cL_law 466 = .ok (.iconst 0, 1) := by decide +kernel
theorem dL_law_467 : decode cL_law 467 = .ok (.ireturn, 1) := by decide +kernel
theorem dL_law_468 : decode cL_law 468 = .ok (.aload_n 1, 1) := by decide +kernel
theorem dL_law_469 : decode cL_law 469 = .ok (.invokevirtual 73, 3) := by decide +kernel
theorem dL_law_472 : decode cL_law 472 = .ok (.aload_n 2, 1) := by decide +kernel
theorem dL_law_473 : decode cL_law 473 = .ok (.invokevirtual 76, 3) := by decide +kernel
theorem dL_law_476 : decode cL_law 476 = .ok (.if_icmp .eq 326, 3) := by decide +kernel
theorem dL_law_479 : decode cL_law 479 = .ok (.iconst 0, 1) := by decide +kernel
theorem dL_law_480 : decode cL_law 480 = .ok (.ireturn, 1) := by decide +kernel
theorem dL_law_481 : decode cL_law 481 = .ok (.aload_n 1, 1) := by decide +kernel
theorem dL_law_482 : decode cL_law 482 = .ok (.aload_n 0, 1) := by decide +kernel
theorem dL_law_483 : decode cL_law 483 = .ok (.iload_n 3, 1) := by decide +kernel
theorem dL_law_484 : decode cL_law 484 = .ok (.iconst 1, 1) := by decide +kernel
theorem dL_law_485 : decode cL_law 485 = .ok (.iadd, 1) := by decide +kernel
theorem dL_law_486 : decode cL_law 486 = .ok (.iaload, 1) := by decide +kernel
theorem dL_law_487 : decode cL_law 487 = .ok (.invokevirtual 77, 3) := by decide +kernel
theorem dL_law_490 : decode cL_law 490 = .ok (.aload_n 2, 1) := by decide +kernel
theorem dL_law_491 : decode cL_law 491 = .ok (.aload_n 0, 1) := by decide +kernel
theorem dL_law_492 : decode cL_law 492 = .ok (.iload_n 3, 1) := by decide +kernel
theorem dL_law_493 : decode cL_law 493 = .ok (.iconst 1, 1) := by decide +kernel
theorem dL_law_494 : decode cL_law 494 = .ok (.iadd, 1) := by decide +kernel
theorem dL_law_495 : decode cL_law 495 = .ok (.iaload, 1) := by decide +kernel
theorem dL_law_496 : decode cL_law 496 = .ok (.invokevirtual 80, 3) := by decide +kernel
theorem dL_law_499 : decode cL_law 499 = .ok (.if_icmp .eq 303, 3) := by decide +kernel
theorem dL_law_502 : decode cL_law 502 = .ok (.iconst 0, 1) := by decide +kernel
theorem dL_law_503 : decode cL_law 503 = .ok (.ireturn, 1) := by decide +kernel
theorem dL_law_504 : decode cL_law 504 = .ok (.aload_n 1, 1) := by decide +kernel
theorem dL_law_505 : decode cL_law 505 = .ok (.invokevirtual 81, 3) := by decide +kernel
theorem dL_law_508 : decode cL_law 508 = .ok (.aload_n 2, 1) := by decide +kernel
theorem dL_law_509 : decode cL_law 509 = .ok (.invokevirtual 84, 3) := by decide +kernel
theorem dL_law_512 : decode cL_law 512 = .ok (.if_icmp .eq 290, 3) := by decide +kernel
theorem dL_law_515 : decode cL_law 515 = .ok (.iconst 0, 1) := by decide +kernel
theorem dL_law_516 : decode cL_law 516 = .ok (.ireturn, 1) := by decide +kernel
theorem dL_law_517 : decode cL_law 517 = .ok (.aload_n 1, 1) := by decide +kernel
theorem dL_law_518 : decode cL_law 518 = .ok (.invokevirtual 85, 3) := by decide +kernel
theorem dL_law_521 : decode cL_law 521 = .ok (.aload_n 2, 1) := by decide +kernel
theorem dL_law_522 : decode cL_law 522 = .ok (.invokevirtual 88, 3) := by decide +kernel
theorem dL_law_525 : decode cL_law 525 = .ok (.if_icmp .eq 277, 3) := by decide +kernel
theorem dL_law_528 : decode cL_law 528 = .ok (.iconst 0, 1) := by decide +kernel
theorem dL_law_529 : decode cL_law 529 = .ok (.ireturn, 1) := by decide +kernel
theorem dL_law_530 : decode cL_law 530 = .ok (.aload_n 1, 1) := by decide +kernel
theorem dL_law_531 : decode cL_law 531 = .ok (.aload_n 0, 1) := by decide +kernel
theorem dL_law_532 : decode cL_law 532 = .ok (.iload_n 3, 1) := by decide +kernel
theorem dL_law_533 : decode cL_law 533 = .ok (.iconst 1, 1) := by decide +kernel
theorem dL_law_534 : decode cL_law 534 = .ok (.iadd, 1) := by decide +kernel
theorem dL_law_535 : decode cL_law 535 = .ok (.iaload, 1) := by decide +kernel
theorem dL_law_536 : decode cL_law 536 = .ok (.invokevirtual 89, 3) := by decide +kernel
theorem dL_law_539 : decode cL_law 539 = .ok (.aload_n 2, 1) := by decide +kernel
theorem dL_law_540 : decode cL_law 540 = .ok (.aload_n 0, 1) := by decide +kernel
theorem dL_law_541 : decode cL_law 541 = .ok (.iload_n 3, 1) := by decide +kernel
theorem dL_law_542 : decode cL_law 542 = .ok (.iconst 1, 1) := by decide +kernel
theorem dL_law_543 : decode cL_law 543 = .ok (.iadd, 1) := by decide +kernel
theorem dL_law_544 : decode cL_law 544 = .ok (.iaload, 1) := by decide +kernel
theorem dL_law_545 : decode cL_law 545 = .ok (.invokevirtual 92, 3) := by decide +kernel
theorem dL_law_548 : decode cL_law 548 = .ok (.if_icmp .eq 254, 3) := by decide +kernel
theorem dL_law_551 : decode cL_law 551 = .ok (.iconst 0, 1) := by decide +kernel
theorem dL_law_552 : decode cL_law 552 = .ok (.ireturn, 1) := by decide +kernel
theorem dL_law_553 : decode cL_law 553 = .ok (.aload_n 1, 1) := by decide +kernel
theorem dL_law_554 : decode cL_law 554 = .ok (.aload_n 0, 1) := by decide +kernel
theorem dL_law_555 : decode cL_law 555 = .ok (.iload_n 3, 1) := by decide +kernel
theorem dL_law_556 : decode cL_law 556 = .ok (.iconst 1, 1) := by decide +kernel
theorem dL_law_557 : decode cL_law 557 = .ok (.iadd, 1) := by decide +kernel
theorem dL_law_558 : decode cL_law 558 = .ok (.iaload, 1) := by decide +kernel
theorem dL_law_559 : decode cL_law 559 = .ok (.invokevirtual 93, 3) := by decide +kernel
theorem dL_law_562 : decode cL_law 562 = .ok (.aload_n 2, 1) := by decide +kernel
theorem dL_law_563 : decode cL_law 563 = .ok (.aload_n 0, 1) := by decide +kernel
theorem dL_law_564 : decode cL_law 564 = .ok (.iload_n 3, 1) := by decide +kernel
theorem dL_law_565 : decode cL_law 565 = .ok (.iconst 1, 1) := by decide +kernel
theorem dL_law_566 : decode cL_law 566 = .ok (.iadd, 1) := by decide +kernel
theorem dL_law_567 : decode cL_law 567 = .ok (.iaload, 1) := by decide +kernel
theorem dL_law_568 : decode cL_law 568 = .ok (.invokevirtual 96, 3) := by decide +kernel
theorem dL_law_571 : decode cL_law 571 = .ok (.if_icmp .eq 231, 3) := by decide +kernel
theorem dL_law_574 : decode cL_law 574 = .ok (.iconst 0, 1) := by decide +kernel
theorem dL_law_575 : decode cL_law 575 = .ok (.ireturn, 1) := by decide +kernel
theorem dL_law_576 : decode cL_law 576 = .ok (.aload_n 1, 1) := by decide +kernel
theorem dL_law_577 : decode cL_law 577 = .ok (.aload_n 0, 1) := by decide +kernel
theorem dL_law_578 : decode cL_law 578 = .ok (.iload_n 3, 1) := by decide +kernel
theorem dL_law_579 : decode cL_law 579 = .ok (.iconst 1, 1) := by decide +kernel
theorem dL_law_580 : decode cL_law 580 = .ok (.iadd, 1) := by decide +kernel
theorem dL_law_581 : decode cL_law 581 = .ok (.iaload, 1) := by decide +kernel
theorem dL_law_582 : decode cL_law 582 = .ok (.invokevirtual 97, 3) := by decide +kernel
theorem dL_law_585 : decode cL_law 585 = .ok (.aload_n 2, 1) := by decide +kernel
theorem dL_law_586 : decode cL_law 586 = .ok (.aload_n 0, 1) := by decide +kernel
theorem dL_law_587 : decode cL_law 587 = .ok (.iload_n 3, 1) := by decide +kernel
theorem dL_law_588 : decode cL_law 588 = .ok (.iconst 1, 1) := by decide +kernel
theorem dL_law_589 : decode cL_law 589 = .ok (.iadd, 1) := by decide +kernel
theorem dL_law_590 : decode cL_law 590 = .ok (.iaload, 1) := by decide +kernel
theorem dL_law_591 : decode cL_law 591 = .ok (.invokevirtual 100, 3) := by decide +kernel
theorem dL_law_594 : decode cL_law 594 = .ok (.if_icmp .eq 208, 3) := by decide +kernel
theorem dL_law_597 : decode cL_law 597 = .ok (.iconst 0, 1) := by decide +kernel
theorem dL_law_598 : decode cL_law 598 = .ok (.ireturn, 1) := by decide +kernel
theorem dL_law_599 : decode cL_law 599 = .ok (.aload_n 1, 1) := by decide +kernel
theorem dL_law_600 : decode cL_law 600 = .ok (.aload_n 0, 1) := by decide +kernel
theorem dL_law_601 : decode cL_law 601 = .ok (.iload_n 3, 1) := by decide +kernel
theorem dL_law_602 : decode cL_law 602 = .ok (.iconst 1, 1) := by decide +kernel
theorem dL_law_603 : decode cL_law 603 = .ok (.iadd, 1) := by decide +kernel
theorem dL_law_604 : decode cL_law 604 = .ok (.iaload, 1) := by decide +kernel
theorem dL_law_605 : decode cL_law 605 = .ok (.invokevirtual 101, 3) := by decide +kernel
theorem dL_law_608 : decode cL_law 608 = .ok (.aload_n 2, 1) := by decide +kernel
theorem dL_law_609 : decode cL_law 609 = .ok (.aload_n 0, 1) := by decide +kernel
theorem dL_law_610 : decode cL_law 610 = .ok (.iload_n 3, 1) := by decide +kernel
theorem dL_law_611 : decode cL_law 611 = .ok (.iconst 1, 1) := by decide +kernel
theorem dL_law_612 : decode cL_law 612 = .ok (.iadd, 1) := by decide +kernel
theorem dL_law_613 : decode cL_law 613 = .ok (.iaload, 1) := by decide +kernel
theorem dL_law_614 : decode cL_law 614 = .ok (.invokevirtual 104, 3) := by decide +kernel
theorem dL_law_617 : decode cL_law 617 = .ok (.if_icmp .eq 185, 3) := by decide +kernel
theorem dL_law_620 : decode cL_law 620 = .ok (.iconst 0, 1) := by decide +kernel
theorem dL_law_621 : decode cL_law 621 = .ok (.ireturn, 1) := by decide +kernel
theorem dL_law_622 : decode cL_law 622 = .ok (.aload_n 1, 1) := by decide +kernel
theorem dL_law_623 : decode cL_law 623 = .ok (.aload_n 0, 1) := by decide +kernel
theorem dL_law_624 : decode cL_law 624 = .ok (.iload_n 3, 1) := by decide +kernel
theorem dL_law_625 : decode cL_law 625 = .ok (.iconst 1, 1) := by decide +kernel
theorem dL_law_626 : decode cL_law 626 = .ok (.iadd, 1) := by decide +kernel
theorem dL_law_627 : decode cL_law 627 = .ok (.iaload, 1) := by decide +kernel
theorem dL_law_628 : decode cL_law 628 = .ok (.invokevirtual 105, 3) := by decide +kernel
theorem dL_law_631 : decode cL_law 631 = .ok (.aload_n 2, 1) := by decide +kernel
theorem dL_law_632 : decode cL_law 632 = .ok (.aload_n 0, 1) := by decide +kernel
theorem dL_law_633 : decode cL_law 633 = .ok (.iload_n 3, 1) := by decide +kernel
theorem dL_law_634 : decode cL_law 634 = .ok (.iconst 1, 1) := by decide +kernel
theorem dL_law_635 : decode cL_law 635 = .ok (.iadd, 1) := by decide +kernel
theorem dL_law_636 : decode cL_law 636 = .ok (.iaload, 1) := by decide +kernel
theorem dL_law_637 : decode cL_law 637 = .ok (.invokevirtual 108, 3) := by decide +kernel
theorem dL_law_640 : decode cL_law 640 = .ok (.if_icmp .eq 162, 3) := by decide +kernel
theorem dL_law_643 : decode cL_law 643 = .ok (.iconst 0, 1) := by decide +kernel
theorem dL_law_644 : decode cL_law 644 = .ok (.ireturn, 1) := by decide +kernel
theorem dL_law_645 : decode cL_law 645 = .ok (.aload_n 1, 1) := by decide +kernel
theorem dL_law_646 : decode cL_law 646 = .ok (.invokevirtual 109, 3) := by decide +kernel
theorem dL_law_649 : decode cL_law 649 = .ok (.aload_n 2, 1) := by decide +kernel
theorem dL_law_650 : decode cL_law 650 = .ok (.invokevirtual 112, 3) := by decide +kernel
theorem dL_law_653 : decode cL_law 653 = .ok (.if_icmp .eq 149, 3) := by decide +kernel
theorem dL_law_656 : decode cL_law 656 = .ok (.iconst 0, 1) := by decide +kernel
theorem dL_law_657 : decode cL_law 657 = .ok (.ireturn, 1) := by decide +kernel
theorem dL_law_658 : decode cL_law 658 = .ok (.aload_n 1, 1) := by decide +kernel
theorem dL_law_659 : decode cL_law 659 = .ok (.aload_n 0, 1) := by decide +kernel
theorem dL_law_660 : decode cL_law 660 = .ok (.iload_n 3, 1) := by decide +kernel
theorem dL_law_661 : decode cL_law 661 = .ok (.iconst 1, 1) := by decide +kernel
theorem dL_law_662 : decode cL_law 662 = .ok (.iadd, 1) := by decide +kernel
theorem dL_law_663 : decode cL_law 663 = .ok (.iaload, 1) := by decide +kernel
theorem dL_law_664 : decode cL_law 664 = .ok (.invokevirtual 113, 3) := by decide +kernel
theorem dL_law_667 : decode cL_law 667 = .ok (.aload_n 2, 1) := by decide +kernel
theorem dL_law_668 : decode cL_law 668 = .ok (.aload_n 0, 1) := by decide +kernel
theorem dL_law_669 : decode cL_law 669 = .ok (.iload_n 3, 1) := by decide +kernel
theorem dL_law_670 : decode cL_law 670 = .ok (.iconst 1, 1) := by decide +kernel
theorem dL_law_671 : decode cL_law 671 = .ok (.iadd, 1) := by decide +kernel
theorem dL_law_672 : decode cL_law 672 = .ok (.iaload, 1) := by decide +kernel
theorem dL_law_673 : decode cL_law 673 = .ok (.invokevirtual 116, 3) := by decide +kernel
theorem dL_law_676 : decode cL_law 676 = .ok (.if_icmp .eq 126, 3) := by decide +kernel
theorem dL_law_679 : decode cL_law 679 = .ok (.iconst 0, 1) := by decide +kernel
theorem dL_law_680 : decode cL_law 680 = .ok (.ireturn, 1) := by decide +kernel
theorem dL_law_681 : decode cL_law 681 = .ok (.aload_n 1, 1) := by decide +kernel
theorem dL_law_682 : decode cL_law 682 = .ok (.invokevirtual 117, 3) := by decide +kernel
theorem dL_law_685 : decode cL_law 685 = .ok (.aload_n 2, 1) := by decide +kernel
theorem dL_law_686 : decode cL_law 686 = .ok (.invokevirtual 120, 3) := by decide +kernel
theorem dL_law_689 : decode cL_law 689 = .ok (.if_icmp .eq 113, 3) := by decide +kernel
theorem dL_law_692 : decode cL_law 692 = .ok (.iconst 0, 1) := by decide +kernel
theorem dL_law_693 : decode cL_law 693 = .ok (.ireturn, 1) := by decide +kernel
theorem dL_law_694 : decode cL_law 694 = .ok (.aload_n 1, 1) := by decide +kernel
theorem dL_law_695 : decode cL_law 695 = .ok (.invokevirtual 121, 3) := by decide +kernel
theorem dL_law_698 : decode cL_law 698 = .ok (.aload_n 2, 1) := by decide +kernel
theorem dL_law_699 : decode cL_law 699 = .ok (.invokevirtual 124, 3) := by decide +kernel
theorem dL_law_702 : decode cL_law 702 = .ok (.if_icmp .eq 100, 3) := by decide +kernel
theorem dL_law_705 : decode cL_law 705 = .ok (.iconst 0, 1) := by decide +kernel
theorem dL_law_706 : decode cL_law 706 = .ok (.ireturn, 1) := by decide +kernel
theorem dL_law_707 : decode cL_law 707 = .ok (.aload_n 1, 1) := by decide +kernel
theorem dL_law_708 : decode cL_law 708 = .ok (.invokevirtual 125, 3) := by decide +kernel
theorem dL_law_711 : decode cL_law 711 = .ok (.aload_n 2, 1) := by decide +kernel
theorem dL_law_712 : decode cL_law 712 = .ok (.invokevirtual 128, 3) := by decide +kernel
theorem dL_law_715 : decode cL_law 715 = .ok (.if_icmp .eq 87, 3) := by decide +kernel
theorem dL_law_718 : decode cL_law 718 = .ok (.iconst 0, 1) := by decide +kernel
theorem dL_law_719 : decode cL_law 719 = .ok (.ireturn, 1) := by decide +kernel
theorem dL_law_720 : decode cL_law 720 = .ok (.aload_n 1, 1) := by decide +kernel
theorem dL_law_721 : decode cL_law 721 = .ok (.aload_n 0, 1) := by decide +kernel
theorem dL_law_722 : decode cL_law 722 = .ok (.iload_n 3, 1) := by decide +kernel
theorem dL_law_723 : decode cL_law 723 = .ok (.iconst 1, 1) := by decide +kernel
theorem dL_law_724 : decode cL_law 724 = .ok (.iadd, 1) := by decide +kernel
theorem dL_law_725 : decode cL_law 725 = .ok (.iaload, 1) := by decide +kernel
theorem dL_law_726 : decode cL_law 726 = .ok (.aload_n 0, 1) := by decide +kernel
theorem dL_law_727 : decode cL_law 727 = .ok (.iload_n 3, 1) := by decide +kernel
theorem dL_law_728 : decode cL_law 728 = .ok (.iconst 2, 1) := by decide +kernel
theorem dL_law_729 : decode cL_law 729 = .ok (.iadd, 1) := by decide +kernel
theorem dL_law_730 : decode cL_law 730 = .ok (.iaload, 1) := by decide +kernel
theorem dL_law_731 : decode cL_law 731 = .ok (.invokevirtual 129, 3) := by decide +kernel
theorem dL_law_734 : decode cL_law 734 = .ok (.aload_n 2, 1) := by decide +kernel
theorem dL_law_735 : decode cL_law 735 = .ok (.aload_n 0, 1) := by decide +kernel
theorem dL_law_736 : decode cL_law 736 = .ok (.iload_n 3, 1) := by decide +kernel
theorem dL_law_737 : decode cL_law 737 = .ok (.iconst 1, 1) := by decide +kernel
theorem dL_law_738 : decode cL_law 738 = .ok (.iadd, 1) := by decide +kernel
theorem dL_law_739 : decode cL_law 739 = .ok (.iaload, 1) := by decide +kernel
theorem dL_law_740 : decode cL_law 740 = .ok (.aload_n 0, 1) := by decide +kernel
theorem dL_law_741 : decode cL_law 741 = .ok (.iload_n 3, 1) := by decide +kernel
theorem dL_law_742 : decode cL_law 742 = .ok (.iconst 2, 1) := by decide +kernel
theorem dL_law_743 : decode cL_law 743 = .ok (.iadd, 1) := by decide +kernel
theorem dL_law_744 : decode cL_law 744 = .ok (.iaload, 1) := by decide +kernel
theorem dL_law_745 : decode cL_law 745 = .ok (.invokevirtual 132, 3) := by decide +kernel
theorem dL_law_748 : decode cL_law 748 = .ok (.if_icmp .eq 54, 3) := by decide +kernel
theorem dL_law_751 : decode cL_law 751 = .ok (.iconst 0, 1) := by decide +kernel
theorem dL_law_752 : decode cL_law 752 = .ok (.ireturn, 1) := by decide +kernel
theorem dL_law_753 : decode cL_law 753 = .ok (.aload_n 1, 1) := by decide +kernel
theorem dL_law_754 : decode cL_law 754 = .ok (.invokevirtual 133, 3) := by decide +kernel
theorem dL_law_757 : decode cL_law 757 = .ok (.aload_n 2, 1) := by decide +kernel
theorem dL_law_758 : decode cL_law 758 = .ok (.invokevirtual 136, 3) := by decide +kernel
theorem dL_law_761 : decode cL_law 761 = .ok (.if_icmp .eq 41, 3) := by decide +kernel
theorem dL_law_764 : decode cL_law 764 = .ok (.iconst 0, 1) := by decide +kernel
theorem dL_law_765 : decode cL_law 765 = .ok (.ireturn, 1) := by decide +kernel
theorem dL_law_766 : decode cL_law 766 = .ok (.aload_n 1, 1) := by decide +kernel
theorem dL_law_767 : decode cL_law 767 = .ok (.invokevirtual 137, 3) := by decide +kernel
theorem dL_law_770 : decode cL_law 770 = .ok (.aload_n 2, 1) := by decide +kernel
theorem dL_law_771 : decode cL_law 771 = .ok (.invokevirtual 140, 3) := by decide +kernel
theorem dL_law_774 : decode cL_law 774 = .ok (.if_icmp .eq 28, 3) := by decide +kernel
theorem dL_law_777 : decode cL_law 777 = .ok (.iconst 0, 1) := by decide +kernel
theorem dL_law_778 : decode cL_law 778 = .ok (.ireturn, 1) := by decide +kernel
theorem dL_law_779 : decode cL_law 779 = .ok (.aload_n 1, 1) := by decide +kernel
theorem dL_law_780 : decode cL_law 780 = .ok (.aload_n 0, 1) := by decide +kernel
theorem dL_law_781 : decode cL_law 781 = .ok (.iload_n 3, 1) := by decide +kernel
theorem dL_law_782 : decode cL_law 782 = .ok (.iconst 1, 1) := by decide +kernel
theorem dL_law_783 : decode cL_law 783 = .ok (.iadd, 1) := by decide +kernel
theorem dL_law_784 : decode cL_law 784 = .ok (.iaload, 1) := by decide +kernel
theorem dL_law_785 : decode cL_law 785 = .ok (.invokevirtual 141, 3) := by decide +kernel
theorem dL_law_788 : decode cL_law 788 = .ok (.aload_n 2, 1) := by decide +kernel
theorem dL_law_789 : decode cL_law 789 = .ok (.aload_n 0, 1) := by decide +kernel
theorem dL_law_790 : decode cL_law 790 = .ok (.iload_n 3, 1) := by decide +kernel
theorem dL_law_791 : decode cL_law 791 = .ok (.iconst 1, 1) := by decide +kernel
theorem dL_law_792 : decode cL_law 792 = .ok (.iadd, 1) := by decide +kernel
theorem dL_law_793 : decode cL_law 793 = .ok (.iaload, 1) := by decide +kernel
theorem dL_law_794 : decode cL_law 794 = .ok (.invokevirtual 144, 3) := by decide +kernel
theorem dL_law_797 : decode cL_law 797 = .ok (.if_icmp .eq 5, 3) := by decide +kernel
theorem dL_law_800 : decode cL_law 800 = .ok (.iconst 0, 1) := by decide +kernel
theorem dL_law_801 : decode cL_law 801 = .ok (.ireturn, 1) := by decide +kernel
theorem dL_law_802 : decode cL_law 802 = .ok (.iinc 3 4, 3) := by decide +kernel
theorem dL_law_805 : decode cL_law 805 = .ok (.goto (-787), 3) := by decide +kernel
theorem dL_law_808 : decode cL_law 808 = .ok (.iconst 1, 1) := by decide +kernel
theorem dL_law_809 : decode cL_law 809 = .ok (.ireturn, 1) := by decide +kernel

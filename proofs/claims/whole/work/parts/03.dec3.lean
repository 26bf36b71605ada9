theorem dX6_refuse_1 : decode cX6_refuse 1 = .ok (.getfield 7, 3) := by decide +kernel
theorem dX6_refuse_4 : decode cX6_refuse 4 = .ok (.iload_n 1, 1) := by decide +kernel
theorem dX6_refuse_5 : decode cX6_refuse 5 = .ok (.ineg, 1) := by decide +kernel
theorem dX6_refuse_6 : decode cX6_refuse 6 = .ok (.dup2, 1) := by decide +kernel
theorem dX6_refuse_7 : decode cX6_refuse 7 = .ok (.iaload, 1) := by decide +kernel
theorem dX6_refuse_8 : decode cX6_refuse 8 = .ok (.iconst 1, 1) := by decide +kernel
theorem dX6_refuse_9 : decode cX6_refuse 9 = .ok (.iadd, 1) := by decide +kernel
theorem dX6_refuse_10 : decode cX6_refuse 10 = .ok (.iastore, 1) := by decide +kernel
theorem dX6_refuse_11 : decode cX6_refuse 11 = .ok (.iload_n 1, 1) := by decide +kernel
theorem dX6_refuse_12 : decode cX6_refuse 12 = .ok (.ireturn, 1) := by decide +kernel
theorem dX6_isIn_0 : decode cX6_isIn 0 = .ok (.iload_n 0, 1) := by decide +kernel
theorem dX6_isIn_1 : decode cX6_isIn 1 = .ok (.ifCond .lt 12, 3) := by decide +kernel
theorem dX6_isIn_4 : decode cX6_isIn 4 = .ok (.iload_n 0, 1) := by decide +kernel
theorem dX6_isIn_5 : decode cX6_isIn 5 = .ok (.iload_n 1, 1) := by decide +kernel
theorem dX6_isIn_6 : decode cX6_isIn 6 = .ok (.if_icmp .ge 7, 3) := by decide +kernel
theorem dX6_isIn_9 : decode cX6_isIn 9 = .ok (.iconst 1, 1) := by decide +kernel
theorem dX6_isIn_10 : decode cX6_isIn 10 = .ok (.goto 4, 3) := by decide +kernel
theorem dX6_isIn_13 : decode cX6_isIn 13 = .ok (.iconst 0, 1) := by decide +kernel
theorem dX6_isIn_14 : decode cX6_isIn 14 = .ok (.ireturn, 1) := by decide +kernel
theorem dX6_within_0 : decode cX6_within 0 = .ok (.iload_n 0, 1) := by decide +kernel
theorem dX6_within_1 : decode cX6_within 1 = .ok (.iload_n 1, 1) := by decide +kernel
theorem dX6_within_2 : decode cX6_within 2 = .ok (.if_icmp .ge 8, 3) := by decide +kernel
theorem dX6_within_5 : decode cX6_within 5 = .ok (.bipush (-4), 2) := by decide +kernel
theorem dX6_within_7 : decode cX6_within 7 = .ok (.goto 14, 3) := by decide +kernel
theorem dX6_within_10 : decode cX6_within 10 = .ok (.iload_n 0, 1) := by decide +kernel
theorem dX6_within_11 : decode cX6_within 11 = .ok (.iload_n 2, 1) := by decide +kernel
theorem dX6_within_12 : decode cX6_within 12 = .ok (.if_icmp .le 8, 3) := by decide +kernel
theorem dX6_within_15 : decode cX6_within 15 = .ok (.bipush (-6), 2) := by decide +kernel
theorem dX6_within_17 : decode cX6_within 17 = .ok (.goto 4, 3) := by decide +kernel
theorem dX6_within_20 : decode cX6_within 20 = .ok (.iconst 0, 1) := by decide +kernel
theorem dX6_within_21 : decode cX6_within 21 = .ok (.ireturn, 1) := by decide +kernel
theorem dX6_copies_0 : decode cX6_copies 0 = .ok (.iconst 0, 1) := by decide +kernel
theorem dX6_copies_1 : decode cX6_copies 1 = .ok (.istore_n 2, 1) := by decide +kernel
theorem dX6_copies_2 : decode cX6_copies 2 = .ok (.iload_n 2, 1) := by decide +kernel
theorem dX6_copies_3 : decode cX6_copies 3 = .ok (.bipush 79, 2) := by decide +kernel
theorem dX6_copies_5 : decode cX6_copies 5 = .ok (.if_icmp .ge 15, 3) := by decide +kernel
theorem dX6_copies_8 : decode cX6_copies 8 = .ok (.aload_n 1, 1) := by decide +kernel
theorem dX6_copies_9 : decode cX6_copies 9 = .ok (.iload_n 2, 1) := by decide +kernel
theorem dX6_copies_10 : decode cX6_copies 10 = .ok (.aload_n 0, 1) := by decide +kernel
theorem dX6_copies_11 : decode cX6_copies 11 = .ok (.iload_n 2, 1) := by decide +kernel
theorem dX6_copies_12 : decode cX6_copies 12 = .ok (.iaload, 1) := by decide +kernel
theorem dX6_copies_13 : decode cX6_copies 13 = .ok (.iastore, 1) := by decide +kernel
theorem dX6_copies_14 : decode cX6_copies 14 = .ok (.iinc 2 1, 3) := by decide +kernel
theorem dX6_copies_17 : decode cX6_copies 17 = .ok (.goto (-15), 3) := by decide +kernel
theorem dX6_copies_20 : decode cX6_copies 20 = .ok (.return_, 1) := by decide +kernel
theorem dX6_isDoor_0 : decode cX6_isDoor 0 = .ok (.iload_n 1, 1) := by decide +kernel
theorem dX6_isDoor_1 : decode cX6_isDoor 1 = .ok (.iconst 1, 1) := by decide +kernel
theorem dX6_isDoor_2 : decode cX6_isDoor 2 = .ok (.if_icmp .lt 17, 3) := by decide +kernel
theorem dX6_isDoor_5 : decode cX6_isDoor 5 = .ok (.iload_n 1, 1) := by decide +kernel
theorem dX6_isDoor_6 : decode cX6_isDoor 6 = .ok (.aload_n 0, 1) := by decide +kernel
theorem dX6_isDoor_7 : decode cX6_isDoor 7 = .ok (.getfield 13, 3) := by decide +kernel
theorem dX6_isDoor_10 : decode cX6_isDoor 10 = .ok (.iconst 0, 1) := by decide +kernel
theorem dX6_isDoor_11 : decode cX6_isDoor 11 = .ok (.iaload, 1) := by decide +kernel
theorem dX6_isDoor_12 : decode cX6_isDoor 12 = .ok (.if_icmp .gt 7, 3) := by decide +kernel
theorem dX6_isDoor_15 : decode cX6_isDoor 15 = .ok (.iconst 1, 1) := by decide +kernel
theorem dX6_isDoor_16 : decode cX6_isDoor 16 = .ok (.goto 4, 3) := by decide +kernel
theorem dX6_isDoor_19 : decode cX6_isDoor 19 = .ok (.iconst 0, 1) := by decide +kernel
theorem dX6_isDoor_20 : decode cX6_isDoor 20 = .ok (.ireturn, 1) := by decide +kernel
theorem dX6_isPerson_0 : decode cX6_isPerson 0 = .ok (.iload_n 1, 1) := by decide +kernel
theorem dX6_isPerson_1 : decode cX6_isPerson 1 = .ok (.aload_n 0, 1) := by decide +kernel
theorem dX6_isPerson_2 : decode cX6_isPerson 2 = .ok (.getfield 13, 3) := by decide +kernel
theorem dX6_isPerson_5 : decode cX6_isPerson 5 = .ok (.iconst 2, 1) := by decide +kernel
theorem dX6_isPerson_6 : decode cX6_isPerson 6 = .ok (.iaload, 1) := by decide +kernel
theorem dX6_isPerson_7 : decode cX6_isPerson 7 = .ok (.invokestatic 40, 3) := by decide +kernel
theorem dX6_isPerson_10 : decode cX6_isPerson 10 = .ok (.ireturn, 1) := by decide +kernel
theorem dX6_get_0 : decode cX6_get 0 = .ok (.aload_n 0, 1) := by decide +kernel
theorem dX6_get_1 : decode cX6_get 1 = .ok (.getfield 13, 3) := by decide +kernel
theorem dX6_get_4 : decode cX6_get 4 = .ok (.bipush 40, 2) := by decide +kernel
theorem dX6_get_6 : decode cX6_get 6 = .ok (.iconst 4, 1) := by decide +kernel
theorem dX6_get_7 : decode cX6_get 7 = .ok (.iload_n 1, 1) := by decide +kernel
theorem dX6_get_8 : decode cX6_get 8 = .ok (.imul, 1) := by decide +kernel
theorem dX6_get_9 : decode cX6_get 9 = .ok (.iadd, 1) := by decide +kernel
theorem dX6_get_10 : decode cX6_get 10 = .ok (.iload_n 2, 1) := by decide +kernel
theorem dX6_get_11 : decode cX6_get 11 = .ok (.iadd, 1) := by decide +kernel
theorem dX6_get_12 : decode cX6_get 12 = .ok (.iaload, 1) := by decide +kernel
theorem dX6_get_13 : decode cX6_get 13 = .ok (.ireturn, 1) := by decide +kernel
theorem dX6_letter_0 : decode cX6_letter 0 = .ok (.iload_n 1, 1) := by decide +kernel
theorem dX6_letter_1 : decode cX6_letter 1 = .ok (.iconst 0, 1) := by decide +kernel
theorem dX6_letter_2 : decode cX6_letter 2 = .ok (.sipush 255, 3) := by decide +kernel
theorem dX6_letter_5 : decode cX6_letter 5 = .ok (.invokestatic 44, 3) := by decide +kernel
theorem dX6_letter_8 : decode cX6_letter 8 = .ok (.istore_n 2, 1) := by decide +kernel
theorem dX6_letter_9 : decode cX6_letter 9 = .ok (.iload_n 2, 1) := by decide +kernel
theorem dX6_letter_10 : decode cX6_letter 10 = .ok (.ifCond .ne 15, 3) := by decide +kernel
theorem dX6_letter_13 : decode cX6_letter 13 = .ok (.aload_n 0, 1) := by decide +kernel
theorem dX6_letter_14 : decode cX6_letter 14 = .ok (.getfield 48, 3) := by decide +kernel
theorem dX6_letter_17 : decode cX6_letter 17 = .ok (.bipush 64, 2) := by decide +kernel
theorem dX6_letter_19 : decode cX6_letter 19 = .ok (.if_icmp .ne 6, 3) := by decide +kernel
theorem dX6_letter_22 : decode cX6_letter 22 = .ok (.bipush (-6), 2) := by decide +kernel
theorem dX6_letter_24 : decode cX6_letter 24 = .ok (.istore_n 2, 1) := by decide +kernel
theorem dX6_letter_25 : decode cX6_letter 25 = .ok (.iload_n 2, 1) := by decide +kernel
theorem dX6_letter_26 : decode cX6_letter 26 = .ok (.ifCond .eq 9, 3) := by decide +kernel
theorem dX6_letter_29 : decode cX6_letter 29 = .ok (.aload_n 0, 1) := by decide +kernel
theorem dX6_letter_30 : decode cX6_letter 30 = .ok (.iload_n 2, 1) := by decide +kernel
theorem dX6_letter_31 : decode cX6_letter 31 = .ok (.invokevirtual 52, 3) := by decide +kernel
theorem dX6_letter_34 : decode cX6_letter 34 = .ok (.ireturn, 1) := by decide +kernel
theorem dX6_letter_35 : decode cX6_letter 35 = .ok (.aload_n 0, 1) := by decide +kernel
theorem dX6_letter_36 : decode cX6_letter 36 = .ok (.getfield 22, 3) := by decide +kernel
theorem dX6_letter_39 : decode cX6_letter 39 = .ok (.aload_n 0, 1) := by decide +kernel
theorem dX6_letter_40 : decode cX6_letter 40 = .ok (.getfield 48, 3) := by decide +kernel
theorem dX6_letter_43 : decode cX6_letter 43 = .ok (.iload_n 1, 1) := by decide +kernel
theorem dX6_letter_44 : decode cX6_letter 44 = .ok (.iastore, 1) := by decide +kernel
theorem dX6_letter_45 : decode cX6_letter 45 = .ok (.aload_n 0, 1) := by decide +kernel
theorem dX6_letter_46 : decode cX6_letter 46 = .ok (.dup, 1) := by decide +kernel
theorem dX6_letter_47 : decode cX6_letter 47 = .ok (.getfield 48, 3) := by decide +kernel
theorem dX6_letter_50 : decode cX6_letter 50 = .ok (.iconst 1, 1) := by decide +kernel
theorem dX6_letter_51 : decode cX6_letter 51 = .ok (.iadd, 1) := by decide +kernel
theorem dX6_letter_52 : decode cX6_letter 52 = .ok (.putfield 48, 3) := by decide +kernel
theorem dX6_letter_55 : decode cX6_letter 55 = .ok (.aload_n 0, 1) := by decide +kernel
theorem dX6_letter_56 : decode cX6_letter 56 = .ok (.getfield 48, 3) := by decide +kernel
theorem dX6_letter_59 : decode cX6_letter 59 = .ok (.ireturn, 1) := by decide +kernel
theorem dX6_sign_0 : decode cX6_sign 0 = .ok (.aload_n 0, 1) := by decide +kernel
theorem dX6_sign_1 : decode cX6_sign 1 = .ok (.getfield 56, 3) := by decide +kernel
theorem dX6_sign_4 : decode cX6_sign 4 = .ok (.aload_n 0, 1) := by decide +kernel
theorem dX6_sign_5 : decode cX6_sign 5 = .ok (.getfield 48, 3) := by decide +kernel
theorem dX6_sign_8 : decode cX6_sign 8 = .ok (.if_icmp .ge 15, 3) := by decide +kernel
theorem dX6_sign_11 : decode cX6_sign 11 = .ok (.aload_n 0, 1) := by decide +kernel
theorem dX6_sign_12 : decode cX6_sign 12 = .ok (.getfield 22, 3) := by decide +kernel
theorem dX6_sign_15 : decode cX6_sign 15 = .ok (.aload_n 0, 1) := by decide +kernel
theorem dX6_sign_16 : decode cX6_sign 16 = .ok (.getfield 56, 3) := by decide +kernel
theorem dX6_sign_19 : decode cX6_sign 19 = .ok (.iaload, 1) := by decide +kernel
theorem dX6_sign_20 : decode cX6_sign 20 = .ok (.goto 4, 3) := by decide +kernel
theorem dX6_sign_23 : decode cX6_sign 23 = .ok (.iconst (-1), 1) := by decide +kernel
theorem dX6_sign_24 : decode cX6_sign 24 = .ok (.ireturn, 1) := by decide +kernel
theorem dX6_takes_0 : decode cX6_takes 0 = .ok (.aload_n 0, 1) := by decide +kernel
theorem dX6_takes_1 : decode cX6_takes 1 = .ok (.invokevirtual 59, 3) := by decide +kernel
theorem dX6_takes_4 : decode cX6_takes 4 = .ok (.iload_n 1, 1) := by decide +kernel
theorem dX6_takes_5 : decode cX6_takes 5 = .ok (.if_icmp .eq 5, 3) := by decide +kernel
theorem dX6_takes_8 : decode cX6_takes 8 = .ok (.iconst 0, 1) := by decide +kernel
theorem dX6_takes_9 : decode cX6_takes 9 = .ok (.ireturn, 1) := by decide +kernel
theorem dX6_takes_10 : decode cX6_takes 10 = .ok (.aload_n 0, 1) := by decide +kernel
theorem dX6_takes_11 : decode cX6_takes 11 = .ok (.dup, 1) := by decide +kernel
theorem dX6_takes_12 : decode cX6_takes 12 = .ok (.getfield 56, 3) := by decide +kernel
theorem dX6_takes_15 : decode cX6_takes 15 = .ok (.iconst 1, 1) := by decide +kernel
theorem dX6_takes_16 : decode cX6_takes 16 = .ok (.iadd, 1) := by decide +kernel
theorem dX6_takes_17 : decode cX6_takes 17 = .ok (.putfield 56, 3) := by decide +kernel
theorem dX6_takes_20 : decode cX6_takes 20 = .ok (.iconst 1, 1) := by decide +kernel
theorem dX6_takes_21 : decode cX6_takes 21 = .ok (.ireturn, 1) := by decide +kernel
theorem dX6_isDigit_0 : decode cX6_isDigit 0 = .ok (.aload_n 0, 1) := by decide +kernel
theorem dX6_isDigit_1 : decode cX6_isDigit 1 = .ok (.invokevirtual 59, 3) := by decide +kernel
theorem dX6_isDigit_4 : decode cX6_isDigit 4 = .ok (.bipush 48, 2) := by decide +kernel
theorem dX6_isDigit_6 : decode cX6_isDigit 6 = .ok (.if_icmp .lt 16, 3) := by decide +kernel
theorem dX6_isDigit_9 : decode cX6_isDigit 9 = .ok (.aload_n 0, 1) := by decide +kernel
theorem dX6_isDigit_10 : decode cX6_isDigit 10 = .ok (.invokevirtual 59, 3) := by decide +kernel
theorem dX6_isDigit_13 : decode cX6_isDigit 13 = .ok (.bipush 57, 2) := by decide +kernel
theorem dX6_isDigit_15 : decode cX6_isDigit 15 = .ok (.if_icmp .gt 7, 3) := by decide +kernel
theorem dX6_isDigit_18 : decode cX6_isDigit 18 = .ok (.iconst 1, 1) := by decide +kernel
theorem dX6_isDigit_19 : decode cX6_isDigit 19 = .ok (.goto 4, 3) := by decide +kernel
theorem dX6_isDigit_22 : decode cX6_isDigit 22 = .ok (.iconst 0, 1) := by decide +kernel
theorem dX6_isDigit_23 : decode cX6_isDigit 23 = .ok (.ireturn, 1) := by decide +kernel
theorem dX6_readsNumber_0 : decode cX6_readsNumber 0 = .ok (.aload_n 0, 1) := by decide +kernel
theorem dX6_readsNumber_1 : decode cX6_readsNumber 1 = .ok (.getfield 25, 3) := by decide +kernel
theorem dX6_readsNumber_4 : decode cX6_readsNumber 4 = .ok (.iload_n 1, 1) := by decide +kernel
theorem dX6_readsNumber_5 : decode cX6_readsNumber 5 = .ok (.iconst 0, 1) := by decide +kernel
theorem dX6_readsNumber_6 : decode cX6_readsNumber 6 = .ok (.iastore, 1) := by decide +kernel
theorem dX6_readsNumber_7 : decode cX6_readsNumber 7 = .ok (.iconst 0, 1) := by decide +kernel
theorem dX6_readsNumber_8 : decode cX6_readsNumber 8 = .ok (.istore_n 3, 1) := by decide +kernel
theorem dX6_readsNumber_9 : decode cX6_readsNumber 9 = .ok (.iload_n 3, 1) := by decide +kernel
theorem dX6_readsNumber_10 : decode cX6_readsNumber 10 = .ok (.iload_n 2, 1) := by decide +kernel
theorem dX6_readsNumber_11 : decode cX6_readsNumber 11 = .ok (.if_icmp .ge 49, 3) := by decide +kernel
theorem dX6_readsNumber_14 : decode cX6_readsNumber 14 = .ok (.aload_n 0, 1) := by decide +kernel
theorem dX6_readsNumber_15 : decode cX6_readsNumber 15 = .ok (.invokevirtual 63, 3) := by decide +kernel
theorem dX6_readsNumber_18 : decode cX6_readsNumber 18 = .ok (.ifCond .eq 42, 3) := by decide +kernel
theorem dX6_readsNumber_21 : decode cX6_readsNumber 21 = .ok (.aload_n 0, 1) := by decide +kernel
theorem dX6_readsNumber_22 : decode cX6_readsNumber 22 = .ok (.getfield 25, 3) := by decide +kernel
theorem dX6_readsNumber_25 : decode cX6_readsNumber 25 = .ok (.iload_n 1, 1) := by decide +kernel
theorem dX6_readsNumber_26 : decode cX6_readsNumber 26 = .ok (.bipush 10, 2) := by decide +kernel
theorem dX6_readsNumber_28 : decode cX6_readsNumber 28 = .ok (.aload_n 0, 1) := by decide +kernel
theorem dX6_readsNumber_29 : decode cX6_readsNumber 29 = .ok (.getfield 25, 3) := by decide +kernel
theorem dX6_readsNumber_32 : decode cX6_readsNumber 32 = .ok (.iload_n 1, 1) := by decide +kernel
theorem dX6_readsNumber_33 : decode cX6_readsNumber 33 = .ok (.iaload, 1) := by decide +kernel
theorem dX6_readsNumber_34 : decode cX6_readsNumber 34 = .ok (.imul, 1) := by decide +kernel
theorem dX6_readsNumber_35 : decode cX6_readsNumber 35 = .ok (.aload_n 0, 1) := by decide +kernel
theorem dX6_readsNumber_36 : decode cX6_readsNumber 36 = .ok (.invokevirtual 59, 3) := by decide +kernel
theorem dX6_readsNumber_39 : decode cX6_readsNumber 39 = .ok (.iadd, 1) := by decide +kernel
theorem dX6_readsNumber_40 : decode cX6_readsNumber 40 = .ok (.bipush 48, 2) := by decide +kernel
theorem dX6_readsNumber_42 : decode cX6_readsNumber 42 = .ok (.isub, 1) := by decide +kernel
theorem dX6_readsNumber_43 : decode cX6_readsNumber 43 = .ok (.iastore, 1) := by decide +kernel
theorem dX6_readsNumber_44 : decode cX6_readsNumber 44 = .ok (.aload_n 0, 1) := by decide +kernel
theorem dX6_readsNumber_45 : decode cX6_readsNumber 45 = .ok (.dup, 1) := by decide +kernel
theorem dX6_readsNumber_46 : decode cX6_readsNumber 46 = .ok (.getfield 56, 3) := by decide +kernel
theorem dX6_readsNumber_49 : decode cX6_readsNumber 49 = .ok (.iconst 1, 1) := by decide +kernel
theorem dX6_readsNumber_50 : decode cX6_readsNumber 50 = .ok (.iadd, 1) := by decide +kernel
theorem dX6_readsNumber_51 : decode cX6_readsNumber 51 = .ok (.putfield 56, 3) := by decide +kernel
theorem dX6_readsNumber_54 : decode cX6_readsNumber 54 = .ok (.iinc 3 1, 3) := by decide +kernel
theorem dX6_readsNumber_57 : decode cX6_readsNumber 57 = .ok (.goto (-48), 3) := by decide +kernel
theorem dX6_readsNumber_60 : decode cX6_readsNumber 60 = .ok (.iload_n 3, 1) := by decide +kernel
theorem dX6_readsNumber_61 : decode cX6_readsNumber 61 = .ok (.ifCond .le 7, 3) := by decide +kernel
theorem dX6_readsNumber_64 : decode cX6_readsNumber 64 = .ok (.iconst 1, 1) := by decide +kernel
theorem dX6_readsNumber_65 : decode cX6_readsNumber 65 = .ok (.goto 4, 3) := by decide +kernel
theorem dX6_readsNumber_68 : decode cX6_readsNumber 68 = .ok (.iconst 0, 1) := by decide +kernel
theorem dX6_readsNumber_69 : decode cX6_readsNumber 69 = .ok (.ireturn, 1) := by decide +kernel
theorem dX6_readsRow_0 : decode cX6_readsRow 0 = .ok (.aload_n 0, 1) := by decide +kernel
theorem dX6_readsRow_1 : decode cX6_readsRow 1 = .ok (.iconst 0, 1) := by decide +kernel
theorem dX6_readsRow_2 : decode cX6_readsRow 2 = .ok (.putfield 67, 3) := by decide +kernel
theorem dX6_readsRow_5 : decode cX6_readsRow 5 = .ok (.aload_n 0, 1) := by decide +kernel
theorem dX6_readsRow_6 : decode cX6_readsRow 6 = .ok (.getfield 67, 3) := by decide +kernel
theorem dX6_readsRow_9 : decode cX6_readsRow 9 = .ok (.bipush 12, 2) := by decide +kernel
theorem dX6_readsRow_11 : decode cX6_readsRow 11 = .ok (.if_icmp .ge 49, 3) := by decide +kernel
theorem dX6_readsRow_14 : decode cX6_readsRow 14 = .ok (.aload_n 0, 1) := by decide +kernel
theorem dX6_readsRow_15 : decode cX6_readsRow 15 = .ok (.invokevirtual 63, 3) := by decide +kernel
theorem dX6_readsRow_18 : decode cX6_readsRow 18 = .ok (.ifCond .eq 42, 3) := by decide +kernel
theorem dX6_readsRow_21 : decode cX6_readsRow 21 = .ok (.aload_n 0, 1) := by decide +kernel
theorem dX6_readsRow_22 : decode cX6_readsRow 22 = .ok (.getfield 25, 3) := by decide +kernel
theorem dX6_readsRow_25 : decode cX6_readsRow 25 = .ok (.aload_n 0, 1) := by decide +kernel
theorem dX6_readsRow_26 : decode cX6_readsRow 26 = .ok (.getfield 67, 3) := by decide +kernel
theorem dX6_readsRow_29 : decode cX6_readsRow 29 = .ok (.aload_n 0, 1) := by decide +kernel
theorem dX6_readsRow_30 : decode cX6_readsRow 30 = .ok (.invokevirtual 59, 3) := by decide +kernel
theorem dX6_readsRow_33 : decode cX6_readsRow 33 = .ok (.bipush 48, 2) := by decide +kernel
theorem dX6_readsRow_35 : decode cX6_readsRow 35 = .ok (.isub, 1) := by decide +kernel
theorem dX6_readsRow_36 : decode cX6_readsRow 36 = .ok (.iastore, 1) := by decide +kernel
theorem dX6_readsRow_37 : decode cX6_readsRow 37 = .ok (.aload_n 0, 1) := by decide +kernel
theorem dX6_readsRow_38 : decode cX6_readsRow 38 = .ok (.dup, 1) := by decide +kernel
theorem dX6_readsRow_39 : decode cX6_readsRow 39 = .ok (.getfield 67, 3) := by decide +kernel
theorem dX6_readsRow_42 : decode cX6_readsRow 42 = .ok (.iconst 1, 1) := by decide +kernel
theorem dX6_readsRow_43 : decode cX6_readsRow 43 = .ok (.iadd, 1) := by decide +kernel
theorem dX6_readsRow_44 : decode cX6_readsRow 44 = .ok (.putfield 67, 3) := by decide +kernel
theorem dX6_readsRow_47 : decode cX6_readsRow 47 = .ok (.aload_n 0, 1) := by decide +kernel
theorem dX6_readsRow_48 : decode cX6_readsRow 48 = .ok (.dup, 1) := by decide +kernel
theorem dX6_readsRow_49 : decode cX6_readsRow 49 = .ok (.getfield 56, 3) := by decide +kernel
theorem dX6_readsRow_52 : decode cX6_readsRow 52 = .ok (.iconst 1, 1) := by decide +kernel
theorem dX6_readsRow_53 : decode cX6_readsRow 53 = .ok (.iadd, 1) := by decide +kernel
theorem dX6_readsRow_54 : decode cX6_readsRow 54 = .ok (.putfield 56, 3) := by decide +kernel
theorem dX6_readsRow_57 : decode cX6_readsRow 57 = .ok (.goto (-52), 3) := by decide +kernel
theorem dX6_readsRow_60 : decode cX6_readsRow 60 = .ok (.aload_n 0, 1) := by decide +kernel
theorem dX6_readsRow_61 : decode cX6_readsRow 61 = .ok (.getfield 67, 3) := by decide +kernel
theorem dX6_readsRow_64 : decode cX6_readsRow 64 = .ok (.ifCond .le 7, 3) := by decide +kernel
theorem dX6_readsRow_67 : decode cX6_readsRow 67 = .ok (.iconst 1, 1) := by decide +kernel
theorem dX6_readsRow_68 : decode cX6_readsRow 68 = .ok (.goto 4, 3) := by decide +kernel
theorem dX6_readsRow_71 : decode cX6_readsRow 71 = .ok (.iconst 0, 1) := by decide +kernel
theorem dX6_readsRow_72 : decode cX6_readsRow 72 = .ok (.ireturn, 1) := by decide +kernel
theorem dX6_kindOf_0 : decode cX6_kindOf 0 = .ok (.iload_n 0, 1) := by decide +kernel
theorem dX6_kindOf_1 : decode cX6_kindOf 1 = .ok (.lookupswitch 71 #[(98, 63), (100, 61), (101, 65), (109, 59), (117, 69), (120, 67)], 59) := by decide +kernel
theorem dX6_kindOf_60 : decode cX6_kindOf 60 = .ok (.iconst 0, 1) := by decide +kernel
theorem dX6_kindOf_61 : decode cX6_kindOf 61 = .ok (.ireturn, 1) := by decide +kernel
theorem dX6_kindOf_62 : decode cX6_kindOf 62 = .ok (.iconst 1, 1) := by decide +kernel
theorem dX6_kindOf_63 : decode cX6_kindOf 63 = .ok (.ireturn, 1) := by decide +kernel
theorem dX6_kindOf_64 : decode cX6_kindOf 64 = .ok (.iconst 2, 1) := by decide +kernel
theorem dX6_kindOf_65 : decode cX6_kindOf 65 = .ok (.ireturn, 1) := by decide +kernel
theorem dX6_kindOf_66 : decode cX6_kindOf 66 = .ok (.iconst 3, 1) := by decide +kernel
theorem dX6_kindOf_67 : decode cX6_kindOf 67 = .ok (.ireturn, 1) := by decide +kernel
theorem dX6_kindOf_68 : decode cX6_kindOf 68 = .ok (.iconst 4, 1) := by decide +kernel
theorem dX6_kindOf_69 : decode cX6_kindOf 69 = .ok (.ireturn, 1) := by decide +kernel
theorem dX6_kindOf_70 : decode cX6_kindOf 70 = .ok (.iconst 5, 1) := by decide +kernel
theorem dX6_kindOf_71 : decode cX6_kindOf 71 = .ok (.ireturn, 1) := by decide +kernel
theorem dX6_kindOf_72 : decode cX6_kindOf 72 = .ok (.bipush (-9), 2) := by decide +kernel
theorem dX6_kindOf_74 : decode cX6_kindOf 74 = .ok (.ireturn, 1) := by decide +kernel
theorem dX6_readsKind_0 : decode cX6_readsKind 0 = .ok (.aload_n 0, 1) := by decide +kernel
theorem dX6_readsKind_1 : decode cX6_readsKind 1 = .ok (.getfield 25, 3) := by decide +kernel
theorem dX6_readsKind_4 : decode cX6_readsKind 4 = .ok (.iconst 0, 1) := by decide +kernel
theorem dX6_readsKind_5 : decode cX6_readsKind 5 = .ok (.aload_n 0, 1) := by decide +kernel
theorem dX6_readsKind_6 : decode cX6_readsKind 6 = .ok (.invokevirtual 59, 3) := by decide +kernel
theorem dX6_readsKind_9 : decode cX6_readsKind 9 = .ok (.invokestatic 70, 3) := by decide +kernel
theorem dX6_readsKind_12 : decode cX6_readsKind 12 = .ok (.iastore, 1) := by decide +kernel
theorem dX6_readsKind_13 : decode cX6_readsKind 13 = .ok (.aload_n 0, 1) := by decide +kernel
theorem dX6_readsKind_14 : decode cX6_readsKind 14 = .ok (.getfield 25, 3) := by decide +kernel
theorem dX6_readsKind_17 : decode cX6_readsKind 17 = .ok (.iconst 0, 1) := by decide +kernel
theorem dX6_readsKind_18 : decode cX6_readsKind 18 = .ok (.iaload, 1) := by decide +kernel
theorem dX6_readsKind_19 : decode cX6_readsKind 19 = .ok (.ifCond .ge 5, 3) := by decide +kernel
theorem dX6_readsKind_22 : decode cX6_readsKind 22 = .ok (.iconst 0, 1) := by decide +kernel
theorem dX6_readsKind_23 : decode cX6_readsKind 23 = .ok (.ireturn, 1) := by decide +kernel
theorem dX6_readsKind_24 : decode cX6_readsKind 24 = .ok (.aload_n 0, 1) := by decide +kernel
theorem dX6_readsKind_25 : decode cX6_readsKind 25 = .ok (.dup, 1) := by decide +kernel
theorem dX6_readsKind_26 : decode cX6_readsKind 26 = .ok (.getfield 56, 3) := by decide +kernel
theorem dX6_readsKind_29 : decode cX6_readsKind 29 = .ok (.iconst 1, 1) := by decide +kernel
theorem dX6_readsKind_30 : decode cX6_readsKind 30 = .ok (.iadd, 1) := by decide +kernel
theorem dX6_readsKind_31 : decode cX6_readsKind 31 = .ok (.putfield 56, 3) := by decide +kernel
theorem dX6_readsKind_34 : decode cX6_readsKind 34 = .ok (.iconst 1, 1) := by decide +kernel
theorem dX6_readsKind_35 : decode cX6_readsKind 35 = .ok (.ireturn, 1) := by decide +kernel
theorem dX6_readsStatement_0 : decode cX6_readsStatement 0 = .ok (.aload_n 0, 1) := by decide +kernel
theorem dX6_readsStatement_1 : decode cX6_readsStatement 1 = .ok (.invokevirtual 59, 3) := by decide +kernel
theorem dX6_readsStatement_4 : decode cX6_readsStatement 4 = .ok (.istore_n 1, 1) := by decide +kernel
theorem dX6_readsStatement_5 : decode cX6_readsStatement 5 = .ok (.iconst 0, 1) := by decide +kernel
theorem dX6_readsStatement_6 : decode cX6_readsStatement 6 = .ok (.istore_n 2, 1) := by decide +kernel
theorem dX6_readsStatement_7 : decode cX6_readsStatement 7 = .ok (.aload_n 0, 1) := by decide +kernel
theorem dX6_readsStatement_8 : decode cX6_readsStatement 8 = .ok (.dup, 1) := by decide +kernel
theorem dX6_readsStatement_9 : decode cX6_readsStatement 9 = .ok (.getfield 56, 3) := by decide +kernel
theorem dX6_readsStatement_12 : decode cX6_readsStatement 12 = .ok (.iconst 1, 1) := by decide +kernel
theorem dX6_readsStatement_13 : decode cX6_readsStatement 13 = .ok (.iadd, 1) := by decide +kernel
theorem dX6_readsStatement_14 : decode cX6_readsStatement 14 = .ok (.putfield 56, 3) := by decide +kernel
theorem dX6_readsStatement_17 : decode cX6_readsStatement 17 = .ok (.iload_n 1, 1) := by decide +kernel
theorem dX6_readsStatement_18 : decode cX6_readsStatement 18 = .ok (.tableswitch 167 104 119 #[159, 167, 167, 88, 167, 167, 78, 167, 98, 167, 167, 78, 167, 167, 167, 159], 78) := by decide +kernel
theorem dX6_readsStatement_96 : decode cX6_readsStatement 96 = .ok (.aload_n 0, 1) := by decide +kernel
theorem dX6_readsStatement_97 : decode cX6_readsStatement 97 = .ok (.iconst 0, 1) := by decide +kernel
theorem dX6_readsStatement_98 : decode cX6_readsStatement 98 = .ok (.iconst 2, 1) := by decide +kernel
theorem dX6_readsStatement_99 : decode cX6_readsStatement 99 = .ok (.invokevirtual 73, 3) := by decide +kernel
theorem dX6_readsStatement_102 : decode cX6_readsStatement 102 = .ok (.istore_n 2, 1) := by decide +kernel
theorem dX6_readsStatement_103 : decode cX6_readsStatement 103 = .ok (.goto 94, 3) := by decide +kernel
theorem dX6_readsStatement_106 : decode cX6_readsStatement 106 = .ok (.aload_n 0, 1) := by decide +kernel
theorem dX6_readsStatement_107 : decode cX6_readsStatement 107 = .ok (.iconst 0, 1) := by decide +kernel
theorem dX6_readsStatement_108 : decode cX6_readsStatement 108 = .ok (.iconst 1, 1) := by decide +kernel
theorem dX6_readsStatement_109 : decode cX6_readsStatement 109 = .ok (.invokevirtual 73, 3) := by decide +kernel
theorem dX6_readsStatement_112 : decode cX6_readsStatement 112 = .ok (.istore_n 2, 1) := by decide +kernel
theorem dX6_readsStatement_113 : decode cX6_readsStatement 113 = .ok (.goto 84, 3) := by decide +kernel
theorem dX6_readsStatement_116 : decode cX6_readsStatement 116 = .ok (.aload_n 0, 1) := by decide +kernel
theorem dX6_readsStatement_117 : decode cX6_readsStatement 117 = .ok (.invokevirtual 76, 3) := by decide +kernel
theorem dX6_readsStatement_120 : decode cX6_readsStatement 120 = .ok (.ifCond .eq 52, 3) := by decide +kernel
theorem dX6_readsStatement_123 : decode cX6_readsStatement 123 = .ok (.aload_n 0, 1) := by decide +kernel
theorem dX6_readsStatement_124 : decode cX6_readsStatement 124 = .ok (.iconst 1, 1) := by decide +kernel
theorem dX6_readsStatement_125 : decode cX6_readsStatement 125 = .ok (.iconst 2, 1) := by decide +kernel
theorem dX6_readsStatement_126 : decode cX6_readsStatement 126 = .ok (.invokevirtual 73, 3) := by decide +kernel
theorem dX6_readsStatement_129 : decode cX6_readsStatement 129 = .ok (.ifCond .eq 43, 3) := by decide +kernel
theorem dX6_readsStatement_132 : decode cX6_readsStatement 132 = .ok (.aload_n 0, 1) := by decide +kernel
theorem dX6_readsStatement_133 : decode cX6_readsStatement 133 = .ok (.bipush 44, 2) := by decide +kernel
theorem dX6_readsStatement_135 : decode cX6_readsStatement 135 = .ok (.invokevirtual 79, 3) := by decide +kernel
theorem dX6_readsStatement_138 : decode cX6_readsStatement 138 = .ok (.ifCond .eq 34, 3) := by decide +kernel
theorem dX6_readsStatement_141 : decode cX6_readsStatement 141 = .ok (.aload_n 0, 1) := by decide +kernel
theorem dX6_readsStatement_142 : decode cX6_readsStatement 142 = .ok (.iconst 2, 1) := by decide +kernel
theorem dX6_readsStatement_143 : decode cX6_readsStatement 143 = .ok (.iconst 2, 1) := by decide +kernel
theorem dX6_readsStatement_144 : decode cX6_readsStatement 144 = .ok (.invokevirtual 73, 3) := by decide +kernel
theorem dX6_readsStatement_147 : decode cX6_readsStatement 147 = .ok (.ifCond .eq 25, 3) := by decide +kernel
theorem dX6_readsStatement_150 : decode cX6_readsStatement 150 = .ok (.aload_n 0, 1) := by decide +kernel
theorem dX6_readsStatement_151 : decode cX6_readsStatement 151 = .ok (.bipush 44, 2) := by decide +kernel
theorem dX6_readsStatement_153 : decode cX6_readsStatement 153 = .ok (.invokevirtual 79, 3) := by decide +kernel
theorem dX6_readsStatement_156 : decode cX6_readsStatement 156 = .ok (.ifCond .eq 16, 3) := by decide +kernel
theorem dX6_readsStatement_159 : decode cX6_readsStatement 159 = .ok (.aload_n 0, 1) := by decide +kernel
theorem dX6_readsStatement_160 : decode cX6_readsStatement 160 = .ok (.iconst 3, 1) := by decide +kernel
theorem dX6_readsStatement_161 : decode cX6_readsStatement 161 = .ok (.iconst 1, 1) := by decide +kernel
theorem dX6_readsStatement_162 : decode cX6_readsStatement 162 = .ok (.invokevirtual 73, 3) := by decide +kernel
theorem dX6_readsStatement_165 : decode cX6_readsStatement 165 = .ok (.ifCond .eq 7, 3) := by decide +kernel
theorem dX6_readsStatement_168 : decode cX6_readsStatement 168 = .ok (.iconst 1, 1) := by decide +kernel
theorem dX6_readsStatement_169 : decode cX6_readsStatement 169 = .ok (.goto 4, 3) := by decide +kernel
theorem dX6_readsStatement_172 : decode cX6_readsStatement 172 = .ok (.iconst 0, 1) := by decide +kernel
theorem dX6_readsStatement_173 : decode cX6_readsStatement 173 = .ok (.istore_n 2, 1) := by decide +kernel
theorem dX6_readsStatement_174 : decode cX6_readsStatement 174 = .ok (.goto 23, 3) := by decide +kernel
theorem dX6_readsStatement_177 : decode cX6_readsStatement 177 = .ok (.aload_n 0, 1) := by decide +kernel
theorem dX6_readsStatement_178 : decode cX6_readsStatement 178 = .ok (.invokevirtual 83, 3) := by decide +kernel
theorem dX6_readsStatement_181 : decode cX6_readsStatement 181 = .ok (.istore_n 2, 1) := by decide +kernel
theorem dX6_readsStatement_182 : decode cX6_readsStatement 182 = .ok (.goto 15, 3) := by decide +kernel
theorem dX6_readsStatement_185 : decode cX6_readsStatement 185 = .ok (.aload_n 0, 1) := by decide +kernel
theorem dX6_readsStatement_186 : decode cX6_readsStatement 186 = .ok (.dup, 1) := by decide +kernel
theorem dX6_readsStatement_187 : decode cX6_readsStatement 187 = .ok (.getfield 56, 3) := by decide +kernel
theorem dX6_readsStatement_190 : decode cX6_readsStatement 190 = .ok (.iconst 1, 1) := by decide +kernel
theorem dX6_readsStatement_191 : decode cX6_readsStatement 191 = .ok (.isub, 1) := by decide +kernel
theorem dX6_readsStatement_192 : decode cX6_readsStatement 192 = .ok (.putfield 56, 3) := by decide +kernel
theorem dX6_readsStatement_195 : decode cX6_readsStatement 195 = .ok (.iconst 0, 1) := by decide +kernel
theorem dX6_readsStatement_196 : decode cX6_readsStatement 196 = .ok (.ireturn, 1) := by decide +kernel
theorem dX6_readsStatement_197 : decode cX6_readsStatement 197 = .ok (.iload_n 2, 1) := by decide +kernel
theorem dX6_readsStatement_198 : decode cX6_readsStatement 198 = .ok (.ifCond .eq 16, 3) := by decide +kernel
theorem dX6_readsStatement_201 : decode cX6_readsStatement 201 = .ok (.aload_n 0, 1) := by decide +kernel
theorem dX6_readsStatement_202 : decode cX6_readsStatement 202 = .ok (.bipush 59, 2) := by decide +kernel
theorem dX6_readsStatement_204 : decode cX6_readsStatement 204 = .ok (.invokevirtual 79, 3) := by decide +kernel
theorem dX6_readsStatement_207 : decode cX6_readsStatement 207 = .ok (.ifCond .eq 7, 3) := by decide +kernel
theorem dX6_readsStatement_210 : decode cX6_readsStatement 210 = .ok (.iconst 1, 1) := by decide +kernel
theorem dX6_readsStatement_211 : decode cX6_readsStatement 211 = .ok (.goto 4, 3) := by decide +kernel
theorem dX6_readsStatement_214 : decode cX6_readsStatement 214 = .ok (.iconst 0, 1) := by decide +kernel
theorem dX6_readsStatement_215 : decode cX6_readsStatement 215 = .ok (.ireturn, 1) := by decide +kernel
theorem dX6_clearsRead_0 : decode cX6_clearsRead 0 = .ok (.iconst 0, 1) := by decide +kernel
theorem dX6_clearsRead_1 : decode cX6_clearsRead 1 = .ok (.istore_n 1, 1) := by decide +kernel
theorem dX6_clearsRead_2 : decode cX6_clearsRead 2 = .ok (.iload_n 1, 1) := by decide +kernel
theorem dX6_clearsRead_3 : decode cX6_clearsRead 3 = .ok (.bipush 12, 2) := by decide +kernel
theorem dX6_clearsRead_5 : decode cX6_clearsRead 5 = .ok (.if_icmp .ge 39, 3) := by decide +kernel
theorem dX6_clearsRead_8 : decode cX6_clearsRead 8 = .ok (.aload_n 0, 1) := by decide +kernel
theorem dX6_clearsRead_9 : decode cX6_clearsRead 9 = .ok (.getfield 19, 3) := by decide +kernel
theorem dX6_clearsRead_12 : decode cX6_clearsRead 12 = .ok (.iconst 4, 1) := by decide +kernel
theorem dX6_clearsRead_13 : decode cX6_clearsRead 13 = .ok (.iload_n 1, 1) := by decide +kernel
theorem dX6_clearsRead_14 : decode cX6_clearsRead 14 = .ok (.iadd, 1) := by decide +kernel
theorem dX6_clearsRead_15 : decode cX6_clearsRead 15 = .ok (.iconst 0, 1) := by decide +kernel
theorem dX6_clearsRead_16 : decode cX6_clearsRead 16 = .ok (.iastore, 1) := by decide +kernel
theorem dX6_clearsRead_17 : decode cX6_clearsRead 17 = .ok (.aload_n 0, 1) := by decide +kernel
theorem dX6_clearsRead_18 : decode cX6_clearsRead 18 = .ok (.getfield 19, 3) := by decide +kernel
theorem dX6_clearsRead_21 : decode cX6_clearsRead 21 = .ok (.bipush 16, 2) := by decide +kernel
theorem dX6_clearsRead_23 : decode cX6_clearsRead 23 = .ok (.iload_n 1, 1) := by decide +kernel
theorem dX6_clearsRead_24 : decode cX6_clearsRead 24 = .ok (.iadd, 1) := by decide +kernel
theorem dX6_clearsRead_25 : decode cX6_clearsRead 25 = .ok (.bipush 9, 2) := by decide +kernel
theorem dX6_clearsRead_27 : decode cX6_clearsRead 27 = .ok (.iastore, 1) := by decide +kernel
theorem dX6_clearsRead_28 : decode cX6_clearsRead 28 = .ok (.aload_n 0, 1) := by decide +kernel
theorem dX6_clearsRead_29 : decode cX6_clearsRead 29 = .ok (.getfield 19, 3) := by decide +kernel
theorem dX6_clearsRead_32 : decode cX6_clearsRead 32 = .ok (.bipush 28, 2) := by decide +kernel
theorem dX6_clearsRead_34 : decode cX6_clearsRead 34 = .ok (.iload_n 1, 1) := by decide +kernel
theorem dX6_clearsRead_35 : decode cX6_clearsRead 35 = .ok (.iadd, 1) := by decide +kernel
theorem dX6_clearsRead_36 : decode cX6_clearsRead 36 = .ok (.iconst 0, 1) := by decide +kernel
theorem dX6_clearsRead_37 : decode cX6_clearsRead 37 = .ok (.iastore, 1) := by decide +kernel
theorem dX6_clearsRead_38 : decode cX6_clearsRead 38 = .ok (.iinc 1 1, 3) := by decide +kernel
theorem dX6_clearsRead_41 : decode cX6_clearsRead 41 = .ok (.goto (-39), 3) := by decide +kernel
theorem dX6_clearsRead_44 : decode cX6_clearsRead 44 = .ok (.return_, 1) := by decide +kernel
theorem dX6_comesRow_0 : decode cX6_comesRow 0 = .ok (.aload_n 0, 1) := by decide +kernel
theorem dX6_comesRow_1 : decode cX6_comesRow 1 = .ok (.getfield 67, 3) := by decide +kernel
theorem dX6_comesRow_4 : decode cX6_comesRow 4 = .ok (.aload_n 0, 1) := by decide +kernel
theorem dX6_comesRow_5 : decode cX6_comesRow 5 = .ok (.getfield 19, 3) := by decide +kernel
theorem dX6_comesRow_8 : decode cX6_comesRow 8 = .ok (.iconst 0, 1) := by decide +kernel
theorem dX6_comesRow_9 : decode cX6_comesRow 9 = .ok (.iaload, 1) := by decide +kernel
theorem dX6_comesRow_10 : decode cX6_comesRow 10 = .ok (.if_icmp .eq 5, 3) := by decide +kernel
theorem dX6_comesRow_13 : decode cX6_comesRow 13 = .ok (.iconst 0, 1) := by decide +kernel
theorem dX6_comesRow_14 : decode cX6_comesRow 14 = .ok (.ireturn, 1) := by decide +kernel
theorem dX6_comesRow_15 : decode cX6_comesRow 15 = .ok (.iconst 0, 1) := by decide +kernel
theorem dX6_comesRow_16 : decode cX6_comesRow 16 = .ok (.istore_n 2, 1) := by decide +kernel
theorem dX6_comesRow_17 : decode cX6_comesRow 17 = .ok (.iload_n 2, 1) := by decide +kernel
theorem dX6_comesRow_18 : decode cX6_comesRow 18 = .ok (.aload_n 0, 1) := by decide +kernel
theorem dX6_comesRow_19 : decode cX6_comesRow 19 = .ok (.getfield 67, 3) := by decide +kernel
theorem dX6_comesRow_22 : decode cX6_comesRow 22 = .ok (.if_icmp .ge 43, 3) := by decide +kernel
theorem dX6_comesRow_25 : decode cX6_comesRow 25 = .ok (.aload_n 0, 1) := by decide +kernel
theorem dX6_comesRow_26 : decode cX6_comesRow 26 = .ok (.getfield 25, 3) := by decide +kernel
theorem dX6_comesRow_29 : decode cX6_comesRow 29 = .ok (.iload_n 2, 1) := by decide +kernel
theorem dX6_comesRow_30 : decode cX6_comesRow 30 = .ok (.iaload, 1) := by decide +kernel
theorem dX6_comesRow_31 : decode cX6_comesRow 31 = .ok (.aload_n 0, 1) := by decide +kernel
theorem dX6_comesRow_32 : decode cX6_comesRow 32 = .ok (.getfield 19, 3) := by decide +kernel
theorem dX6_comesRow_35 : decode cX6_comesRow 35 = .ok (.iconst 1, 1) := by decide +kernel
theorem dX6_comesRow_36 : decode cX6_comesRow 36 = .ok (.iaload, 1) := by decide +kernel
theorem dX6_comesRow_37 : decode cX6_comesRow 37 = .ok (.if_icmp .lt 22, 3) := by decide +kernel
theorem dX6_comesRow_40 : decode cX6_comesRow 40 = .ok (.iload_n 1, 1) := by decide +kernel
theorem dX6_comesRow_41 : decode cX6_comesRow 41 = .ok (.bipush 104, 2) := by decide +kernel
theorem dX6_comesRow_43 : decode cX6_comesRow 43 = .ok (.if_icmp .eq 14, 3) := by decide +kernel
theorem dX6_comesRow_46 : decode cX6_comesRow 46 = .ok (.aload_n 0, 1) := by decide +kernel
theorem dX6_comesRow_47 : decode cX6_comesRow 47 = .ok (.getfield 25, 3) := by decide +kernel
theorem dX6_comesRow_50 : decode cX6_comesRow 50 = .ok (.iload_n 2, 1) := by decide +kernel
theorem dX6_comesRow_51 : decode cX6_comesRow 51 = .ok (.iaload, 1) := by decide +kernel
theorem dX6_comesRow_52 : decode cX6_comesRow 52 = .ok (.bipush 9, 2) := by decide +kernel
theorem dX6_comesRow_54 : decode cX6_comesRow 54 = .ok (.if_icmp .eq 5, 3) := by decide +kernel
theorem dX6_comesRow_57 : decode cX6_comesRow 57 = .ok (.iconst 0, 1) := by decide +kernel
theorem dX6_comesRow_58 : decode cX6_comesRow 58 = .ok (.ireturn, 1) := by decide +kernel
theorem dX6_comesRow_59 : decode cX6_comesRow 59 = .ok (.iinc 2 1, 3) := by decide +kernel
theorem dX6_comesRow_62 : decode cX6_comesRow 62 = .ok (.goto (-45), 3) := by decide +kernel
theorem dX6_comesRow_65 : decode cX6_comesRow 65 = .ok (.iconst 0, 1) := by decide +kernel
theorem dX6_comesRow_66 : decode cX6_comesRow 66 = .ok (.istore_n 2, 1) := by decide +kernel
theorem dX6_comesRow_67 : decode cX6_comesRow 67 = .ok (.iload_n 2, 1) := by decide +kernel
theorem dX6_comesRow_68 : decode cX6_comesRow 68 = .ok (.aload_n 0, 1) := by decide +kernel
theorem dX6_comesRow_69 : decode cX6_comesRow 69 = .ok (.getfield 67, 3) := by decide +kernel
theorem dX6_comesRow_72 : decode cX6_comesRow 72 = .ok (.if_icmp .ge 34, 3) := by decide +kernel
theorem dX6_comesRow_75 : decode cX6_comesRow 75 = .ok (.aload_n 0, 1) := by decide +kernel
theorem dX6_comesRow_76 : decode cX6_comesRow 76 = .ok (.getfield 19, 3) := by decide +kernel
theorem dX6_comesRow_79 : decode cX6_comesRow 79 = .ok (.iload_n 1, 1) := by decide +kernel
theorem dX6_comesRow_80 : decode cX6_comesRow 80 = .ok (.bipush 104, 2) := by decide +kernel
theorem dX6_comesRow_82 : decode cX6_comesRow 82 = .ok (.if_icmp .ne 7, 3) := by decide +kernel
theorem dX6_comesRow_85 : decode cX6_comesRow 85 = .ok (.iconst 4, 1) := by decide +kernel
theorem dX6_comesRow_86 : decode cX6_comesRow 86 = .ok (.goto 5, 3) := by decide +kernel
theorem dX6_comesRow_89 : decode cX6_comesRow 89 = .ok (.bipush 16, 2) := by decide +kernel
theorem dX6_comesRow_91 : decode cX6_comesRow 91 = .ok (.iload_n 2, 1) := by decide +kernel
theorem dX6_comesRow_92 : decode cX6_comesRow 92 = .ok (.iadd, 1) := by decide +kernel
theorem dX6_comesRow_93 : decode cX6_comesRow 93 = .ok (.aload_n 0, 1) := by decide +kernel
theorem dX6_comesRow_94 : decode cX6_comesRow 94 = .ok (.getfield 25, 3) := by decide +kernel
theorem dX6_comesRow_97 : decode cX6_comesRow 97 = .ok (.iload_n 2, 1) := by decide +kernel
theorem dX6_comesRow_98 : decode cX6_comesRow 98 = .ok (.iaload, 1) := by decide +kernel
theorem dX6_comesRow_99 : decode cX6_comesRow 99 = .ok (.iastore, 1) := by decide +kernel
theorem dX6_comesRow_100 : decode cX6_comesRow 100 = .ok (.iinc 2 1, 3) := by decide +kernel
theorem dX6_comesRow_103 : decode cX6_comesRow 103 = .ok (.goto (-36), 3) := by decide +kernel
theorem dX6_comesRow_106 : decode cX6_comesRow 106 = .ok (.iconst 1, 1) := by decide +kernel
theorem dX6_comesRow_107 : decode cX6_comesRow 107 = .ok (.ireturn, 1) := by decide +kernel
theorem dX6_comes_0 : decode cX6_comes 0 = .ok (.aload_n 0, 1) := by decide +kernel
theorem dX6_comes_1 : decode cX6_comes 1 = .ok (.getfield 25, 3) := by decide +kernel
theorem dX6_comes_4 : decode cX6_comes 4 = .ok (.iconst 0, 1) := by decide +kernel
theorem dX6_comes_5 : decode cX6_comes 5 = .ok (.iaload, 1) := by decide +kernel
theorem dX6_comes_6 : decode cX6_comes 6 = .ok (.istore_n 2, 1) := by decide +kernel
theorem dX6_comes_7 : decode cX6_comes 7 = .ok (.iload_n 1, 1) := by decide +kernel
theorem dX6_comes_8 : decode cX6_comes 8 = .ok (.tableswitch 250 107 115 #[78, 250, 250, 52, 250, 103, 250, 250, 207], 52) := by decide +kernel
theorem dX6_comes_60 : decode cX6_comes 60 = .ok (.iload_n 2, 1) := by decide +kernel
theorem dX6_comes_61 : decode cX6_comes 61 = .ok (.iconst 1, 1) := by decide +kernel
theorem dX6_comes_62 : decode cX6_comes 62 = .ok (.if_icmp .lt 9, 3) := by decide +kernel
theorem dX6_comes_65 : decode cX6_comes 65 = .ok (.iload_n 2, 1) := by decide +kernel
theorem dX6_comes_66 : decode cX6_comes 66 = .ok (.bipush 12, 2) := by decide +kernel
theorem dX6_comes_68 : decode cX6_comes 68 = .ok (.if_icmp .le 5, 3) := by decide +kernel
theorem dX6_comes_71 : decode cX6_comes 71 = .ok (.iconst 0, 1) := by decide +kernel
theorem dX6_comes_72 : decode cX6_comes 72 = .ok (.ireturn, 1) := by decide +kernel
theorem dX6_comes_73 : decode cX6_comes 73 = .ok (.aload_n 0, 1) := by decide +kernel
theorem dX6_comes_74 : decode cX6_comes 74 = .ok (.getfield 19, 3) := by decide +kernel
theorem dX6_comes_77 : decode cX6_comes 77 = .ok (.iconst 0, 1) := by decide +kernel
theorem dX6_comes_78 : decode cX6_comes 78 = .ok (.iload_n 2, 1) := by decide +kernel
theorem dX6_comes_79 : decode cX6_comes 79 = .ok (.iastore, 1) := by decide +kernel
theorem dX6_comes_80 : decode cX6_comes 80 = .ok (.aload_n 0, 1) := by decide +kernel
theorem dX6_comes_81 : decode cX6_comes 81 = .ok (.invokevirtual 86, 3) := by decide +kernel
theorem dX6_comes_84 : decode cX6_comes 84 = .ok (.iconst 1, 1) := by decide +kernel
theorem dX6_comes_85 : decode cX6_comes 85 = .ok (.ireturn, 1) := by decide +kernel
theorem dX6_comes_86 : decode cX6_comes 86 = .ok (.iload_n 2, 1) := by decide +kernel
theorem dX6_comes_87 : decode cX6_comes 87 = .ok (.iconst 2, 1) := by decide +kernel
theorem dX6_comes_88 : decode cX6_comes 88 = .ok (.if_icmp .eq 10, 3) := by decide +kernel
theorem dX6_comes_91 : decode cX6_comes 91 = .ok (.iload_n 2, 1) := by decide +kernel
theorem dX6_comes_92 : decode cX6_comes 92 = .ok (.iconst 3, 1) := by decide +kernel
theorem dX6_comes_93 : decode cX6_comes 93 = .ok (.if_icmp .eq 5, 3) := by decide +kernel
theorem dX6_comes_96 : decode cX6_comes 96 = .ok (.iconst 0, 1) := by decide +kernel
theorem dX6_comes_97 : decode cX6_comes 97 = .ok (.ireturn, 1) := by decide +kernel
theorem dX6_comes_98 : decode cX6_comes 98 = .ok (.aload_n 0, 1) := by decide +kernel
theorem dX6_comes_99 : decode cX6_comes 99 = .ok (.getfield 19, 3) := by decide +kernel
theorem dX6_comes_102 : decode cX6_comes 102 = .ok (.iconst 1, 1) := by decide +kernel
theorem dX6_comes_103 : decode cX6_comes 103 = .ok (.iload_n 2, 1) := by decide +kernel
theorem dX6_comes_104 : decode cX6_comes 104 = .ok (.iastore, 1) := by decide +kernel
theorem dX6_comes_105 : decode cX6_comes 105 = .ok (.aload_n 0, 1) := by decide +kernel
theorem dX6_comes_106 : decode cX6_comes 106 = .ok (.invokevirtual 86, 3) := by decide +kernel
theorem dX6_comes_109 : decode cX6_comes 109 = .ok (.iconst 1, 1) := by decide +kernel
theorem dX6_comes_110 : decode cX6_comes 110 = .ok (.ireturn, 1) := by decide +kernel
theorem dX6_comes_111 : decode cX6_comes 111 = .ok (.aload_n 0, 1) := by decide +kernel
theorem dX6_comes_112 : decode cX6_comes 112 = .ok (.getfield 25, 3) := by decide +kernel
theorem dX6_comes_115 : decode cX6_comes 115 = .ok (.iconst 1, 1) := by decide +kernel
theorem dX6_comes_116 : decode cX6_comes 116 = .ok (.iaload, 1) := by decide +kernel
theorem dX6_comes_117 : decode cX6_comes 117 = .ok (.iconst 1, 1) := by decide +kernel
theorem dX6_comes_118 : decode cX6_comes 118 = .ok (.if_icmp .lt 46, 3) := by decide +kernel
theorem dX6_comes_121 : decode cX6_comes 121 = .ok (.aload_n 0, 1) := by decide +kernel
theorem dX6_comes_122 : decode cX6_comes 122 = .ok (.getfield 25, 3) := by decide +kernel
theorem dX6_comes_125 : decode cX6_comes 125 = .ok (.iconst 1, 1) := by decide +kernel
theorem dX6_comes_126 : decode cX6_comes 126 = .ok (.iaload, 1) := by decide +kernel
theorem dX6_comes_127 : decode cX6_comes 127 = .ok (.bipush 12, 2) := by decide +kernel
theorem dX6_comes_129 : decode cX6_comes 129 = .ok (.if_icmp .gt 35, 3) := by decide +kernel
theorem dX6_comes_132 : decode cX6_comes 132 = .ok (.aload_n 0, 1) := by decide +kernel
theorem dX6_comes_133 : decode cX6_comes 133 = .ok (.getfield 25, 3) := by decide +kernel
theorem dX6_comes_136 : decode cX6_comes 136 = .ok (.iconst 2, 1) := by decide +kernel
theorem dX6_comes_137 : decode cX6_comes 137 = .ok (.iaload, 1) := by decide +kernel
theorem dX6_comes_138 : decode cX6_comes 138 = .ok (.iconst 1, 1) := by decide +kernel
theorem dX6_comes_139 : decode cX6_comes 139 = .ok (.if_icmp .lt 25, 3) := by decide +kernel
theorem dX6_comes_142 : decode cX6_comes 142 = .ok (.aload_n 0, 1) := by decide +kernel
theorem dX6_comes_143 : decode cX6_comes 143 = .ok (.getfield 25, 3) := by decide +kernel
theorem dX6_comes_146 : decode cX6_comes 146 = .ok (.iconst 2, 1) := by decide +kernel
theorem dX6_comes_147 : decode cX6_comes 147 = .ok (.iaload, 1) := by decide +kernel
theorem dX6_comes_148 : decode cX6_comes 148 = .ok (.bipush 12, 2) := by decide +kernel
theorem dX6_comes_150 : decode cX6_comes 150 = .ok (.if_icmp .gt 14, 3) := by decide +kernel
theorem dX6_comes_153 : decode cX6_comes 153 = .ok (.aload_n 0, 1) := by decide +kernel
theorem dX6_comes_154 : decode cX6_comes 154 = .ok (.getfield 19, 3) := by decide +kernel
theorem dX6_comes_157 : decode cX6_comes 157 = .ok (.iconst 2, 1) := by decide +kernel
theorem dX6_comes_158 : decode cX6_comes 158 = .ok (.iaload, 1) := by decide +kernel
theorem dX6_comes_159 : decode cX6_comes 159 = .ok (.bipush 7, 2) := by decide +kernel
theorem dX6_comes_161 : decode cX6_comes 161 = .ok (.if_icmp .ne 5, 3) := by decide +kernel
theorem dX6_comes_164 : decode cX6_comes 164 = .ok (.iconst 0, 1) := by decide +kernel
theorem dX6_comes_165 : decode cX6_comes 165 = .ok (.ireturn, 1) := by decide +kernel
theorem dX6_comes_166 : decode cX6_comes 166 = .ok (.iconst 0, 1) := by decide +kernel
theorem dX6_comes_167 : decode cX6_comes 167 = .ok (.istore_n 3, 1) := by decide +kernel
theorem dX6_comes_168 : decode cX6_comes 168 = .ok (.iload_n 3, 1) := by decide +kernel
theorem dX6_comes_169 : decode cX6_comes 169 = .ok (.iconst 4, 1) := by decide +kernel
theorem dX6_comes_170 : decode cX6_comes 170 = .ok (.if_icmp .ge 33, 3) := by decide +kernel
theorem dX6_comes_173 : decode cX6_comes 173 = .ok (.aload_n 0, 1) := by decide +kernel
theorem dX6_comes_174 : decode cX6_comes 174 = .ok (.getfield 19, 3) := by decide +kernel
theorem dX6_comes_177 : decode cX6_comes 177 = .ok (.bipush 40, 2) := by decide +kernel
theorem dX6_comes_179 : decode cX6_comes 179 = .ok (.iconst 4, 1) := by decide +kernel
theorem dX6_comes_180 : decode cX6_comes 180 = .ok (.aload_n 0, 1) := by decide +kernel
theorem dX6_comes_181 : decode cX6_comes 181 = .ok (.getfield 19, 3) := by decide +kernel
theorem dX6_comes_184 : decode cX6_comes 184 = .ok (.iconst 2, 1) := by decide +kernel
theorem dX6_comes_185 : decode cX6_comes 185 = .ok (.iaload, 1) := by decide +kernel
theorem dX6_comes_186 : decode cX6_comes 186 = .ok (.imul, 1) := by decide +kernel
theorem dX6_comes_187 : decode cX6_comes 187 = .ok (.iadd, 1) := by decide +kernel
theorem dX6_comes_188 : decode cX6_comes 188 = .ok (.iload_n 3, 1) := by decide +kernel
theorem dX6_comes_189 : decode cX6_comes 189 = .ok (.iadd, 1) := by decide +kernel
theorem dX6_comes_190 : decode cX6_comes 190 = .ok (.aload_n 0, 1) := by decide +kernel
theorem dX6_comes_191 : decode cX6_comes 191 = .ok (.getfield 25, 3) := by decide +kernel
theorem dX6_comes_194 : decode cX6_comes 194 = .ok (.iload_n 3, 1) := by decide +kernel
theorem dX6_comes_195 : decode cX6_comes 195 = .ok (.iaload, 1) := by decide +kernel
theorem dX6_comes_196 : decode cX6_comes 196 = .ok (.iastore, 1) := by decide +kernel
theorem dX6_comes_197 : decode cX6_comes 197 = .ok (.iinc 3 1, 3) := by decide +kernel
theorem dX6_comes_200 : decode cX6_comes 200 = .ok (.goto (-32), 3) := by decide +kernel
theorem dX6_comes_203 : decode cX6_comes 203 = .ok (.aload_n 0, 1) := by decide +kernel
theorem dX6_comes_204 : decode cX6_comes 204 = .ok (.getfield 19, 3) := by decide +kernel
theorem dX6_comes_207 : decode cX6_comes 207 = .ok (.iconst 2, 1) := by decide +kernel
theorem dX6_comes_208 : decode cX6_comes 208 = .ok (.dup2, 1) := by decide +kernel
theorem dX6_comes_209 : decode cX6_comes 209 = .ok (.iaload, 1) := by decide +kernel
theorem dX6_comes_210 : decode cX6_comes 210 = .ok (.iconst 1, 1) := by decide +kernel
theorem dX6_comes_211 : decode cX6_comes 211 = .ok (.iadd, 1) := by decide +kernel
theorem dX6_comes_212 : decode cX6_comes 212 = .ok (.iastore, 1) := by decide +kernel
theorem dX6_comes_213 : decode cX6_comes 213 = .ok (.iconst 1, 1) := by decide +kernel
theorem dX6_comes_214 : decode cX6_comes 214 = .ok (.ireturn, 1) := by decide +kernel
theorem dX6_comes_215 : decode cX6_comes 215 = .ok (.iload_n 2, 1) := by decide +kernel
theorem dX6_comes_216 : decode cX6_comes 216 = .ok (.iconst 1, 1) := by decide +kernel
theorem dX6_comes_217 : decode cX6_comes 217 = .ok (.if_icmp .lt 13, 3) := by decide +kernel
theorem dX6_comes_220 : decode cX6_comes 220 = .ok (.iload_n 2, 1) := by decide +kernel
theorem dX6_comes_221 : decode cX6_comes 221 = .ok (.aload_n 0, 1) := by decide +kernel
theorem dX6_comes_222 : decode cX6_comes 222 = .ok (.getfield 19, 3) := by decide +kernel
theorem dX6_comes_225 : decode cX6_comes 225 = .ok (.iconst 0, 1) := by decide +kernel
theorem dX6_comes_226 : decode cX6_comes 226 = .ok (.iaload, 1) := by decide +kernel
theorem dX6_comes_227 : decode cX6_comes 227 = .ok (.if_icmp .le 5, 3) := by decide +kernel
theorem dX6_comes_230 : decode cX6_comes 230 = .ok (.iconst 0, 1) := by decide +kernel
theorem dX6_comes_231 : decode cX6_comes 231 = .ok (.ireturn, 1) := by decide +kernel
theorem dX6_comes_232 : decode cX6_comes 232 = .ok (.aload_n 0, 1) := by decide +kernel
theorem dX6_comes_233 : decode cX6_comes 233 = .ok (.getfield 19, 3) := by decide +kernel
theorem dX6_comes_236 : decode cX6_comes 236 = .ok (.bipush 28, 2) := by decide +kernel
theorem dX6_comes_238 : decode cX6_comes 238 = .ok (.iload_n 2, 1) := by decide +kernel
theorem dX6_comes_239 : decode cX6_comes 239 = .ok (.iadd, 1) := by decide +kernel
theorem dX6_comes_240 : decode cX6_comes 240 = .ok (.iconst 1, 1) := by decide +kernel
theorem dX6_comes_241 : decode cX6_comes 241 = .ok (.isub, 1) := by decide +kernel
theorem dX6_comes_242 : decode cX6_comes 242 = .ok (.iconst 1, 1) := by decide +kernel
theorem dX6_comes_243 : decode cX6_comes 243 = .ok (.aload_n 0, 1) := by decide +kernel
theorem dX6_comes_244 : decode cX6_comes 244 = .ok (.getfield 19, 3) := by decide +kernel
theorem dX6_comes_247 : decode cX6_comes 247 = .ok (.bipush 28, 2) := by decide +kernel
theorem dX6_comes_249 : decode cX6_comes 249 = .ok (.iload_n 2, 1) := by decide +kernel
theorem dX6_comes_250 : decode cX6_comes 250 = .ok (.iadd, 1) := by decide +kernel
theorem dX6_comes_251 : decode cX6_comes 251 = .ok (.iconst 1, 1) := by decide +kernel
theorem dX6_comes_252 : decode cX6_comes 252 = .ok (.isub, 1) := by decide +kernel
theorem dX6_comes_253 : decode cX6_comes 253 = .ok (.iaload, 1) := by decide +kernel
theorem dX6_comes_254 : decode cX6_comes 254 = .ok (.isub, 1) := by decide +kernel
theorem dX6_comes_255 : decode cX6_comes 255 = .ok (.iastore, 1) := by decide +kernel
theorem dX6_comes_256 : decode cX6_comes 256 = .ok (.iconst 1, 1) := by decide +kernel
theorem dX6_comes_257 : decode cX6_comes 257 = .ok (.ireturn, 1) := by decide +kernel
theorem dX6_comes_258 : decode cX6_comes 258 = .ok (.aload_n 0, 1) := by decide +kernel
theorem dX6_comes_259 : decode cX6_comes 259 = .ok (.iload_n 1, 1) := by decide +kernel
theorem dX6_comes_260 : decode cX6_comes 260 = .ok (.invokevirtual 89, 3) := by decide +kernel
theorem dX6_comes_263 : decode cX6_comes 263 = .ok (.ireturn, 1) := by decide +kernel
theorem dX6_reads_0 : decode cX6_reads 0 = .ok (.aload_n 0, 1) := by decide +kernel
theorem dX6_reads_1 : decode cX6_reads 1 = .ok (.iconst 0, 1) := by decide +kernel
theorem dX6_reads_2 : decode cX6_reads 2 = .ok (.putfield 56, 3) := by decide +kernel
theorem dX6_reads_5 : decode cX6_reads 5 = .ok (.iconst 0, 1) := by decide +kernel
theorem dX6_reads_6 : decode cX6_reads 6 = .ok (.istore_n 1, 1) := by decide +kernel
theorem dX6_reads_7 : decode cX6_reads 7 = .ok (.aload_n 0, 1) := by decide +kernel
theorem dX6_reads_8 : decode cX6_reads 8 = .ok (.invokevirtual 92, 3) := by decide +kernel
theorem dX6_reads_11 : decode cX6_reads 11 = .ok (.ifCond .ne 12, 3) := by decide +kernel
theorem dX6_reads_14 : decode cX6_reads 14 = .ok (.sipush (-1000), 3) := by decide +kernel
theorem dX6_reads_17 : decode cX6_reads 17 = .ok (.aload_n 0, 1) := by decide +kernel
theorem dX6_reads_18 : decode cX6_reads 18 = .ok (.getfield 56, 3) := by decide +kernel
theorem dX6_reads_21 : decode cX6_reads 21 = .ok (.isub, 1) := by decide +kernel
theorem dX6_reads_22 : decode cX6_reads 22 = .ok (.ireturn, 1) := by decide +kernel
theorem dX6_reads_23 : decode cX6_reads 23 = .ok (.iinc 1 1, 3) := by decide +kernel
theorem dX6_reads_26 : decode cX6_reads 26 = .ok (.aload_n 0, 1) := by decide +kernel
theorem dX6_reads_27 : decode cX6_reads 27 = .ok (.getfield 56, 3) := by decide +kernel
theorem dX6_reads_30 : decode cX6_reads 30 = .ok (.aload_n 0, 1) := by decide +kernel
theorem dX6_reads_31 : decode cX6_reads 31 = .ok (.getfield 48, 3) := by decide +kernel
theorem dX6_reads_34 : decode cX6_reads 34 = .ok (.if_icmp .lt (-27), 3) := by decide +kernel
theorem dX6_reads_37 : decode cX6_reads 37 = .ok (.aload_n 0, 1) := by decide +kernel
theorem dX6_reads_38 : decode cX6_reads 38 = .ok (.getfield 13, 3) := by decide +kernel
theorem dX6_reads_41 : decode cX6_reads 41 = .ok (.aload_n 0, 1) := by decide +kernel
theorem dX6_reads_42 : decode cX6_reads 42 = .ok (.getfield 19, 3) := by decide +kernel
theorem dX6_reads_45 : decode cX6_reads 45 = .ok (.invokestatic 95, 3) := by decide +kernel
theorem dX6_reads_48 : decode cX6_reads 48 = .ok (.aload_n 0, 1) := by decide +kernel
theorem dX6_reads_49 : decode cX6_reads 49 = .ok (.iconst 0, 1) := by decide +kernel
theorem dX6_reads_50 : decode cX6_reads 50 = .ok (.putfield 56, 3) := by decide +kernel
theorem dX6_reads_53 : decode cX6_reads 53 = .ok (.aload_n 0, 1) := by decide +kernel
theorem dX6_reads_54 : decode cX6_reads 54 = .ok (.getfield 56, 3) := by decide +kernel
theorem dX6_reads_57 : decode cX6_reads 57 = .ok (.aload_n 0, 1) := by decide +kernel
theorem dX6_reads_58 : decode cX6_reads 58 = .ok (.getfield 48, 3) := by decide +kernel
theorem dX6_reads_61 : decode cX6_reads 61 = .ok (.if_icmp .ge 36, 3) := by decide +kernel
theorem dX6_reads_64 : decode cX6_reads 64 = .ok (.aload_n 0, 1) := by decide +kernel
theorem dX6_reads_65 : decode cX6_reads 65 = .ok (.getfield 56, 3) := by decide +kernel
theorem dX6_reads_68 : decode cX6_reads 68 = .ok (.istore_n 2, 1) := by decide +kernel
theorem dX6_reads_69 : decode cX6_reads 69 = .ok (.aload_n 0, 1) := by decide +kernel
theorem dX6_reads_70 : decode cX6_reads 70 = .ok (.invokevirtual 59, 3) := by decide +kernel
theorem dX6_reads_73 : decode cX6_reads 73 = .ok (.istore_n 3, 1) := by decide +kernel
theorem dX6_reads_74 : decode cX6_reads 74 = .ok (.aload_n 0, 1) := by decide +kernel
theorem dX6_reads_75 : decode cX6_reads 75 = .ok (.invokevirtual 92, 3) := by decide +kernel
theorem dX6_reads_78 : decode cX6_reads 78 = .ok (.istore 4, 2) := by decide +kernel
theorem dX6_reads_80 : decode cX6_reads 80 = .ok (.aload_n 0, 1) := by decide +kernel
theorem dX6_reads_81 : decode cX6_reads 81 = .ok (.iload_n 3, 1) := by decide +kernel
theorem dX6_reads_82 : decode cX6_reads 82 = .ok (.invokevirtual 99, 3) := by decide +kernel
theorem dX6_reads_85 : decode cX6_reads 85 = .ok (.ifCond .ne 9, 3) := by decide +kernel
theorem dX6_reads_88 : decode cX6_reads 88 = .ok (.sipush (-2000), 3) := by decide +kernel
theorem dX6_reads_91 : decode cX6_reads 91 = .ok (.iload_n 2, 1) := by decide +kernel
theorem dX6_reads_92 : decode cX6_reads 92 = .ok (.isub, 1) := by decide +kernel
theorem dX6_reads_93 : decode cX6_reads 93 = .ok (.ireturn, 1) := by decide +kernel
theorem dX6_reads_94 : decode cX6_reads 94 = .ok (.goto (-41), 3) := by decide +kernel
theorem dX6_reads_97 : decode cX6_reads 97 = .ok (.aload_n 0, 1) := by decide +kernel
theorem dX6_reads_98 : decode cX6_reads 98 = .ok (.getfield 19, 3) := by decide +kernel
theorem dX6_reads_101 : decode cX6_reads 101 = .ok (.aload_n 0, 1) := by decide +kernel
theorem dX6_reads_102 : decode cX6_reads 102 = .ok (.getfield 13, 3) := by decide +kernel
theorem dX6_reads_105 : decode cX6_reads 105 = .ok (.invokestatic 95, 3) := by decide +kernel
theorem dX6_reads_108 : decode cX6_reads 108 = .ok (.iload_n 1, 1) := by decide +kernel
theorem dX6_reads_109 : decode cX6_reads 109 = .ok (.ireturn, 1) := by decide +kernel
theorem dX6_house_0 : decode cX6_house 0 = .ok (.aload_n 0, 1) := by decide +kernel
theorem dX6_house_1 : decode cX6_house 1 = .ok (.invokevirtual 102, 3) := by decide +kernel
theorem dX6_house_4 : decode cX6_house 4 = .ok (.istore_n 1, 1) := by decide +kernel
theorem dX6_house_5 : decode cX6_house 5 = .ok (.aload_n 0, 1) := by decide +kernel
theorem dX6_house_6 : decode cX6_house 6 = .ok (.iconst 0, 1) := by decide +kernel
theorem dX6_house_7 : decode cX6_house 7 = .ok (.putfield 48, 3) := by decide +kernel
theorem dX6_house_10 : decode cX6_house 10 = .ok (.iload_n 1, 1) := by decide +kernel
theorem dX6_house_11 : decode cX6_house 11 = .ok (.ireturn, 1) := by decide +kernel
theorem dX6_goesInto_0 : decode cX6_goesInto 0 = .ok (.iload_n 1, 1) := by decide +kernel
theorem dX6_goesInto_1 : decode cX6_goesInto 1 = .ok (.iload_n 0, 1) := by decide +kernel
theorem dX6_goesInto_2 : decode cX6_goesInto 2 = .ok (.irem, 1) := by decide +kernel
theorem dX6_goesInto_3 : decode cX6_goesInto 3 = .ok (.ifCond .ne 7, 3) := by decide +kernel
theorem dX6_goesInto_6 : decode cX6_goesInto 6 = .ok (.iconst 1, 1) := by decide +kernel
theorem dX6_goesInto_7 : decode cX6_goesInto 7 = .ok (.goto 4, 3) := by decide +kernel
theorem dX6_goesInto_10 : decode cX6_goesInto 10 = .ok (.iconst 0, 1) := by decide +kernel
theorem dX6_goesInto_11 : decode cX6_goesInto 11 = .ok (.ireturn, 1) := by decide +kernel
theorem dX6_turns_0 : decode cX6_turns 0 = .ok (.aload_n 0, 1) := by decide +kernel
theorem dX6_turns_1 : decode cX6_turns 1 = .ok (.getfield 13, 3) := by decide +kernel
theorem dX6_turns_4 : decode cX6_turns 4 = .ok (.bipush 28, 2) := by decide +kernel
theorem dX6_turns_6 : decode cX6_turns 6 = .ok (.iload_n 2, 1) := by decide +kernel
theorem dX6_turns_7 : decode cX6_turns 7 = .ok (.iadd, 1) := by decide +kernel
theorem dX6_turns_8 : decode cX6_turns 8 = .ok (.iconst 1, 1) := by decide +kernel
theorem dX6_turns_9 : decode cX6_turns 9 = .ok (.isub, 1) := by decide +kernel
theorem dX6_turns_10 : decode cX6_turns 10 = .ok (.iaload, 1) := by decide +kernel
theorem dX6_turns_11 : decode cX6_turns 11 = .ok (.iconst 1, 1) := by decide +kernel
theorem dX6_turns_12 : decode cX6_turns 12 = .ok (.if_icmp .ne 5, 3) := by decide +kernel
theorem dX6_turns_15 : decode cX6_turns 15 = .ok (.iconst 0, 1) := by decide +kernel
theorem dX6_turns_16 : decode cX6_turns 16 = .ok (.ireturn, 1) := by decide +kernel
theorem dX6_turns_17 : decode cX6_turns 17 = .ok (.aload_n 0, 1) := by decide +kernel
theorem dX6_turns_18 : decode cX6_turns 18 = .ok (.iload_n 1, 1) := by decide +kernel
theorem dX6_turns_19 : decode cX6_turns 19 = .ok (.iconst 1, 1) := by decide +kernel
theorem dX6_turns_20 : decode cX6_turns 20 = .ok (.invokevirtual 105, 3) := by decide +kernel
theorem dX6_turns_23 : decode cX6_turns 23 = .ok (.istore_n 3, 1) := by decide +kernel
theorem dX6_turns_24 : decode cX6_turns 24 = .ok (.aload_n 0, 1) := by decide +kernel
theorem dX6_turns_25 : decode cX6_turns 25 = .ok (.iload_n 1, 1) := by decide +kernel
theorem dX6_turns_26 : decode cX6_turns 26 = .ok (.iconst 2, 1) := by decide +kernel
theorem dX6_turns_27 : decode cX6_turns 27 = .ok (.invokevirtual 105, 3) := by decide +kernel
theorem dX6_turns_30 : decode cX6_turns 30 = .ok (.istore 4, 2) := by decide +kernel
theorem dX6_turns_32 : decode cX6_turns 32 = .ok (.aload_n 0, 1) := by decide +kernel
theorem dX6_turns_33 : decode cX6_turns 33 = .ok (.iload_n 1, 1) := by decide +kernel
theorem dX6_turns_34 : decode cX6_turns 34 = .ok (.iconst 0, 1) := by decide +kernel
theorem dX6_turns_35 : decode cX6_turns 35 = .ok (.invokevirtual 105, 3) := by decide +kernel
theorem dX6_turns_38 : decode cX6_turns 38 = .ok (.tableswitch 123 1 5 #[34, 40, 63, 86, 106], 34) := by decide +kernel
theorem dX6_turns_72 : decode cX6_turns 72 = .ok (.iload_n 2, 1) := by decide +kernel
theorem dX6_turns_73 : decode cX6_turns 73 = .ok (.iload_n 3, 1) := by decide +kernel
theorem dX6_turns_74 : decode cX6_turns 74 = .ok (.invokestatic 109, 3) := by decide +kernel
theorem dX6_turns_77 : decode cX6_turns 77 = .ok (.ireturn, 1) := by decide +kernel
theorem dX6_turns_78 : decode cX6_turns 78 = .ok (.iload_n 3, 1) := by decide +kernel
theorem dX6_turns_79 : decode cX6_turns 79 = .ok (.iload_n 2, 1) := by decide +kernel
theorem dX6_turns_80 : decode cX6_turns 80 = .ok (.invokestatic 109, 3) := by decide +kernel
theorem dX6_turns_83 : decode cX6_turns 83 = .ok (.ifCond .eq 16, 3) := by decide +kernel
theorem dX6_turns_86 : decode cX6_turns 86 = .ok (.iload 4, 2) := by decide +kernel
theorem dX6_turns_88 : decode cX6_turns 88 = .ok (.iload_n 2, 1) := by decide +kernel
theorem dX6_turns_89 : decode cX6_turns 89 = .ok (.invokestatic 109, 3) := by decide +kernel
theorem dX6_turns_92 : decode cX6_turns 92 = .ok (.ifCond .eq 7, 3) := by decide +kernel
theorem dX6_turns_95 : decode cX6_turns 95 = .ok (.iconst 1, 1) := by decide +kernel
theorem dX6_turns_96 : decode cX6_turns 96 = .ok (.goto 4, 3) := by decide +kernel
theorem dX6_turns_99 : decode cX6_turns 99 = .ok (.iconst 0, 1) := by decide +kernel
theorem dX6_turns_100 : decode cX6_turns 100 = .ok (.ireturn, 1) := by decide +kernel
theorem dX6_turns_101 : decode cX6_turns 101 = .ok (.iload_n 3, 1) := by decide +kernel
theorem dX6_turns_102 : decode cX6_turns 102 = .ok (.iload_n 2, 1) := by decide +kernel
theorem dX6_turns_103 : decode cX6_turns 103 = .ok (.invokestatic 109, 3) := by decide +kernel
theorem dX6_turns_106 : decode cX6_turns 106 = .ok (.ifCond .ne 12, 3) := by decide +kernel
theorem dX6_turns_109 : decode cX6_turns 109 = .ok (.iload 4, 2) := by decide +kernel
theorem dX6_turns_111 : decode cX6_turns 111 = .ok (.iload_n 2, 1) := by decide +kernel
theorem dX6_turns_112 : decode cX6_turns 112 = .ok (.invokestatic 109, 3) := by decide +kernel
theorem dX6_turns_115 : decode cX6_turns 115 = .ok (.ifCond .eq 7, 3) := by decide +kernel
theorem dX6_turns_118 : decode cX6_turns 118 = .ok (.iconst 1, 1) := by decide +kernel
theorem dX6_turns_119 : decode cX6_turns 119 = .ok (.goto 4, 3) := by decide +kernel
theorem dX6_turns_122 : decode cX6_turns 122 = .ok (.iconst 0, 1) := by decide +kernel
theorem dX6_turns_123 : decode cX6_turns 123 = .ok (.ireturn, 1) := by decide +kernel
theorem dX6_turns_124 : decode cX6_turns 124 = .ok (.iload_n 3, 1) := by decide +kernel
theorem dX6_turns_125 : decode cX6_turns 125 = .ok (.iload_n 2, 1) := by decide +kernel
theorem dX6_turns_126 : decode cX6_turns 126 = .ok (.invokestatic 109, 3) := by decide +kernel
theorem dX6_turns_129 : decode cX6_turns 129 = .ok (.iload 4, 2) := by decide +kernel
theorem dX6_turns_131 : decode cX6_turns 131 = .ok (.iload_n 2, 1) := by decide +kernel
theorem dX6_turns_132 : decode cX6_turns 132 = .ok (.invokestatic 109, 3) := by decide +kernel
theorem dX6_turns_135 : decode cX6_turns 135 = .ok (.if_icmp .eq 7, 3) := by decide +kernel
theorem dX6_turns_138 : decode cX6_turns 138 = .ok (.iconst 1, 1) := by decide +kernel
theorem dX6_turns_139 : decode cX6_turns 139 = .ok (.goto 4, 3) := by decide +kernel
theorem dX6_turns_142 : decode cX6_turns 142 = .ok (.iconst 0, 1) := by decide +kernel
theorem dX6_turns_143 : decode cX6_turns 143 = .ok (.ireturn, 1) := by decide +kernel
theorem dX6_turns_144 : decode cX6_turns 144 = .ok (.iload_n 2, 1) := by decide +kernel
theorem dX6_turns_145 : decode cX6_turns 145 = .ok (.iload_n 3, 1) := by decide +kernel
theorem dX6_turns_146 : decode cX6_turns 146 = .ok (.if_icmp .lt 13, 3) := by decide +kernel
theorem dX6_turns_149 : decode cX6_turns 149 = .ok (.iload_n 2, 1) := by decide +kernel
theorem dX6_turns_150 : decode cX6_turns 150 = .ok (.iload 4, 2) := by decide +kernel
theorem dX6_turns_152 : decode cX6_turns 152 = .ok (.if_icmp .gt 7, 3) := by decide +kernel
theorem dX6_turns_155 : decode cX6_turns 155 = .ok (.iconst 1, 1) := by decide +kernel
theorem dX6_turns_156 : decode cX6_turns 156 = .ok (.goto 4, 3) := by decide +kernel
theorem dX6_turns_159 : decode cX6_turns 159 = .ok (.iconst 0, 1) := by decide +kernel
theorem dX6_turns_160 : decode cX6_turns 160 = .ok (.ireturn, 1) := by decide +kernel
theorem dX6_turns_161 : decode cX6_turns 161 = .ok (.iload_n 3, 1) := by decide +kernel
theorem dX6_turns_162 : decode cX6_turns 162 = .ok (.iload_n 2, 1) := by decide +kernel
theorem dX6_turns_163 : decode cX6_turns 163 = .ok (.invokestatic 109, 3) := by decide +kernel
theorem dX6_turns_166 : decode cX6_turns 166 = .ok (.ireturn, 1) := by decide +kernel
theorem dX6_turned_0 : decode cX6_turned 0 = .ok (.iconst 0, 1) := by decide +kernel
theorem dX6_turned_1 : decode cX6_turned 1 = .ok (.istore_n 2, 1) := by decide +kernel
theorem dX6_turned_2 : decode cX6_turned 2 = .ok (.iconst 1, 1) := by decide +kernel
theorem dX6_turned_3 : decode cX6_turned 3 = .ok (.istore_n 3, 1) := by decide +kernel
theorem dX6_turned_4 : decode cX6_turned 4 = .ok (.iload_n 3, 1) := by decide +kernel
theorem dX6_turned_5 : decode cX6_turned 5 = .ok (.aload_n 0, 1) := by decide +kernel
theorem dX6_turned_6 : decode cX6_turned 6 = .ok (.getfield 13, 3) := by decide +kernel
theorem dX6_turned_9 : decode cX6_turned 9 = .ok (.iconst 0, 1) := by decide +kernel
theorem dX6_turned_10 : decode cX6_turned 10 = .ok (.iaload, 1) := by decide +kernel
theorem dX6_turned_11 : decode cX6_turned 11 = .ok (.if_icmp .gt 30, 3) := by decide +kernel
theorem dX6_turned_14 : decode cX6_turned 14 = .ok (.iload_n 2, 1) := by decide +kernel
theorem dX6_turned_15 : decode cX6_turned 15 = .ok (.aload_n 0, 1) := by decide +kernel
theorem dX6_turned_16 : decode cX6_turned 16 = .ok (.iload_n 1, 1) := by decide +kernel
theorem dX6_turned_17 : decode cX6_turned 17 = .ok (.iload_n 3, 1) := by decide +kernel
theorem dX6_turned_18 : decode cX6_turned 18 = .ok (.invokevirtual 112, 3) := by decide +kernel
theorem dX6_turned_21 : decode cX6_turned 21 = .ok (.ifCond .eq 11, 3) := by decide +kernel
theorem dX6_turned_24 : decode cX6_turned 24 = .ok (.iconst 1, 1) := by decide +kernel
theorem dX6_turned_25 : decode cX6_turned 25 = .ok (.iload_n 3, 1) := by decide +kernel
theorem dX6_turned_26 : decode cX6_turned 26 = .ok (.iconst 1, 1) := by decide +kernel
theorem dX6_turned_27 : decode cX6_turned 27 = .ok (.isub, 1) := by decide +kernel
theorem dX6_turned_28 : decode cX6_turned 28 = .ok (.ishl, 1) := by decide +kernel
theorem dX6_turned_29 : decode cX6_turned 29 = .ok (.goto 4, 3) := by decide +kernel
theorem dX6_turned_32 : decode cX6_turned 32 = .ok (.iconst 0, 1) := by decide +kernel
theorem dX6_turned_33 : decode cX6_turned 33 = .ok (.ior, 1) := by decide +kernel
theorem dX6_turned_34 : decode cX6_turned 34 = .ok (.istore_n 2, 1) := by decide +kernel
theorem dX6_turned_35 : decode cX6_turned 35 = .ok (.iinc 3 1, 3) := by decide +kernel
theorem dX6_turned_38 : decode cX6_turned 38 = .ok (.goto (-34), 3) := by decide +kernel
theorem dX6_turned_41 : decode cX6_turned 41 = .ok (.iload_n 2, 1) := by decide +kernel
theorem dX6_turned_42 : decode cX6_turned 42 = .ok (.ireturn, 1) := by decide +kernel
theorem dX6_door_0 : decode cX6_door 0 = .ok (.aload_n 0, 1) := by decide +kernel
theorem dX6_door_1 : decode cX6_door 1 = .ok (.iload_n 1, 1) := by decide +kernel
theorem dX6_door_2 : decode cX6_door 2 = .ok (.invokevirtual 115, 3) := by decide +kernel
theorem dX6_door_5 : decode cX6_door 5 = .ok (.ifCond .ne 11, 3) := by decide +kernel
theorem dX6_door_8 : decode cX6_door 8 = .ok (.aload_n 0, 1) := by decide +kernel
theorem dX6_door_9 : decode cX6_door 9 = .ok (.iconst (-1), 1) := by decide +kernel
theorem dX6_door_10 : decode cX6_door 10 = .ok (.invokevirtual 52, 3) := by decide +kernel
theorem dX6_door_13 : decode cX6_door 13 = .ok (.goto 35, 3) := by decide +kernel
theorem dX6_door_16 : decode cX6_door 16 = .ok (.iload_n 2, 1) := by decide +kernel
theorem dX6_door_17 : decode cX6_door 17 = .ok (.iconst 3, 1) := by decide +kernel
theorem dX6_door_18 : decode cX6_door 18 = .ok (.invokestatic 40, 3) := by decide +kernel
theorem dX6_door_21 : decode cX6_door 21 = .ok (.ifCond .eq 21, 3) := by decide +kernel
theorem dX6_door_24 : decode cX6_door 24 = .ok (.aload_n 0, 1) := by decide +kernel
theorem dX6_door_25 : decode cX6_door 25 = .ok (.getfield 13, 3) := by decide +kernel
theorem dX6_door_28 : decode cX6_door 28 = .ok (.iconst 4, 1) := by decide +kernel
theorem dX6_door_29 : decode cX6_door 29 = .ok (.bipush 12, 2) := by decide +kernel
theorem dX6_door_31 : decode cX6_door 31 = .ok (.iload_n 2, 1) := by decide +kernel
theorem dX6_door_32 : decode cX6_door 32 = .ok (.imul, 1) := by decide +kernel
theorem dX6_door_33 : decode cX6_door 33 = .ok (.iadd, 1) := by decide +kernel
theorem dX6_door_34 : decode cX6_door 34 = .ok (.iload_n 1, 1) := by decide +kernel
theorem dX6_door_35 : decode cX6_door 35 = .ok (.iadd, 1) := by decide +kernel
theorem dX6_door_36 : decode cX6_door 36 = .ok (.iconst 1, 1) := by decide +kernel
theorem dX6_door_37 : decode cX6_door 37 = .ok (.isub, 1) := by decide +kernel
theorem dX6_door_38 : decode cX6_door 38 = .ok (.iaload, 1) := by decide +kernel
theorem dX6_door_39 : decode cX6_door 39 = .ok (.goto 9, 3) := by decide +kernel
theorem dX6_door_42 : decode cX6_door 42 = .ok (.aload_n 0, 1) := by decide +kernel
theorem dX6_door_43 : decode cX6_door 43 = .ok (.bipush (-2), 2) := by decide +kernel
theorem dX6_door_45 : decode cX6_door 45 = .ok (.invokevirtual 52, 3) := by decide +kernel
theorem dX6_door_48 : decode cX6_door 48 = .ok (.ireturn, 1) := by decide +kernel
theorem dX6_person_0 : decode cX6_person 0 = .ok (.aload_n 0, 1) := by decide +kernel
theorem dX6_person_1 : decode cX6_person 1 = .ok (.iload_n 1, 1) := by decide +kernel
theorem dX6_person_2 : decode cX6_person 2 = .ok (.invokevirtual 118, 3) := by decide +kernel
theorem dX6_person_5 : decode cX6_person 5 = .ok (.ifCond .ne 11, 3) := by decide +kernel
theorem dX6_person_8 : decode cX6_person 8 = .ok (.aload_n 0, 1) := by decide +kernel
theorem dX6_person_9 : decode cX6_person 9 = .ok (.iconst (-1), 1) := by decide +kernel
theorem dX6_person_10 : decode cX6_person 10 = .ok (.invokevirtual 52, 3) := by decide +kernel
theorem dX6_person_13 : decode cX6_person 13 = .ok (.goto 39, 3) := by decide +kernel
theorem dX6_person_16 : decode cX6_person 16 = .ok (.iload_n 2, 1) := by decide +kernel
theorem dX6_person_17 : decode cX6_person 17 = .ok (.iconst 4, 1) := by decide +kernel
theorem dX6_person_18 : decode cX6_person 18 = .ok (.invokestatic 40, 3) := by decide +kernel
theorem dX6_person_21 : decode cX6_person 21 = .ok (.ifCond .eq 12, 3) := by decide +kernel
theorem dX6_person_24 : decode cX6_person 24 = .ok (.aload_n 0, 1) := by decide +kernel
theorem dX6_person_25 : decode cX6_person 25 = .ok (.iload_n 1, 1) := by decide +kernel
theorem dX6_person_26 : decode cX6_person 26 = .ok (.iload_n 2, 1) := by decide +kernel
theorem dX6_person_27 : decode cX6_person 27 = .ok (.invokevirtual 105, 3) := by decide +kernel
theorem dX6_person_30 : decode cX6_person 30 = .ok (.goto 22, 3) := by decide +kernel
theorem dX6_person_33 : decode cX6_person 33 = .ok (.iload_n 2, 1) := by decide +kernel
theorem dX6_person_34 : decode cX6_person 34 = .ok (.iconst 4, 1) := by decide +kernel
theorem dX6_person_35 : decode cX6_person 35 = .ok (.if_icmp .ne 11, 3) := by decide +kernel
theorem dX6_person_38 : decode cX6_person 38 = .ok (.aload_n 0, 1) := by decide +kernel
theorem dX6_person_39 : decode cX6_person 39 = .ok (.iload_n 1, 1) := by decide +kernel
theorem dX6_person_40 : decode cX6_person 40 = .ok (.invokevirtual 121, 3) := by decide +kernel
theorem dX6_person_43 : decode cX6_person 43 = .ok (.goto 9, 3) := by decide +kernel
theorem dX6_person_46 : decode cX6_person 46 = .ok (.aload_n 0, 1) := by decide +kernel
theorem dX6_person_47 : decode cX6_person 47 = .ok (.bipush (-2), 2) := by decide +kernel
theorem dX6_person_49 : decode cX6_person 49 = .ok (.invokevirtual 52, 3) := by decide +kernel
theorem dX6_person_52 : decode cX6_person 52 = .ok (.ireturn, 1) := by decide +kernel
theorem dX6_turnsDoor_0 : decode cX6_turnsDoor 0 = .ok (.aload_n 0, 1) := by decide +kernel
theorem dX6_turnsDoor_1 : decode cX6_turnsDoor 1 = .ok (.getfield 13, 3) := by decide +kernel
theorem dX6_turnsDoor_4 : decode cX6_turnsDoor 4 = .ok (.iconst 4, 1) := by decide +kernel
theorem dX6_turnsDoor_5 : decode cX6_turnsDoor 5 = .ok (.iload_n 1, 1) := by decide +kernel
theorem dX6_turnsDoor_6 : decode cX6_turnsDoor 6 = .ok (.iadd, 1) := by decide +kernel
theorem dX6_turnsDoor_7 : decode cX6_turnsDoor 7 = .ok (.iconst 1, 1) := by decide +kernel
theorem dX6_turnsDoor_8 : decode cX6_turnsDoor 8 = .ok (.isub, 1) := by decide +kernel
theorem dX6_turnsDoor_9 : decode cX6_turnsDoor 9 = .ok (.aload_n 0, 1) := by decide +kernel
theorem dX6_turnsDoor_10 : decode cX6_turnsDoor 10 = .ok (.getfield 13, 3) := by decide +kernel
theorem dX6_turnsDoor_13 : decode cX6_turnsDoor 13 = .ok (.iconst 4, 1) := by decide +kernel
theorem dX6_turnsDoor_14 : decode cX6_turnsDoor 14 = .ok (.iload_n 1, 1) := by decide +kernel
theorem dX6_turnsDoor_15 : decode cX6_turnsDoor 15 = .ok (.iadd, 1) := by decide +kernel
theorem dX6_turnsDoor_16 : decode cX6_turnsDoor 16 = .ok (.iconst 1, 1) := by decide +kernel
theorem dX6_turnsDoor_17 : decode cX6_turnsDoor 17 = .ok (.isub, 1) := by decide +kernel
theorem dX6_turnsDoor_18 : decode cX6_turnsDoor 18 = .ok (.iaload, 1) := by decide +kernel
theorem dX6_turnsDoor_19 : decode cX6_turnsDoor 19 = .ok (.iconst 1, 1) := by decide +kernel
theorem dX6_turnsDoor_20 : decode cX6_turnsDoor 20 = .ok (.iadd, 1) := by decide +kernel
theorem dX6_turnsDoor_21 : decode cX6_turnsDoor 21 = .ok (.aload_n 0, 1) := by decide +kernel
theorem dX6_turnsDoor_22 : decode cX6_turnsDoor 22 = .ok (.getfield 13, 3) := by decide +kernel
theorem dX6_turnsDoor_25 : decode cX6_turnsDoor 25 = .ok (.iconst 1, 1) := by decide +kernel
theorem dX6_turnsDoor_26 : decode cX6_turnsDoor 26 = .ok (.iaload, 1) := by decide +kernel
theorem dX6_turnsDoor_27 : decode cX6_turnsDoor 27 = .ok (.irem, 1) := by decide +kernel
theorem dX6_turnsDoor_28 : decode cX6_turnsDoor 28 = .ok (.iastore, 1) := by decide +kernel
theorem dX6_turnsDoor_29 : decode cX6_turnsDoor 29 = .ok (.return_, 1) := by decide +kernel
theorem dX6_goes_0 : decode cX6_goes 0 = .ok (.iconst 0, 1) := by decide +kernel
theorem dX6_goes_1 : decode cX6_goes 1 = .ok (.istore_n 2, 1) := by decide +kernel
theorem dX6_goes_2 : decode cX6_goes 2 = .ok (.iconst 1, 1) := by decide +kernel
theorem dX6_goes_3 : decode cX6_goes 3 = .ok (.istore_n 3, 1) := by decide +kernel
theorem dX6_goes_4 : decode cX6_goes 4 = .ok (.iload_n 3, 1) := by decide +kernel
theorem dX6_goes_5 : decode cX6_goes 5 = .ok (.aload_n 0, 1) := by decide +kernel
theorem dX6_goes_6 : decode cX6_goes 6 = .ok (.getfield 13, 3) := by decide +kernel
theorem dX6_goes_9 : decode cX6_goes 9 = .ok (.iconst 0, 1) := by decide +kernel
theorem dX6_goes_10 : decode cX6_goes 10 = .ok (.iaload, 1) := by decide +kernel
theorem dX6_goes_11 : decode cX6_goes 11 = .ok (.if_icmp .gt 29, 3) := by decide +kernel
theorem dX6_goes_14 : decode cX6_goes 14 = .ok (.aload_n 0, 1) := by decide +kernel
theorem dX6_goes_15 : decode cX6_goes 15 = .ok (.iload_n 1, 1) := by decide +kernel
theorem dX6_goes_16 : decode cX6_goes 16 = .ok (.iload_n 3, 1) := by decide +kernel
theorem dX6_goes_17 : decode cX6_goes 17 = .ok (.invokevirtual 112, 3) := by decide +kernel
theorem dX6_goes_20 : decode cX6_goes 20 = .ok (.ifCond .ne 6, 3) := by decide +kernel
theorem dX6_goes_23 : decode cX6_goes 23 = .ok (.goto 11, 3) := by decide +kernel
theorem dX6_goes_26 : decode cX6_goes 26 = .ok (.aload_n 0, 1) := by decide +kernel
theorem dX6_goes_27 : decode cX6_goes 27 = .ok (.iload_n 3, 1) := by decide +kernel
theorem dX6_goes_28 : decode cX6_goes 28 = .ok (.invokevirtual 124, 3) := by decide +kernel
theorem dX6_goes_31 : decode cX6_goes 31 = .ok (.iinc 2 1, 3) := by decide +kernel
theorem dX6_goes_34 : decode cX6_goes 34 = .ok (.iinc 3 1, 3) := by decide +kernel
theorem dX6_goes_37 : decode cX6_goes 37 = .ok (.goto (-33), 3) := by decide +kernel
theorem dX6_goes_40 : decode cX6_goes 40 = .ok (.iload_n 2, 1) := by decide +kernel
theorem dX6_goes_41 : decode cX6_goes 41 = .ok (.ireturn, 1) := by decide +kernel
theorem dX6_go_0 : decode cX6_go 0 = .ok (.aload_n 0, 1) := by decide +kernel
theorem dX6_go_1 : decode cX6_go 1 = .ok (.iload_n 1, 1) := by decide +kernel
theorem dX6_go_2 : decode cX6_go 2 = .ok (.invokevirtual 118, 3) := by decide +kernel
theorem dX6_go_5 : decode cX6_go 5 = .ok (.ifCond .ne 9, 3) := by decide +kernel
theorem dX6_go_8 : decode cX6_go 8 = .ok (.aload_n 0, 1) := by decide +kernel
theorem dX6_go_9 : decode cX6_go 9 = .ok (.iconst (-1), 1) := by decide +kernel
theorem dX6_go_10 : decode cX6_go 10 = .ok (.invokevirtual 52, 3) := by decide +kernel
theorem dX6_go_13 : decode cX6_go 13 = .ok (.ireturn, 1) := by decide +kernel
theorem dX6_go_14 : decode cX6_go 14 = .ok (.aload_n 0, 1) := by decide +kernel
theorem dX6_go_15 : decode cX6_go 15 = .ok (.getfield 13, 3) := by decide +kernel
theorem dX6_go_18 : decode cX6_go 18 = .ok (.bipush 78, 2) := by decide +kernel
theorem dX6_go_20 : decode cX6_go 20 = .ok (.dup2, 1) := by decide +kernel
theorem dX6_go_21 : decode cX6_go 21 = .ok (.iaload, 1) := by decide +kernel
theorem dX6_go_22 : decode cX6_go 22 = .ok (.iconst 1, 1) := by decide +kernel
theorem dX6_go_23 : decode cX6_go 23 = .ok (.iadd, 1) := by decide +kernel
theorem dX6_go_24 : decode cX6_go 24 = .ok (.iastore, 1) := by decide +kernel
theorem dX6_go_25 : decode cX6_go 25 = .ok (.aload_n 0, 1) := by decide +kernel
theorem dX6_go_26 : decode cX6_go 26 = .ok (.iload_n 1, 1) := by decide +kernel
theorem dX6_go_27 : decode cX6_go 27 = .ok (.invokevirtual 128, 3) := by decide +kernel
theorem dX6_go_30 : decode cX6_go 30 = .ok (.ireturn, 1) := by decide +kernel
theorem dX6_turn_0 : decode cX6_turn 0 = .ok (.aload_n 0, 1) := by decide +kernel
theorem dX6_turn_1 : decode cX6_turn 1 = .ok (.iload_n 1, 1) := by decide +kernel
theorem dX6_turn_2 : decode cX6_turn 2 = .ok (.invokevirtual 115, 3) := by decide +kernel
theorem dX6_turn_5 : decode cX6_turn 5 = .ok (.ifCond .ne 7, 3) := by decide +kernel
theorem dX6_turn_8 : decode cX6_turn 8 = .ok (.iconst (-1), 1) := by decide +kernel
theorem dX6_turn_9 : decode cX6_turn 9 = .ok (.goto 24, 3) := by decide +kernel
theorem dX6_turn_12 : decode cX6_turn 12 = .ok (.aload_n 0, 1) := by decide +kernel
theorem dX6_turn_13 : decode cX6_turn 13 = .ok (.getfield 13, 3) := by decide +kernel
theorem dX6_turn_16 : decode cX6_turn 16 = .ok (.bipush 28, 2) := by decide +kernel
theorem dX6_turn_18 : decode cX6_turn 18 = .ok (.iload_n 1, 1) := by decide +kernel
theorem dX6_turn_19 : decode cX6_turn 19 = .ok (.iadd, 1) := by decide +kernel
theorem dX6_turn_20 : decode cX6_turn 20 = .ok (.iconst 1, 1) := by decide +kernel
theorem dX6_turn_21 : decode cX6_turn 21 = .ok (.isub, 1) := by decide +kernel
theorem dX6_turn_22 : decode cX6_turn 22 = .ok (.iaload, 1) := by decide +kernel
theorem dX6_turn_23 : decode cX6_turn 23 = .ok (.iconst 1, 1) := by decide +kernel
theorem dX6_turn_24 : decode cX6_turn 24 = .ok (.if_icmp .ne 8, 3) := by decide +kernel
theorem dX6_turn_27 : decode cX6_turn 27 = .ok (.bipush (-3), 2) := by decide +kernel
theorem dX6_turn_29 : decode cX6_turn 29 = .ok (.goto 4, 3) := by decide +kernel
theorem dX6_turn_32 : decode cX6_turn 32 = .ok (.iconst 0, 1) := by decide +kernel
theorem dX6_turn_33 : decode cX6_turn 33 = .ok (.istore_n 2, 1) := by decide +kernel
theorem dX6_turn_34 : decode cX6_turn 34 = .ok (.iload_n 2, 1) := by decide +kernel
theorem dX6_turn_35 : decode cX6_turn 35 = .ok (.ifCond .eq 9, 3) := by decide +kernel
theorem dX6_turn_38 : decode cX6_turn 38 = .ok (.aload_n 0, 1) := by decide +kernel
theorem dX6_turn_39 : decode cX6_turn 39 = .ok (.iload_n 2, 1) := by decide +kernel
theorem dX6_turn_40 : decode cX6_turn 40 = .ok (.invokevirtual 52, 3) := by decide +kernel
theorem dX6_turn_43 : decode cX6_turn 43 = .ok (.ireturn, 1) := by decide +kernel
theorem dX6_turn_44 : decode cX6_turn 44 = .ok (.aload_n 0, 1) := by decide +kernel
theorem dX6_turn_45 : decode cX6_turn 45 = .ok (.iload_n 1, 1) := by decide +kernel
theorem dX6_turn_46 : decode cX6_turn 46 = .ok (.invokevirtual 124, 3) := by decide +kernel
theorem dX6_turn_49 : decode cX6_turn 49 = .ok (.aload_n 0, 1) := by decide +kernel
theorem dX6_turn_50 : decode cX6_turn 50 = .ok (.getfield 13, 3) := by decide +kernel
theorem dX6_turn_53 : decode cX6_turn 53 = .ok (.iconst 4, 1) := by decide +kernel
theorem dX6_turn_54 : decode cX6_turn 54 = .ok (.iload_n 1, 1) := by decide +kernel
theorem dX6_turn_55 : decode cX6_turn 55 = .ok (.iadd, 1) := by decide +kernel
theorem dX6_turn_56 : decode cX6_turn 56 = .ok (.iconst 1, 1) := by decide +kernel
theorem dX6_turn_57 : decode cX6_turn 57 = .ok (.isub, 1) := by decide +kernel
theorem dX6_turn_58 : decode cX6_turn 58 = .ok (.iaload, 1) := by decide +kernel
theorem dX6_turn_59 : decode cX6_turn 59 = .ok (.ireturn, 1) := by decide +kernel
theorem dX6_power_0 : decode cX6_power 0 = .ok (.iconst 1, 1) := by decide +kernel
theorem dX6_power_1 : decode cX6_power 1 = .ok (.istore_n 2, 1) := by decide +kernel
theorem dX6_power_2 : decode cX6_power 2 = .ok (.iconst 0, 1) := by decide +kernel
theorem dX6_power_3 : decode cX6_power 3 = .ok (.istore_n 3, 1) := by decide +kernel
theorem dX6_power_4 : decode cX6_power 4 = .ok (.iload_n 3, 1) := by decide +kernel
theorem dX6_power_5 : decode cX6_power 5 = .ok (.iload_n 1, 1) := by decide +kernel
theorem dX6_power_6 : decode cX6_power 6 = .ok (.if_icmp .ge 18, 3) := by decide +kernel
theorem dX6_power_9 : decode cX6_power 9 = .ok (.iload_n 2, 1) := by decide +kernel
theorem dX6_power_10 : decode cX6_power 10 = .ok (.aload_n 0, 1) := by decide +kernel
theorem dX6_power_11 : decode cX6_power 11 = .ok (.getfield 13, 3) := by decide +kernel
theorem dX6_power_14 : decode cX6_power 14 = .ok (.iconst 1, 1) := by decide +kernel
theorem dX6_power_15 : decode cX6_power 15 = .ok (.iaload, 1) := by decide +kernel
theorem dX6_power_16 : decode cX6_power 16 = .ok (.imul, 1) := by decide +kernel
theorem dX6_power_17 : decode cX6_power 17 = .ok (.istore_n 2, 1) := by decide +kernel
theorem dX6_power_18 : decode cX6_power 18 = .ok (.iinc 3 1, 3) := by decide +kernel
theorem dX6_power_21 : decode cX6_power 21 = .ok (.goto (-17), 3) := by decide +kernel
theorem dX6_power_24 : decode cX6_power 24 = .ok (.iload_n 2, 1) := by decide +kernel
theorem dX6_power_25 : decode cX6_power 25 = .ok (.ireturn, 1) := by decide +kernel
theorem dX6_stateNow_0 : decode cX6_stateNow 0 = .ok (.iconst 0, 1) := by decide +kernel
theorem dX6_stateNow_1 : decode cX6_stateNow 1 = .ok (.istore_n 1, 1) := by decide +kernel
theorem dX6_stateNow_2 : decode cX6_stateNow 2 = .ok (.aload_n 0, 1) := by decide +kernel
theorem dX6_stateNow_3 : decode cX6_stateNow 3 = .ok (.getfield 13, 3) := by decide +kernel
theorem dX6_stateNow_6 : decode cX6_stateNow 6 = .ok (.iconst 0, 1) := by decide +kernel
theorem dX6_stateNow_7 : decode cX6_stateNow 7 = .ok (.iaload, 1) := by decide +kernel
theorem dX6_stateNow_8 : decode cX6_stateNow 8 = .ok (.iconst 1, 1) := by decide +kernel
theorem dX6_stateNow_9 : decode cX6_stateNow 9 = .ok (.isub, 1) := by decide +kernel
theorem dX6_stateNow_10 : decode cX6_stateNow 10 = .ok (.istore_n 2, 1) := by decide +kernel
theorem dX6_stateNow_11 : decode cX6_stateNow 11 = .ok (.iload_n 2, 1) := by decide +kernel
theorem dX6_stateNow_12 : decode cX6_stateNow 12 = .ok (.ifCond .lt 27, 3) := by decide +kernel
theorem dX6_stateNow_15 : decode cX6_stateNow 15 = .ok (.aload_n 0, 1) := by decide +kernel
theorem dX6_stateNow_16 : decode cX6_stateNow 16 = .ok (.getfield 13, 3) := by decide +kernel
theorem dX6_stateNow_19 : decode cX6_stateNow 19 = .ok (.iconst 1, 1) := by decide +kernel
theorem dX6_stateNow_20 : decode cX6_stateNow 20 = .ok (.iaload, 1) := by decide +kernel
theorem dX6_stateNow_21 : decode cX6_stateNow 21 = .ok (.iload_n 1, 1) := by decide +kernel
theorem dX6_stateNow_22 : decode cX6_stateNow 22 = .ok (.imul, 1) := by decide +kernel
theorem dX6_stateNow_23 : decode cX6_stateNow 23 = .ok (.aload_n 0, 1) := by decide +kernel
theorem dX6_stateNow_24 : decode cX6_stateNow 24 = .ok (.getfield 13, 3) := by decide +kernel
theorem dX6_stateNow_27 : decode cX6_stateNow 27 = .ok (.iconst 4, 1) := by decide +kernel
theorem dX6_stateNow_28 : decode cX6_stateNow 28 = .ok (.iload_n 2, 1) := by decide +kernel
theorem dX6_stateNow_29 : decode cX6_stateNow 29 = .ok (.iadd, 1) := by decide +kernel
theorem dX6_stateNow_30 : decode cX6_stateNow 30 = .ok (.iaload, 1) := by decide +kernel
theorem dX6_stateNow_31 : decode cX6_stateNow 31 = .ok (.iadd, 1) := by decide +kernel
theorem dX6_stateNow_32 : decode cX6_stateNow 32 = .ok (.istore_n 1, 1) := by decide +kernel
theorem dX6_stateNow_33 : decode cX6_stateNow 33 = .ok (.iinc 2 (-1), 3) := by decide +kernel
theorem dX6_stateNow_36 : decode cX6_stateNow 36 = .ok (.goto (-25), 3) := by decide +kernel
theorem dX6_stateNow_39 : decode cX6_stateNow 39 = .ok (.iload_n 1, 1) := by decide +kernel
theorem dX6_stateNow_40 : decode cX6_stateNow 40 = .ok (.ireturn, 1) := by decide +kernel
theorem dX6_state_0 : decode cX6_state 0 = .ok (.aload_n 0, 1) := by decide +kernel
theorem dX6_state_1 : decode cX6_state 1 = .ok (.invokevirtual 131, 3) := by decide +kernel
theorem dX6_state_4 : decode cX6_state 4 = .ok (.ireturn, 1) := by decide +kernel
theorem dX6_isWished_0 : decode cX6_isWished 0 = .ok (.iconst 0, 1) := by decide +kernel
theorem dX6_isWished_1 : decode cX6_isWished 1 = .ok (.istore_n 1, 1) := by decide +kernel
theorem dX6_isWished_2 : decode cX6_isWished 2 = .ok (.iload_n 1, 1) := by decide +kernel
theorem dX6_isWished_3 : decode cX6_isWished 3 = .ok (.aload_n 0, 1) := by decide +kernel
theorem dX6_isWished_4 : decode cX6_isWished 4 = .ok (.getfield 13, 3) := by decide +kernel
theorem dX6_isWished_7 : decode cX6_isWished 7 = .ok (.iconst 0, 1) := by decide +kernel
theorem dX6_isWished_8 : decode cX6_isWished 8 = .ok (.iaload, 1) := by decide +kernel
theorem dX6_isWished_9 : decode cX6_isWished 9 = .ok (.if_icmp .ge 45, 3) := by decide +kernel
theorem dX6_isWished_12 : decode cX6_isWished 12 = .ok (.aload_n 0, 1) := by decide +kernel
theorem dX6_isWished_13 : decode cX6_isWished 13 = .ok (.getfield 13, 3) := by decide +kernel
theorem dX6_isWished_16 : decode cX6_isWished 16 = .ok (.bipush 16, 2) := by decide +kernel
theorem dX6_isWished_18 : decode cX6_isWished 18 = .ok (.iload_n 1, 1) := by decide +kernel
theorem dX6_isWished_19 : decode cX6_isWished 19 = .ok (.iadd, 1) := by decide +kernel
theorem dX6_isWished_20 : decode cX6_isWished 20 = .ok (.iaload, 1) := by decide +kernel
theorem dX6_isWished_21 : decode cX6_isWished 21 = .ok (.bipush 9, 2) := by decide +kernel
theorem dX6_isWished_23 : decode cX6_isWished 23 = .ok (.if_icmp .eq 25, 3) := by decide +kernel
theorem dX6_isWished_26 : decode cX6_isWished 26 = .ok (.aload_n 0, 1) := by decide +kernel
theorem dX6_isWished_27 : decode cX6_isWished 27 = .ok (.getfield 13, 3) := by decide +kernel
theorem dX6_isWished_30 : decode cX6_isWished 30 = .ok (.bipush 16, 2) := by decide +kernel
theorem dX6_isWished_32 : decode cX6_isWished 32 = .ok (.iload_n 1, 1) := by decide +kernel
theorem dX6_isWished_33 : decode cX6_isWished 33 = .ok (.iadd, 1) := by decide +kernel
theorem dX6_isWished_34 : decode cX6_isWished 34 = .ok (.iaload, 1) := by decide +kernel
theorem dX6_isWished_35 : decode cX6_isWished 35 = .ok (.aload_n 0, 1) := by decide +kernel
theorem dX6_isWished_36 : decode cX6_isWished 36 = .ok (.getfield 13, 3) := by decide +kernel
theorem dX6_isWished_39 : decode cX6_isWished 39 = .ok (.iconst 4, 1) := by decide +kernel
theorem dX6_isWished_40 : decode cX6_isWished 40 = .ok (.iload_n 1, 1) := by decide +kernel
theorem dX6_isWished_41 : decode cX6_isWished 41 = .ok (.iadd, 1) := by decide +kernel
theorem dX6_isWished_42 : decode cX6_isWished 42 = .ok (.iaload, 1) := by decide +kernel
theorem dX6_isWished_43 : decode cX6_isWished 43 = .ok (.if_icmp .eq 5, 3) := by decide +kernel
theorem dX6_isWished_46 : decode cX6_isWished 46 = .ok (.iconst 0, 1) := by decide +kernel
theorem dX6_isWished_47 : decode cX6_isWished 47 = .ok (.ireturn, 1) := by decide +kernel
theorem dX6_isWished_48 : decode cX6_isWished 48 = .ok (.iinc 1 1, 3) := by decide +kernel
theorem dX6_isWished_51 : decode cX6_isWished 51 = .ok (.goto (-49), 3) := by decide +kernel
theorem dX6_isWished_54 : decode cX6_isWished 54 = .ok (.iconst 1, 1) := by decide +kernel
theorem dX6_isWished_55 : decode cX6_isWished 55 = .ok (.ireturn, 1) := by decide +kernel
theorem dX6_wished_0 : decode cX6_wished 0 = .ok (.aload_n 0, 1) := by decide +kernel
theorem dX6_wished_1 : decode cX6_wished 1 = .ok (.invokevirtual 134, 3) := by decide +kernel
theorem dX6_wished_4 : decode cX6_wished 4 = .ok (.ifCond .eq 7, 3) := by decide +kernel
theorem dX6_wished_7 : decode cX6_wished 7 = .ok (.iconst 1, 1) := by decide +kernel
theorem dX6_wished_8 : decode cX6_wished 8 = .ok (.goto 4, 3) := by decide +kernel
theorem dX6_wished_11 : decode cX6_wished 11 = .ok (.iconst 0, 1) := by decide +kernel
theorem dX6_wished_12 : decode cX6_wished 12 = .ok (.ireturn, 1) := by decide +kernel
theorem dX6_findsWay_0 : decode cX6_findsWay 0 = .ok (.aload_n 0, 1) := by decide +kernel
theorem dX6_findsWay_1 : decode cX6_findsWay 1 = .ok (.getfield 13, 3) := by decide +kernel
theorem dX6_findsWay_4 : decode cX6_findsWay 4 = .ok (.iconst 0, 1) := by decide +kernel
theorem dX6_findsWay_5 : decode cX6_findsWay 5 = .ok (.iaload, 1) := by decide +kernel
theorem dX6_findsWay_6 : decode cX6_findsWay 6 = .ok (.istore_n 3, 1) := by decide +kernel
theorem dX6_findsWay_7 : decode cX6_findsWay 7 = .ok (.iload_n 1, 1) := by decide +kernel
theorem dX6_findsWay_8 : decode cX6_findsWay 8 = .ok (.istore 4, 2) := by decide +kernel
theorem dX6_findsWay_10 : decode cX6_findsWay 10 = .ok (.iconst 1, 1) := by decide +kernel
theorem dX6_findsWay_11 : decode cX6_findsWay 11 = .ok (.istore 5, 2) := by decide +kernel
theorem dX6_findsWay_13 : decode cX6_findsWay 13 = .ok (.iload 5, 2) := by decide +kernel
theorem dX6_findsWay_15 : decode cX6_findsWay 15 = .ok (.iload_n 3, 1) := by decide +kernel
theorem dX6_findsWay_16 : decode cX6_findsWay 16 = .ok (.if_icmp .gt 36, 3) := by decide +kernel
theorem dX6_findsWay_19 : decode cX6_findsWay 19 = .ok (.aload_n 0, 1) := by decide +kernel
theorem dX6_findsWay_20 : decode cX6_findsWay 20 = .ok (.getfield 31, 3) := by decide +kernel
theorem dX6_findsWay_23 : decode cX6_findsWay 23 = .ok (.iload 5, 2) := by decide +kernel
theorem dX6_findsWay_25 : decode cX6_findsWay 25 = .ok (.iload 4, 2) := by decide +kernel
theorem dX6_findsWay_27 : decode cX6_findsWay 27 = .ok (.aload_n 0, 1) := by decide +kernel
theorem dX6_findsWay_28 : decode cX6_findsWay 28 = .ok (.getfield 13, 3) := by decide +kernel
theorem dX6_findsWay_31 : decode cX6_findsWay 31 = .ok (.iconst 1, 1) := by decide +kernel
theorem dX6_findsWay_32 : decode cX6_findsWay 32 = .ok (.iaload, 1) := by decide +kernel
theorem dX6_findsWay_33 : decode cX6_findsWay 33 = .ok (.irem, 1) := by decide +kernel
theorem dX6_findsWay_34 : decode cX6_findsWay 34 = .ok (.iastore, 1) := by decide +kernel
theorem dX6_findsWay_35 : decode cX6_findsWay 35 = .ok (.iload 4, 2) := by decide +kernel
theorem dX6_findsWay_37 : decode cX6_findsWay 37 = .ok (.aload_n 0, 1) := by decide +kernel
theorem dX6_findsWay_38 : decode cX6_findsWay 38 = .ok (.getfield 13, 3) := by decide +kernel
theorem dX6_findsWay_41 : decode cX6_findsWay 41 = .ok (.iconst 1, 1) := by decide +kernel
theorem dX6_findsWay_42 : decode cX6_findsWay 42 = .ok (.iaload, 1) := by decide +kernel
theorem dX6_findsWay_43 : decode cX6_findsWay 43 = .ok (.idiv, 1) := by decide +kernel
theorem dX6_findsWay_44 : decode cX6_findsWay 44 = .ok (.istore 4, 2) := by decide +kernel
theorem dX6_findsWay_46 : decode cX6_findsWay 46 = .ok (.iinc 5 1, 3) := by decide +kernel
theorem dX6_findsWay_49 : decode cX6_findsWay 49 = .ok (.goto (-36), 3) := by decide +kernel
theorem dX6_findsWay_52 : decode cX6_findsWay 52 = .ok (.iconst 0, 1) := by decide +kernel
theorem dX6_findsWay_53 : decode cX6_findsWay 53 = .ok (.istore 5, 2) := by decide +kernel
theorem dX6_findsWay_55 : decode cX6_findsWay 55 = .ok (.iload 5, 2) := by decide +kernel
theorem dX6_findsWay_57 : decode cX6_findsWay 57 = .ok (.iload_n 3, 1) := by decide +kernel
theorem dX6_findsWay_58 : decode cX6_findsWay 58 = .ok (.if_icmp .ge 119, 3) := by decide +kernel
theorem dX6_findsWay_61 : decode cX6_findsWay 61 = .ok (.iload_n 2, 1) := by decide +kernel
theorem dX6_findsWay_62 : decode cX6_findsWay 62 = .ok (.ifCond .eq 10, 3) := by decide +kernel
theorem dX6_findsWay_65 : decode cX6_findsWay 65 = .ok (.iload 5, 2) := by decide +kernel
theorem dX6_findsWay_67 : decode cX6_findsWay 67 = .ok (.iconst 1, 1) := by decide +kernel
theorem dX6_findsWay_68 : decode cX6_findsWay 68 = .ok (.iadd, 1) := by decide +kernel
theorem dX6_findsWay_69 : decode cX6_findsWay 69 = .ok (.goto 7, 3) := by decide +kernel
theorem dX6_findsWay_72 : decode cX6_findsWay 72 = .ok (.iload_n 3, 1) := by decide +kernel
theorem dX6_findsWay_73 : decode cX6_findsWay 73 = .ok (.iload 5, 2) := by decide +kernel
theorem dX6_findsWay_75 : decode cX6_findsWay 75 = .ok (.isub, 1) := by decide +kernel
theorem dX6_findsWay_76 : decode cX6_findsWay 76 = .ok (.istore 6, 2) := by decide +kernel
theorem dX6_findsWay_78 : decode cX6_findsWay 78 = .ok (.aload_n 0, 1) := by decide +kernel
theorem dX6_findsWay_79 : decode cX6_findsWay 79 = .ok (.getfield 28, 3) := by decide +kernel
theorem dX6_findsWay_82 : decode cX6_findsWay 82 = .ok (.iload 6, 2) := by decide +kernel
theorem dX6_findsWay_84 : decode cX6_findsWay 84 = .ok (.aload_n 0, 1) := by decide +kernel
theorem dX6_findsWay_85 : decode cX6_findsWay 85 = .ok (.getfield 31, 3) := by decide +kernel
theorem dX6_findsWay_88 : decode cX6_findsWay 88 = .ok (.iload 6, 2) := by decide +kernel
theorem dX6_findsWay_90 : decode cX6_findsWay 90 = .ok (.iaload, 1) := by decide +kernel
theorem dX6_findsWay_91 : decode cX6_findsWay 91 = .ok (.iastore, 1) := by decide +kernel
theorem dX6_findsWay_92 : decode cX6_findsWay 92 = .ok (.iconst 1, 1) := by decide +kernel
theorem dX6_findsWay_93 : decode cX6_findsWay 93 = .ok (.istore 7, 2) := by decide +kernel
theorem dX6_findsWay_95 : decode cX6_findsWay 95 = .ok (.iload 7, 2) := by decide +kernel
theorem dX6_findsWay_97 : decode cX6_findsWay 97 = .ok (.iload_n 3, 1) := by decide +kernel
theorem dX6_findsWay_98 : decode cX6_findsWay 98 = .ok (.if_icmp .gt 73, 3) := by decide +kernel
theorem dX6_findsWay_101 : decode cX6_findsWay 101 = .ok (.iload_n 2, 1) := by decide +kernel
theorem dX6_findsWay_102 : decode cX6_findsWay 102 = .ok (.ifCond .eq 13, 3) := by decide +kernel
theorem dX6_findsWay_105 : decode cX6_findsWay 105 = .ok (.iload 6, 2) := by decide +kernel
theorem dX6_findsWay_107 : decode cX6_findsWay 107 = .ok (.iload 7, 2) := by decide +kernel
theorem dX6_findsWay_109 : decode cX6_findsWay 109 = .ok (.invokestatic 109, 3) := by decide +kernel
theorem dX6_findsWay_112 : decode cX6_findsWay 112 = .ok (.goto 10, 3) := by decide +kernel
theorem dX6_findsWay_115 : decode cX6_findsWay 115 = .ok (.iload 7, 2) := by decide +kernel
theorem dX6_findsWay_117 : decode cX6_findsWay 117 = .ok (.iload 6, 2) := by decide +kernel
theorem dX6_findsWay_119 : decode cX6_findsWay 119 = .ok (.invokestatic 109, 3) := by decide +kernel
theorem dX6_findsWay_122 : decode cX6_findsWay 122 = .ok (.istore 8, 2) := by decide +kernel
theorem dX6_findsWay_124 : decode cX6_findsWay 124 = .ok (.iload 8, 2) := by decide +kernel
theorem dX6_findsWay_126 : decode cX6_findsWay 126 = .ok (.ifCond .eq 39, 3) := by decide +kernel
theorem dX6_findsWay_129 : decode cX6_findsWay 129 = .ok (.aload_n 0, 1) := by decide +kernel
theorem dX6_findsWay_130 : decode cX6_findsWay 130 = .ok (.getfield 31, 3) := by decide +kernel
theorem dX6_findsWay_133 : decode cX6_findsWay 133 = .ok (.iload 7, 2) := by decide +kernel
theorem dX6_findsWay_135 : decode cX6_findsWay 135 = .ok (.aload_n 0, 1) := by decide +kernel
theorem dX6_findsWay_136 : decode cX6_findsWay 136 = .ok (.getfield 31, 3) := by decide +kernel
theorem dX6_findsWay_139 : decode cX6_findsWay 139 = .ok (.iload 7, 2) := by decide +kernel
theorem dX6_findsWay_141 : decode cX6_findsWay 141 = .ok (.iaload, 1) := by decide +kernel
theorem dX6_findsWay_142 : decode cX6_findsWay 142 = .ok (.aload_n 0, 1) := by decide +kernel
theorem dX6_findsWay_143 : decode cX6_findsWay 143 = .ok (.getfield 13, 3) := by decide +kernel
theorem dX6_findsWay_146 : decode cX6_findsWay 146 = .ok (.iconst 1, 1) := by decide +kernel
theorem dX6_findsWay_147 : decode cX6_findsWay 147 = .ok (.iaload, 1) := by decide +kernel
theorem dX6_findsWay_148 : decode cX6_findsWay 148 = .ok (.iadd, 1) := by decide +kernel
theorem dX6_findsWay_149 : decode cX6_findsWay 149 = .ok (.aload_n 0, 1) := by decide +kernel
theorem dX6_findsWay_150 : decode cX6_findsWay 150 = .ok (.getfield 28, 3) := by decide +kernel
theorem dX6_findsWay_153 : decode cX6_findsWay 153 = .ok (.iload 6, 2) := by decide +kernel
theorem dX6_findsWay_155 : decode cX6_findsWay 155 = .ok (.iaload, 1) := by decide +kernel
theorem dX6_findsWay_156 : decode cX6_findsWay 156 = .ok (.isub, 1) := by decide +kernel
theorem dX6_findsWay_157 : decode cX6_findsWay 157 = .ok (.aload_n 0, 1) := by decide +kernel
theorem dX6_findsWay_158 : decode cX6_findsWay 158 = .ok (.getfield 13, 3) := by decide +kernel
theorem dX6_findsWay_161 : decode cX6_findsWay 161 = .ok (.iconst 1, 1) := by decide +kernel
theorem dX6_findsWay_162 : decode cX6_findsWay 162 = .ok (.iaload, 1) := by decide +kernel
theorem dX6_findsWay_163 : decode cX6_findsWay 163 = .ok (.irem, 1) := by decide +kernel
theorem dX6_findsWay_164 : decode cX6_findsWay 164 = .ok (.iastore, 1) := by decide +kernel
theorem dX6_findsWay_165 : decode cX6_findsWay 165 = .ok (.iinc 7 1, 3) := by decide +kernel
theorem dX6_findsWay_168 : decode cX6_findsWay 168 = .ok (.goto (-73), 3) := by decide +kernel
theorem dX6_findsWay_171 : decode cX6_findsWay 171 = .ok (.iinc 5 1, 3) := by decide +kernel
theorem dX6_findsWay_174 : decode cX6_findsWay 174 = .ok (.goto (-119), 3) := by decide +kernel
theorem dX6_findsWay_177 : decode cX6_findsWay 177 = .ok (.return_, 1) := by decide +kernel
theorem dX6_way_0 : decode cX6_way 0 = .ok (.iload_n 1, 1) := by decide +kernel
theorem dX6_way_1 : decode cX6_way 1 = .ok (.aload_n 0, 1) := by decide +kernel
theorem dX6_way_2 : decode cX6_way 2 = .ok (.aload_n 0, 1) := by decide +kernel
theorem dX6_way_3 : decode cX6_way 3 = .ok (.getfield 13, 3) := by decide +kernel
theorem dX6_way_6 : decode cX6_way 6 = .ok (.iconst 0, 1) := by decide +kernel
theorem dX6_way_7 : decode cX6_way 7 = .ok (.iaload, 1) := by decide +kernel
theorem dX6_way_8 : decode cX6_way 8 = .ok (.invokevirtual 137, 3) := by decide +kernel
theorem dX6_way_11 : decode cX6_way 11 = .ok (.invokestatic 40, 3) := by decide +kernel
theorem dX6_way_14 : decode cX6_way 14 = .ok (.ifCond .eq 11, 3) := by decide +kernel
theorem dX6_way_17 : decode cX6_way 17 = .ok (.aload_n 0, 1) := by decide +kernel
theorem dX6_way_18 : decode cX6_way 18 = .ok (.iload_n 2, 1) := by decide +kernel
theorem dX6_way_19 : decode cX6_way 19 = .ok (.invokevirtual 115, 3) := by decide +kernel
theorem dX6_way_22 : decode cX6_way 22 = .ok (.ifCond .ne 9, 3) := by decide +kernel
theorem dX6_way_25 : decode cX6_way 25 = .ok (.aload_n 0, 1) := by decide +kernel
theorem dX6_way_26 : decode cX6_way 26 = .ok (.iconst (-1), 1) := by decide +kernel
theorem dX6_way_27 : decode cX6_way 27 = .ok (.invokevirtual 52, 3) := by decide +kernel
theorem dX6_way_30 : decode cX6_way 30 = .ok (.ireturn, 1) := by decide +kernel
theorem dX6_way_31 : decode cX6_way 31 = .ok (.iload_n 3, 1) := by decide +kernel
theorem dX6_way_32 : decode cX6_way 32 = .ok (.iconst 2, 1) := by decide +kernel
theorem dX6_way_33 : decode cX6_way 33 = .ok (.invokestatic 40, 3) := by decide +kernel
theorem dX6_way_36 : decode cX6_way 36 = .ok (.ifCond .ne 10, 3) := by decide +kernel
theorem dX6_way_39 : decode cX6_way 39 = .ok (.aload_n 0, 1) := by decide +kernel
theorem dX6_way_40 : decode cX6_way 40 = .ok (.bipush (-2), 2) := by decide +kernel
theorem dX6_way_42 : decode cX6_way 42 = .ok (.invokevirtual 52, 3) := by decide +kernel
theorem dX6_way_45 : decode cX6_way 45 = .ok (.ireturn, 1) := by decide +kernel
theorem dX6_way_46 : decode cX6_way 46 = .ok (.aload_n 0, 1) := by decide +kernel
theorem dX6_way_47 : decode cX6_way 47 = .ok (.iload_n 1, 1) := by decide +kernel
theorem dX6_way_48 : decode cX6_way 48 = .ok (.iload_n 3, 1) := by decide +kernel
theorem dX6_way_49 : decode cX6_way 49 = .ok (.ifCond .ne 7, 3) := by decide +kernel
theorem dX6_way_52 : decode cX6_way 52 = .ok (.iconst 1, 1) := by decide +kernel
theorem dX6_way_53 : decode cX6_way 53 = .ok (.goto 4, 3) := by decide +kernel
theorem dX6_way_56 : decode cX6_way 56 = .ok (.iconst 0, 1) := by decide +kernel
theorem dX6_way_57 : decode cX6_way 57 = .ok (.invokevirtual 140, 3) := by decide +kernel
theorem dX6_way_60 : decode cX6_way 60 = .ok (.aload_n 0, 1) := by decide +kernel
theorem dX6_way_61 : decode cX6_way 61 = .ok (.getfield 28, 3) := by decide +kernel
theorem dX6_way_64 : decode cX6_way 64 = .ok (.iload_n 2, 1) := by decide +kernel
theorem dX6_way_65 : decode cX6_way 65 = .ok (.iaload, 1) := by decide +kernel
theorem dX6_way_66 : decode cX6_way 66 = .ok (.ireturn, 1) := by decide +kernel
theorem dX6_keeps_0 : decode cX6_keeps 0 = .ok (.iconst 0, 1) := by decide +kernel
theorem dX6_keeps_1 : decode cX6_keeps 1 = .ok (.istore_n 1, 1) := by decide +kernel
theorem dX6_keeps_2 : decode cX6_keeps 2 = .ok (.iload_n 1, 1) := by decide +kernel
theorem dX6_keeps_3 : decode cX6_keeps 3 = .ok (.bipush 12, 2) := by decide +kernel
theorem dX6_keeps_5 : decode cX6_keeps 5 = .ok (.if_icmp .ge 23, 3) := by decide +kernel
theorem dX6_keeps_8 : decode cX6_keeps 8 = .ok (.aload_n 0, 1) := by decide +kernel
theorem dX6_keeps_9 : decode cX6_keeps 9 = .ok (.getfield 34, 3) := by decide +kernel
theorem dX6_keeps_12 : decode cX6_keeps 12 = .ok (.iload_n 1, 1) := by decide +kernel
theorem dX6_keeps_13 : decode cX6_keeps 13 = .ok (.aload_n 0, 1) := by decide +kernel
theorem dX6_keeps_14 : decode cX6_keeps 14 = .ok (.getfield 13, 3) := by decide +kernel
theorem dX6_keeps_17 : decode cX6_keeps 17 = .ok (.iconst 4, 1) := by decide +kernel
theorem dX6_keeps_18 : decode cX6_keeps 18 = .ok (.iload_n 1, 1) := by decide +kernel
theorem dX6_keeps_19 : decode cX6_keeps 19 = .ok (.iadd, 1) := by decide +kernel
theorem dX6_keeps_20 : decode cX6_keeps 20 = .ok (.iaload, 1) := by decide +kernel
theorem dX6_keeps_21 : decode cX6_keeps 21 = .ok (.iastore, 1) := by decide +kernel
theorem dX6_keeps_22 : decode cX6_keeps 22 = .ok (.iinc 1 1, 3) := by decide +kernel
theorem dX6_keeps_25 : decode cX6_keeps 25 = .ok (.goto (-23), 3) := by decide +kernel
theorem dX6_keeps_28 : decode cX6_keeps 28 = .ok (.return_, 1) := by decide +kernel
theorem dX6_putsBack_0 : decode cX6_putsBack 0 = .ok (.iconst 0, 1) := by decide +kernel
theorem dX6_putsBack_1 : decode cX6_putsBack 1 = .ok (.istore_n 1, 1) := by decide +kernel
theorem dX6_putsBack_2 : decode cX6_putsBack 2 = .ok (.iload_n 1, 1) := by decide +kernel
theorem dX6_putsBack_3 : decode cX6_putsBack 3 = .ok (.bipush 12, 2) := by decide +kernel
theorem dX6_putsBack_5 : decode cX6_putsBack 5 = .ok (.if_icmp .ge 23, 3) := by decide +kernel
theorem dX6_putsBack_8 : decode cX6_putsBack 8 = .ok (.aload_n 0, 1) := by decide +kernel
theorem dX6_putsBack_9 : decode cX6_putsBack 9 = .ok (.getfield 13, 3) := by decide +kernel
theorem dX6_putsBack_12 : decode cX6_putsBack 12 = .ok (.iconst 4, 1) := by decide +kernel
theorem dX6_putsBack_13 : decode cX6_putsBack 13 = .ok (.iload_n 1, 1) := by decide +kernel
theorem dX6_putsBack_14 : decode cX6_putsBack 14 = .ok (.iadd, 1) := by decide +kernel
theorem dX6_putsBack_15 : decode cX6_putsBack 15 = .ok (.aload_n 0, 1) := by decide +kernel
theorem dX6_putsBack_16 : decode cX6_putsBack 16 = .ok (.getfield 34, 3) := by decide +kernel
theorem dX6_putsBack_19 : decode cX6_putsBack 19 = .ok (.iload_n 1, 1) := by decide +kernel
theorem dX6_putsBack_20 : decode cX6_putsBack 20 = .ok (.iaload, 1) := by decide +kernel
theorem dX6_putsBack_21 : decode cX6_putsBack 21 = .ok (.iastore, 1) := by decide +kernel
theorem dX6_putsBack_22 : decode cX6_putsBack 22 = .ok (.iinc 1 1, 3) := by decide +kernel
theorem dX6_putsBack_25 : decode cX6_putsBack 25 = .ok (.goto (-23), 3) := by decide +kernel
theorem dX6_putsBack_28 : decode cX6_putsBack 28 = .ok (.return_, 1) := by decide +kernel
theorem dX6_zeroes_0 : decode cX6_zeroes 0 = .ok (.iconst 0, 1) := by decide +kernel
theorem dX6_zeroes_1 : decode cX6_zeroes 1 = .ok (.istore_n 1, 1) := by decide +kernel
theorem dX6_zeroes_2 : decode cX6_zeroes 2 = .ok (.iload_n 1, 1) := by decide +kernel
theorem dX6_zeroes_3 : decode cX6_zeroes 3 = .ok (.bipush 12, 2) := by decide +kernel
theorem dX6_zeroes_5 : decode cX6_zeroes 5 = .ok (.if_icmp .ge 18, 3) := by decide +kernel
theorem dX6_zeroes_8 : decode cX6_zeroes 8 = .ok (.aload_n 0, 1) := by decide +kernel
theorem dX6_zeroes_9 : decode cX6_zeroes 9 = .ok (.getfield 13, 3) := by decide +kernel
theorem dX6_zeroes_12 : decode cX6_zeroes 12 = .ok (.iconst 4, 1) := by decide +kernel
theorem dX6_zeroes_13 : decode cX6_zeroes 13 = .ok (.iload_n 1, 1) := by decide +kernel
theorem dX6_zeroes_14 : decode cX6_zeroes 14 = .ok (.iadd, 1) := by decide +kernel
theorem dX6_zeroes_15 : decode cX6_zeroes 15 = .ok (.iconst 0, 1) := by decide +kernel
theorem dX6_zeroes_16 : decode cX6_zeroes 16 = .ok (.iastore, 1) := by decide +kernel
theorem dX6_zeroes_17 : decode cX6_zeroes 17 = .ok (.iinc 1 1, 3) := by decide +kernel
theorem dX6_zeroes_20 : decode cX6_zeroes 20 = .ok (.goto (-18), 3) := by decide +kernel
theorem dX6_zeroes_23 : decode cX6_zeroes 23 = .ok (.return_, 1) := by decide +kernel
theorem dX6_timesOf_0 : decode cX6_timesOf 0 = .ok (.iload_n 1, 1) := by decide +kernel
theorem dX6_timesOf_1 : decode cX6_timesOf 1 = .ok (.istore_n 3, 1) := by decide +kernel
theorem dX6_timesOf_2 : decode cX6_timesOf 2 = .ok (.iconst 0, 1) := by decide +kernel
theorem dX6_timesOf_3 : decode cX6_timesOf 3 = .ok (.istore 4, 2) := by decide +kernel
theorem dX6_timesOf_5 : decode cX6_timesOf 5 = .ok (.iload 4, 2) := by decide +kernel
theorem dX6_timesOf_7 : decode cX6_timesOf 7 = .ok (.iload_n 2, 1) := by decide +kernel
theorem dX6_timesOf_8 : decode cX6_timesOf 8 = .ok (.if_icmp .ge 18, 3) := by decide +kernel
theorem dX6_timesOf_11 : decode cX6_timesOf 11 = .ok (.iload_n 3, 1) := by decide +kernel
theorem dX6_timesOf_12 : decode cX6_timesOf 12 = .ok (.aload_n 0, 1) := by decide +kernel
theorem dX6_timesOf_13 : decode cX6_timesOf 13 = .ok (.getfield 13, 3) := by decide +kernel
theorem dX6_timesOf_16 : decode cX6_timesOf 16 = .ok (.iconst 1, 1) := by decide +kernel
theorem dX6_timesOf_17 : decode cX6_timesOf 17 = .ok (.iaload, 1) := by decide +kernel
theorem dX6_timesOf_18 : decode cX6_timesOf 18 = .ok (.idiv, 1) := by decide +kernel
theorem dX6_timesOf_19 : decode cX6_timesOf 19 = .ok (.istore_n 3, 1) := by decide +kernel
theorem dX6_timesOf_20 : decode cX6_timesOf 20 = .ok (.iinc 4 1, 3) := by decide +kernel
theorem dX6_timesOf_23 : decode cX6_timesOf 23 = .ok (.goto (-18), 3) := by decide +kernel
theorem dX6_timesOf_26 : decode cX6_timesOf 26 = .ok (.iload_n 3, 1) := by decide +kernel
theorem dX6_timesOf_27 : decode cX6_timesOf 27 = .ok (.aload_n 0, 1) := by decide +kernel
theorem dX6_timesOf_28 : decode cX6_timesOf 28 = .ok (.getfield 13, 3) := by decide +kernel
theorem dX6_timesOf_31 : decode cX6_timesOf 31 = .ok (.iconst 1, 1) := by decide +kernel
theorem dX6_timesOf_32 : decode cX6_timesOf 32 = .ok (.iaload, 1) := by decide +kernel
theorem dX6_timesOf_33 : decode cX6_timesOf 33 = .ok (.irem, 1) := by decide +kernel
theorem dX6_timesOf_34 : decode cX6_timesOf 34 = .ok (.ireturn, 1) := by decide +kernel
theorem dX6_goesRow_0 : decode cX6_goesRow 0 = .ok (.iconst 0, 1) := by decide +kernel
theorem dX6_goesRow_1 : decode cX6_goesRow 1 = .ok (.istore_n 2, 1) := by decide +kernel
theorem dX6_goesRow_2 : decode cX6_goesRow 2 = .ok (.iload_n 2, 1) := by decide +kernel
theorem dX6_goesRow_3 : decode cX6_goesRow 3 = .ok (.aload_n 0, 1) := by decide +kernel
theorem dX6_goesRow_4 : decode cX6_goesRow 4 = .ok (.getfield 13, 3) := by decide +kernel
theorem dX6_goesRow_7 : decode cX6_goesRow 7 = .ok (.iconst 2, 1) := by decide +kernel
theorem dX6_goesRow_8 : decode cX6_goesRow 8 = .ok (.iaload, 1) := by decide +kernel
theorem dX6_goesRow_9 : decode cX6_goesRow 9 = .ok (.if_icmp .ge 32, 3) := by decide +kernel
theorem dX6_goesRow_12 : decode cX6_goesRow 12 = .ok (.aload_n 0, 1) := by decide +kernel
theorem dX6_goesRow_13 : decode cX6_goesRow 13 = .ok (.iload_n 1, 1) := by decide +kernel
theorem dX6_goesRow_14 : decode cX6_goesRow 14 = .ok (.iload_n 2, 1) := by decide +kernel
theorem dX6_goesRow_15 : decode cX6_goesRow 15 = .ok (.invokevirtual 144, 3) := by decide +kernel
theorem dX6_goesRow_18 : decode cX6_goesRow 18 = .ok (.istore_n 3, 1) := by decide +kernel
theorem dX6_goesRow_19 : decode cX6_goesRow 19 = .ok (.iload_n 3, 1) := by decide +kernel
theorem dX6_goesRow_20 : decode cX6_goesRow 20 = .ok (.ifCond .le 15, 3) := by decide +kernel
theorem dX6_goesRow_23 : decode cX6_goesRow 23 = .ok (.aload_n 0, 1) := by decide +kernel
theorem dX6_goesRow_24 : decode cX6_goesRow 24 = .ok (.iload_n 2, 1) := by decide +kernel
theorem dX6_goesRow_25 : decode cX6_goesRow 25 = .ok (.invokevirtual 128, 3) := by decide +kernel
theorem dX6_goesRow_28 : decode cX6_goesRow 28 = .ok (.pop, 1) := by decide +kernel
theorem dX6_goesRow_29 : decode cX6_goesRow 29 = .ok (.iinc 3 (-1), 3) := by decide +kernel
theorem dX6_goesRow_32 : decode cX6_goesRow 32 = .ok (.goto (-13), 3) := by decide +kernel
theorem dX6_goesRow_35 : decode cX6_goesRow 35 = .ok (.iinc 2 1, 3) := by decide +kernel
theorem dX6_goesRow_38 : decode cX6_goesRow 38 = .ok (.goto (-36), 3) := by decide +kernel
theorem dX6_goesRow_41 : decode cX6_goesRow 41 = .ok (.return_, 1) := by decide +kernel
theorem dX6_rows_0 : decode cX6_rows 0 = .ok (.aload_n 0, 1) := by decide +kernel
theorem dX6_rows_1 : decode cX6_rows 1 = .ok (.aload_n 0, 1) := by decide +kernel
theorem dX6_rows_2 : decode cX6_rows 2 = .ok (.getfield 13, 3) := by decide +kernel
theorem dX6_rows_5 : decode cX6_rows 5 = .ok (.iconst 2, 1) := by decide +kernel
theorem dX6_rows_6 : decode cX6_rows 6 = .ok (.iaload, 1) := by decide +kernel
theorem dX6_rows_7 : decode cX6_rows 7 = .ok (.invokevirtual 137, 3) := by decide +kernel
theorem dX6_rows_10 : decode cX6_rows 10 = .ok (.ireturn, 1) := by decide +kernel
theorem dX6_brings_0 : decode cX6_brings 0 = .ok (.aload_n 0, 1) := by decide +kernel
theorem dX6_brings_1 : decode cX6_brings 1 = .ok (.invokevirtual 147, 3) := by decide +kernel
theorem dX6_brings_4 : decode cX6_brings 4 = .ok (.aload_n 0, 1) := by decide +kernel
theorem dX6_brings_5 : decode cX6_brings 5 = .ok (.iload_n 1, 1) := by decide +kernel
theorem dX6_brings_6 : decode cX6_brings 6 = .ok (.invokevirtual 150, 3) := by decide +kernel
theorem dX6_brings_9 : decode cX6_brings 9 = .ok (.aload_n 0, 1) := by decide +kernel
theorem dX6_brings_10 : decode cX6_brings 10 = .ok (.invokevirtual 134, 3) := by decide +kernel
theorem dX6_brings_13 : decode cX6_brings 13 = .ok (.istore_n 2, 1) := by decide +kernel
theorem dX6_brings_14 : decode cX6_brings 14 = .ok (.aload_n 0, 1) := by decide +kernel
theorem dX6_brings_15 : decode cX6_brings 15 = .ok (.invokevirtual 153, 3) := by decide +kernel
theorem dX6_brings_18 : decode cX6_brings 18 = .ok (.iload_n 2, 1) := by decide +kernel
theorem dX6_brings_19 : decode cX6_brings 19 = .ok (.ireturn, 1) := by decide +kernel
theorem dX6_goingsOf_0 : decode cX6_goingsOf 0 = .ok (.iconst 0, 1) := by decide +kernel
theorem dX6_goingsOf_1 : decode cX6_goingsOf 1 = .ok (.istore_n 2, 1) := by decide +kernel
theorem dX6_goingsOf_2 : decode cX6_goingsOf 2 = .ok (.iconst 0, 1) := by decide +kernel
theorem dX6_goingsOf_3 : decode cX6_goingsOf 3 = .ok (.istore_n 3, 1) := by decide +kernel
theorem dX6_goingsOf_4 : decode cX6_goingsOf 4 = .ok (.iload_n 3, 1) := by decide +kernel
theorem dX6_goingsOf_5 : decode cX6_goingsOf 5 = .ok (.aload_n 0, 1) := by decide +kernel
theorem dX6_goingsOf_6 : decode cX6_goingsOf 6 = .ok (.getfield 13, 3) := by decide +kernel
theorem dX6_goingsOf_9 : decode cX6_goingsOf 9 = .ok (.iconst 2, 1) := by decide +kernel
theorem dX6_goingsOf_10 : decode cX6_goingsOf 10 = .ok (.iaload, 1) := by decide +kernel
theorem dX6_goingsOf_11 : decode cX6_goingsOf 11 = .ok (.if_icmp .ge 18, 3) := by decide +kernel
theorem dX6_goingsOf_14 : decode cX6_goingsOf 14 = .ok (.iload_n 2, 1) := by decide +kernel
theorem dX6_goingsOf_15 : decode cX6_goingsOf 15 = .ok (.aload_n 0, 1) := by decide +kernel
theorem dX6_goingsOf_16 : decode cX6_goingsOf 16 = .ok (.iload_n 1, 1) := by decide +kernel
theorem dX6_goingsOf_17 : decode cX6_goingsOf 17 = .ok (.iload_n 3, 1) := by decide +kernel
theorem dX6_goingsOf_18 : decode cX6_goingsOf 18 = .ok (.invokevirtual 144, 3) := by decide +kernel
theorem dX6_goingsOf_21 : decode cX6_goingsOf 21 = .ok (.iadd, 1) := by decide +kernel
theorem dX6_goingsOf_22 : decode cX6_goingsOf 22 = .ok (.istore_n 2, 1) := by decide +kernel
theorem dX6_goingsOf_23 : decode cX6_goingsOf 23 = .ok (.iinc 3 1, 3) := by decide +kernel
theorem dX6_goingsOf_26 : decode cX6_goingsOf 26 = .ok (.goto (-22), 3) := by decide +kernel
theorem dX6_goingsOf_29 : decode cX6_goingsOf 29 = .ok (.iload_n 2, 1) := by decide +kernel
theorem dX6_goingsOf_30 : decode cX6_goingsOf 30 = .ok (.ireturn, 1) := by decide +kernel
theorem dX6_costOf_0 : decode cX6_costOf 0 = .ok (.iconst 0, 1) := by decide +kernel
theorem dX6_costOf_1 : decode cX6_costOf 1 = .ok (.istore_n 2, 1) := by decide +kernel
theorem dX6_costOf_2 : decode cX6_costOf 2 = .ok (.iconst 0, 1) := by decide +kernel
theorem dX6_costOf_3 : decode cX6_costOf 3 = .ok (.istore_n 3, 1) := by decide +kernel
theorem dX6_costOf_4 : decode cX6_costOf 4 = .ok (.iload_n 3, 1) := by decide +kernel
theorem dX6_costOf_5 : decode cX6_costOf 5 = .ok (.aload_n 0, 1) := by decide +kernel
theorem dX6_costOf_6 : decode cX6_costOf 6 = .ok (.getfield 13, 3) := by decide +kernel
theorem dX6_costOf_9 : decode cX6_costOf 9 = .ok (.iconst 2, 1) := by decide +kernel
theorem dX6_costOf_10 : decode cX6_costOf 10 = .ok (.iaload, 1) := by decide +kernel
theorem dX6_costOf_11 : decode cX6_costOf 11 = .ok (.if_icmp .ge 25, 3) := by decide +kernel
theorem dX6_costOf_14 : decode cX6_costOf 14 = .ok (.iload_n 2, 1) := by decide +kernel
theorem dX6_costOf_15 : decode cX6_costOf 15 = .ok (.aload_n 0, 1) := by decide +kernel
theorem dX6_costOf_16 : decode cX6_costOf 16 = .ok (.iload_n 1, 1) := by decide +kernel
theorem dX6_costOf_17 : decode cX6_costOf 17 = .ok (.iload_n 3, 1) := by decide +kernel
theorem dX6_costOf_18 : decode cX6_costOf 18 = .ok (.invokevirtual 144, 3) := by decide +kernel
theorem dX6_costOf_21 : decode cX6_costOf 21 = .ok (.aload_n 0, 1) := by decide +kernel
theorem dX6_costOf_22 : decode cX6_costOf 22 = .ok (.iload_n 3, 1) := by decide +kernel
theorem dX6_costOf_23 : decode cX6_costOf 23 = .ok (.iconst 3, 1) := by decide +kernel
theorem dX6_costOf_24 : decode cX6_costOf 24 = .ok (.invokevirtual 105, 3) := by decide +kernel
theorem dX6_costOf_27 : decode cX6_costOf 27 = .ok (.imul, 1) := by decide +kernel
theorem dX6_costOf_28 : decode cX6_costOf 28 = .ok (.iadd, 1) := by decide +kernel
theorem dX6_costOf_29 : decode cX6_costOf 29 = .ok (.istore_n 2, 1) := by decide +kernel
theorem dX6_costOf_30 : decode cX6_costOf 30 = .ok (.iinc 3 1, 3) := by decide +kernel
theorem dX6_costOf_33 : decode cX6_costOf 33 = .ok (.goto (-29), 3) := by decide +kernel
theorem dX6_costOf_36 : decode cX6_costOf 36 = .ok (.iload_n 2, 1) := by decide +kernel
theorem dX6_costOf_37 : decode cX6_costOf 37 = .ok (.ireturn, 1) := by decide +kernel
theorem dX6_can_0 : decode cX6_can 0 = .ok (.iconst 0, 1) := by decide +kernel
theorem dX6_can_1 : decode cX6_can 1 = .ok (.istore_n 1, 1) := by decide +kernel
theorem dX6_can_2 : decode cX6_can 2 = .ok (.iconst 0, 1) := by decide +kernel
theorem dX6_can_3 : decode cX6_can 3 = .ok (.istore_n 2, 1) := by decide +kernel
theorem dX6_can_4 : decode cX6_can 4 = .ok (.iload_n 2, 1) := by decide +kernel
theorem dX6_can_5 : decode cX6_can 5 = .ok (.aload_n 0, 1) := by decide +kernel
theorem dX6_can_6 : decode cX6_can 6 = .ok (.invokevirtual 156, 3) := by decide +kernel
theorem dX6_can_9 : decode cX6_can 9 = .ok (.if_icmp .ge 25, 3) := by decide +kernel
theorem dX6_can_12 : decode cX6_can 12 = .ok (.iload_n 1, 1) := by decide +kernel
theorem dX6_can_13 : decode cX6_can 13 = .ok (.aload_n 0, 1) := by decide +kernel
theorem dX6_can_14 : decode cX6_can 14 = .ok (.iload_n 2, 1) := by decide +kernel
theorem dX6_can_15 : decode cX6_can 15 = .ok (.invokevirtual 159, 3) := by decide +kernel
theorem dX6_can_18 : decode cX6_can 18 = .ok (.ifCond .eq 7, 3) := by decide +kernel
theorem dX6_can_21 : decode cX6_can 21 = .ok (.iconst 1, 1) := by decide +kernel
theorem dX6_can_22 : decode cX6_can 22 = .ok (.goto 4, 3) := by decide +kernel
theorem dX6_can_25 : decode cX6_can 25 = .ok (.iconst 0, 1) := by decide +kernel
theorem dX6_can_26 : decode cX6_can 26 = .ok (.iadd, 1) := by decide +kernel
theorem dX6_can_27 : decode cX6_can 27 = .ok (.istore_n 1, 1) := by decide +kernel
theorem dX6_can_28 : decode cX6_can 28 = .ok (.iinc 2 1, 3) := by decide +kernel
theorem dX6_can_31 : decode cX6_can 31 = .ok (.goto (-27), 3) := by decide +kernel
theorem dX6_can_34 : decode cX6_can 34 = .ok (.iload_n 1, 1) := by decide +kernel
theorem dX6_can_35 : decode cX6_can 35 = .ok (.ireturn, 1) := by decide +kernel
theorem dX6_isAhead_0 : decode cX6_isAhead 0 = .ok (.iconst 0, 1) := by decide +kernel
theorem dX6_isAhead_1 : decode cX6_isAhead 1 = .ok (.istore_n 3, 1) := by decide +kernel
theorem dX6_isAhead_2 : decode cX6_isAhead 2 = .ok (.iload_n 3, 1) := by decide +kernel
theorem dX6_isAhead_3 : decode cX6_isAhead 3 = .ok (.aload_n 0, 1) := by decide +kernel
theorem dX6_isAhead_4 : decode cX6_isAhead 4 = .ok (.getfield 13, 3) := by decide +kernel
theorem dX6_isAhead_7 : decode cX6_isAhead 7 = .ok (.iconst 2, 1) := by decide +kernel
theorem dX6_isAhead_8 : decode cX6_isAhead 8 = .ok (.iaload, 1) := by decide +kernel
theorem dX6_isAhead_9 : decode cX6_isAhead 9 = .ok (.if_icmp .ge 45, 3) := by decide +kernel
theorem dX6_isAhead_12 : decode cX6_isAhead 12 = .ok (.aload_n 0, 1) := by decide +kernel
theorem dX6_isAhead_13 : decode cX6_isAhead 13 = .ok (.iload_n 1, 1) := by decide +kernel
theorem dX6_isAhead_14 : decode cX6_isAhead 14 = .ok (.iload_n 3, 1) := by decide +kernel
theorem dX6_isAhead_15 : decode cX6_isAhead 15 = .ok (.invokevirtual 144, 3) := by decide +kernel
theorem dX6_isAhead_18 : decode cX6_isAhead 18 = .ok (.aload_n 0, 1) := by decide +kernel
theorem dX6_isAhead_19 : decode cX6_isAhead 19 = .ok (.iload_n 2, 1) := by decide +kernel
theorem dX6_isAhead_20 : decode cX6_isAhead 20 = .ok (.iload_n 3, 1) := by decide +kernel
theorem dX6_isAhead_21 : decode cX6_isAhead 21 = .ok (.invokevirtual 144, 3) := by decide +kernel
theorem dX6_isAhead_24 : decode cX6_isAhead 24 = .ok (.if_icmp .eq 24, 3) := by decide +kernel
theorem dX6_isAhead_27 : decode cX6_isAhead 27 = .ok (.aload_n 0, 1) := by decide +kernel
theorem dX6_isAhead_28 : decode cX6_isAhead 28 = .ok (.iload_n 1, 1) := by decide +kernel
theorem dX6_isAhead_29 : decode cX6_isAhead 29 = .ok (.iload_n 3, 1) := by decide +kernel
theorem dX6_isAhead_30 : decode cX6_isAhead 30 = .ok (.invokevirtual 144, 3) := by decide +kernel
theorem dX6_isAhead_33 : decode cX6_isAhead 33 = .ok (.aload_n 0, 1) := by decide +kernel
theorem dX6_isAhead_34 : decode cX6_isAhead 34 = .ok (.iload_n 2, 1) := by decide +kernel
theorem dX6_isAhead_35 : decode cX6_isAhead 35 = .ok (.iload_n 3, 1) := by decide +kernel
theorem dX6_isAhead_36 : decode cX6_isAhead 36 = .ok (.invokevirtual 144, 3) := by decide +kernel
theorem dX6_isAhead_39 : decode cX6_isAhead 39 = .ok (.if_icmp .ge 7, 3) := by decide +kernel
theorem dX6_isAhead_42 : decode cX6_isAhead 42 = .ok (.iconst 1, 1) := by decide +kernel
theorem dX6_isAhead_43 : decode cX6_isAhead 43 = .ok (.goto 4, 3) := by decide +kernel
theorem dX6_isAhead_46 : decode cX6_isAhead 46 = .ok (.iconst 0, 1) := by decide +kernel
theorem dX6_isAhead_47 : decode cX6_isAhead 47 = .ok (.ireturn, 1) := by decide +kernel
theorem dX6_isAhead_48 : decode cX6_isAhead 48 = .ok (.iinc 3 1, 3) := by decide +kernel
theorem dX6_isAhead_51 : decode cX6_isAhead 51 = .ok (.goto (-49), 3) := by decide +kernel
theorem dX6_isAhead_54 : decode cX6_isAhead 54 = .ok (.iconst 0, 1) := by decide +kernel
theorem dX6_isAhead_55 : decode cX6_isAhead 55 = .ok (.ireturn, 1) := by decide +kernel
theorem dX6_firstRow_0 : decode cX6_firstRow 0 = .ok (.bipush (-9), 2) := by decide +kernel
theorem dX6_firstRow_2 : decode cX6_firstRow 2 = .ok (.istore_n 1, 1) := by decide +kernel
theorem dX6_firstRow_3 : decode cX6_firstRow 3 = .ok (.iconst 0, 1) := by decide +kernel
theorem dX6_firstRow_4 : decode cX6_firstRow 4 = .ok (.istore_n 2, 1) := by decide +kernel
theorem dX6_firstRow_5 : decode cX6_firstRow 5 = .ok (.iload_n 2, 1) := by decide +kernel
theorem dX6_firstRow_6 : decode cX6_firstRow 6 = .ok (.aload_n 0, 1) := by decide +kernel
theorem dX6_firstRow_7 : decode cX6_firstRow 7 = .ok (.invokevirtual 156, 3) := by decide +kernel
theorem dX6_firstRow_10 : decode cX6_firstRow 10 = .ok (.if_icmp .ge 59, 3) := by decide +kernel
theorem dX6_firstRow_13 : decode cX6_firstRow 13 = .ok (.aload_n 0, 1) := by decide +kernel
theorem dX6_firstRow_14 : decode cX6_firstRow 14 = .ok (.iload_n 2, 1) := by decide +kernel
theorem dX6_firstRow_15 : decode cX6_firstRow 15 = .ok (.invokevirtual 162, 3) := by decide +kernel
theorem dX6_firstRow_18 : decode cX6_firstRow 18 = .ok (.istore_n 3, 1) := by decide +kernel
theorem dX6_firstRow_19 : decode cX6_firstRow 19 = .ok (.iload_n 1, 1) := by decide +kernel
theorem dX6_firstRow_20 : decode cX6_firstRow 20 = .ok (.ifCond .lt 30, 3) := by decide +kernel
theorem dX6_firstRow_23 : decode cX6_firstRow 23 = .ok (.iload_n 3, 1) := by decide +kernel
theorem dX6_firstRow_24 : decode cX6_firstRow 24 = .ok (.aload_n 0, 1) := by decide +kernel
theorem dX6_firstRow_25 : decode cX6_firstRow 25 = .ok (.iload_n 1, 1) := by decide +kernel
theorem dX6_firstRow_26 : decode cX6_firstRow 26 = .ok (.invokevirtual 162, 3) := by decide +kernel
theorem dX6_firstRow_29 : decode cX6_firstRow 29 = .ok (.if_icmp .gt 34, 3) := by decide +kernel
theorem dX6_firstRow_32 : decode cX6_firstRow 32 = .ok (.iload_n 3, 1) := by decide +kernel
theorem dX6_firstRow_33 : decode cX6_firstRow 33 = .ok (.aload_n 0, 1) := by decide +kernel
theorem dX6_firstRow_34 : decode cX6_firstRow 34 = .ok (.iload_n 1, 1) := by decide +kernel
theorem dX6_firstRow_35 : decode cX6_firstRow 35 = .ok (.invokevirtual 162, 3) := by decide +kernel
theorem dX6_firstRow_38 : decode cX6_firstRow 38 = .ok (.if_icmp .ne 12, 3) := by decide +kernel
theorem dX6_firstRow_41 : decode cX6_firstRow 41 = .ok (.aload_n 0, 1) := by decide +kernel
theorem dX6_firstRow_42 : decode cX6_firstRow 42 = .ok (.iload_n 2, 1) := by decide +kernel
theorem dX6_firstRow_43 : decode cX6_firstRow 43 = .ok (.iload_n 1, 1) := by decide +kernel
theorem dX6_firstRow_44 : decode cX6_firstRow 44 = .ok (.invokevirtual 165, 3) := by decide +kernel
theorem dX6_firstRow_47 : decode cX6_firstRow 47 = .ok (.ifCond .eq 16, 3) := by decide +kernel
theorem dX6_firstRow_50 : decode cX6_firstRow 50 = .ok (.aload_n 0, 1) := by decide +kernel
theorem dX6_firstRow_51 : decode cX6_firstRow 51 = .ok (.iload_n 2, 1) := by decide +kernel
theorem dX6_firstRow_52 : decode cX6_firstRow 52 = .ok (.invokevirtual 159, 3) := by decide +kernel
theorem dX6_firstRow_55 : decode cX6_firstRow 55 = .ok (.ifCond .ne 6, 3) := by decide +kernel
theorem dX6_firstRow_58 : decode cX6_firstRow 58 = .ok (.goto 5, 3) := by decide +kernel
theorem dX6_firstRow_61 : decode cX6_firstRow 61 = .ok (.iload_n 2, 1) := by decide +kernel
theorem dX6_firstRow_62 : decode cX6_firstRow 62 = .ok (.istore_n 1, 1) := by decide +kernel
theorem dX6_firstRow_63 : decode cX6_firstRow 63 = .ok (.iinc 2 1, 3) := by decide +kernel
theorem dX6_firstRow_66 : decode cX6_firstRow 66 = .ok (.goto (-61), 3) := by decide +kernel
theorem dX6_firstRow_69 : decode cX6_firstRow 69 = .ok (.iload_n 1, 1) := by decide +kernel
theorem dX6_firstRow_70 : decode cX6_firstRow 70 = .ok (.ireturn, 1) := by decide +kernel
theorem dX6_fewest_0 : decode cX6_fewest 0 = .ok (.aload_n 0, 1) := by decide +kernel
theorem dX6_fewest_1 : decode cX6_fewest 1 = .ok (.invokevirtual 168, 3) := by decide +kernel
theorem dX6_fewest_4 : decode cX6_fewest 4 = .ok (.istore_n 1, 1) := by decide +kernel
theorem dX6_fewest_5 : decode cX6_fewest 5 = .ok (.iload_n 1, 1) := by decide +kernel
theorem dX6_fewest_6 : decode cX6_fewest 6 = .ok (.ifCond .ge 8, 3) := by decide +kernel
theorem dX6_fewest_9 : decode cX6_fewest 9 = .ok (.bipush (-9), 2) := by decide +kernel
theorem dX6_fewest_11 : decode cX6_fewest 11 = .ok (.goto 8, 3) := by decide +kernel
theorem dX6_fewest_14 : decode cX6_fewest 14 = .ok (.aload_n 0, 1) := by decide +kernel
theorem dX6_fewest_15 : decode cX6_fewest 15 = .ok (.iload_n 1, 1) := by decide +kernel
theorem dX6_fewest_16 : decode cX6_fewest 16 = .ok (.invokevirtual 162, 3) := by decide +kernel
theorem dX6_fewest_19 : decode cX6_fewest 19 = .ok (.ireturn, 1) := by decide +kernel
theorem dX6_cheapest_0 : decode cX6_cheapest 0 = .ok (.bipush (-9), 2) := by decide +kernel
theorem dX6_cheapest_2 : decode cX6_cheapest 2 = .ok (.istore_n 1, 1) := by decide +kernel
theorem dX6_cheapest_3 : decode cX6_cheapest 3 = .ok (.iconst 0, 1) := by decide +kernel
theorem dX6_cheapest_4 : decode cX6_cheapest 4 = .ok (.istore_n 2, 1) := by decide +kernel
theorem dX6_cheapest_5 : decode cX6_cheapest 5 = .ok (.iload_n 2, 1) := by decide +kernel
theorem dX6_cheapest_6 : decode cX6_cheapest 6 = .ok (.aload_n 0, 1) := by decide +kernel
theorem dX6_cheapest_7 : decode cX6_cheapest 7 = .ok (.invokevirtual 156, 3) := by decide +kernel
theorem dX6_cheapest_10 : decode cX6_cheapest 10 = .ok (.if_icmp .ge 36, 3) := by decide +kernel
theorem dX6_cheapest_13 : decode cX6_cheapest 13 = .ok (.iload_n 1, 1) := by decide +kernel
theorem dX6_cheapest_14 : decode cX6_cheapest 14 = .ok (.ifCond .lt 12, 3) := by decide +kernel
theorem dX6_cheapest_17 : decode cX6_cheapest 17 = .ok (.aload_n 0, 1) := by decide +kernel
theorem dX6_cheapest_18 : decode cX6_cheapest 18 = .ok (.iload_n 2, 1) := by decide +kernel
theorem dX6_cheapest_19 : decode cX6_cheapest 19 = .ok (.invokevirtual 171, 3) := by decide +kernel
theorem dX6_cheapest_22 : decode cX6_cheapest 22 = .ok (.iload_n 1, 1) := by decide +kernel
theorem dX6_cheapest_23 : decode cX6_cheapest 23 = .ok (.if_icmp .ge 17, 3) := by decide +kernel
theorem dX6_cheapest_26 : decode cX6_cheapest 26 = .ok (.aload_n 0, 1) := by decide +kernel
theorem dX6_cheapest_27 : decode cX6_cheapest 27 = .ok (.iload_n 2, 1) := by decide +kernel
theorem dX6_cheapest_28 : decode cX6_cheapest 28 = .ok (.invokevirtual 159, 3) := by decide +kernel
theorem dX6_cheapest_31 : decode cX6_cheapest 31 = .ok (.ifCond .eq 9, 3) := by decide +kernel
theorem dX6_cheapest_34 : decode cX6_cheapest 34 = .ok (.aload_n 0, 1) := by decide +kernel
theorem dX6_cheapest_35 : decode cX6_cheapest 35 = .ok (.iload_n 2, 1) := by decide +kernel
theorem dX6_cheapest_36 : decode cX6_cheapest 36 = .ok (.invokevirtual 171, 3) := by decide +kernel
theorem dX6_cheapest_39 : decode cX6_cheapest 39 = .ok (.istore_n 1, 1) := by decide +kernel
theorem dX6_cheapest_40 : decode cX6_cheapest 40 = .ok (.iinc 2 1, 3) := by decide +kernel
theorem dX6_cheapest_43 : decode cX6_cheapest 43 = .ok (.goto (-38), 3) := by decide +kernel
theorem dX6_cheapest_46 : decode cX6_cheapest 46 = .ok (.iload_n 1, 1) := by decide +kernel
theorem dX6_cheapest_47 : decode cX6_cheapest 47 = .ok (.ireturn, 1) := by decide +kernel
theorem dX6_how_0 : decode cX6_how 0 = .ok (.aload_n 0, 1) := by decide +kernel
theorem dX6_how_1 : decode cX6_how 1 = .ok (.iload_n 1, 1) := by decide +kernel
theorem dX6_how_2 : decode cX6_how 2 = .ok (.invokevirtual 118, 3) := by decide +kernel
theorem dX6_how_5 : decode cX6_how 5 = .ok (.ifCond .ne 9, 3) := by decide +kernel
theorem dX6_how_8 : decode cX6_how 8 = .ok (.aload_n 0, 1) := by decide +kernel
theorem dX6_how_9 : decode cX6_how 9 = .ok (.iconst (-1), 1) := by decide +kernel
theorem dX6_how_10 : decode cX6_how 10 = .ok (.invokevirtual 52, 3) := by decide +kernel
theorem dX6_how_13 : decode cX6_how 13 = .ok (.ireturn, 1) := by decide +kernel
theorem dX6_how_14 : decode cX6_how 14 = .ok (.aload_n 0, 1) := by decide +kernel
theorem dX6_how_15 : decode cX6_how 15 = .ok (.invokevirtual 168, 3) := by decide +kernel
theorem dX6_how_18 : decode cX6_how 18 = .ok (.istore_n 2, 1) := by decide +kernel
theorem dX6_how_19 : decode cX6_how 19 = .ok (.iload_n 2, 1) := by decide +kernel
theorem dX6_how_20 : decode cX6_how 20 = .ok (.ifCond .ge 8, 3) := by decide +kernel
theorem dX6_how_23 : decode cX6_how 23 = .ok (.bipush (-9), 2) := by decide +kernel
theorem dX6_how_25 : decode cX6_how 25 = .ok (.goto 9, 3) := by decide +kernel
theorem dX6_how_28 : decode cX6_how 28 = .ok (.aload_n 0, 1) := by decide +kernel
theorem dX6_how_29 : decode cX6_how 29 = .ok (.iload_n 2, 1) := by decide +kernel
theorem dX6_how_30 : decode cX6_how 30 = .ok (.iload_n 1, 1) := by decide +kernel
theorem dX6_how_31 : decode cX6_how 31 = .ok (.invokevirtual 144, 3) := by decide +kernel
theorem dX6_how_34 : decode cX6_how 34 = .ok (.ireturn, 1) := by decide +kernel
theorem dX6_nothingBy_0 : decode cX6_nothingBy 0 = .ok (.iconst 0, 1) := by decide +kernel
theorem dX6_nothingBy_1 : decode cX6_nothingBy 1 = .ok (.istore_n 2, 1) := by decide +kernel
theorem dX6_nothingBy_2 : decode cX6_nothingBy 2 = .ok (.aload_n 0, 1) := by decide +kernel
theorem dX6_nothingBy_3 : decode cX6_nothingBy 3 = .ok (.invokevirtual 147, 3) := by decide +kernel
theorem dX6_nothingBy_6 : decode cX6_nothingBy 6 = .ok (.aload_n 0, 1) := by decide +kernel
theorem dX6_nothingBy_7 : decode cX6_nothingBy 7 = .ok (.invokevirtual 174, 3) := by decide +kernel
theorem dX6_nothingBy_10 : decode cX6_nothingBy 10 = .ok (.iconst 0, 1) := by decide +kernel
theorem dX6_nothingBy_11 : decode cX6_nothingBy 11 = .ok (.istore_n 3, 1) := by decide +kernel
theorem dX6_nothingBy_12 : decode cX6_nothingBy 12 = .ok (.iload_n 3, 1) := by decide +kernel
theorem dX6_nothingBy_13 : decode cX6_nothingBy 13 = .ok (.aload_n 0, 1) := by decide +kernel
theorem dX6_nothingBy_14 : decode cX6_nothingBy 14 = .ok (.invokevirtual 156, 3) := by decide +kernel
theorem dX6_nothingBy_17 : decode cX6_nothingBy 17 = .ok (.if_icmp .ge 96, 3) := by decide +kernel
theorem dX6_nothingBy_20 : decode cX6_nothingBy 20 = .ok (.iconst 1, 1) := by decide +kernel
theorem dX6_nothingBy_21 : decode cX6_nothingBy 21 = .ok (.istore 4, 2) := by decide +kernel
theorem dX6_nothingBy_23 : decode cX6_nothingBy 23 = .ok (.iconst 0, 1) := by decide +kernel
theorem dX6_nothingBy_24 : decode cX6_nothingBy 24 = .ok (.istore 5, 2) := by decide +kernel
theorem dX6_nothingBy_26 : decode cX6_nothingBy 26 = .ok (.iload 5, 2) := by decide +kernel
theorem dX6_nothingBy_28 : decode cX6_nothingBy 28 = .ok (.aload_n 0, 1) := by decide +kernel
theorem dX6_nothingBy_29 : decode cX6_nothingBy 29 = .ok (.getfield 13, 3) := by decide +kernel
theorem dX6_nothingBy_32 : decode cX6_nothingBy 32 = .ok (.iconst 2, 1) := by decide +kernel
theorem dX6_nothingBy_33 : decode cX6_nothingBy 33 = .ok (.iaload, 1) := by decide +kernel
theorem dX6_nothingBy_34 : decode cX6_nothingBy 34 = .ok (.if_icmp .ge 41, 3) := by decide +kernel
theorem dX6_nothingBy_37 : decode cX6_nothingBy 37 = .ok (.iload 4, 2) := by decide +kernel
theorem dX6_nothingBy_39 : decode cX6_nothingBy 39 = .ok (.ifCond .eq 27, 3) := by decide +kernel
theorem dX6_nothingBy_42 : decode cX6_nothingBy 42 = .ok (.iload_n 1, 1) := by decide +kernel
theorem dX6_nothingBy_43 : decode cX6_nothingBy 43 = .ok (.iload 5, 2) := by decide +kernel
theorem dX6_nothingBy_45 : decode cX6_nothingBy 45 = .ok (.ishr, 1) := by decide +kernel
theorem dX6_nothingBy_46 : decode cX6_nothingBy 46 = .ok (.iconst 1, 1) := by decide +kernel
theorem dX6_nothingBy_47 : decode cX6_nothingBy 47 = .ok (.iand, 1) := by decide +kernel
theorem dX6_nothingBy_48 : decode cX6_nothingBy 48 = .ok (.iconst 1, 1) := by decide +kernel
theorem dX6_nothingBy_49 : decode cX6_nothingBy 49 = .ok (.if_icmp .eq 13, 3) := by decide +kernel
theorem dX6_nothingBy_52 : decode cX6_nothingBy 52 = .ok (.aload_n 0, 1) := by decide +kernel
theorem dX6_nothingBy_53 : decode cX6_nothingBy 53 = .ok (.iload_n 3, 1) := by decide +kernel
theorem dX6_nothingBy_54 : decode cX6_nothingBy 54 = .ok (.iload 5, 2) := by decide +kernel
theorem dX6_nothingBy_56 : decode cX6_nothingBy 56 = .ok (.invokevirtual 144, 3) := by decide +kernel
theorem dX6_nothingBy_59 : decode cX6_nothingBy 59 = .ok (.ifCond .ne 7, 3) := by decide +kernel
theorem dX6_nothingBy_62 : decode cX6_nothingBy 62 = .ok (.iconst 1, 1) := by decide +kernel
theorem dX6_nothingBy_63 : decode cX6_nothingBy 63 = .ok (.goto 4, 3) := by decide +kernel
theorem dX6_nothingBy_66 : decode cX6_nothingBy 66 = .ok (.iconst 0, 1) := by decide +kernel
theorem dX6_nothingBy_67 : decode cX6_nothingBy 67 = .ok (.istore 4, 2) := by decide +kernel
theorem dX6_nothingBy_69 : decode cX6_nothingBy 69 = .ok (.iinc 5 1, 3) := by decide +kernel
theorem dX6_nothingBy_72 : decode cX6_nothingBy 72 = .ok (.goto (-46), 3) := by decide +kernel
theorem dX6_nothingBy_75 : decode cX6_nothingBy 75 = .ok (.iload 4, 2) := by decide +kernel
theorem dX6_nothingBy_77 : decode cX6_nothingBy 77 = .ok (.ifCond .ne 6, 3) := by decide +kernel
theorem dX6_nothingBy_80 : decode cX6_nothingBy 80 = .ok (.goto 27, 3) := by decide +kernel
theorem dX6_nothingBy_83 : decode cX6_nothingBy 83 = .ok (.aload_n 0, 1) := by decide +kernel
theorem dX6_nothingBy_84 : decode cX6_nothingBy 84 = .ok (.iload_n 3, 1) := by decide +kernel
theorem dX6_nothingBy_85 : decode cX6_nothingBy 85 = .ok (.invokevirtual 150, 3) := by decide +kernel
theorem dX6_nothingBy_88 : decode cX6_nothingBy 88 = .ok (.iload_n 2, 1) := by decide +kernel
theorem dX6_nothingBy_89 : decode cX6_nothingBy 89 = .ok (.aload_n 0, 1) := by decide +kernel
theorem dX6_nothingBy_90 : decode cX6_nothingBy 90 = .ok (.invokevirtual 131, 3) := by decide +kernel
theorem dX6_nothingBy_93 : decode cX6_nothingBy 93 = .ok (.ifCond .ne 7, 3) := by decide +kernel
theorem dX6_nothingBy_96 : decode cX6_nothingBy 96 = .ok (.iconst 1, 1) := by decide +kernel
theorem dX6_nothingBy_97 : decode cX6_nothingBy 97 = .ok (.goto 4, 3) := by decide +kernel
theorem dX6_nothingBy_100 : decode cX6_nothingBy 100 = .ok (.iconst 0, 1) := by decide +kernel
theorem dX6_nothingBy_101 : decode cX6_nothingBy 101 = .ok (.iadd, 1) := by decide +kernel
theorem dX6_nothingBy_102 : decode cX6_nothingBy 102 = .ok (.istore_n 2, 1) := by decide +kernel
theorem dX6_nothingBy_103 : decode cX6_nothingBy 103 = .ok (.aload_n 0, 1) := by decide +kernel
theorem dX6_nothingBy_104 : decode cX6_nothingBy 104 = .ok (.invokevirtual 174, 3) := by decide +kernel
theorem dX6_nothingBy_107 : decode cX6_nothingBy 107 = .ok (.iinc 3 1, 3) := by decide +kernel
theorem dX6_nothingBy_110 : decode cX6_nothingBy 110 = .ok (.goto (-98), 3) := by decide +kernel
theorem dX6_nothingBy_113 : decode cX6_nothingBy 113 = .ok (.aload_n 0, 1) := by decide +kernel
theorem dX6_nothingBy_114 : decode cX6_nothingBy 114 = .ok (.invokevirtual 153, 3) := by decide +kernel
theorem dX6_nothingBy_117 : decode cX6_nothingBy 117 = .ok (.iload_n 2, 1) := by decide +kernel
theorem dX6_nothingBy_118 : decode cX6_nothingBy 118 = .ok (.ireturn, 1) := by decide +kernel
theorem dX6_allPeople_0 : decode cX6_allPeople 0 = .ok (.iconst 1, 1) := by decide +kernel
theorem dX6_allPeople_1 : decode cX6_allPeople 1 = .ok (.aload_n 0, 1) := by decide +kernel
theorem dX6_allPeople_2 : decode cX6_allPeople 2 = .ok (.getfield 13, 3) := by decide +kernel
theorem dX6_allPeople_5 : decode cX6_allPeople 5 = .ok (.iconst 2, 1) := by decide +kernel
theorem dX6_allPeople_6 : decode cX6_allPeople 6 = .ok (.iaload, 1) := by decide +kernel
theorem dX6_allPeople_7 : decode cX6_allPeople 7 = .ok (.ishl, 1) := by decide +kernel

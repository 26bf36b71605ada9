theorem dX4_added_6 : decode cX4_added 6 = .ok (.iload 5, 2) := by decide +kernel
theorem dX4_added_8 : decode cX4_added 8 = .ok (.iload_n 2, 1) := by decide +kernel
theorem dX4_added_9 : decode cX4_added 9 = .ok (.if_icmp .ge 46, 3) := by decide +kernel
theorem dX4_added_12 : decode cX4_added 12 = .ok (.iload 4, 2) := by decide +kernel
theorem dX4_added_14 : decode cX4_added 14 = .ok (.iload_n 1, 1) := by decide +kernel
theorem dX4_added_15 : decode cX4_added 15 = .ok (.sipush 4095, 3) := by decide +kernel
theorem dX4_added_18 : decode cX4_added 18 = .ok (.iand, 1) := by decide +kernel
theorem dX4_added_19 : decode cX4_added 19 = .ok (.iload_n 3, 1) := by decide +kernel
theorem dX4_added_20 : decode cX4_added 20 = .ok (.invokestatic 43, 3) := by decide +kernel
theorem dX4_added_23 : decode cX4_added 23 = .ok (.istore 4, 2) := by decide +kernel
theorem dX4_added_25 : decode cX4_added 25 = .ok (.iload 4, 2) := by decide +kernel
theorem dX4_added_27 : decode cX4_added 27 = .ok (.iload_n 1, 1) := by decide +kernel
theorem dX4_added_28 : decode cX4_added 28 = .ok (.bipush 12, 2) := by decide +kernel
theorem dX4_added_30 : decode cX4_added 30 = .ok (.ishr, 1) := by decide +kernel
theorem dX4_added_31 : decode cX4_added 31 = .ok (.iload_n 3, 1) := by decide +kernel
theorem dX4_added_32 : decode cX4_added 32 = .ok (.invokestatic 43, 3) := by decide +kernel
theorem dX4_added_35 : decode cX4_added 35 = .ok (.istore 4, 2) := by decide +kernel
theorem dX4_added_37 : decode cX4_added 37 = .ok (.iload 4, 2) := by decide +kernel
theorem dX4_added_39 : decode cX4_added 39 = .ok (.iload_n 1, 1) := by decide +kernel
theorem dX4_added_40 : decode cX4_added 40 = .ok (.bipush 12, 2) := by decide +kernel
theorem dX4_added_42 : decode cX4_added 42 = .ok (.ishr, 1) := by decide +kernel
theorem dX4_added_43 : decode cX4_added 43 = .ok (.iload_n 3, 1) := by decide +kernel
theorem dX4_added_44 : decode cX4_added 44 = .ok (.invokestatic 43, 3) := by decide +kernel
theorem dX4_added_47 : decode cX4_added 47 = .ok (.istore 4, 2) := by decide +kernel
theorem dX4_added_49 : decode cX4_added 49 = .ok (.iinc 5 1, 3) := by decide +kernel
theorem dX4_added_52 : decode cX4_added 52 = .ok (.goto (-46), 3) := by decide +kernel
theorem dX4_added_55 : decode cX4_added 55 = .ok (.iload 4, 2) := by decide +kernel
theorem dX4_added_57 : decode cX4_added 57 = .ok (.ireturn, 1) := by decide +kernel
theorem dX5_init_0 : decode cX5_init 0 = .ok (.aload_n 0, 1) := by decide +kernel
theorem dX5_init_1 : decode cX5_init 1 = .ok (.invokespecial 1, 3) := by decide +kernel
theorem dX5_init_4 : decode cX5_init 4 = .ok (.aload_n 0, 1) := by decide +kernel
theorem dX5_init_5 : decode cX5_init 5 = .ok (.new 7, 3) := by decide +kernel
theorem dX5_init_8 : decode cX5_init 8 = .ok (.dup, 1) := by decide +kernel
theorem dX5_init_9 : decode cX5_init 9 = .ok (.invokespecial 9, 3) := by decide +kernel
theorem dX5_init_12 : decode cX5_init 12 = .ok (.putfield 10, 3) := by decide +kernel
theorem dX5_init_15 : decode cX5_init 15 = .ok (.aload_n 0, 1) := by decide +kernel
theorem dX5_init_16 : decode cX5_init 16 = .ok (.new 16, 3) := by decide +kernel
theorem dX5_init_19 : decode cX5_init 19 = .ok (.dup, 1) := by decide +kernel
theorem dX5_init_20 : decode cX5_init 20 = .ok (.invokespecial 18, 3) := by decide +kernel
theorem dX5_init_23 : decode cX5_init 23 = .ok (.putfield 19, 3) := by decide +kernel
theorem dX5_init_26 : decode cX5_init 26 = .ok (.aload_n 0, 1) := by decide +kernel
theorem dX5_init_27 : decode cX5_init 27 = .ok (.new 16, 3) := by decide +kernel
theorem dX5_init_30 : decode cX5_init 30 = .ok (.dup, 1) := by decide +kernel
theorem dX5_init_31 : decode cX5_init 31 = .ok (.invokespecial 18, 3) := by decide +kernel
theorem dX5_init_34 : decode cX5_init 34 = .ok (.putfield 23, 3) := by decide +kernel
theorem dX5_init_37 : decode cX5_init 37 = .ok (.aload_n 0, 1) := by decide +kernel
theorem dX5_init_38 : decode cX5_init 38 = .ok (.new 16, 3) := by decide +kernel
theorem dX5_init_41 : decode cX5_init 41 = .ok (.dup, 1) := by decide +kernel
theorem dX5_init_42 : decode cX5_init 42 = .ok (.invokespecial 18, 3) := by decide +kernel
theorem dX5_init_45 : decode cX5_init 45 = .ok (.putfield 26, 3) := by decide +kernel
theorem dX5_init_48 : decode cX5_init 48 = .ok (.aload_n 0, 1) := by decide +kernel
theorem dX5_init_49 : decode cX5_init 49 = .ok (.new 29, 3) := by decide +kernel
theorem dX5_init_52 : decode cX5_init 52 = .ok (.dup, 1) := by decide +kernel
theorem dX5_init_53 : decode cX5_init 53 = .ok (.invokespecial 31, 3) := by decide +kernel
theorem dX5_init_56 : decode cX5_init 56 = .ok (.putfield 32, 3) := by decide +kernel
theorem dX5_init_59 : decode cX5_init 59 = .ok (.aload_n 0, 1) := by decide +kernel
theorem dX5_init_60 : decode cX5_init 60 = .ok (.new 36, 3) := by decide +kernel
theorem dX5_init_63 : decode cX5_init 63 = .ok (.dup, 1) := by decide +kernel
theorem dX5_init_64 : decode cX5_init 64 = .ok (.invokespecial 38, 3) := by decide +kernel
theorem dX5_init_67 : decode cX5_init 67 = .ok (.putfield 39, 3) := by decide +kernel
theorem dX5_init_70 : decode cX5_init 70 = .ok (.aload_n 0, 1) := by decide +kernel
theorem dX5_init_71 : decode cX5_init 71 = .ok (.bipush 13, 2) := by decide +kernel
theorem dX5_init_73 : decode cX5_init 73 = .ok (.newarray .int, 2) := by decide +kernel
theorem dX5_init_75 : decode cX5_init 75 = .ok (.putfield 43, 3) := by decide +kernel
theorem dX5_init_78 : decode cX5_init 78 = .ok (.aload_n 0, 1) := by decide +kernel
theorem dX5_init_79 : decode cX5_init 79 = .ok (.bipush 7, 2) := by decide +kernel
theorem dX5_init_81 : decode cX5_init 81 = .ok (.newarray .int, 2) := by decide +kernel
theorem dX5_init_83 : decode cX5_init 83 = .ok (.putfield 47, 3) := by decide +kernel
theorem dX5_init_86 : decode cX5_init 86 = .ok (.return_, 1) := by decide +kernel
theorem dX5_letter_0 : decode cX5_letter 0 = .ok (.iload_n 1, 1) := by decide +kernel
theorem dX5_letter_1 : decode cX5_letter 1 = .ok (.ifCond .ge 9, 3) := by decide +kernel
theorem dX5_letter_4 : decode cX5_letter 4 = .ok (.aload_n 0, 1) := by decide +kernel
theorem dX5_letter_5 : decode cX5_letter 5 = .ok (.iconst 4, 1) := by decide +kernel
theorem dX5_letter_6 : decode cX5_letter 6 = .ok (.invokevirtual 50, 3) := by decide +kernel
theorem dX5_letter_9 : decode cX5_letter 9 = .ok (.ireturn, 1) := by decide +kernel
theorem dX5_letter_10 : decode cX5_letter 10 = .ok (.iload_n 1, 1) := by decide +kernel
theorem dX5_letter_11 : decode cX5_letter 11 = .ok (.sipush 255, 3) := by decide +kernel
theorem dX5_letter_14 : decode cX5_letter 14 = .ok (.if_icmp .gt 15, 3) := by decide +kernel
theorem dX5_letter_17 : decode cX5_letter 17 = .ok (.aload_n 0, 1) := by decide +kernel
theorem dX5_letter_18 : decode cX5_letter 18 = .ok (.getfield 10, 3) := by decide +kernel
theorem dX5_letter_21 : decode cX5_letter 21 = .ok (.getfield 54, 3) := by decide +kernel
theorem dX5_letter_24 : decode cX5_letter 24 = .ok (.bipush 64, 2) := by decide +kernel
theorem dX5_letter_26 : decode cX5_letter 26 = .ok (.if_icmp .lt 10, 3) := by decide +kernel
theorem dX5_letter_29 : decode cX5_letter 29 = .ok (.aload_n 0, 1) := by decide +kernel
theorem dX5_letter_30 : decode cX5_letter 30 = .ok (.bipush 6, 2) := by decide +kernel
theorem dX5_letter_32 : decode cX5_letter 32 = .ok (.invokevirtual 50, 3) := by decide +kernel
theorem dX5_letter_35 : decode cX5_letter 35 = .ok (.ireturn, 1) := by decide +kernel
theorem dX5_letter_36 : decode cX5_letter 36 = .ok (.aload_n 0, 1) := by decide +kernel
theorem dX5_letter_37 : decode cX5_letter 37 = .ok (.getfield 10, 3) := by decide +kernel
theorem dX5_letter_40 : decode cX5_letter 40 = .ok (.iload_n 1, 1) := by decide +kernel
theorem dX5_letter_41 : decode cX5_letter 41 = .ok (.invokevirtual 58, 3) := by decide +kernel
theorem dX5_letter_44 : decode cX5_letter 44 = .ok (.ireturn, 1) := by decide +kernel
theorem dX5_house_0 : decode cX5_house 0 = .ok (.aload_n 0, 1) := by decide +kernel
theorem dX5_house_1 : decode cX5_house 1 = .ok (.invokevirtual 61, 3) := by decide +kernel
theorem dX5_house_4 : decode cX5_house 4 = .ok (.istore_n 1, 1) := by decide +kernel
theorem dX5_house_5 : decode cX5_house 5 = .ok (.aload_n 0, 1) := by decide +kernel
theorem dX5_house_6 : decode cX5_house 6 = .ok (.getfield 10, 3) := by decide +kernel
theorem dX5_house_9 : decode cX5_house 9 = .ok (.invokevirtual 65, 3) := by decide +kernel
theorem dX5_house_12 : decode cX5_house 12 = .ok (.iload_n 1, 1) := by decide +kernel
theorem dX5_house_13 : decode cX5_house 13 = .ok (.ireturn, 1) := by decide +kernel
theorem dX5_readHouse_0 : decode cX5_readHouse 0 = .ok (.aload_n 0, 1) := by decide +kernel
theorem dX5_readHouse_1 : decode cX5_readHouse 1 = .ok (.getfield 10, 3) := by decide +kernel
theorem dX5_readHouse_4 : decode cX5_readHouse 4 = .ok (.invokevirtual 68, 3) := by decide +kernel
theorem dX5_readHouse_7 : decode cX5_readHouse 7 = .ok (.istore_n 1, 1) := by decide +kernel
theorem dX5_readHouse_8 : decode cX5_readHouse 8 = .ok (.iload_n 1, 1) := by decide +kernel
theorem dX5_readHouse_9 : decode cX5_readHouse 9 = .ok (.ifCond .lt 9, 3) := by decide +kernel
theorem dX5_readHouse_12 : decode cX5_readHouse 12 = .ok (.sipush (-1000), 3) := by decide +kernel
theorem dX5_readHouse_15 : decode cX5_readHouse 15 = .ok (.iload_n 1, 1) := by decide +kernel
theorem dX5_readHouse_16 : decode cX5_readHouse 16 = .ok (.isub, 1) := by decide +kernel
theorem dX5_readHouse_17 : decode cX5_readHouse 17 = .ok (.ireturn, 1) := by decide +kernel
theorem dX5_readHouse_18 : decode cX5_readHouse 18 = .ok (.aload_n 0, 1) := by decide +kernel
theorem dX5_readHouse_19 : decode cX5_readHouse 19 = .ok (.getfield 23, 3) := by decide +kernel
theorem dX5_readHouse_22 : decode cX5_readHouse 22 = .ok (.aload_n 0, 1) := by decide +kernel
theorem dX5_readHouse_23 : decode cX5_readHouse 23 = .ok (.getfield 19, 3) := by decide +kernel
theorem dX5_readHouse_26 : decode cX5_readHouse 26 = .ok (.invokevirtual 71, 3) := by decide +kernel
theorem dX5_readHouse_29 : decode cX5_readHouse 29 = .ok (.aload_n 0, 1) := by decide +kernel
theorem dX5_readHouse_30 : decode cX5_readHouse 30 = .ok (.getfield 10, 3) := by decide +kernel
theorem dX5_readHouse_33 : decode cX5_readHouse 33 = .ok (.invokevirtual 75, 3) := by decide +kernel
theorem dX5_readHouse_36 : decode cX5_readHouse 36 = .ok (.iconst 0, 1) := by decide +kernel
theorem dX5_readHouse_37 : decode cX5_readHouse 37 = .ok (.istore_n 2, 1) := by decide +kernel
theorem dX5_readHouse_38 : decode cX5_readHouse 38 = .ok (.aload_n 0, 1) := by decide +kernel
theorem dX5_readHouse_39 : decode cX5_readHouse 39 = .ok (.getfield 10, 3) := by decide +kernel
theorem dX5_readHouse_42 : decode cX5_readHouse 42 = .ok (.getfield 78, 3) := by decide +kernel
theorem dX5_readHouse_45 : decode cX5_readHouse 45 = .ok (.aload_n 0, 1) := by decide +kernel
theorem dX5_readHouse_46 : decode cX5_readHouse 46 = .ok (.getfield 10, 3) := by decide +kernel
theorem dX5_readHouse_49 : decode cX5_readHouse 49 = .ok (.getfield 54, 3) := by decide +kernel
theorem dX5_readHouse_52 : decode cX5_readHouse 52 = .ok (.if_icmp .ge 53, 3) := by decide +kernel
theorem dX5_readHouse_55 : decode cX5_readHouse 55 = .ok (.iload_n 2, 1) := by decide +kernel
theorem dX5_readHouse_56 : decode cX5_readHouse 56 = .ok (.bipush 64, 2) := by decide +kernel
theorem dX5_readHouse_58 : decode cX5_readHouse 58 = .ok (.if_icmp .ge 47, 3) := by decide +kernel
theorem dX5_readHouse_61 : decode cX5_readHouse 61 = .ok (.aload_n 0, 1) := by decide +kernel
theorem dX5_readHouse_62 : decode cX5_readHouse 62 = .ok (.getfield 10, 3) := by decide +kernel
theorem dX5_readHouse_65 : decode cX5_readHouse 65 = .ok (.getfield 78, 3) := by decide +kernel
theorem dX5_readHouse_68 : decode cX5_readHouse 68 = .ok (.istore_n 3, 1) := by decide +kernel
theorem dX5_readHouse_69 : decode cX5_readHouse 69 = .ok (.aload_n 0, 1) := by decide +kernel
theorem dX5_readHouse_70 : decode cX5_readHouse 70 = .ok (.getfield 10, 3) := by decide +kernel
theorem dX5_readHouse_73 : decode cX5_readHouse 73 = .ok (.invokevirtual 81, 3) := by decide +kernel
theorem dX5_readHouse_76 : decode cX5_readHouse 76 = .ok (.ifCond .eq 17, 3) := by decide +kernel
theorem dX5_readHouse_79 : decode cX5_readHouse 79 = .ok (.aload_n 0, 1) := by decide +kernel
theorem dX5_readHouse_80 : decode cX5_readHouse 80 = .ok (.getfield 23, 3) := by decide +kernel
theorem dX5_readHouse_83 : decode cX5_readHouse 83 = .ok (.aload_n 0, 1) := by decide +kernel
theorem dX5_readHouse_84 : decode cX5_readHouse 84 = .ok (.getfield 10, 3) := by decide +kernel
theorem dX5_readHouse_87 : decode cX5_readHouse 87 = .ok (.invokevirtual 85, 3) := by decide +kernel
theorem dX5_readHouse_90 : decode cX5_readHouse 90 = .ok (.ifCond .ne 9, 3) := by decide +kernel
theorem dX5_readHouse_93 : decode cX5_readHouse 93 = .ok (.sipush (-2000), 3) := by decide +kernel
theorem dX5_readHouse_96 : decode cX5_readHouse 96 = .ok (.iload_n 3, 1) := by decide +kernel
theorem dX5_readHouse_97 : decode cX5_readHouse 97 = .ok (.isub, 1) := by decide +kernel
theorem dX5_readHouse_98 : decode cX5_readHouse 98 = .ok (.ireturn, 1) := by decide +kernel
theorem dX5_readHouse_99 : decode cX5_readHouse 99 = .ok (.iinc 2 1, 3) := by decide +kernel
theorem dX5_readHouse_102 : decode cX5_readHouse 102 = .ok (.goto (-64), 3) := by decide +kernel
theorem dX5_readHouse_105 : decode cX5_readHouse 105 = .ok (.aload_n 0, 1) := by decide +kernel
theorem dX5_readHouse_106 : decode cX5_readHouse 106 = .ok (.getfield 19, 3) := by decide +kernel
theorem dX5_readHouse_109 : decode cX5_readHouse 109 = .ok (.aload_n 0, 1) := by decide +kernel
theorem dX5_readHouse_110 : decode cX5_readHouse 110 = .ok (.getfield 23, 3) := by decide +kernel
theorem dX5_readHouse_113 : decode cX5_readHouse 113 = .ok (.invokevirtual 71, 3) := by decide +kernel
theorem dX5_readHouse_116 : decode cX5_readHouse 116 = .ok (.iload_n 2, 1) := by decide +kernel
theorem dX5_readHouse_117 : decode cX5_readHouse 117 = .ok (.ireturn, 1) := by decide +kernel
theorem dX5_door_0 : decode cX5_door 0 = .ok (.aload_n 0, 1) := by decide +kernel
theorem dX5_door_1 : decode cX5_door 1 = .ok (.getfield 19, 3) := by decide +kernel
theorem dX5_door_4 : decode cX5_door 4 = .ok (.iload_n 1, 1) := by decide +kernel
theorem dX5_door_5 : decode cX5_door 5 = .ok (.invokevirtual 89, 3) := by decide +kernel
theorem dX5_door_8 : decode cX5_door 8 = .ok (.ifCond .ne 9, 3) := by decide +kernel
theorem dX5_door_11 : decode cX5_door 11 = .ok (.aload_n 0, 1) := by decide +kernel
theorem dX5_door_12 : decode cX5_door 12 = .ok (.iconst 1, 1) := by decide +kernel
theorem dX5_door_13 : decode cX5_door 13 = .ok (.invokevirtual 50, 3) := by decide +kernel
theorem dX5_door_16 : decode cX5_door 16 = .ok (.ireturn, 1) := by decide +kernel
theorem dX5_door_17 : decode cX5_door 17 = .ok (.iload_n 2, 1) := by decide +kernel
theorem dX5_door_18 : decode cX5_door 18 = .ok (.tableswitch 64 0 2 #[26, 38, 47], 26) := by decide +kernel
theorem dX5_door_44 : decode cX5_door 44 = .ok (.aload_n 0, 1) := by decide +kernel
theorem dX5_door_45 : decode cX5_door 45 = .ok (.getfield 19, 3) := by decide +kernel
theorem dX5_door_48 : decode cX5_door 48 = .ok (.getfield 93, 3) := by decide +kernel
theorem dX5_door_51 : decode cX5_door 51 = .ok (.iload_n 1, 1) := by decide +kernel
theorem dX5_door_52 : decode cX5_door 52 = .ok (.invokestatic 96, 3) := by decide +kernel
theorem dX5_door_55 : decode cX5_door 55 = .ok (.ireturn, 1) := by decide +kernel
theorem dX5_door_56 : decode cX5_door 56 = .ok (.aload_n 0, 1) := by decide +kernel
theorem dX5_door_57 : decode cX5_door 57 = .ok (.getfield 19, 3) := by decide +kernel
theorem dX5_door_60 : decode cX5_door 60 = .ok (.iload_n 1, 1) := by decide +kernel
theorem dX5_door_61 : decode cX5_door 61 = .ok (.invokevirtual 100, 3) := by decide +kernel
theorem dX5_door_64 : decode cX5_door 64 = .ok (.ireturn, 1) := by decide +kernel
theorem dX5_door_65 : decode cX5_door 65 = .ok (.aload_n 0, 1) := by decide +kernel
theorem dX5_door_66 : decode cX5_door 66 = .ok (.getfield 19, 3) := by decide +kernel
theorem dX5_door_69 : decode cX5_door 69 = .ok (.iload_n 1, 1) := by decide +kernel
theorem dX5_door_70 : decode cX5_door 70 = .ok (.invokevirtual 103, 3) := by decide +kernel
theorem dX5_door_73 : decode cX5_door 73 = .ok (.ifCond .eq 7, 3) := by decide +kernel
theorem dX5_door_76 : decode cX5_door 76 = .ok (.iconst 1, 1) := by decide +kernel
theorem dX5_door_77 : decode cX5_door 77 = .ok (.goto 4, 3) := by decide +kernel
theorem dX5_door_80 : decode cX5_door 80 = .ok (.iconst 0, 1) := by decide +kernel
theorem dX5_door_81 : decode cX5_door 81 = .ok (.ireturn, 1) := by decide +kernel
theorem dX5_door_82 : decode cX5_door 82 = .ok (.aload_n 0, 1) := by decide +kernel
theorem dX5_door_83 : decode cX5_door 83 = .ok (.iconst 2, 1) := by decide +kernel
theorem dX5_door_84 : decode cX5_door 84 = .ok (.invokevirtual 50, 3) := by decide +kernel
theorem dX5_door_87 : decode cX5_door 87 = .ok (.ireturn, 1) := by decide +kernel
theorem dX5_person_0 : decode cX5_person 0 = .ok (.aload_n 0, 1) := by decide +kernel
theorem dX5_person_1 : decode cX5_person 1 = .ok (.getfield 19, 3) := by decide +kernel
theorem dX5_person_4 : decode cX5_person 4 = .ok (.iload_n 1, 1) := by decide +kernel
theorem dX5_person_5 : decode cX5_person 5 = .ok (.invokevirtual 106, 3) := by decide +kernel
theorem dX5_person_8 : decode cX5_person 8 = .ok (.astore_n 3, 1) := by decide +kernel
theorem dX5_person_9 : decode cX5_person 9 = .ok (.aload_n 3, 1) := by decide +kernel
theorem dX5_person_10 : decode cX5_person 10 = .ok (.ifnonnull 9, 3) := by decide +kernel
theorem dX5_person_13 : decode cX5_person 13 = .ok (.aload_n 0, 1) := by decide +kernel
theorem dX5_person_14 : decode cX5_person 14 = .ok (.iconst 1, 1) := by decide +kernel
theorem dX5_person_15 : decode cX5_person 15 = .ok (.invokevirtual 50, 3) := by decide +kernel
theorem dX5_person_18 : decode cX5_person 18 = .ok (.ireturn, 1) := by decide +kernel
theorem dX5_person_19 : decode cX5_person 19 = .ok (.iload_n 2, 1) := by decide +kernel
theorem dX5_person_20 : decode cX5_person 20 = .ok (.tableswitch 65 0 4 #[36, 41, 46, 51, 56], 36) := by decide +kernel
theorem dX5_person_56 : decode cX5_person 56 = .ok (.aload_n 3, 1) := by decide +kernel
theorem dX5_person_57 : decode cX5_person 57 = .ok (.getfield 110, 3) := by decide +kernel
theorem dX5_person_60 : decode cX5_person 60 = .ok (.ireturn, 1) := by decide +kernel
theorem dX5_person_61 : decode cX5_person 61 = .ok (.aload_n 3, 1) := by decide +kernel
theorem dX5_person_62 : decode cX5_person 62 = .ok (.getfield 115, 3) := by decide +kernel
theorem dX5_person_65 : decode cX5_person 65 = .ok (.ireturn, 1) := by decide +kernel
theorem dX5_person_66 : decode cX5_person 66 = .ok (.aload_n 3, 1) := by decide +kernel
theorem dX5_person_67 : decode cX5_person 67 = .ok (.getfield 118, 3) := by decide +kernel
theorem dX5_person_70 : decode cX5_person 70 = .ok (.ireturn, 1) := by decide +kernel
theorem dX5_person_71 : decode cX5_person 71 = .ok (.aload_n 3, 1) := by decide +kernel
theorem dX5_person_72 : decode cX5_person 72 = .ok (.getfield 121, 3) := by decide +kernel
theorem dX5_person_75 : decode cX5_person 75 = .ok (.ireturn, 1) := by decide +kernel
theorem dX5_person_76 : decode cX5_person 76 = .ok (.aload_n 0, 1) := by decide +kernel
theorem dX5_person_77 : decode cX5_person 77 = .ok (.getfield 19, 3) := by decide +kernel
theorem dX5_person_80 : decode cX5_person 80 = .ok (.iload_n 1, 1) := by decide +kernel
theorem dX5_person_81 : decode cX5_person 81 = .ok (.invokevirtual 124, 3) := by decide +kernel
theorem dX5_person_84 : decode cX5_person 84 = .ok (.ireturn, 1) := by decide +kernel
theorem dX5_person_85 : decode cX5_person 85 = .ok (.aload_n 0, 1) := by decide +kernel
theorem dX5_person_86 : decode cX5_person 86 = .ok (.iconst 2, 1) := by decide +kernel
theorem dX5_person_87 : decode cX5_person 87 = .ok (.invokevirtual 50, 3) := by decide +kernel
theorem dX5_person_90 : decode cX5_person 90 = .ok (.ireturn, 1) := by decide +kernel
theorem dX5_go_0 : decode cX5_go 0 = .ok (.aload_n 0, 1) := by decide +kernel
theorem dX5_go_1 : decode cX5_go 1 = .ok (.getfield 19, 3) := by decide +kernel
theorem dX5_go_4 : decode cX5_go 4 = .ok (.iload_n 1, 1) := by decide +kernel
theorem dX5_go_5 : decode cX5_go 5 = .ok (.invokevirtual 106, 3) := by decide +kernel
theorem dX5_go_8 : decode cX5_go 8 = .ok (.ifnonnull 9, 3) := by decide +kernel
theorem dX5_go_11 : decode cX5_go 11 = .ok (.aload_n 0, 1) := by decide +kernel
theorem dX5_go_12 : decode cX5_go 12 = .ok (.iconst 1, 1) := by decide +kernel
theorem dX5_go_13 : decode cX5_go 13 = .ok (.invokevirtual 50, 3) := by decide +kernel
theorem dX5_go_16 : decode cX5_go 16 = .ok (.ireturn, 1) := by decide +kernel
theorem dX5_go_17 : decode cX5_go 17 = .ok (.aload_n 0, 1) := by decide +kernel
theorem dX5_go_18 : decode cX5_go 18 = .ok (.getfield 19, 3) := by decide +kernel
theorem dX5_go_21 : decode cX5_go 21 = .ok (.iload_n 1, 1) := by decide +kernel
theorem dX5_go_22 : decode cX5_go 22 = .ok (.invokevirtual 127, 3) := by decide +kernel
theorem dX5_go_25 : decode cX5_go 25 = .ok (.ireturn, 1) := by decide +kernel
theorem dX5_turn_0 : decode cX5_turn 0 = .ok (.aload_n 0, 1) := by decide +kernel
theorem dX5_turn_1 : decode cX5_turn 1 = .ok (.getfield 19, 3) := by decide +kernel
theorem dX5_turn_4 : decode cX5_turn 4 = .ok (.iload_n 1, 1) := by decide +kernel
theorem dX5_turn_5 : decode cX5_turn 5 = .ok (.invokevirtual 89, 3) := by decide +kernel
theorem dX5_turn_8 : decode cX5_turn 8 = .ok (.ifCond .ne 9, 3) := by decide +kernel
theorem dX5_turn_11 : decode cX5_turn 11 = .ok (.aload_n 0, 1) := by decide +kernel
theorem dX5_turn_12 : decode cX5_turn 12 = .ok (.iconst 1, 1) := by decide +kernel
theorem dX5_turn_13 : decode cX5_turn 13 = .ok (.invokevirtual 50, 3) := by decide +kernel
theorem dX5_turn_16 : decode cX5_turn 16 = .ok (.ireturn, 1) := by decide +kernel
theorem dX5_turn_17 : decode cX5_turn 17 = .ok (.aload_n 0, 1) := by decide +kernel
theorem dX5_turn_18 : decode cX5_turn 18 = .ok (.getfield 19, 3) := by decide +kernel
theorem dX5_turn_21 : decode cX5_turn 21 = .ok (.iload_n 1, 1) := by decide +kernel
theorem dX5_turn_22 : decode cX5_turn 22 = .ok (.invokevirtual 103, 3) := by decide +kernel
theorem dX5_turn_25 : decode cX5_turn 25 = .ok (.ifCond .eq 9, 3) := by decide +kernel
theorem dX5_turn_28 : decode cX5_turn 28 = .ok (.aload_n 0, 1) := by decide +kernel
theorem dX5_turn_29 : decode cX5_turn 29 = .ok (.iconst 3, 1) := by decide +kernel
theorem dX5_turn_30 : decode cX5_turn 30 = .ok (.invokevirtual 50, 3) := by decide +kernel
theorem dX5_turn_33 : decode cX5_turn 33 = .ok (.ireturn, 1) := by decide +kernel
theorem dX5_turn_34 : decode cX5_turn 34 = .ok (.aload_n 0, 1) := by decide +kernel
theorem dX5_turn_35 : decode cX5_turn 35 = .ok (.getfield 19, 3) := by decide +kernel
theorem dX5_turn_38 : decode cX5_turn 38 = .ok (.aload_n 0, 1) := by decide +kernel
theorem dX5_turn_39 : decode cX5_turn 39 = .ok (.getfield 19, 3) := by decide +kernel
theorem dX5_turn_42 : decode cX5_turn 42 = .ok (.getfield 93, 3) := by decide +kernel
theorem dX5_turn_45 : decode cX5_turn 45 = .ok (.iload_n 1, 1) := by decide +kernel
theorem dX5_turn_46 : decode cX5_turn 46 = .ok (.invokestatic 130, 3) := by decide +kernel
theorem dX5_turn_49 : decode cX5_turn 49 = .ok (.aload_n 0, 1) := by decide +kernel
theorem dX5_turn_50 : decode cX5_turn 50 = .ok (.getfield 19, 3) := by decide +kernel
theorem dX5_turn_53 : decode cX5_turn 53 = .ok (.getfield 133, 3) := by decide +kernel
theorem dX5_turn_56 : decode cX5_turn 56 = .ok (.invokestatic 136, 3) := by decide +kernel
theorem dX5_turn_59 : decode cX5_turn 59 = .ok (.putfield 93, 3) := by decide +kernel
theorem dX5_turn_62 : decode cX5_turn 62 = .ok (.aload_n 0, 1) := by decide +kernel
theorem dX5_turn_63 : decode cX5_turn 63 = .ok (.getfield 19, 3) := by decide +kernel
theorem dX5_turn_66 : decode cX5_turn 66 = .ok (.getfield 93, 3) := by decide +kernel
theorem dX5_turn_69 : decode cX5_turn 69 = .ok (.iload_n 1, 1) := by decide +kernel
theorem dX5_turn_70 : decode cX5_turn 70 = .ok (.invokestatic 96, 3) := by decide +kernel
theorem dX5_turn_73 : decode cX5_turn 73 = .ok (.ireturn, 1) := by decide +kernel
theorem dX5_state_0 : decode cX5_state 0 = .ok (.aload_n 0, 1) := by decide +kernel
theorem dX5_state_1 : decode cX5_state 1 = .ok (.getfield 19, 3) := by decide +kernel
theorem dX5_state_4 : decode cX5_state 4 = .ok (.aload_n 0, 1) := by decide +kernel
theorem dX5_state_5 : decode cX5_state 5 = .ok (.getfield 19, 3) := by decide +kernel
theorem dX5_state_8 : decode cX5_state 8 = .ok (.getfield 93, 3) := by decide +kernel
theorem dX5_state_11 : decode cX5_state 11 = .ok (.invokevirtual 140, 3) := by decide +kernel
theorem dX5_state_14 : decode cX5_state 14 = .ok (.ireturn, 1) := by decide +kernel
theorem dX5_wished_0 : decode cX5_wished 0 = .ok (.aload_n 0, 1) := by decide +kernel
theorem dX5_wished_1 : decode cX5_wished 1 = .ok (.getfield 19, 3) := by decide +kernel
theorem dX5_wished_4 : decode cX5_wished 4 = .ok (.aload_n 0, 1) := by decide +kernel
theorem dX5_wished_5 : decode cX5_wished 5 = .ok (.getfield 19, 3) := by decide +kernel
theorem dX5_wished_8 : decode cX5_wished 8 = .ok (.getfield 93, 3) := by decide +kernel
theorem dX5_wished_11 : decode cX5_wished 11 = .ok (.invokevirtual 143, 3) := by decide +kernel
theorem dX5_wished_14 : decode cX5_wished 14 = .ok (.ifCond .eq 7, 3) := by decide +kernel
theorem dX5_wished_17 : decode cX5_wished 17 = .ok (.iconst 1, 1) := by decide +kernel
theorem dX5_wished_18 : decode cX5_wished 18 = .ok (.goto 4, 3) := by decide +kernel
theorem dX5_wished_21 : decode cX5_wished 21 = .ok (.iconst 0, 1) := by decide +kernel
theorem dX5_wished_22 : decode cX5_wished 22 = .ok (.ireturn, 1) := by decide +kernel
theorem dX5_way_0 : decode cX5_way 0 = .ok (.iload_n 1, 1) := by decide +kernel
theorem dX5_way_1 : decode cX5_way 1 = .ok (.ifCond .lt 35, 3) := by decide +kernel
theorem dX5_way_4 : decode cX5_way 4 = .ok (.iload_n 1, 1) := by decide +kernel
theorem dX5_way_5 : decode cX5_way 5 = .ok (.aload_n 0, 1) := by decide +kernel
theorem dX5_way_6 : decode cX5_way 6 = .ok (.getfield 19, 3) := by decide +kernel
theorem dX5_way_9 : decode cX5_way 9 = .ok (.getfield 133, 3) := by decide +kernel
theorem dX5_way_12 : decode cX5_way 12 = .ok (.aload_n 0, 1) := by decide +kernel
theorem dX5_way_13 : decode cX5_way 13 = .ok (.getfield 19, 3) := by decide +kernel
theorem dX5_way_16 : decode cX5_way 16 = .ok (.getfield 146, 3) := by decide +kernel
theorem dX5_way_19 : decode cX5_way 19 = .ok (.invokestatic 149, 3) := by decide +kernel
theorem dX5_way_22 : decode cX5_way 22 = .ok (.if_icmp .ge 14, 3) := by decide +kernel
theorem dX5_way_25 : decode cX5_way 25 = .ok (.aload_n 0, 1) := by decide +kernel
theorem dX5_way_26 : decode cX5_way 26 = .ok (.getfield 19, 3) := by decide +kernel
theorem dX5_way_29 : decode cX5_way 29 = .ok (.iload_n 2, 1) := by decide +kernel
theorem dX5_way_30 : decode cX5_way 30 = .ok (.invokevirtual 89, 3) := by decide +kernel
theorem dX5_way_33 : decode cX5_way 33 = .ok (.ifCond .ne 9, 3) := by decide +kernel
theorem dX5_way_36 : decode cX5_way 36 = .ok (.aload_n 0, 1) := by decide +kernel
theorem dX5_way_37 : decode cX5_way 37 = .ok (.iconst 1, 1) := by decide +kernel
theorem dX5_way_38 : decode cX5_way 38 = .ok (.invokevirtual 50, 3) := by decide +kernel
theorem dX5_way_41 : decode cX5_way 41 = .ok (.ireturn, 1) := by decide +kernel
theorem dX5_way_42 : decode cX5_way 42 = .ok (.iload_n 3, 1) := by decide +kernel
theorem dX5_way_43 : decode cX5_way 43 = .ok (.ifCond .eq 14, 3) := by decide +kernel
theorem dX5_way_46 : decode cX5_way 46 = .ok (.iload_n 3, 1) := by decide +kernel
theorem dX5_way_47 : decode cX5_way 47 = .ok (.iconst 1, 1) := by decide +kernel
theorem dX5_way_48 : decode cX5_way 48 = .ok (.if_icmp .eq 9, 3) := by decide +kernel
theorem dX5_way_51 : decode cX5_way 51 = .ok (.aload_n 0, 1) := by decide +kernel
theorem dX5_way_52 : decode cX5_way 52 = .ok (.iconst 2, 1) := by decide +kernel
theorem dX5_way_53 : decode cX5_way 53 = .ok (.invokevirtual 50, 3) := by decide +kernel
theorem dX5_way_56 : decode cX5_way 56 = .ok (.ireturn, 1) := by decide +kernel
theorem dX5_way_57 : decode cX5_way 57 = .ok (.aload_n 0, 1) := by decide +kernel
theorem dX5_way_58 : decode cX5_way 58 = .ok (.iload_n 1, 1) := by decide +kernel
theorem dX5_way_59 : decode cX5_way 59 = .ok (.invokevirtual 152, 3) := by decide +kernel
theorem dX5_way_62 : decode cX5_way 62 = .ok (.iload_n 3, 1) := by decide +kernel
theorem dX5_way_63 : decode cX5_way 63 = .ok (.ifCond .ne 10, 3) := by decide +kernel
theorem dX5_way_66 : decode cX5_way 66 = .ok (.aload_n 0, 1) := by decide +kernel
theorem dX5_way_67 : decode cX5_way 67 = .ok (.invokevirtual 156, 3) := by decide +kernel
theorem dX5_way_70 : decode cX5_way 70 = .ok (.goto 7, 3) := by decide +kernel
theorem dX5_way_73 : decode cX5_way 73 = .ok (.aload_n 0, 1) := by decide +kernel
theorem dX5_way_74 : decode cX5_way 74 = .ok (.invokevirtual 159, 3) := by decide +kernel
theorem dX5_way_77 : decode cX5_way 77 = .ok (.iload_n 2, 1) := by decide +kernel
theorem dX5_way_78 : decode cX5_way 78 = .ok (.aload_n 0, 1) := by decide +kernel
theorem dX5_way_79 : decode cX5_way 79 = .ok (.getfield 43, 3) := by decide +kernel
theorem dX5_way_82 : decode cX5_way 82 = .ok (.arraylength, 1) := by decide +kernel
theorem dX5_way_83 : decode cX5_way 83 = .ok (.if_icmp .ge 12, 3) := by decide +kernel
theorem dX5_way_86 : decode cX5_way 86 = .ok (.aload_n 0, 1) := by decide +kernel
theorem dX5_way_87 : decode cX5_way 87 = .ok (.getfield 43, 3) := by decide +kernel
theorem dX5_way_90 : decode cX5_way 90 = .ok (.iload_n 2, 1) := by decide +kernel
theorem dX5_way_91 : decode cX5_way 91 = .ok (.iaload, 1) := by decide +kernel
theorem dX5_way_92 : decode cX5_way 92 = .ok (.goto 4, 3) := by decide +kernel
theorem dX5_way_95 : decode cX5_way 95 = .ok (.iconst 0, 1) := by decide +kernel
theorem dX5_way_96 : decode cX5_way 96 = .ok (.ireturn, 1) := by decide +kernel
theorem dX5_spread_0 : decode cX5_spread 0 = .ok (.iload_n 1, 1) := by decide +kernel
theorem dX5_spread_1 : decode cX5_spread 1 = .ok (.istore_n 2, 1) := by decide +kernel
theorem dX5_spread_2 : decode cX5_spread 2 = .ok (.aload_n 0, 1) := by decide +kernel
theorem dX5_spread_3 : decode cX5_spread 3 = .ok (.getfield 19, 3) := by decide +kernel
theorem dX5_spread_6 : decode cX5_spread 6 = .ok (.getfield 133, 3) := by decide +kernel
theorem dX5_spread_9 : decode cX5_spread 9 = .ok (.istore_n 3, 1) := by decide +kernel
theorem dX5_spread_10 : decode cX5_spread 10 = .ok (.iconst 1, 1) := by decide +kernel
theorem dX5_spread_11 : decode cX5_spread 11 = .ok (.istore 4, 2) := by decide +kernel
theorem dX5_spread_13 : decode cX5_spread 13 = .ok (.iload 4, 2) := by decide +kernel
theorem dX5_spread_15 : decode cX5_spread 15 = .ok (.aload_n 0, 1) := by decide +kernel
theorem dX5_spread_16 : decode cX5_spread 16 = .ok (.getfield 19, 3) := by decide +kernel
theorem dX5_spread_19 : decode cX5_spread 19 = .ok (.getfield 146, 3) := by decide +kernel
theorem dX5_spread_22 : decode cX5_spread 22 = .ok (.if_icmp .gt 37, 3) := by decide +kernel
theorem dX5_spread_25 : decode cX5_spread 25 = .ok (.iload 4, 2) := by decide +kernel
theorem dX5_spread_27 : decode cX5_spread 27 = .ok (.aload_n 0, 1) := by decide +kernel
theorem dX5_spread_28 : decode cX5_spread 28 = .ok (.getfield 43, 3) := by decide +kernel
theorem dX5_spread_31 : decode cX5_spread 31 = .ok (.arraylength, 1) := by decide +kernel
theorem dX5_spread_32 : decode cX5_spread 32 = .ok (.if_icmp .ge 27, 3) := by decide +kernel
theorem dX5_spread_35 : decode cX5_spread 35 = .ok (.aload_n 0, 1) := by decide +kernel
theorem dX5_spread_36 : decode cX5_spread 36 = .ok (.getfield 43, 3) := by decide +kernel
theorem dX5_spread_39 : decode cX5_spread 39 = .ok (.iload 4, 2) := by decide +kernel
theorem dX5_spread_41 : decode cX5_spread 41 = .ok (.iload_n 2, 1) := by decide +kernel
theorem dX5_spread_42 : decode cX5_spread 42 = .ok (.iload_n 3, 1) := by decide +kernel
theorem dX5_spread_43 : decode cX5_spread 43 = .ok (.invokestatic 162, 3) := by decide +kernel
theorem dX5_spread_46 : decode cX5_spread 46 = .ok (.iastore, 1) := by decide +kernel
theorem dX5_spread_47 : decode cX5_spread 47 = .ok (.iload_n 2, 1) := by decide +kernel
theorem dX5_spread_48 : decode cX5_spread 48 = .ok (.iload_n 3, 1) := by decide +kernel
theorem dX5_spread_49 : decode cX5_spread 49 = .ok (.invokestatic 165, 3) := by decide +kernel
theorem dX5_spread_52 : decode cX5_spread 52 = .ok (.istore_n 2, 1) := by decide +kernel
theorem dX5_spread_53 : decode cX5_spread 53 = .ok (.iinc 4 1, 3) := by decide +kernel
theorem dX5_spread_56 : decode cX5_spread 56 = .ok (.goto (-43), 3) := by decide +kernel
theorem dX5_spread_59 : decode cX5_spread 59 = .ok (.return_, 1) := by decide +kernel
theorem dX5_solveByMultiples_0 : decode cX5_solveByMultiples 0 = .ok (.iconst 1, 1) := by decide +kernel
theorem dX5_solveByMultiples_1 : decode cX5_solveByMultiples 1 = .ok (.istore_n 1, 1) := by decide +kernel
theorem dX5_solveByMultiples_2 : decode cX5_solveByMultiples 2 = .ok (.iload_n 1, 1) := by decide +kernel
theorem dX5_solveByMultiples_3 : decode cX5_solveByMultiples 3 = .ok (.aload_n 0, 1) := by decide +kernel
theorem dX5_solveByMultiples_4 : decode cX5_solveByMultiples 4 = .ok (.getfield 19, 3) := by decide +kernel
theorem dX5_solveByMultiples_7 : decode cX5_solveByMultiples 7 = .ok (.getfield 146, 3) := by decide +kernel
theorem dX5_solveByMultiples_10 : decode cX5_solveByMultiples 10 = .ok (.if_icmp .gt 37, 3) := by decide +kernel
theorem dX5_solveByMultiples_13 : decode cX5_solveByMultiples 13 = .ok (.iconst 2, 1) := by decide +kernel
theorem dX5_solveByMultiples_14 : decode cX5_solveByMultiples 14 = .ok (.iload_n 1, 1) := by decide +kernel
theorem dX5_solveByMultiples_15 : decode cX5_solveByMultiples 15 = .ok (.imul, 1) := by decide +kernel
theorem dX5_solveByMultiples_16 : decode cX5_solveByMultiples 16 = .ok (.istore_n 2, 1) := by decide +kernel
theorem dX5_solveByMultiples_17 : decode cX5_solveByMultiples 17 = .ok (.iload_n 2, 1) := by decide +kernel
theorem dX5_solveByMultiples_18 : decode cX5_solveByMultiples 18 = .ok (.aload_n 0, 1) := by decide +kernel
theorem dX5_solveByMultiples_19 : decode cX5_solveByMultiples 19 = .ok (.getfield 19, 3) := by decide +kernel
theorem dX5_solveByMultiples_22 : decode cX5_solveByMultiples 22 = .ok (.getfield 146, 3) := by decide +kernel
theorem dX5_solveByMultiples_25 : decode cX5_solveByMultiples 25 = .ok (.if_icmp .gt 16, 3) := by decide +kernel
theorem dX5_solveByMultiples_28 : decode cX5_solveByMultiples 28 = .ok (.aload_n 0, 1) := by decide +kernel
theorem dX5_solveByMultiples_29 : decode cX5_solveByMultiples 29 = .ok (.iload_n 2, 1) := by decide +kernel
theorem dX5_solveByMultiples_30 : decode cX5_solveByMultiples 30 = .ok (.iload_n 1, 1) := by decide +kernel
theorem dX5_solveByMultiples_31 : decode cX5_solveByMultiples 31 = .ok (.invokevirtual 168, 3) := by decide +kernel
theorem dX5_solveByMultiples_34 : decode cX5_solveByMultiples 34 = .ok (.iload_n 2, 1) := by decide +kernel
theorem dX5_solveByMultiples_35 : decode cX5_solveByMultiples 35 = .ok (.iload_n 1, 1) := by decide +kernel
theorem dX5_solveByMultiples_36 : decode cX5_solveByMultiples 36 = .ok (.iadd, 1) := by decide +kernel
theorem dX5_solveByMultiples_37 : decode cX5_solveByMultiples 37 = .ok (.istore_n 2, 1) := by decide +kernel
theorem dX5_solveByMultiples_38 : decode cX5_solveByMultiples 38 = .ok (.goto (-21), 3) := by decide +kernel
theorem dX5_solveByMultiples_41 : decode cX5_solveByMultiples 41 = .ok (.iinc 1 1, 3) := by decide +kernel
theorem dX5_solveByMultiples_44 : decode cX5_solveByMultiples 44 = .ok (.goto (-42), 3) := by decide +kernel
theorem dX5_solveByMultiples_47 : decode cX5_solveByMultiples 47 = .ok (.return_, 1) := by decide +kernel
theorem dX5_solveByDivisors_0 : decode cX5_solveByDivisors 0 = .ok (.aload_n 0, 1) := by decide +kernel
theorem dX5_solveByDivisors_1 : decode cX5_solveByDivisors 1 = .ok (.getfield 19, 3) := by decide +kernel
theorem dX5_solveByDivisors_4 : decode cX5_solveByDivisors 4 = .ok (.getfield 146, 3) := by decide +kernel
theorem dX5_solveByDivisors_7 : decode cX5_solveByDivisors 7 = .ok (.istore_n 1, 1) := by decide +kernel
theorem dX5_solveByDivisors_8 : decode cX5_solveByDivisors 8 = .ok (.iload_n 1, 1) := by decide +kernel
theorem dX5_solveByDivisors_9 : decode cX5_solveByDivisors 9 = .ok (.iconst 1, 1) := by decide +kernel
theorem dX5_solveByDivisors_10 : decode cX5_solveByDivisors 10 = .ok (.if_icmp .lt 36, 3) := by decide +kernel
theorem dX5_solveByDivisors_13 : decode cX5_solveByDivisors 13 = .ok (.iconst 1, 1) := by decide +kernel
theorem dX5_solveByDivisors_14 : decode cX5_solveByDivisors 14 = .ok (.istore_n 2, 1) := by decide +kernel
theorem dX5_solveByDivisors_15 : decode cX5_solveByDivisors 15 = .ok (.iload_n 2, 1) := by decide +kernel
theorem dX5_solveByDivisors_16 : decode cX5_solveByDivisors 16 = .ok (.iload_n 1, 1) := by decide +kernel
theorem dX5_solveByDivisors_17 : decode cX5_solveByDivisors 17 = .ok (.if_icmp .ge 23, 3) := by decide +kernel
theorem dX5_solveByDivisors_20 : decode cX5_solveByDivisors 20 = .ok (.iload_n 2, 1) := by decide +kernel
theorem dX5_solveByDivisors_21 : decode cX5_solveByDivisors 21 = .ok (.iload_n 1, 1) := by decide +kernel
theorem dX5_solveByDivisors_22 : decode cX5_solveByDivisors 22 = .ok (.invokestatic 172, 3) := by decide +kernel
theorem dX5_solveByDivisors_25 : decode cX5_solveByDivisors 25 = .ok (.ifCond .eq 9, 3) := by decide +kernel
theorem dX5_solveByDivisors_28 : decode cX5_solveByDivisors 28 = .ok (.aload_n 0, 1) := by decide +kernel
theorem dX5_solveByDivisors_29 : decode cX5_solveByDivisors 29 = .ok (.iload_n 2, 1) := by decide +kernel
theorem dX5_solveByDivisors_30 : decode cX5_solveByDivisors 30 = .ok (.iload_n 1, 1) := by decide +kernel
theorem dX5_solveByDivisors_31 : decode cX5_solveByDivisors 31 = .ok (.invokevirtual 168, 3) := by decide +kernel
theorem dX5_solveByDivisors_34 : decode cX5_solveByDivisors 34 = .ok (.iinc 2 1, 3) := by decide +kernel
theorem dX5_solveByDivisors_37 : decode cX5_solveByDivisors 37 = .ok (.goto (-22), 3) := by decide +kernel
theorem dX5_solveByDivisors_40 : decode cX5_solveByDivisors 40 = .ok (.iinc 1 (-1), 3) := by decide +kernel
theorem dX5_solveByDivisors_43 : decode cX5_solveByDivisors 43 = .ok (.goto (-35), 3) := by decide +kernel
theorem dX5_solveByDivisors_46 : decode cX5_solveByDivisors 46 = .ok (.return_, 1) := by decide +kernel
theorem dX5_takeBack_0 : decode cX5_takeBack 0 = .ok (.iload_n 1, 1) := by decide +kernel
theorem dX5_takeBack_1 : decode cX5_takeBack 1 = .ok (.ifCond .lt 62, 3) := by decide +kernel
theorem dX5_takeBack_4 : decode cX5_takeBack 4 = .ok (.iload_n 1, 1) := by decide +kernel
theorem dX5_takeBack_5 : decode cX5_takeBack 5 = .ok (.aload_n 0, 1) := by decide +kernel
theorem dX5_takeBack_6 : decode cX5_takeBack 6 = .ok (.getfield 43, 3) := by decide +kernel
theorem dX5_takeBack_9 : decode cX5_takeBack 9 = .ok (.arraylength, 1) := by decide +kernel
theorem dX5_takeBack_10 : decode cX5_takeBack 10 = .ok (.if_icmp .ge 53, 3) := by decide +kernel
theorem dX5_takeBack_13 : decode cX5_takeBack 13 = .ok (.iload_n 2, 1) := by decide +kernel
theorem dX5_takeBack_14 : decode cX5_takeBack 14 = .ok (.ifCond .lt 49, 3) := by decide +kernel
theorem dX5_takeBack_17 : decode cX5_takeBack 17 = .ok (.iload_n 2, 1) := by decide +kernel
theorem dX5_takeBack_18 : decode cX5_takeBack 18 = .ok (.aload_n 0, 1) := by decide +kernel
theorem dX5_takeBack_19 : decode cX5_takeBack 19 = .ok (.getfield 43, 3) := by decide +kernel
theorem dX5_takeBack_22 : decode cX5_takeBack 22 = .ok (.arraylength, 1) := by decide +kernel
theorem dX5_takeBack_23 : decode cX5_takeBack 23 = .ok (.if_icmp .ge 40, 3) := by decide +kernel
theorem dX5_takeBack_26 : decode cX5_takeBack 26 = .ok (.aload_n 0, 1) := by decide +kernel
theorem dX5_takeBack_27 : decode cX5_takeBack 27 = .ok (.getfield 43, 3) := by decide +kernel
theorem dX5_takeBack_30 : decode cX5_takeBack 30 = .ok (.iload_n 1, 1) := by decide +kernel
theorem dX5_takeBack_31 : decode cX5_takeBack 31 = .ok (.aload_n 0, 1) := by decide +kernel
theorem dX5_takeBack_32 : decode cX5_takeBack 32 = .ok (.getfield 43, 3) := by decide +kernel
theorem dX5_takeBack_35 : decode cX5_takeBack 35 = .ok (.iload_n 1, 1) := by decide +kernel
theorem dX5_takeBack_36 : decode cX5_takeBack 36 = .ok (.iaload, 1) := by decide +kernel
theorem dX5_takeBack_37 : decode cX5_takeBack 37 = .ok (.aload_n 0, 1) := by decide +kernel
theorem dX5_takeBack_38 : decode cX5_takeBack 38 = .ok (.getfield 19, 3) := by decide +kernel
theorem dX5_takeBack_41 : decode cX5_takeBack 41 = .ok (.getfield 133, 3) := by decide +kernel
theorem dX5_takeBack_44 : decode cX5_takeBack 44 = .ok (.iadd, 1) := by decide +kernel
theorem dX5_takeBack_45 : decode cX5_takeBack 45 = .ok (.aload_n 0, 1) := by decide +kernel
theorem dX5_takeBack_46 : decode cX5_takeBack 46 = .ok (.getfield 43, 3) := by decide +kernel
theorem dX5_takeBack_49 : decode cX5_takeBack 49 = .ok (.iload_n 2, 1) := by decide +kernel
theorem dX5_takeBack_50 : decode cX5_takeBack 50 = .ok (.iaload, 1) := by decide +kernel
theorem dX5_takeBack_51 : decode cX5_takeBack 51 = .ok (.isub, 1) := by decide +kernel
theorem dX5_takeBack_52 : decode cX5_takeBack 52 = .ok (.aload_n 0, 1) := by decide +kernel
theorem dX5_takeBack_53 : decode cX5_takeBack 53 = .ok (.getfield 19, 3) := by decide +kernel
theorem dX5_takeBack_56 : decode cX5_takeBack 56 = .ok (.getfield 133, 3) := by decide +kernel
theorem dX5_takeBack_59 : decode cX5_takeBack 59 = .ok (.invokestatic 162, 3) := by decide +kernel
theorem dX5_takeBack_62 : decode cX5_takeBack 62 = .ok (.iastore, 1) := by decide +kernel
theorem dX5_takeBack_63 : decode cX5_takeBack 63 = .ok (.return_, 1) := by decide +kernel
theorem dX5_can_0 : decode cX5_can 0 = .ok (.aload_n 0, 1) := by decide +kernel
theorem dX5_can_1 : decode cX5_can 1 = .ok (.getfield 32, 3) := by decide +kernel
theorem dX5_can_4 : decode cX5_can 4 = .ok (.aload_n 0, 1) := by decide +kernel
theorem dX5_can_5 : decode cX5_can 5 = .ok (.getfield 19, 3) := by decide +kernel
theorem dX5_can_8 : decode cX5_can 8 = .ok (.aload_n 0, 1) := by decide +kernel
theorem dX5_can_9 : decode cX5_can 9 = .ok (.getfield 19, 3) := by decide +kernel
theorem dX5_can_12 : decode cX5_can 12 = .ok (.getfield 93, 3) := by decide +kernel
theorem dX5_can_15 : decode cX5_can 15 = .ok (.invokevirtual 176, 3) := by decide +kernel
theorem dX5_can_18 : decode cX5_can 18 = .ok (.iconst 0, 1) := by decide +kernel
theorem dX5_can_19 : decode cX5_can 19 = .ok (.istore_n 1, 1) := by decide +kernel
theorem dX5_can_20 : decode cX5_can 20 = .ok (.iconst 0, 1) := by decide +kernel
theorem dX5_can_21 : decode cX5_can 21 = .ok (.istore_n 2, 1) := by decide +kernel
theorem dX5_can_22 : decode cX5_can 22 = .ok (.iload_n 2, 1) := by decide +kernel
theorem dX5_can_23 : decode cX5_can 23 = .ok (.aload_n 0, 1) := by decide +kernel
theorem dX5_can_24 : decode cX5_can 24 = .ok (.getfield 32, 3) := by decide +kernel
theorem dX5_can_27 : decode cX5_can 27 = .ok (.getfield 180, 3) := by decide +kernel
theorem dX5_can_30 : decode cX5_can 30 = .ok (.if_icmp .ge 30, 3) := by decide +kernel
theorem dX5_can_33 : decode cX5_can 33 = .ok (.aload_n 0, 1) := by decide +kernel
theorem dX5_can_34 : decode cX5_can 34 = .ok (.getfield 19, 3) := by decide +kernel
theorem dX5_can_37 : decode cX5_can 37 = .ok (.aload_n 0, 1) := by decide +kernel
theorem dX5_can_38 : decode cX5_can 38 = .ok (.getfield 32, 3) := by decide +kernel
theorem dX5_can_41 : decode cX5_can 41 = .ok (.iload_n 2, 1) := by decide +kernel
theorem dX5_can_42 : decode cX5_can 42 = .ok (.invokevirtual 183, 3) := by decide +kernel
theorem dX5_can_45 : decode cX5_can 45 = .ok (.invokevirtual 143, 3) := by decide +kernel
theorem dX5_can_48 : decode cX5_can 48 = .ok (.ifCond .eq 6, 3) := by decide +kernel
theorem dX5_can_51 : decode cX5_can 51 = .ok (.iinc 1 1, 3) := by decide +kernel
theorem dX5_can_54 : decode cX5_can 54 = .ok (.iinc 2 1, 3) := by decide +kernel
theorem dX5_can_57 : decode cX5_can 57 = .ok (.goto (-35), 3) := by decide +kernel
theorem dX5_can_60 : decode cX5_can 60 = .ok (.iload_n 1, 1) := by decide +kernel
theorem dX5_can_61 : decode cX5_can 61 = .ok (.ireturn, 1) := by decide +kernel
theorem dX5_fewest_0 : decode cX5_fewest 0 = .ok (.aload_n 0, 1) := by decide +kernel
theorem dX5_fewest_1 : decode cX5_fewest 1 = .ok (.invokevirtual 186, 3) := by decide +kernel
theorem dX5_fewest_4 : decode cX5_fewest 4 = .ok (.istore_n 1, 1) := by decide +kernel
theorem dX5_fewest_5 : decode cX5_fewest 5 = .ok (.iload_n 1, 1) := by decide +kernel
theorem dX5_fewest_6 : decode cX5_fewest 6 = .ok (.ifCond .ge 8, 3) := by decide +kernel
theorem dX5_fewest_9 : decode cX5_fewest 9 = .ok (.bipush (-9), 2) := by decide +kernel
theorem dX5_fewest_11 : decode cX5_fewest 11 = .ok (.goto 11, 3) := by decide +kernel
theorem dX5_fewest_14 : decode cX5_fewest 14 = .ok (.aload_n 0, 1) := by decide +kernel
theorem dX5_fewest_15 : decode cX5_fewest 15 = .ok (.getfield 32, 3) := by decide +kernel
theorem dX5_fewest_18 : decode cX5_fewest 18 = .ok (.iload_n 1, 1) := by decide +kernel
theorem dX5_fewest_19 : decode cX5_fewest 19 = .ok (.invokevirtual 189, 3) := by decide +kernel
theorem dX5_fewest_22 : decode cX5_fewest 22 = .ok (.ireturn, 1) := by decide +kernel
theorem dX5_cheapest_0 : decode cX5_cheapest 0 = .ok (.aload_n 0, 1) := by decide +kernel
theorem dX5_cheapest_1 : decode cX5_cheapest 1 = .ok (.getfield 32, 3) := by decide +kernel
theorem dX5_cheapest_4 : decode cX5_cheapest 4 = .ok (.aload_n 0, 1) := by decide +kernel
theorem dX5_cheapest_5 : decode cX5_cheapest 5 = .ok (.getfield 19, 3) := by decide +kernel
theorem dX5_cheapest_8 : decode cX5_cheapest 8 = .ok (.aload_n 0, 1) := by decide +kernel
theorem dX5_cheapest_9 : decode cX5_cheapest 9 = .ok (.getfield 19, 3) := by decide +kernel
theorem dX5_cheapest_12 : decode cX5_cheapest 12 = .ok (.getfield 93, 3) := by decide +kernel
theorem dX5_cheapest_15 : decode cX5_cheapest 15 = .ok (.invokevirtual 176, 3) := by decide +kernel
theorem dX5_cheapest_18 : decode cX5_cheapest 18 = .ok (.bipush (-9), 2) := by decide +kernel
theorem dX5_cheapest_20 : decode cX5_cheapest 20 = .ok (.istore_n 1, 1) := by decide +kernel
theorem dX5_cheapest_21 : decode cX5_cheapest 21 = .ok (.iconst 0, 1) := by decide +kernel
theorem dX5_cheapest_22 : decode cX5_cheapest 22 = .ok (.istore_n 2, 1) := by decide +kernel
theorem dX5_cheapest_23 : decode cX5_cheapest 23 = .ok (.iload_n 2, 1) := by decide +kernel
theorem dX5_cheapest_24 : decode cX5_cheapest 24 = .ok (.aload_n 0, 1) := by decide +kernel
theorem dX5_cheapest_25 : decode cX5_cheapest 25 = .ok (.getfield 32, 3) := by decide +kernel
theorem dX5_cheapest_28 : decode cX5_cheapest 28 = .ok (.getfield 180, 3) := by decide +kernel
theorem dX5_cheapest_31 : decode cX5_cheapest 31 = .ok (.if_icmp .ge 53, 3) := by decide +kernel
theorem dX5_cheapest_34 : decode cX5_cheapest 34 = .ok (.aload_n 0, 1) := by decide +kernel
theorem dX5_cheapest_35 : decode cX5_cheapest 35 = .ok (.getfield 19, 3) := by decide +kernel
theorem dX5_cheapest_38 : decode cX5_cheapest 38 = .ok (.aload_n 0, 1) := by decide +kernel
theorem dX5_cheapest_39 : decode cX5_cheapest 39 = .ok (.getfield 32, 3) := by decide +kernel
theorem dX5_cheapest_42 : decode cX5_cheapest 42 = .ok (.iload_n 2, 1) := by decide +kernel
theorem dX5_cheapest_43 : decode cX5_cheapest 43 = .ok (.invokevirtual 183, 3) := by decide +kernel
theorem dX5_cheapest_46 : decode cX5_cheapest 46 = .ok (.invokevirtual 143, 3) := by decide +kernel
theorem dX5_cheapest_49 : decode cX5_cheapest 49 = .ok (.ifCond .eq 29, 3) := by decide +kernel
theorem dX5_cheapest_52 : decode cX5_cheapest 52 = .ok (.aload_n 0, 1) := by decide +kernel
theorem dX5_cheapest_53 : decode cX5_cheapest 53 = .ok (.getfield 32, 3) := by decide +kernel
theorem dX5_cheapest_56 : decode cX5_cheapest 56 = .ok (.iload_n 2, 1) := by decide +kernel
theorem dX5_cheapest_57 : decode cX5_cheapest 57 = .ok (.aload_n 0, 1) := by decide +kernel
theorem dX5_cheapest_58 : decode cX5_cheapest 58 = .ok (.getfield 19, 3) := by decide +kernel
theorem dX5_cheapest_61 : decode cX5_cheapest 61 = .ok (.invokevirtual 192, 3) := by decide +kernel
theorem dX5_cheapest_64 : decode cX5_cheapest 64 = .ok (.istore_n 3, 1) := by decide +kernel
theorem dX5_cheapest_65 : decode cX5_cheapest 65 = .ok (.iload_n 1, 1) := by decide +kernel
theorem dX5_cheapest_66 : decode cX5_cheapest 66 = .ok (.bipush (-9), 2) := by decide +kernel
theorem dX5_cheapest_68 : decode cX5_cheapest 68 = .ok (.if_icmp .eq 8, 3) := by decide +kernel
theorem dX5_cheapest_71 : decode cX5_cheapest 71 = .ok (.iload_n 3, 1) := by decide +kernel
theorem dX5_cheapest_72 : decode cX5_cheapest 72 = .ok (.iload_n 1, 1) := by decide +kernel
theorem dX5_cheapest_73 : decode cX5_cheapest 73 = .ok (.if_icmp .ge 5, 3) := by decide +kernel
theorem dX5_cheapest_76 : decode cX5_cheapest 76 = .ok (.iload_n 3, 1) := by decide +kernel
theorem dX5_cheapest_77 : decode cX5_cheapest 77 = .ok (.istore_n 1, 1) := by decide +kernel
theorem dX5_cheapest_78 : decode cX5_cheapest 78 = .ok (.iinc 2 1, 3) := by decide +kernel
theorem dX5_cheapest_81 : decode cX5_cheapest 81 = .ok (.goto (-58), 3) := by decide +kernel
theorem dX5_cheapest_84 : decode cX5_cheapest 84 = .ok (.iload_n 1, 1) := by decide +kernel
theorem dX5_cheapest_85 : decode cX5_cheapest 85 = .ok (.ireturn, 1) := by decide +kernel
theorem dX5_how_0 : decode cX5_how 0 = .ok (.aload_n 0, 1) := by decide +kernel
theorem dX5_how_1 : decode cX5_how 1 = .ok (.getfield 19, 3) := by decide +kernel
theorem dX5_how_4 : decode cX5_how 4 = .ok (.iload_n 1, 1) := by decide +kernel
theorem dX5_how_5 : decode cX5_how 5 = .ok (.invokevirtual 106, 3) := by decide +kernel
theorem dX5_how_8 : decode cX5_how 8 = .ok (.ifnonnull 9, 3) := by decide +kernel
theorem dX5_how_11 : decode cX5_how 11 = .ok (.aload_n 0, 1) := by decide +kernel
theorem dX5_how_12 : decode cX5_how 12 = .ok (.iconst 1, 1) := by decide +kernel
theorem dX5_how_13 : decode cX5_how 13 = .ok (.invokevirtual 50, 3) := by decide +kernel
theorem dX5_how_16 : decode cX5_how 16 = .ok (.ireturn, 1) := by decide +kernel
theorem dX5_how_17 : decode cX5_how 17 = .ok (.aload_n 0, 1) := by decide +kernel
theorem dX5_how_18 : decode cX5_how 18 = .ok (.invokevirtual 186, 3) := by decide +kernel
theorem dX5_how_21 : decode cX5_how 21 = .ok (.istore_n 2, 1) := by decide +kernel
theorem dX5_how_22 : decode cX5_how 22 = .ok (.iload_n 2, 1) := by decide +kernel
theorem dX5_how_23 : decode cX5_how 23 = .ok (.ifCond .ge 8, 3) := by decide +kernel
theorem dX5_how_26 : decode cX5_how 26 = .ok (.bipush (-9), 2) := by decide +kernel
theorem dX5_how_28 : decode cX5_how 28 = .ok (.goto 12, 3) := by decide +kernel
theorem dX5_how_31 : decode cX5_how 31 = .ok (.aload_n 0, 1) := by decide +kernel
theorem dX5_how_32 : decode cX5_how 32 = .ok (.getfield 32, 3) := by decide +kernel
theorem dX5_how_35 : decode cX5_how 35 = .ok (.iload_n 2, 1) := by decide +kernel
theorem dX5_how_36 : decode cX5_how 36 = .ok (.iload_n 1, 1) := by decide +kernel
theorem dX5_how_37 : decode cX5_how 37 = .ok (.invokevirtual 196, 3) := by decide +kernel
theorem dX5_how_40 : decode cX5_how 40 = .ok (.ireturn, 1) := by decide +kernel
theorem dX5_fewestRow_0 : decode cX5_fewestRow 0 = .ok (.aload_n 0, 1) := by decide +kernel
theorem dX5_fewestRow_1 : decode cX5_fewestRow 1 = .ok (.getfield 32, 3) := by decide +kernel
theorem dX5_fewestRow_4 : decode cX5_fewestRow 4 = .ok (.aload_n 0, 1) := by decide +kernel
theorem dX5_fewestRow_5 : decode cX5_fewestRow 5 = .ok (.getfield 19, 3) := by decide +kernel
theorem dX5_fewestRow_8 : decode cX5_fewestRow 8 = .ok (.aload_n 0, 1) := by decide +kernel
theorem dX5_fewestRow_9 : decode cX5_fewestRow 9 = .ok (.getfield 19, 3) := by decide +kernel
theorem dX5_fewestRow_12 : decode cX5_fewestRow 12 = .ok (.getfield 93, 3) := by decide +kernel
theorem dX5_fewestRow_15 : decode cX5_fewestRow 15 = .ok (.invokevirtual 176, 3) := by decide +kernel
theorem dX5_fewestRow_18 : decode cX5_fewestRow 18 = .ok (.iconst (-1), 1) := by decide +kernel
theorem dX5_fewestRow_19 : decode cX5_fewestRow 19 = .ok (.istore_n 1, 1) := by decide +kernel
theorem dX5_fewestRow_20 : decode cX5_fewestRow 20 = .ok (.iconst 0, 1) := by decide +kernel
theorem dX5_fewestRow_21 : decode cX5_fewestRow 21 = .ok (.istore_n 2, 1) := by decide +kernel
theorem dX5_fewestRow_22 : decode cX5_fewestRow 22 = .ok (.iconst 0, 1) := by decide +kernel
theorem dX5_fewestRow_23 : decode cX5_fewestRow 23 = .ok (.istore_n 3, 1) := by decide +kernel
theorem dX5_fewestRow_24 : decode cX5_fewestRow 24 = .ok (.iload_n 3, 1) := by decide +kernel
theorem dX5_fewestRow_25 : decode cX5_fewestRow 25 = .ok (.aload_n 0, 1) := by decide +kernel
theorem dX5_fewestRow_26 : decode cX5_fewestRow 26 = .ok (.getfield 32, 3) := by decide +kernel
theorem dX5_fewestRow_29 : decode cX5_fewestRow 29 = .ok (.getfield 180, 3) := by decide +kernel
theorem dX5_fewestRow_32 : decode cX5_fewestRow 32 = .ok (.if_icmp .ge 52, 3) := by decide +kernel
theorem dX5_fewestRow_35 : decode cX5_fewestRow 35 = .ok (.aload_n 0, 1) := by decide +kernel
theorem dX5_fewestRow_36 : decode cX5_fewestRow 36 = .ok (.getfield 19, 3) := by decide +kernel
theorem dX5_fewestRow_39 : decode cX5_fewestRow 39 = .ok (.aload_n 0, 1) := by decide +kernel
theorem dX5_fewestRow_40 : decode cX5_fewestRow 40 = .ok (.getfield 32, 3) := by decide +kernel
theorem dX5_fewestRow_43 : decode cX5_fewestRow 43 = .ok (.iload_n 3, 1) := by decide +kernel
theorem dX5_fewestRow_44 : decode cX5_fewestRow 44 = .ok (.invokevirtual 183, 3) := by decide +kernel
theorem dX5_fewestRow_47 : decode cX5_fewestRow 47 = .ok (.invokevirtual 143, 3) := by decide +kernel
theorem dX5_fewestRow_50 : decode cX5_fewestRow 50 = .ok (.ifCond .eq 28, 3) := by decide +kernel
theorem dX5_fewestRow_53 : decode cX5_fewestRow 53 = .ok (.aload_n 0, 1) := by decide +kernel
theorem dX5_fewestRow_54 : decode cX5_fewestRow 54 = .ok (.getfield 32, 3) := by decide +kernel
theorem dX5_fewestRow_57 : decode cX5_fewestRow 57 = .ok (.iload_n 3, 1) := by decide +kernel
theorem dX5_fewestRow_58 : decode cX5_fewestRow 58 = .ok (.invokevirtual 189, 3) := by decide +kernel
theorem dX5_fewestRow_61 : decode cX5_fewestRow 61 = .ok (.istore 4, 2) := by decide +kernel
theorem dX5_fewestRow_63 : decode cX5_fewestRow 63 = .ok (.iload_n 1, 1) := by decide +kernel
theorem dX5_fewestRow_64 : decode cX5_fewestRow 64 = .ok (.ifCond .lt 9, 3) := by decide +kernel
theorem dX5_fewestRow_67 : decode cX5_fewestRow 67 = .ok (.iload 4, 2) := by decide +kernel
theorem dX5_fewestRow_69 : decode cX5_fewestRow 69 = .ok (.iload_n 2, 1) := by decide +kernel
theorem dX5_fewestRow_70 : decode cX5_fewestRow 70 = .ok (.if_icmp .ge 8, 3) := by decide +kernel
theorem dX5_fewestRow_73 : decode cX5_fewestRow 73 = .ok (.iload_n 3, 1) := by decide +kernel
theorem dX5_fewestRow_74 : decode cX5_fewestRow 74 = .ok (.istore_n 1, 1) := by decide +kernel
theorem dX5_fewestRow_75 : decode cX5_fewestRow 75 = .ok (.iload 4, 2) := by decide +kernel
theorem dX5_fewestRow_77 : decode cX5_fewestRow 77 = .ok (.istore_n 2, 1) := by decide +kernel
theorem dX5_fewestRow_78 : decode cX5_fewestRow 78 = .ok (.iinc 3 1, 3) := by decide +kernel
theorem dX5_fewestRow_81 : decode cX5_fewestRow 81 = .ok (.goto (-57), 3) := by decide +kernel
theorem dX5_fewestRow_84 : decode cX5_fewestRow 84 = .ok (.iload_n 1, 1) := by decide +kernel
theorem dX5_fewestRow_85 : decode cX5_fewestRow 85 = .ok (.ireturn, 1) := by decide +kernel
theorem dX5_nothing_0 : decode cX5_nothing 0 = .ok (.aload_n 0, 1) := by decide +kernel
theorem dX5_nothing_1 : decode cX5_nothing 1 = .ok (.getfield 32, 3) := by decide +kernel
theorem dX5_nothing_4 : decode cX5_nothing 4 = .ok (.aload_n 0, 1) := by decide +kernel
theorem dX5_nothing_5 : decode cX5_nothing 5 = .ok (.getfield 19, 3) := by decide +kernel
theorem dX5_nothing_8 : decode cX5_nothing 8 = .ok (.aload_n 0, 1) := by decide +kernel
theorem dX5_nothing_9 : decode cX5_nothing 9 = .ok (.getfield 19, 3) := by decide +kernel
theorem dX5_nothing_12 : decode cX5_nothing 12 = .ok (.getfield 93, 3) := by decide +kernel
theorem dX5_nothing_15 : decode cX5_nothing 15 = .ok (.invokevirtual 176, 3) := by decide +kernel
theorem dX5_nothing_18 : decode cX5_nothing 18 = .ok (.aload_n 0, 1) := by decide +kernel
theorem dX5_nothing_19 : decode cX5_nothing 19 = .ok (.getfield 32, 3) := by decide +kernel
theorem dX5_nothing_22 : decode cX5_nothing 22 = .ok (.aload_n 0, 1) := by decide +kernel
theorem dX5_nothing_23 : decode cX5_nothing 23 = .ok (.getfield 19, 3) := by decide +kernel
theorem dX5_nothing_26 : decode cX5_nothing 26 = .ok (.getfield 93, 3) := by decide +kernel
theorem dX5_nothing_29 : decode cX5_nothing 29 = .ok (.invokevirtual 199, 3) := by decide +kernel
theorem dX5_nothing_32 : decode cX5_nothing 32 = .ok (.ireturn, 1) := by decide +kernel
theorem dX5_states_0 : decode cX5_states 0 = .ok (.aload_n 0, 1) := by decide +kernel
theorem dX5_states_1 : decode cX5_states 1 = .ok (.getfield 32, 3) := by decide +kernel
theorem dX5_states_4 : decode cX5_states 4 = .ok (.aload_n 0, 1) := by decide +kernel
theorem dX5_states_5 : decode cX5_states 5 = .ok (.getfield 19, 3) := by decide +kernel
theorem dX5_states_8 : decode cX5_states 8 = .ok (.aload_n 0, 1) := by decide +kernel
theorem dX5_states_9 : decode cX5_states 9 = .ok (.getfield 19, 3) := by decide +kernel
theorem dX5_states_12 : decode cX5_states 12 = .ok (.getfield 93, 3) := by decide +kernel
theorem dX5_states_15 : decode cX5_states 15 = .ok (.invokevirtual 176, 3) := by decide +kernel
theorem dX5_states_18 : decode cX5_states 18 = .ok (.aload_n 0, 1) := by decide +kernel
theorem dX5_states_19 : decode cX5_states 19 = .ok (.getfield 32, 3) := by decide +kernel
theorem dX5_states_22 : decode cX5_states 22 = .ok (.getfield 180, 3) := by decide +kernel
theorem dX5_states_25 : decode cX5_states 25 = .ok (.aload_n 0, 1) := by decide +kernel
theorem dX5_states_26 : decode cX5_states 26 = .ok (.getfield 32, 3) := by decide +kernel
theorem dX5_states_29 : decode cX5_states 29 = .ok (.aload_n 0, 1) := by decide +kernel
theorem dX5_states_30 : decode cX5_states 30 = .ok (.getfield 19, 3) := by decide +kernel
theorem dX5_states_33 : decode cX5_states 33 = .ok (.getfield 93, 3) := by decide +kernel
theorem dX5_states_36 : decode cX5_states 36 = .ok (.invokevirtual 199, 3) := by decide +kernel
theorem dX5_states_39 : decode cX5_states 39 = .ok (.invokestatic 165, 3) := by decide +kernel
theorem dX5_states_42 : decode cX5_states 42 = .ok (.ireturn, 1) := by decide +kernel
theorem dX5_keys_0 : decode cX5_keys 0 = .ok (.iload_n 1, 1) := by decide +kernel
theorem dX5_keys_1 : decode cX5_keys 1 = .ok (.ifCond .eq 14, 3) := by decide +kernel
theorem dX5_keys_4 : decode cX5_keys 4 = .ok (.iload_n 1, 1) := by decide +kernel
theorem dX5_keys_5 : decode cX5_keys 5 = .ok (.iconst 1, 1) := by decide +kernel
theorem dX5_keys_6 : decode cX5_keys 6 = .ok (.if_icmp .eq 9, 3) := by decide +kernel
theorem dX5_keys_9 : decode cX5_keys 9 = .ok (.aload_n 0, 1) := by decide +kernel
theorem dX5_keys_10 : decode cX5_keys 10 = .ok (.iconst 2, 1) := by decide +kernel
theorem dX5_keys_11 : decode cX5_keys 11 = .ok (.invokevirtual 50, 3) := by decide +kernel
theorem dX5_keys_14 : decode cX5_keys 14 = .ok (.ireturn, 1) := by decide +kernel
theorem dX5_keys_15 : decode cX5_keys 15 = .ok (.bipush (-9), 2) := by decide +kernel
theorem dX5_keys_17 : decode cX5_keys 17 = .ok (.istore_n 2, 1) := by decide +kernel
theorem dX5_keys_18 : decode cX5_keys 18 = .ok (.iconst 0, 1) := by decide +kernel
theorem dX5_keys_19 : decode cX5_keys 19 = .ok (.istore_n 3, 1) := by decide +kernel
theorem dX5_keys_20 : decode cX5_keys 20 = .ok (.iload_n 3, 1) := by decide +kernel
theorem dX5_keys_21 : decode cX5_keys 21 = .ok (.iconst 1, 1) := by decide +kernel
theorem dX5_keys_22 : decode cX5_keys 22 = .ok (.aload_n 0, 1) := by decide +kernel
theorem dX5_keys_23 : decode cX5_keys 23 = .ok (.getfield 19, 3) := by decide +kernel
theorem dX5_keys_26 : decode cX5_keys 26 = .ok (.getfield 202, 3) := by decide +kernel
theorem dX5_keys_29 : decode cX5_keys 29 = .ok (.ishl, 1) := by decide +kernel
theorem dX5_keys_30 : decode cX5_keys 30 = .ok (.if_icmp .ge 55, 3) := by decide +kernel
theorem dX5_keys_33 : decode cX5_keys 33 = .ok (.iload_n 2, 1) := by decide +kernel
theorem dX5_keys_34 : decode cX5_keys 34 = .ok (.bipush (-9), 2) := by decide +kernel
theorem dX5_keys_36 : decode cX5_keys 36 = .ok (.if_icmp .eq 14, 3) := by decide +kernel
theorem dX5_keys_39 : decode cX5_keys 39 = .ok (.iload_n 3, 1) := by decide +kernel
theorem dX5_keys_40 : decode cX5_keys 40 = .ok (.invokestatic 205, 3) := by decide +kernel
theorem dX5_keys_43 : decode cX5_keys 43 = .ok (.iload_n 2, 1) := by decide +kernel
theorem dX5_keys_44 : decode cX5_keys 44 = .ok (.invokestatic 205, 3) := by decide +kernel
theorem dX5_keys_47 : decode cX5_keys 47 = .ok (.if_icmp .ge 7, 3) := by decide +kernel
theorem dX5_keys_50 : decode cX5_keys 50 = .ok (.iconst 1, 1) := by decide +kernel
theorem dX5_keys_51 : decode cX5_keys 51 = .ok (.goto 4, 3) := by decide +kernel
theorem dX5_keys_54 : decode cX5_keys 54 = .ok (.iconst 0, 1) := by decide +kernel
theorem dX5_keys_55 : decode cX5_keys 55 = .ok (.istore 4, 2) := by decide +kernel
theorem dX5_keys_57 : decode cX5_keys 57 = .ok (.iload 4, 2) := by decide +kernel
theorem dX5_keys_59 : decode cX5_keys 59 = .ok (.ifCond .eq 20, 3) := by decide +kernel
theorem dX5_keys_62 : decode cX5_keys 62 = .ok (.aload_n 0, 1) := by decide +kernel
theorem dX5_keys_63 : decode cX5_keys 63 = .ok (.getfield 32, 3) := by decide +kernel
theorem dX5_keys_66 : decode cX5_keys 66 = .ok (.aload_n 0, 1) := by decide +kernel
theorem dX5_keys_67 : decode cX5_keys 67 = .ok (.getfield 19, 3) := by decide +kernel
theorem dX5_keys_70 : decode cX5_keys 70 = .ok (.iload_n 3, 1) := by decide +kernel
theorem dX5_keys_71 : decode cX5_keys 71 = .ok (.invokevirtual 210, 3) := by decide +kernel
theorem dX5_keys_74 : decode cX5_keys 74 = .ok (.ifCond .eq 5, 3) := by decide +kernel
theorem dX5_keys_77 : decode cX5_keys 77 = .ok (.iload_n 3, 1) := by decide +kernel
theorem dX5_keys_78 : decode cX5_keys 78 = .ok (.istore_n 2, 1) := by decide +kernel
theorem dX5_keys_79 : decode cX5_keys 79 = .ok (.iinc 3 1, 3) := by decide +kernel
theorem dX5_keys_82 : decode cX5_keys 82 = .ok (.goto (-62), 3) := by decide +kernel
theorem dX5_keys_85 : decode cX5_keys 85 = .ok (.iload_n 2, 1) := by decide +kernel
theorem dX5_keys_86 : decode cX5_keys 86 = .ok (.bipush (-9), 2) := by decide +kernel
theorem dX5_keys_88 : decode cX5_keys 88 = .ok (.if_icmp .eq 8, 3) := by decide +kernel
theorem dX5_keys_91 : decode cX5_keys 91 = .ok (.iload_n 1, 1) := by decide +kernel
theorem dX5_keys_92 : decode cX5_keys 92 = .ok (.iconst 1, 1) := by decide +kernel
theorem dX5_keys_93 : decode cX5_keys 93 = .ok (.if_icmp .ne 7, 3) := by decide +kernel
theorem dX5_keys_96 : decode cX5_keys 96 = .ok (.iload_n 2, 1) := by decide +kernel
theorem dX5_keys_97 : decode cX5_keys 97 = .ok (.goto 7, 3) := by decide +kernel
theorem dX5_keys_100 : decode cX5_keys 100 = .ok (.iload_n 2, 1) := by decide +kernel
theorem dX5_keys_101 : decode cX5_keys 101 = .ok (.invokestatic 205, 3) := by decide +kernel
theorem dX5_keys_104 : decode cX5_keys 104 = .ok (.ireturn, 1) := by decide +kernel
theorem dX5_been_0 : decode cX5_been 0 = .ok (.aload_n 0, 1) := by decide +kernel
theorem dX5_been_1 : decode cX5_been 1 = .ok (.getfield 32, 3) := by decide +kernel
theorem dX5_been_4 : decode cX5_been 4 = .ok (.aload_n 0, 1) := by decide +kernel
theorem dX5_been_5 : decode cX5_been 5 = .ok (.getfield 19, 3) := by decide +kernel
theorem dX5_been_8 : decode cX5_been 8 = .ok (.iconst 0, 1) := by decide +kernel
theorem dX5_been_9 : decode cX5_been 9 = .ok (.invokevirtual 176, 3) := by decide +kernel
theorem dX5_been_12 : decode cX5_been 12 = .ok (.aload_n 0, 1) := by decide +kernel
theorem dX5_been_13 : decode cX5_been 13 = .ok (.getfield 32, 3) := by decide +kernel
theorem dX5_been_16 : decode cX5_been 16 = .ok (.aload_n 0, 1) := by decide +kernel
theorem dX5_been_17 : decode cX5_been 17 = .ok (.getfield 19, 3) := by decide +kernel
theorem dX5_been_20 : decode cX5_been 20 = .ok (.getfield 93, 3) := by decide +kernel
theorem dX5_been_23 : decode cX5_been 23 = .ok (.invokevirtual 199, 3) := by decide +kernel
theorem dX5_been_26 : decode cX5_been 26 = .ok (.ireturn, 1) := by decide +kernel
theorem dX5_sure_0 : decode cX5_sure 0 = .ok (.aload_n 0, 1) := by decide +kernel
theorem dX5_sure_1 : decode cX5_sure 1 = .ok (.getfield 32, 3) := by decide +kernel
theorem dX5_sure_4 : decode cX5_sure 4 = .ok (.aload_n 0, 1) := by decide +kernel
theorem dX5_sure_5 : decode cX5_sure 5 = .ok (.getfield 19, 3) := by decide +kernel
theorem dX5_sure_8 : decode cX5_sure 8 = .ok (.iconst 0, 1) := by decide +kernel
theorem dX5_sure_9 : decode cX5_sure 9 = .ok (.invokevirtual 176, 3) := by decide +kernel
theorem dX5_sure_12 : decode cX5_sure 12 = .ok (.iconst 1, 1) := by decide +kernel
theorem dX5_sure_13 : decode cX5_sure 13 = .ok (.aload_n 0, 1) := by decide +kernel
theorem dX5_sure_14 : decode cX5_sure 14 = .ok (.getfield 19, 3) := by decide +kernel
theorem dX5_sure_17 : decode cX5_sure 17 = .ok (.getfield 202, 3) := by decide +kernel
theorem dX5_sure_20 : decode cX5_sure 20 = .ok (.ishl, 1) := by decide +kernel
theorem dX5_sure_21 : decode cX5_sure 21 = .ok (.iconst 1, 1) := by decide +kernel
theorem dX5_sure_22 : decode cX5_sure 22 = .ok (.isub, 1) := by decide +kernel
theorem dX5_sure_23 : decode cX5_sure 23 = .ok (.istore_n 1, 1) := by decide +kernel
theorem dX5_sure_24 : decode cX5_sure 24 = .ok (.iconst 0, 1) := by decide +kernel
theorem dX5_sure_25 : decode cX5_sure 25 = .ok (.istore_n 2, 1) := by decide +kernel
theorem dX5_sure_26 : decode cX5_sure 26 = .ok (.iconst 0, 1) := by decide +kernel
theorem dX5_sure_27 : decode cX5_sure 27 = .ok (.istore_n 3, 1) := by decide +kernel
theorem dX5_sure_28 : decode cX5_sure 28 = .ok (.iload_n 3, 1) := by decide +kernel
theorem dX5_sure_29 : decode cX5_sure 29 = .ok (.aload_n 0, 1) := by decide +kernel
theorem dX5_sure_30 : decode cX5_sure 30 = .ok (.getfield 32, 3) := by decide +kernel
theorem dX5_sure_33 : decode cX5_sure 33 = .ok (.getfield 180, 3) := by decide +kernel
theorem dX5_sure_36 : decode cX5_sure 36 = .ok (.if_icmp .ge 40, 3) := by decide +kernel
theorem dX5_sure_39 : decode cX5_sure 39 = .ok (.aload_n 0, 1) := by decide +kernel
theorem dX5_sure_40 : decode cX5_sure 40 = .ok (.getfield 32, 3) := by decide +kernel
theorem dX5_sure_43 : decode cX5_sure 43 = .ok (.iload_n 3, 1) := by decide +kernel
theorem dX5_sure_44 : decode cX5_sure 44 = .ok (.invokevirtual 183, 3) := by decide +kernel
theorem dX5_sure_47 : decode cX5_sure 47 = .ok (.aload_n 0, 1) := by decide +kernel
theorem dX5_sure_48 : decode cX5_sure 48 = .ok (.getfield 19, 3) := by decide +kernel
theorem dX5_sure_51 : decode cX5_sure 51 = .ok (.getfield 93, 3) := by decide +kernel
theorem dX5_sure_54 : decode cX5_sure 54 = .ok (.if_icmp .ne 16, 3) := by decide +kernel
theorem dX5_sure_57 : decode cX5_sure 57 = .ok (.iconst 1, 1) := by decide +kernel
theorem dX5_sure_58 : decode cX5_sure 58 = .ok (.istore_n 2, 1) := by decide +kernel
theorem dX5_sure_59 : decode cX5_sure 59 = .ok (.iload_n 1, 1) := by decide +kernel
theorem dX5_sure_60 : decode cX5_sure 60 = .ok (.aload_n 0, 1) := by decide +kernel
theorem dX5_sure_61 : decode cX5_sure 61 = .ok (.getfield 32, 3) := by decide +kernel
theorem dX5_sure_64 : decode cX5_sure 64 = .ok (.iload_n 3, 1) := by decide +kernel
theorem dX5_sure_65 : decode cX5_sure 65 = .ok (.invokevirtual 214, 3) := by decide +kernel
theorem dX5_sure_68 : decode cX5_sure 68 = .ok (.iand, 1) := by decide +kernel
theorem dX5_sure_69 : decode cX5_sure 69 = .ok (.istore_n 1, 1) := by decide +kernel
theorem dX5_sure_70 : decode cX5_sure 70 = .ok (.iinc 3 1, 3) := by decide +kernel
theorem dX5_sure_73 : decode cX5_sure 73 = .ok (.goto (-45), 3) := by decide +kernel
theorem dX5_sure_76 : decode cX5_sure 76 = .ok (.iload_n 2, 1) := by decide +kernel
theorem dX5_sure_77 : decode cX5_sure 77 = .ok (.ifCond .eq 7, 3) := by decide +kernel
theorem dX5_sure_80 : decode cX5_sure 80 = .ok (.iload_n 1, 1) := by decide +kernel
theorem dX5_sure_81 : decode cX5_sure 81 = .ok (.goto 4, 3) := by decide +kernel
theorem dX5_sure_84 : decode cX5_sure 84 = .ok (.iconst 0, 1) := by decide +kernel
theorem dX5_sure_85 : decode cX5_sure 85 = .ok (.ireturn, 1) := by decide +kernel
theorem dX5_forEver_0 : decode cX5_forEver 0 = .ok (.iload_n 1, 1) := by decide +kernel
theorem dX5_forEver_1 : decode cX5_forEver 1 = .ok (.iconst 1, 1) := by decide +kernel
theorem dX5_forEver_2 : decode cX5_forEver 2 = .ok (.if_icmp .ge 9, 3) := by decide +kernel
theorem dX5_forEver_5 : decode cX5_forEver 5 = .ok (.aload_n 0, 1) := by decide +kernel
theorem dX5_forEver_6 : decode cX5_forEver 6 = .ok (.iconst 4, 1) := by decide +kernel
theorem dX5_forEver_7 : decode cX5_forEver 7 = .ok (.invokevirtual 50, 3) := by decide +kernel
theorem dX5_forEver_10 : decode cX5_forEver 10 = .ok (.ireturn, 1) := by decide +kernel
theorem dX5_forEver_11 : decode cX5_forEver 11 = .ok (.iload_n 1, 1) := by decide +kernel
theorem dX5_forEver_12 : decode cX5_forEver 12 = .ok (.ldc 217, 2) := by decide +kernel
theorem dX5_forEver_14 : decode cX5_forEver 14 = .ok (.if_icmp .le 10, 3) := by decide +kernel
theorem dX5_forEver_17 : decode cX5_forEver 17 = .ok (.aload_n 0, 1) := by decide +kernel
theorem dX5_forEver_18 : decode cX5_forEver 18 = .ok (.bipush 6, 2) := by decide +kernel
theorem dX5_forEver_20 : decode cX5_forEver 20 = .ok (.invokevirtual 50, 3) := by decide +kernel
theorem dX5_forEver_23 : decode cX5_forEver 23 = .ok (.ireturn, 1) := by decide +kernel
theorem dX5_forEver_24 : decode cX5_forEver 24 = .ok (.aload_n 0, 1) := by decide +kernel
theorem dX5_forEver_25 : decode cX5_forEver 25 = .ok (.iload_n 1, 1) := by decide +kernel
theorem dX5_forEver_26 : decode cX5_forEver 26 = .ok (.invokevirtual 218, 3) := by decide +kernel
theorem dX5_forEver_29 : decode cX5_forEver 29 = .ok (.ireturn, 1) := by decide +kernel
theorem dX5_nth_0 : decode cX5_nth 0 = .ok (.iload_n 1, 1) := by decide +kernel
theorem dX5_nth_1 : decode cX5_nth 1 = .ok (.iconst 1, 1) := by decide +kernel
theorem dX5_nth_2 : decode cX5_nth 2 = .ok (.if_icmp .ge 9, 3) := by decide +kernel
theorem dX5_nth_5 : decode cX5_nth 5 = .ok (.aload_n 0, 1) := by decide +kernel
theorem dX5_nth_6 : decode cX5_nth 6 = .ok (.iconst 4, 1) := by decide +kernel
theorem dX5_nth_7 : decode cX5_nth 7 = .ok (.invokevirtual 50, 3) := by decide +kernel
theorem dX5_nth_10 : decode cX5_nth 10 = .ok (.ireturn, 1) := by decide +kernel
theorem dX5_nth_11 : decode cX5_nth 11 = .ok (.iload_n 1, 1) := by decide +kernel
theorem dX5_nth_12 : decode cX5_nth 12 = .ok (.bipush 40, 2) := by decide +kernel
theorem dX5_nth_14 : decode cX5_nth 14 = .ok (.if_icmp .le 10, 3) := by decide +kernel
theorem dX5_nth_17 : decode cX5_nth 17 = .ok (.aload_n 0, 1) := by decide +kernel
theorem dX5_nth_18 : decode cX5_nth 18 = .ok (.bipush 6, 2) := by decide +kernel
theorem dX5_nth_20 : decode cX5_nth 20 = .ok (.invokevirtual 50, 3) := by decide +kernel
theorem dX5_nth_23 : decode cX5_nth 23 = .ok (.ireturn, 1) := by decide +kernel
theorem dX5_nth_24 : decode cX5_nth 24 = .ok (.iconst 0, 1) := by decide +kernel
theorem dX5_nth_25 : decode cX5_nth 25 = .ok (.istore_n 2, 1) := by decide +kernel
theorem dX5_nth_26 : decode cX5_nth 26 = .ok (.iconst 0, 1) := by decide +kernel
theorem dX5_nth_27 : decode cX5_nth 27 = .ok (.istore_n 3, 1) := by decide +kernel
theorem dX5_nth_28 : decode cX5_nth 28 = .ok (.iload_n 2, 1) := by decide +kernel
theorem dX5_nth_29 : decode cX5_nth 29 = .ok (.iload_n 1, 1) := by decide +kernel
theorem dX5_nth_30 : decode cX5_nth 30 = .ok (.if_icmp .ge 27, 3) := by decide +kernel
theorem dX5_nth_33 : decode cX5_nth 33 = .ok (.iload_n 3, 1) := by decide +kernel
theorem dX5_nth_34 : decode cX5_nth 34 = .ok (.sipush 2000, 3) := by decide +kernel
theorem dX5_nth_37 : decode cX5_nth 37 = .ok (.if_icmp .ge 20, 3) := by decide +kernel
theorem dX5_nth_40 : decode cX5_nth 40 = .ok (.iinc 3 1, 3) := by decide +kernel
theorem dX5_nth_43 : decode cX5_nth 43 = .ok (.aload_n 0, 1) := by decide +kernel
theorem dX5_nth_44 : decode cX5_nth 44 = .ok (.iload_n 3, 1) := by decide +kernel
theorem dX5_nth_45 : decode cX5_nth 45 = .ok (.invokevirtual 218, 3) := by decide +kernel
theorem dX5_nth_48 : decode cX5_nth 48 = .ok (.ifCond .eq (-20), 3) := by decide +kernel
theorem dX5_nth_51 : decode cX5_nth 51 = .ok (.iinc 2 1, 3) := by decide +kernel
theorem dX5_nth_54 : decode cX5_nth 54 = .ok (.goto (-26), 3) := by decide +kernel
theorem dX5_nth_57 : decode cX5_nth 57 = .ok (.iload_n 3, 1) := by decide +kernel
theorem dX5_nth_58 : decode cX5_nth 58 = .ok (.ireturn, 1) := by decide +kernel
theorem dX5_open_0 : decode cX5_open 0 = .ok (.iload_n 1, 1) := by decide +kernel
theorem dX5_open_1 : decode cX5_open 1 = .ok (.iconst 1, 1) := by decide +kernel
theorem dX5_open_2 : decode cX5_open 2 = .ok (.if_icmp .ge 9, 3) := by decide +kernel
theorem dX5_open_5 : decode cX5_open 5 = .ok (.aload_n 0, 1) := by decide +kernel
theorem dX5_open_6 : decode cX5_open 6 = .ok (.iconst 4, 1) := by decide +kernel
theorem dX5_open_7 : decode cX5_open 7 = .ok (.invokevirtual 50, 3) := by decide +kernel
theorem dX5_open_10 : decode cX5_open 10 = .ok (.ireturn, 1) := by decide +kernel
theorem dX5_open_11 : decode cX5_open 11 = .ok (.iload_n 1, 1) := by decide +kernel
theorem dX5_open_12 : decode cX5_open 12 = .ok (.sipush 2000, 3) := by decide +kernel
theorem dX5_open_15 : decode cX5_open 15 = .ok (.if_icmp .le 10, 3) := by decide +kernel
theorem dX5_open_18 : decode cX5_open 18 = .ok (.aload_n 0, 1) := by decide +kernel
theorem dX5_open_19 : decode cX5_open 19 = .ok (.bipush 6, 2) := by decide +kernel
theorem dX5_open_21 : decode cX5_open 21 = .ok (.invokevirtual 50, 3) := by decide +kernel
theorem dX5_open_24 : decode cX5_open 24 = .ok (.ireturn, 1) := by decide +kernel
theorem dX5_open_25 : decode cX5_open 25 = .ok (.iconst 0, 1) := by decide +kernel
theorem dX5_open_26 : decode cX5_open 26 = .ok (.istore_n 2, 1) := by decide +kernel
theorem dX5_open_27 : decode cX5_open 27 = .ok (.iconst 1, 1) := by decide +kernel
theorem dX5_open_28 : decode cX5_open 28 = .ok (.istore_n 3, 1) := by decide +kernel
theorem dX5_open_29 : decode cX5_open 29 = .ok (.iload_n 3, 1) := by decide +kernel
theorem dX5_open_30 : decode cX5_open 30 = .ok (.iload_n 1, 1) := by decide +kernel
theorem dX5_open_31 : decode cX5_open 31 = .ok (.if_icmp .gt 20, 3) := by decide +kernel
theorem dX5_open_34 : decode cX5_open 34 = .ok (.aload_n 0, 1) := by decide +kernel
theorem dX5_open_35 : decode cX5_open 35 = .ok (.iload_n 3, 1) := by decide +kernel
theorem dX5_open_36 : decode cX5_open 36 = .ok (.invokevirtual 218, 3) := by decide +kernel
theorem dX5_open_39 : decode cX5_open 39 = .ok (.ifCond .eq 6, 3) := by decide +kernel
theorem dX5_open_42 : decode cX5_open 42 = .ok (.iinc 2 1, 3) := by decide +kernel
theorem dX5_open_45 : decode cX5_open 45 = .ok (.iinc 3 1, 3) := by decide +kernel
theorem dX5_open_48 : decode cX5_open 48 = .ok (.goto (-19), 3) := by decide +kernel
theorem dX5_open_51 : decode cX5_open 51 = .ok (.iload_n 2, 1) := by decide +kernel
theorem dX5_open_52 : decode cX5_open 52 = .ok (.ireturn, 1) := by decide +kernel
theorem dX5_farWay_0 : decode cX5_farWay 0 = .ok (.iload_n 1, 1) := by decide +kernel
theorem dX5_farWay_1 : decode cX5_farWay 1 = .ok (.invokestatic 221, 3) := by decide +kernel
theorem dX5_farWay_4 : decode cX5_farWay 4 = .ok (.aload_n 0, 1) := by decide +kernel
theorem dX5_farWay_5 : decode cX5_farWay 5 = .ok (.getfield 19, 3) := by decide +kernel
theorem dX5_farWay_8 : decode cX5_farWay 8 = .ok (.getfield 133, 3) := by decide +kernel
theorem dX5_farWay_11 : decode cX5_farWay 11 = .ok (.invokestatic 162, 3) := by decide +kernel
theorem dX5_farWay_14 : decode cX5_farWay 14 = .ok (.ireturn, 1) := by decide +kernel
theorem dX5_log_0 : decode cX5_log 0 = .ok (.iload_n 1, 1) := by decide +kernel
theorem dX5_log_1 : decode cX5_log 1 = .ok (.bipush 9, 2) := by decide +kernel
theorem dX5_log_3 : decode cX5_log 3 = .ok (.if_icmp .eq 20, 3) := by decide +kernel
theorem dX5_log_6 : decode cX5_log 6 = .ok (.aload_n 0, 1) := by decide +kernel
theorem dX5_log_7 : decode cX5_log 7 = .ok (.getfield 19, 3) := by decide +kernel
theorem dX5_log_10 : decode cX5_log 10 = .ok (.iload_n 1, 1) := by decide +kernel
theorem dX5_log_11 : decode cX5_log 11 = .ok (.invokevirtual 106, 3) := by decide +kernel
theorem dX5_log_14 : decode cX5_log 14 = .ok (.ifnonnull 9, 3) := by decide +kernel
theorem dX5_log_17 : decode cX5_log 17 = .ok (.aload_n 0, 1) := by decide +kernel
theorem dX5_log_18 : decode cX5_log 18 = .ok (.iconst 1, 1) := by decide +kernel
theorem dX5_log_19 : decode cX5_log 19 = .ok (.invokevirtual 50, 3) := by decide +kernel
theorem dX5_log_22 : decode cX5_log 22 = .ok (.ireturn, 1) := by decide +kernel
theorem dX5_log_23 : decode cX5_log 23 = .ok (.aload_n 0, 1) := by decide +kernel
theorem dX5_log_24 : decode cX5_log 24 = .ok (.getfield 19, 3) := by decide +kernel
theorem dX5_log_27 : decode cX5_log 27 = .ok (.getfield 224, 3) := by decide +kernel
theorem dX5_log_30 : decode cX5_log 30 = .ok (.bipush 10, 2) := by decide +kernel
theorem dX5_log_32 : decode cX5_log 32 = .ok (.if_icmp .lt 10, 3) := by decide +kernel
theorem dX5_log_35 : decode cX5_log 35 = .ok (.aload_n 0, 1) := by decide +kernel
theorem dX5_log_36 : decode cX5_log 36 = .ok (.bipush 6, 2) := by decide +kernel
theorem dX5_log_38 : decode cX5_log 38 = .ok (.invokevirtual 50, 3) := by decide +kernel
theorem dX5_log_41 : decode cX5_log 41 = .ok (.ireturn, 1) := by decide +kernel
theorem dX5_log_42 : decode cX5_log 42 = .ok (.aload_n 0, 1) := by decide +kernel
theorem dX5_log_43 : decode cX5_log 43 = .ok (.getfield 19, 3) := by decide +kernel
theorem dX5_log_46 : decode cX5_log 46 = .ok (.iload_n 1, 1) := by decide +kernel
theorem dX5_log_47 : decode cX5_log 47 = .ok (.invokevirtual 227, 3) := by decide +kernel
theorem dX5_log_50 : decode cX5_log 50 = .ok (.ireturn, 1) := by decide +kernel
theorem dX5_order_0 : decode cX5_order 0 = .ok (.aload_n 0, 1) := by decide +kernel
theorem dX5_order_1 : decode cX5_order 1 = .ok (.getfield 19, 3) := by decide +kernel
theorem dX5_order_4 : decode cX5_order 4 = .ok (.iload_n 1, 1) := by decide +kernel
theorem dX5_order_5 : decode cX5_order 5 = .ok (.invokevirtual 89, 3) := by decide +kernel
theorem dX5_order_8 : decode cX5_order 8 = .ok (.ifCond .ne 9, 3) := by decide +kernel
theorem dX5_order_11 : decode cX5_order 11 = .ok (.aload_n 0, 1) := by decide +kernel
theorem dX5_order_12 : decode cX5_order 12 = .ok (.iconst 1, 1) := by decide +kernel
theorem dX5_order_13 : decode cX5_order 13 = .ok (.invokevirtual 50, 3) := by decide +kernel
theorem dX5_order_16 : decode cX5_order 16 = .ok (.ireturn, 1) := by decide +kernel
theorem dX5_order_17 : decode cX5_order 17 = .ok (.aload_n 0, 1) := by decide +kernel
theorem dX5_order_18 : decode cX5_order 18 = .ok (.getfield 19, 3) := by decide +kernel
theorem dX5_order_21 : decode cX5_order 21 = .ok (.getfield 93, 3) := by decide +kernel
theorem dX5_order_24 : decode cX5_order 24 = .ok (.iload_n 1, 1) := by decide +kernel
theorem dX5_order_25 : decode cX5_order 25 = .ok (.invokestatic 96, 3) := by decide +kernel
theorem dX5_order_28 : decode cX5_order 28 = .ok (.istore_n 2, 1) := by decide +kernel
theorem dX5_order_29 : decode cX5_order 29 = .ok (.iconst 0, 1) := by decide +kernel
theorem dX5_order_30 : decode cX5_order 30 = .ok (.istore_n 3, 1) := by decide +kernel
theorem dX5_order_31 : decode cX5_order 31 = .ok (.iconst 0, 1) := by decide +kernel
theorem dX5_order_32 : decode cX5_order 32 = .ok (.istore 4, 2) := by decide +kernel
theorem dX5_order_34 : decode cX5_order 34 = .ok (.iconst 0, 1) := by decide +kernel
theorem dX5_order_35 : decode cX5_order 35 = .ok (.istore 5, 2) := by decide +kernel
theorem dX5_order_37 : decode cX5_order 37 = .ok (.iload 5, 2) := by decide +kernel
theorem dX5_order_39 : decode cX5_order 39 = .ok (.aload_n 0, 1) := by decide +kernel
theorem dX5_order_40 : decode cX5_order 40 = .ok (.getfield 19, 3) := by decide +kernel
theorem dX5_order_43 : decode cX5_order 43 = .ok (.getfield 224, 3) := by decide +kernel
theorem dX5_order_46 : decode cX5_order 46 = .ok (.if_icmp .ge 55, 3) := by decide +kernel
theorem dX5_order_49 : decode cX5_order 49 = .ok (.aload_n 0, 1) := by decide +kernel
theorem dX5_order_50 : decode cX5_order 50 = .ok (.getfield 19, 3) := by decide +kernel
theorem dX5_order_53 : decode cX5_order 53 = .ok (.aload_n 0, 1) := by decide +kernel
theorem dX5_order_54 : decode cX5_order 54 = .ok (.getfield 19, 3) := by decide +kernel
theorem dX5_order_57 : decode cX5_order 57 = .ok (.iload 5, 2) := by decide +kernel
theorem dX5_order_59 : decode cX5_order 59 = .ok (.invokevirtual 230, 3) := by decide +kernel
theorem dX5_order_62 : decode cX5_order 62 = .ok (.invokevirtual 124, 3) := by decide +kernel
theorem dX5_order_65 : decode cX5_order 65 = .ok (.iload_n 1, 1) := by decide +kernel
theorem dX5_order_66 : decode cX5_order 66 = .ok (.invokestatic 130, 3) := by decide +kernel
theorem dX5_order_69 : decode cX5_order 69 = .ok (.iand, 1) := by decide +kernel
theorem dX5_order_70 : decode cX5_order 70 = .ok (.ifCond .eq 25, 3) := by decide +kernel
theorem dX5_order_73 : decode cX5_order 73 = .ok (.iinc 3 1, 3) := by decide +kernel
theorem dX5_order_76 : decode cX5_order 76 = .ok (.iload_n 2, 1) := by decide +kernel
theorem dX5_order_77 : decode cX5_order 77 = .ok (.iload_n 3, 1) := by decide +kernel
theorem dX5_order_78 : decode cX5_order 78 = .ok (.iadd, 1) := by decide +kernel
theorem dX5_order_79 : decode cX5_order 79 = .ok (.aload_n 0, 1) := by decide +kernel
theorem dX5_order_80 : decode cX5_order 80 = .ok (.getfield 19, 3) := by decide +kernel
theorem dX5_order_83 : decode cX5_order 83 = .ok (.getfield 133, 3) := by decide +kernel
theorem dX5_order_86 : decode cX5_order 86 = .ok (.invokestatic 162, 3) := by decide +kernel
theorem dX5_order_89 : decode cX5_order 89 = .ok (.ifCond .ne 6, 3) := by decide +kernel
theorem dX5_order_92 : decode cX5_order 92 = .ok (.iinc 4 1, 3) := by decide +kernel
theorem dX5_order_95 : decode cX5_order 95 = .ok (.iinc 5 1, 3) := by decide +kernel
theorem dX5_order_98 : decode cX5_order 98 = .ok (.goto (-61), 3) := by decide +kernel
theorem dX5_order_101 : decode cX5_order 101 = .ok (.iload_n 2, 1) := by decide +kernel
theorem dX5_order_102 : decode cX5_order 102 = .ok (.ifCond .ne 17, 3) := by decide +kernel
theorem dX5_order_105 : decode cX5_order 105 = .ok (.iload_n 3, 1) := by decide +kernel
theorem dX5_order_106 : decode cX5_order 106 = .ok (.ifCond .ne 13, 3) := by decide +kernel
theorem dX5_order_109 : decode cX5_order 109 = .ok (.aload_n 0, 1) := by decide +kernel
theorem dX5_order_110 : decode cX5_order 110 = .ok (.getfield 19, 3) := by decide +kernel
theorem dX5_order_113 : decode cX5_order 113 = .ok (.getfield 224, 3) := by decide +kernel
theorem dX5_order_116 : decode cX5_order 116 = .ok (.goto 5, 3) := by decide +kernel
theorem dX5_order_119 : decode cX5_order 119 = .ok (.iload 4, 2) := by decide +kernel
theorem dX5_order_121 : decode cX5_order 121 = .ok (.ireturn, 1) := by decide +kernel
theorem dX5_fills_0 : decode cX5_fills 0 = .ok (.aload_n 0, 1) := by decide +kernel
theorem dX5_fills_1 : decode cX5_fills 1 = .ok (.getfield 19, 3) := by decide +kernel
theorem dX5_fills_4 : decode cX5_fills 4 = .ok (.invokevirtual 233, 3) := by decide +kernel
theorem dX5_fills_7 : decode cX5_fills 7 = .ok (.istore_n 1, 1) := by decide +kernel
theorem dX5_fills_8 : decode cX5_fills 8 = .ok (.iload_n 1, 1) := by decide +kernel
theorem dX5_fills_9 : decode cX5_fills 9 = .ok (.iconst 3, 1) := by decide +kernel
theorem dX5_fills_10 : decode cX5_fills 10 = .ok (.if_icmp .le 10, 3) := by decide +kernel
theorem dX5_fills_13 : decode cX5_fills 13 = .ok (.aload_n 0, 1) := by decide +kernel
theorem dX5_fills_14 : decode cX5_fills 14 = .ok (.bipush 6, 2) := by decide +kernel
theorem dX5_fills_16 : decode cX5_fills 16 = .ok (.invokevirtual 50, 3) := by decide +kernel
theorem dX5_fills_19 : decode cX5_fills 19 = .ok (.ireturn, 1) := by decide +kernel
theorem dX5_fills_20 : decode cX5_fills 20 = .ok (.aload_n 0, 1) := by decide +kernel
theorem dX5_fills_21 : decode cX5_fills 21 = .ok (.getfield 19, 3) := by decide +kernel
theorem dX5_fills_24 : decode cX5_fills 24 = .ok (.iconst 0, 1) := by decide +kernel
theorem dX5_fills_25 : decode cX5_fills 25 = .ok (.invokevirtual 236, 3) := by decide +kernel
theorem dX5_fills_28 : decode cX5_fills 28 = .ok (.istore_n 2, 1) := by decide +kernel
theorem dX5_fills_29 : decode cX5_fills 29 = .ok (.aload_n 0, 1) := by decide +kernel
theorem dX5_fills_30 : decode cX5_fills 30 = .ok (.getfield 19, 3) := by decide +kernel
theorem dX5_fills_33 : decode cX5_fills 33 = .ok (.getfield 202, 3) := by decide +kernel
theorem dX5_fills_36 : decode cX5_fills 36 = .ok (.iload_n 1, 1) := by decide +kernel
theorem dX5_fills_37 : decode cX5_fills 37 = .ok (.invokestatic 149, 3) := by decide +kernel
theorem dX5_fills_40 : decode cX5_fills 40 = .ok (.istore_n 3, 1) := by decide +kernel
theorem dX5_fills_41 : decode cX5_fills 41 = .ok (.iconst 0, 1) := by decide +kernel
theorem dX5_fills_42 : decode cX5_fills 42 = .ok (.istore 4, 2) := by decide +kernel
theorem dX5_fills_44 : decode cX5_fills 44 = .ok (.iconst 0, 1) := by decide +kernel
theorem dX5_fills_45 : decode cX5_fills 45 = .ok (.istore 5, 2) := by decide +kernel
theorem dX5_fills_47 : decode cX5_fills 47 = .ok (.iload 5, 2) := by decide +kernel
theorem dX5_fills_49 : decode cX5_fills 49 = .ok (.iload_n 3, 1) := by decide +kernel
theorem dX5_fills_50 : decode cX5_fills 50 = .ok (.if_icmp .ge 30, 3) := by decide +kernel
theorem dX5_fills_53 : decode cX5_fills 53 = .ok (.aload_n 0, 1) := by decide +kernel
theorem dX5_fills_54 : decode cX5_fills 54 = .ok (.iload_n 2, 1) := by decide +kernel
theorem dX5_fills_55 : decode cX5_fills 55 = .ok (.iload_n 1, 1) := by decide +kernel
theorem dX5_fills_56 : decode cX5_fills 56 = .ok (.iload 5, 2) := by decide +kernel
theorem dX5_fills_58 : decode cX5_fills 58 = .ok (.invokevirtual 239, 3) := by decide +kernel
theorem dX5_fills_61 : decode cX5_fills 61 = .ok (.aload_n 0, 1) := by decide +kernel
theorem dX5_fills_62 : decode cX5_fills 62 = .ok (.getfield 19, 3) := by decide +kernel
theorem dX5_fills_65 : decode cX5_fills 65 = .ok (.getfield 93, 3) := by decide +kernel
theorem dX5_fills_68 : decode cX5_fills 68 = .ok (.if_icmp .ne 6, 3) := by decide +kernel
theorem dX5_fills_71 : decode cX5_fills 71 = .ok (.iinc 4 1, 3) := by decide +kernel
theorem dX5_fills_74 : decode cX5_fills 74 = .ok (.iinc 5 1, 3) := by decide +kernel
theorem dX5_fills_77 : decode cX5_fills 77 = .ok (.goto (-30), 3) := by decide +kernel
theorem dX5_fills_80 : decode cX5_fills 80 = .ok (.iload 4, 2) := by decide +kernel
theorem dX5_fills_82 : decode cX5_fills 82 = .ok (.ireturn, 1) := by decide +kernel
theorem dX5_filled_0 : decode cX5_filled 0 = .ok (.iload_n 1, 1) := by decide +kernel
theorem dX5_filled_1 : decode cX5_filled 1 = .ok (.istore 4, 2) := by decide +kernel
theorem dX5_filled_3 : decode cX5_filled 3 = .ok (.iload_n 3, 1) := by decide +kernel
theorem dX5_filled_4 : decode cX5_filled 4 = .ok (.istore 5, 2) := by decide +kernel
theorem dX5_filled_6 : decode cX5_filled 6 = .ok (.iconst 0, 1) := by decide +kernel
theorem dX5_filled_7 : decode cX5_filled 7 = .ok (.istore 6, 2) := by decide +kernel
theorem dX5_filled_9 : decode cX5_filled 9 = .ok (.iload 6, 2) := by decide +kernel
theorem dX5_filled_11 : decode cX5_filled 11 = .ok (.iload_n 2, 1) := by decide +kernel
theorem dX5_filled_12 : decode cX5_filled 12 = .ok (.if_icmp .ge 56, 3) := by decide +kernel
theorem dX5_filled_15 : decode cX5_filled 15 = .ok (.iload 4, 2) := by decide +kernel
theorem dX5_filled_17 : decode cX5_filled 17 = .ok (.aload_n 0, 1) := by decide +kernel
theorem dX5_filled_18 : decode cX5_filled 18 = .ok (.getfield 19, 3) := by decide +kernel
theorem dX5_filled_21 : decode cX5_filled 21 = .ok (.iload 5, 2) := by decide +kernel
theorem dX5_filled_23 : decode cX5_filled 23 = .ok (.aload_n 0, 1) := by decide +kernel
theorem dX5_filled_24 : decode cX5_filled 24 = .ok (.getfield 19, 3) := by decide +kernel
theorem dX5_filled_27 : decode cX5_filled 27 = .ok (.getfield 202, 3) := by decide +kernel
theorem dX5_filled_30 : decode cX5_filled 30 = .ok (.invokestatic 162, 3) := by decide +kernel
theorem dX5_filled_33 : decode cX5_filled 33 = .ok (.invokevirtual 124, 3) := by decide +kernel
theorem dX5_filled_36 : decode cX5_filled 36 = .ok (.aload_n 0, 1) := by decide +kernel
theorem dX5_filled_37 : decode cX5_filled 37 = .ok (.getfield 19, 3) := by decide +kernel
theorem dX5_filled_40 : decode cX5_filled 40 = .ok (.getfield 133, 3) := by decide +kernel
theorem dX5_filled_43 : decode cX5_filled 43 = .ok (.invokestatic 136, 3) := by decide +kernel
theorem dX5_filled_46 : decode cX5_filled 46 = .ok (.istore 4, 2) := by decide +kernel
theorem dX5_filled_48 : decode cX5_filled 48 = .ok (.iload 5, 2) := by decide +kernel
theorem dX5_filled_50 : decode cX5_filled 50 = .ok (.aload_n 0, 1) := by decide +kernel
theorem dX5_filled_51 : decode cX5_filled 51 = .ok (.getfield 19, 3) := by decide +kernel
theorem dX5_filled_54 : decode cX5_filled 54 = .ok (.getfield 202, 3) := by decide +kernel
theorem dX5_filled_57 : decode cX5_filled 57 = .ok (.invokestatic 165, 3) := by decide +kernel
theorem dX5_filled_60 : decode cX5_filled 60 = .ok (.istore 5, 2) := by decide +kernel
theorem dX5_filled_62 : decode cX5_filled 62 = .ok (.iinc 6 1, 3) := by decide +kernel
theorem dX5_filled_65 : decode cX5_filled 65 = .ok (.goto (-56), 3) := by decide +kernel
theorem dX5_filled_68 : decode cX5_filled 68 = .ok (.iload 4, 2) := by decide +kernel
theorem dX5_filled_70 : decode cX5_filled 70 = .ok (.ireturn, 1) := by decide +kernel
theorem dX5_run_0 : decode cX5_run 0 = .ok (.aload_n 0, 1) := by decide +kernel
theorem dX5_run_1 : decode cX5_run 1 = .ok (.getfield 19, 3) := by decide +kernel
theorem dX5_run_4 : decode cX5_run 4 = .ok (.iload_n 1, 1) := by decide +kernel
theorem dX5_run_5 : decode cX5_run 5 = .ok (.invokevirtual 89, 3) := by decide +kernel
theorem dX5_run_8 : decode cX5_run 8 = .ok (.ifCond .ne 9, 3) := by decide +kernel
theorem dX5_run_11 : decode cX5_run 11 = .ok (.aload_n 0, 1) := by decide +kernel
theorem dX5_run_12 : decode cX5_run 12 = .ok (.iconst 1, 1) := by decide +kernel
theorem dX5_run_13 : decode cX5_run 13 = .ok (.invokevirtual 50, 3) := by decide +kernel
theorem dX5_run_16 : decode cX5_run 16 = .ok (.ireturn, 1) := by decide +kernel
theorem dX5_run_17 : decode cX5_run 17 = .ok (.aload_n 0, 1) := by decide +kernel
theorem dX5_run_18 : decode cX5_run 18 = .ok (.getfield 19, 3) := by decide +kernel
theorem dX5_run_21 : decode cX5_run 21 = .ok (.invokevirtual 233, 3) := by decide +kernel
theorem dX5_run_24 : decode cX5_run 24 = .ok (.ifCond .le 9, 3) := by decide +kernel
theorem dX5_run_27 : decode cX5_run 27 = .ok (.aload_n 0, 1) := by decide +kernel
theorem dX5_run_28 : decode cX5_run 28 = .ok (.iconst 3, 1) := by decide +kernel
theorem dX5_run_29 : decode cX5_run 29 = .ok (.invokevirtual 50, 3) := by decide +kernel
theorem dX5_run_32 : decode cX5_run 32 = .ok (.ireturn, 1) := by decide +kernel
theorem dX5_run_33 : decode cX5_run 33 = .ok (.aload_n 0, 1) := by decide +kernel
theorem dX5_run_34 : decode cX5_run 34 = .ok (.getfield 19, 3) := by decide +kernel
theorem dX5_run_37 : decode cX5_run 37 = .ok (.aload_n 0, 1) := by decide +kernel
theorem dX5_run_38 : decode cX5_run 38 = .ok (.getfield 19, 3) := by decide +kernel
theorem dX5_run_41 : decode cX5_run 41 = .ok (.getfield 93, 3) := by decide +kernel
theorem dX5_run_44 : decode cX5_run 44 = .ok (.invokevirtual 236, 3) := by decide +kernel
theorem dX5_run_47 : decode cX5_run 47 = .ok (.iload_n 1, 1) := by decide +kernel
theorem dX5_run_48 : decode cX5_run 48 = .ok (.invokestatic 96, 3) := by decide +kernel
theorem dX5_run_51 : decode cX5_run 51 = .ok (.ireturn, 1) := by decide +kernel
theorem dX5_judge_0 : decode cX5_judge 0 = .ok (.aload_n 0, 1) := by decide +kernel
theorem dX5_judge_1 : decode cX5_judge 1 = .ok (.getfield 19, 3) := by decide +kernel
theorem dX5_judge_4 : decode cX5_judge 4 = .ok (.invokevirtual 233, 3) := by decide +kernel
theorem dX5_judge_7 : decode cX5_judge 7 = .ok (.ifCond .le 9, 3) := by decide +kernel
theorem dX5_judge_10 : decode cX5_judge 10 = .ok (.aload_n 0, 1) := by decide +kernel
theorem dX5_judge_11 : decode cX5_judge 11 = .ok (.iconst 3, 1) := by decide +kernel
theorem dX5_judge_12 : decode cX5_judge 12 = .ok (.invokevirtual 50, 3) := by decide +kernel
theorem dX5_judge_15 : decode cX5_judge 15 = .ok (.ireturn, 1) := by decide +kernel
theorem dX5_judge_16 : decode cX5_judge 16 = .ok (.aload_n 0, 1) := by decide +kernel
theorem dX5_judge_17 : decode cX5_judge 17 = .ok (.getfield 19, 3) := by decide +kernel
theorem dX5_judge_20 : decode cX5_judge 20 = .ok (.getfield 93, 3) := by decide +kernel
theorem dX5_judge_23 : decode cX5_judge 23 = .ok (.istore_n 1, 1) := by decide +kernel
theorem dX5_judge_24 : decode cX5_judge 24 = .ok (.iconst 0, 1) := by decide +kernel
theorem dX5_judge_25 : decode cX5_judge 25 = .ok (.istore_n 2, 1) := by decide +kernel
theorem dX5_judge_26 : decode cX5_judge 26 = .ok (.iload_n 2, 1) := by decide +kernel
theorem dX5_judge_27 : decode cX5_judge 27 = .ok (.aload_n 0, 1) := by decide +kernel
theorem dX5_judge_28 : decode cX5_judge 28 = .ok (.getfield 19, 3) := by decide +kernel
theorem dX5_judge_31 : decode cX5_judge 31 = .ok (.getfield 224, 3) := by decide +kernel
theorem dX5_judge_34 : decode cX5_judge 34 = .ok (.if_icmp .ge 54, 3) := by decide +kernel
theorem dX5_judge_37 : decode cX5_judge 37 = .ok (.iload_n 1, 1) := by decide +kernel
theorem dX5_judge_38 : decode cX5_judge 38 = .ok (.aload_n 0, 1) := by decide +kernel
theorem dX5_judge_39 : decode cX5_judge 39 = .ok (.getfield 19, 3) := by decide +kernel
theorem dX5_judge_42 : decode cX5_judge 42 = .ok (.aload_n 0, 1) := by decide +kernel
theorem dX5_judge_43 : decode cX5_judge 43 = .ok (.getfield 19, 3) := by decide +kernel
theorem dX5_judge_46 : decode cX5_judge 46 = .ok (.iload_n 2, 1) := by decide +kernel
theorem dX5_judge_47 : decode cX5_judge 47 = .ok (.invokevirtual 230, 3) := by decide +kernel
theorem dX5_judge_50 : decode cX5_judge 50 = .ok (.invokevirtual 124, 3) := by decide +kernel
theorem dX5_judge_53 : decode cX5_judge 53 = .ok (.aload_n 0, 1) := by decide +kernel
theorem dX5_judge_54 : decode cX5_judge 54 = .ok (.getfield 19, 3) := by decide +kernel
theorem dX5_judge_57 : decode cX5_judge 57 = .ok (.getfield 133, 3) := by decide +kernel
theorem dX5_judge_60 : decode cX5_judge 60 = .ok (.invokestatic 136, 3) := by decide +kernel
theorem dX5_judge_63 : decode cX5_judge 63 = .ok (.istore_n 3, 1) := by decide +kernel
theorem dX5_judge_64 : decode cX5_judge 64 = .ok (.iload_n 1, 1) := by decide +kernel
theorem dX5_judge_65 : decode cX5_judge 65 = .ok (.invokestatic 242, 3) := by decide +kernel
theorem dX5_judge_68 : decode cX5_judge 68 = .ok (.iload_n 3, 1) := by decide +kernel
theorem dX5_judge_69 : decode cX5_judge 69 = .ok (.invokestatic 242, 3) := by decide +kernel
theorem dX5_judge_72 : decode cX5_judge 72 = .ok (.iconst (-1), 1) := by decide +kernel
theorem dX5_judge_73 : decode cX5_judge 73 = .ok (.ixor, 1) := by decide +kernel
theorem dX5_judge_74 : decode cX5_judge 74 = .ok (.iand, 1) := by decide +kernel
theorem dX5_judge_75 : decode cX5_judge 75 = .ok (.ifCond .eq 5, 3) := by decide +kernel
theorem dX5_judge_78 : decode cX5_judge 78 = .ok (.iload_n 2, 1) := by decide +kernel
theorem dX5_judge_79 : decode cX5_judge 79 = .ok (.ireturn, 1) := by decide +kernel
theorem dX5_judge_80 : decode cX5_judge 80 = .ok (.iload_n 3, 1) := by decide +kernel
theorem dX5_judge_81 : decode cX5_judge 81 = .ok (.istore_n 1, 1) := by decide +kernel
theorem dX5_judge_82 : decode cX5_judge 82 = .ok (.iinc 2 1, 3) := by decide +kernel
theorem dX5_judge_85 : decode cX5_judge 85 = .ok (.goto (-59), 3) := by decide +kernel
theorem dX5_judge_88 : decode cX5_judge 88 = .ok (.bipush (-9), 2) := by decide +kernel
theorem dX5_judge_90 : decode cX5_judge 90 = .ok (.ireturn, 1) := by decide +kernel
theorem dX5_clear_0 : decode cX5_clear 0 = .ok (.aload_n 0, 1) := by decide +kernel
theorem dX5_clear_1 : decode cX5_clear 1 = .ok (.getfield 19, 3) := by decide +kernel
theorem dX5_clear_4 : decode cX5_clear 4 = .ok (.getfield 224, 3) := by decide +kernel
theorem dX5_clear_7 : decode cX5_clear 7 = .ok (.istore_n 1, 1) := by decide +kernel
theorem dX5_clear_8 : decode cX5_clear 8 = .ok (.aload_n 0, 1) := by decide +kernel
theorem dX5_clear_9 : decode cX5_clear 9 = .ok (.getfield 19, 3) := by decide +kernel
theorem dX5_clear_12 : decode cX5_clear 12 = .ok (.iconst 0, 1) := by decide +kernel
theorem dX5_clear_13 : decode cX5_clear 13 = .ok (.putfield 224, 3) := by decide +kernel
theorem dX5_clear_16 : decode cX5_clear 16 = .ok (.iload_n 1, 1) := by decide +kernel
theorem dX5_clear_17 : decode cX5_clear 17 = .ok (.ireturn, 1) := by decide +kernel
theorem dX5_match_0 : decode cX5_match 0 = .ok (.aload_n 0, 1) := by decide +kernel
theorem dX5_match_1 : decode cX5_match 1 = .ok (.getfield 32, 3) := by decide +kernel
theorem dX5_match_4 : decode cX5_match 4 = .ok (.aload_n 0, 1) := by decide +kernel
theorem dX5_match_5 : decode cX5_match 5 = .ok (.getfield 19, 3) := by decide +kernel
theorem dX5_match_8 : decode cX5_match 8 = .ok (.aload_n 0, 1) := by decide +kernel
theorem dX5_match_9 : decode cX5_match 9 = .ok (.getfield 19, 3) := by decide +kernel
theorem dX5_match_12 : decode cX5_match 12 = .ok (.getfield 93, 3) := by decide +kernel
theorem dX5_match_15 : decode cX5_match 15 = .ok (.invokevirtual 176, 3) := by decide +kernel
theorem dX5_match_18 : decode cX5_match 18 = .ok (.aload_n 0, 1) := by decide +kernel
theorem dX5_match_19 : decode cX5_match 19 = .ok (.getfield 39, 3) := by decide +kernel
theorem dX5_match_22 : decode cX5_match 22 = .ok (.aload_n 0, 1) := by decide +kernel
theorem dX5_match_23 : decode cX5_match 23 = .ok (.getfield 19, 3) := by decide +kernel
theorem dX5_match_26 : decode cX5_match 26 = .ok (.aload_n 0, 1) := by decide +kernel
theorem dX5_match_27 : decode cX5_match 27 = .ok (.getfield 32, 3) := by decide +kernel
theorem dX5_match_30 : decode cX5_match 30 = .ok (.invokevirtual 245, 3) := by decide +kernel
theorem dX5_match_33 : decode cX5_match 33 = .ok (.ireturn, 1) := by decide +kernel
theorem dX5_seeds_0 : decode cX5_seeds 0 = .ok (.iload_n 1, 1) := by decide +kernel
theorem dX5_seeds_1 : decode cX5_seeds 1 = .ok (.ifCond .ge 9, 3) := by decide +kernel
theorem dX5_seeds_4 : decode cX5_seeds 4 = .ok (.aload_n 0, 1) := by decide +kernel
theorem dX5_seeds_5 : decode cX5_seeds 5 = .ok (.iconst 4, 1) := by decide +kernel
theorem dX5_seeds_6 : decode cX5_seeds 6 = .ok (.invokevirtual 50, 3) := by decide +kernel
theorem dX5_seeds_9 : decode cX5_seeds 9 = .ok (.ireturn, 1) := by decide +kernel
theorem dX5_seeds_10 : decode cX5_seeds 10 = .ok (.iload_n 1, 1) := by decide +kernel
theorem dX5_seeds_11 : decode cX5_seeds 11 = .ok (.bipush 99, 2) := by decide +kernel
theorem dX5_seeds_13 : decode cX5_seeds 13 = .ok (.if_icmp .le 10, 3) := by decide +kernel
theorem dX5_seeds_16 : decode cX5_seeds 16 = .ok (.aload_n 0, 1) := by decide +kernel
theorem dX5_seeds_17 : decode cX5_seeds 17 = .ok (.bipush 6, 2) := by decide +kernel
theorem dX5_seeds_19 : decode cX5_seeds 19 = .ok (.invokevirtual 50, 3) := by decide +kernel
theorem dX5_seeds_22 : decode cX5_seeds 22 = .ok (.ireturn, 1) := by decide +kernel
theorem dX5_seeds_23 : decode cX5_seeds 23 = .ok (.aload_n 0, 1) := by decide +kernel
theorem dX5_seeds_24 : decode cX5_seeds 24 = .ok (.getfield 19, 3) := by decide +kernel
theorem dX5_seeds_27 : decode cX5_seeds 27 = .ok (.getfield 202, 3) := by decide +kernel
theorem dX5_seeds_30 : decode cX5_seeds 30 = .ok (.iconst 1, 1) := by decide +kernel
theorem dX5_seeds_31 : decode cX5_seeds 31 = .ok (.if_icmp .ge 9, 3) := by decide +kernel
theorem dX5_seeds_34 : decode cX5_seeds 34 = .ok (.aload_n 0, 1) := by decide +kernel
theorem dX5_seeds_35 : decode cX5_seeds 35 = .ok (.iconst 3, 1) := by decide +kernel
theorem dX5_seeds_36 : decode cX5_seeds 36 = .ok (.invokevirtual 50, 3) := by decide +kernel
theorem dX5_seeds_39 : decode cX5_seeds 39 = .ok (.ireturn, 1) := by decide +kernel
theorem dX5_seeds_40 : decode cX5_seeds 40 = .ok (.aload_n 0, 1) := by decide +kernel
theorem dX5_seeds_41 : decode cX5_seeds 41 = .ok (.getfield 19, 3) := by decide +kernel
theorem dX5_seeds_44 : decode cX5_seeds 44 = .ok (.getfield 93, 3) := by decide +kernel
theorem dX5_seeds_47 : decode cX5_seeds 47 = .ok (.istore_n 3, 1) := by decide +kernel
theorem dX5_seeds_48 : decode cX5_seeds 48 = .ok (.iload_n 2, 1) := by decide +kernel
theorem dX5_seeds_49 : decode cX5_seeds 49 = .ok (.istore 4, 2) := by decide +kernel
theorem dX5_seeds_51 : decode cX5_seeds 51 = .ok (.iconst 0, 1) := by decide +kernel
theorem dX5_seeds_52 : decode cX5_seeds 52 = .ok (.istore 5, 2) := by decide +kernel
theorem dX5_seeds_54 : decode cX5_seeds 54 = .ok (.iload 5, 2) := by decide +kernel
theorem dX5_seeds_56 : decode cX5_seeds 56 = .ok (.iload_n 1, 1) := by decide +kernel
theorem dX5_seeds_57 : decode cX5_seeds 57 = .ok (.if_icmp .ge 61, 3) := by decide +kernel
theorem dX5_seeds_60 : decode cX5_seeds 60 = .ok (.iload 4, 2) := by decide +kernel
theorem dX5_seeds_62 : decode cX5_seeds 62 = .ok (.ldc 249, 2) := by decide +kernel
theorem dX5_seeds_64 : decode cX5_seeds 64 = .ok (.imul, 1) := by decide +kernel
theorem dX5_seeds_65 : decode cX5_seeds 65 = .ok (.ldc 250, 2) := by decide +kernel
theorem dX5_seeds_67 : decode cX5_seeds 67 = .ok (.iadd, 1) := by decide +kernel
theorem dX5_seeds_68 : decode cX5_seeds 68 = .ok (.istore 4, 2) := by decide +kernel
theorem dX5_seeds_70 : decode cX5_seeds 70 = .ok (.iload 4, 2) := by decide +kernel
theorem dX5_seeds_72 : decode cX5_seeds 72 = .ok (.ldc 251, 2) := by decide +kernel
theorem dX5_seeds_74 : decode cX5_seeds 74 = .ok (.iand, 1) := by decide +kernel
theorem dX5_seeds_75 : decode cX5_seeds 75 = .ok (.sipush 256, 3) := by decide +kernel
theorem dX5_seeds_78 : decode cX5_seeds 78 = .ok (.idiv, 1) := by decide +kernel
theorem dX5_seeds_79 : decode cX5_seeds 79 = .ok (.aload_n 0, 1) := by decide +kernel
theorem dX5_seeds_80 : decode cX5_seeds 80 = .ok (.getfield 19, 3) := by decide +kernel
theorem dX5_seeds_83 : decode cX5_seeds 83 = .ok (.getfield 202, 3) := by decide +kernel
theorem dX5_seeds_86 : decode cX5_seeds 86 = .ok (.invokestatic 162, 3) := by decide +kernel
theorem dX5_seeds_89 : decode cX5_seeds 89 = .ok (.istore 6, 2) := by decide +kernel
theorem dX5_seeds_91 : decode cX5_seeds 91 = .ok (.iload_n 3, 1) := by decide +kernel
theorem dX5_seeds_92 : decode cX5_seeds 92 = .ok (.aload_n 0, 1) := by decide +kernel
theorem dX5_seeds_93 : decode cX5_seeds 93 = .ok (.getfield 19, 3) := by decide +kernel
theorem dX5_seeds_96 : decode cX5_seeds 96 = .ok (.iload 6, 2) := by decide +kernel
theorem dX5_seeds_98 : decode cX5_seeds 98 = .ok (.invokevirtual 124, 3) := by decide +kernel
theorem dX5_seeds_101 : decode cX5_seeds 101 = .ok (.aload_n 0, 1) := by decide +kernel
theorem dX5_seeds_102 : decode cX5_seeds 102 = .ok (.getfield 19, 3) := by decide +kernel
theorem dX5_seeds_105 : decode cX5_seeds 105 = .ok (.getfield 133, 3) := by decide +kernel
theorem dX5_seeds_108 : decode cX5_seeds 108 = .ok (.invokestatic 136, 3) := by decide +kernel
theorem dX5_seeds_111 : decode cX5_seeds 111 = .ok (.istore_n 3, 1) := by decide +kernel
theorem dX5_seeds_112 : decode cX5_seeds 112 = .ok (.iinc 5 1, 3) := by decide +kernel
theorem dX5_seeds_115 : decode cX5_seeds 115 = .ok (.goto (-61), 3) := by decide +kernel
theorem dX5_seeds_118 : decode cX5_seeds 118 = .ok (.aload_n 0, 1) := by decide +kernel
theorem dX5_seeds_119 : decode cX5_seeds 119 = .ok (.getfield 19, 3) := by decide +kernel
theorem dX5_seeds_122 : decode cX5_seeds 122 = .ok (.iload_n 3, 1) := by decide +kernel
theorem dX5_seeds_123 : decode cX5_seeds 123 = .ok (.invokevirtual 140, 3) := by decide +kernel
theorem dX5_seeds_126 : decode cX5_seeds 126 = .ok (.ireturn, 1) := by decide +kernel
theorem dX5_image_0 : decode cX5_image 0 = .ok (.aload_n 0, 1) := by decide +kernel
theorem dX5_image_1 : decode cX5_image 1 = .ok (.getfield 26, 3) := by decide +kernel
theorem dX5_image_4 : decode cX5_image 4 = .ok (.aload_n 0, 1) := by decide +kernel
theorem dX5_image_5 : decode cX5_image 5 = .ok (.getfield 19, 3) := by decide +kernel
theorem dX5_image_8 : decode cX5_image 8 = .ok (.invokevirtual 71, 3) := by decide +kernel
theorem dX5_image_11 : decode cX5_image 11 = .ok (.aload_n 0, 1) := by decide +kernel
theorem dX5_image_12 : decode cX5_image 12 = .ok (.iconst 1, 1) := by decide +kernel
theorem dX5_image_13 : decode cX5_image 13 = .ok (.putfield 252, 3) := by decide +kernel
theorem dX5_image_16 : decode cX5_image 16 = .ok (.aload_n 0, 1) := by decide +kernel
theorem dX5_image_17 : decode cX5_image 17 = .ok (.getfield 26, 3) := by decide +kernel
theorem dX5_image_20 : decode cX5_image 20 = .ok (.getfield 202, 3) := by decide +kernel
theorem dX5_image_23 : decode cX5_image 23 = .ok (.ireturn, 1) := by decide +kernel
theorem dX5_on_0 : decode cX5_on 0 = .ok (.aload_n 0, 1) := by decide +kernel
theorem dX5_on_1 : decode cX5_on 1 = .ok (.getfield 252, 3) := by decide +kernel
theorem dX5_on_4 : decode cX5_on 4 = .ok (.ifCond .ne 9, 3) := by decide +kernel
theorem dX5_on_7 : decode cX5_on 7 = .ok (.aload_n 0, 1) := by decide +kernel
theorem dX5_on_8 : decode cX5_on 8 = .ok (.iconst 3, 1) := by decide +kernel
theorem dX5_on_9 : decode cX5_on 9 = .ok (.invokevirtual 50, 3) := by decide +kernel
theorem dX5_on_12 : decode cX5_on 12 = .ok (.ireturn, 1) := by decide +kernel
theorem dX5_on_13 : decode cX5_on 13 = .ok (.aload_n 0, 1) := by decide +kernel
theorem dX5_on_14 : decode cX5_on 14 = .ok (.getfield 19, 3) := by decide +kernel
theorem dX5_on_17 : decode cX5_on 17 = .ok (.aload_n 0, 1) := by decide +kernel
theorem dX5_on_18 : decode cX5_on 18 = .ok (.getfield 26, 3) := by decide +kernel
theorem dX5_on_21 : decode cX5_on 21 = .ok (.invokevirtual 71, 3) := by decide +kernel
theorem dX5_on_24 : decode cX5_on 24 = .ok (.aload_n 0, 1) := by decide +kernel
theorem dX5_on_25 : decode cX5_on 25 = .ok (.getfield 19, 3) := by decide +kernel
theorem dX5_on_28 : decode cX5_on 28 = .ok (.getfield 202, 3) := by decide +kernel
theorem dX5_on_31 : decode cX5_on 31 = .ok (.ireturn, 1) := by decide +kernel
theorem dX5_count_0 : decode cX5_count 0 = .ok (.iload_n 1, 1) := by decide +kernel
theorem dX5_count_1 : decode cX5_count 1 = .ok (.tableswitch 120 0 7 #[47, 55, 63, 71, 85, 96, 104, 112], 47) := by decide +kernel
theorem dX5_count_48 : decode cX5_count 48 = .ok (.aload_n 0, 1) := by decide +kernel
theorem dX5_count_49 : decode cX5_count 49 = .ok (.getfield 19, 3) := by decide +kernel
theorem dX5_count_52 : decode cX5_count 52 = .ok (.getfield 146, 3) := by decide +kernel
theorem dX5_count_55 : decode cX5_count 55 = .ok (.ireturn, 1) := by decide +kernel
theorem dX5_count_56 : decode cX5_count 56 = .ok (.aload_n 0, 1) := by decide +kernel
theorem dX5_count_57 : decode cX5_count 57 = .ok (.getfield 19, 3) := by decide +kernel
theorem dX5_count_60 : decode cX5_count 60 = .ok (.getfield 133, 3) := by decide +kernel
theorem dX5_count_63 : decode cX5_count 63 = .ok (.ireturn, 1) := by decide +kernel
theorem dX5_count_64 : decode cX5_count 64 = .ok (.aload_n 0, 1) := by decide +kernel
theorem dX5_count_65 : decode cX5_count 65 = .ok (.getfield 19, 3) := by decide +kernel
theorem dX5_count_68 : decode cX5_count 68 = .ok (.getfield 202, 3) := by decide +kernel
theorem dX5_count_71 : decode cX5_count 71 = .ok (.ireturn, 1) := by decide +kernel
theorem dX5_count_72 : decode cX5_count 72 = .ok (.aload_n 0, 1) := by decide +kernel
theorem dX5_count_73 : decode cX5_count 73 = .ok (.getfield 19, 3) := by decide +kernel
theorem dX5_count_76 : decode cX5_count 76 = .ok (.getfield 93, 3) := by decide +kernel
theorem dX5_count_79 : decode cX5_count 79 = .ok (.invokestatic 242, 3) := by decide +kernel
theorem dX5_count_82 : decode cX5_count 82 = .ok (.invokestatic 205, 3) := by decide +kernel
theorem dX5_count_85 : decode cX5_count 85 = .ok (.ireturn, 1) := by decide +kernel
theorem dX5_count_86 : decode cX5_count 86 = .ok (.aload_n 0, 1) := by decide +kernel
theorem dX5_count_87 : decode cX5_count 87 = .ok (.getfield 19, 3) := by decide +kernel
theorem dX5_count_90 : decode cX5_count 90 = .ok (.getfield 256, 3) := by decide +kernel
theorem dX5_count_93 : decode cX5_count 93 = .ok (.invokestatic 205, 3) := by decide +kernel
theorem dX5_count_96 : decode cX5_count 96 = .ok (.ireturn, 1) := by decide +kernel
theorem dX5_count_97 : decode cX5_count 97 = .ok (.aload_n 0, 1) := by decide +kernel
theorem dX5_count_98 : decode cX5_count 98 = .ok (.getfield 19, 3) := by decide +kernel
theorem dX5_count_101 : decode cX5_count 101 = .ok (.getfield 224, 3) := by decide +kernel
theorem dX5_count_104 : decode cX5_count 104 = .ok (.ireturn, 1) := by decide +kernel
theorem dX5_count_105 : decode cX5_count 105 = .ok (.aload_n 0, 1) := by decide +kernel
theorem dX5_count_106 : decode cX5_count 106 = .ok (.getfield 10, 3) := by decide +kernel
theorem dX5_count_109 : decode cX5_count 109 = .ok (.getfield 54, 3) := by decide +kernel
theorem dX5_count_112 : decode cX5_count 112 = .ok (.ireturn, 1) := by decide +kernel
theorem dX5_count_113 : decode cX5_count 113 = .ok (.aload_n 0, 1) := by decide +kernel
theorem dX5_count_114 : decode cX5_count 114 = .ok (.getfield 19, 3) := by decide +kernel
theorem dX5_count_117 : decode cX5_count 117 = .ok (.getfield 259, 3) := by decide +kernel
theorem dX5_count_120 : decode cX5_count 120 = .ok (.ireturn, 1) := by decide +kernel
theorem dX5_count_121 : decode cX5_count 121 = .ok (.aload_n 0, 1) := by decide +kernel
theorem dX5_count_122 : decode cX5_count 122 = .ok (.iload_n 1, 1) := by decide +kernel
theorem dX5_count_123 : decode cX5_count 123 = .ok (.bipush 10, 2) := by decide +kernel
theorem dX5_count_125 : decode cX5_count 125 = .ok (.isub, 1) := by decide +kernel
theorem dX5_count_126 : decode cX5_count 126 = .ok (.invokevirtual 262, 3) := by decide +kernel
theorem dX5_count_129 : decode cX5_count 129 = .ok (.ireturn, 1) := by decide +kernel
theorem dX5_refusalsTold_0 : decode cX5_refusalsTold 0 = .ok (.iload_n 1, 1) := by decide +kernel
theorem dX5_refusalsTold_1 : decode cX5_refusalsTold 1 = .ok (.iconst 1, 1) := by decide +kernel
theorem dX5_refusalsTold_2 : decode cX5_refusalsTold 2 = .ok (.if_icmp .lt 21, 3) := by decide +kernel
theorem dX5_refusalsTold_5 : decode cX5_refusalsTold 5 = .ok (.iload_n 1, 1) := by decide +kernel
theorem dX5_refusalsTold_6 : decode cX5_refusalsTold 6 = .ok (.aload_n 0, 1) := by decide +kernel
theorem dX5_refusalsTold_7 : decode cX5_refusalsTold 7 = .ok (.getfield 47, 3) := by decide +kernel
theorem dX5_refusalsTold_10 : decode cX5_refusalsTold 10 = .ok (.arraylength, 1) := by decide +kernel
theorem dX5_refusalsTold_11 : decode cX5_refusalsTold 11 = .ok (.if_icmp .ge 12, 3) := by decide +kernel
theorem dX5_refusalsTold_14 : decode cX5_refusalsTold 14 = .ok (.aload_n 0, 1) := by decide +kernel
theorem dX5_refusalsTold_15 : decode cX5_refusalsTold 15 = .ok (.getfield 47, 3) := by decide +kernel
theorem dX5_refusalsTold_18 : decode cX5_refusalsTold 18 = .ok (.iload_n 1, 1) := by decide +kernel
theorem dX5_refusalsTold_19 : decode cX5_refusalsTold 19 = .ok (.iaload, 1) := by decide +kernel
theorem dX5_refusalsTold_20 : decode cX5_refusalsTold 20 = .ok (.goto 5, 3) := by decide +kernel
theorem dX5_refusalsTold_23 : decode cX5_refusalsTold 23 = .ok (.bipush (-9), 2) := by decide +kernel
theorem dX5_refusalsTold_25 : decode cX5_refusalsTold 25 = .ok (.ireturn, 1) := by decide +kernel
theorem dX5_refuse_0 : decode cX5_refuse 0 = .ok (.iload_n 1, 1) := by decide +kernel
theorem dX5_refuse_1 : decode cX5_refuse 1 = .ok (.ifCond .lt 22, 3) := by decide +kernel
theorem dX5_refuse_4 : decode cX5_refuse 4 = .ok (.iload_n 1, 1) := by decide +kernel
theorem dX5_refuse_5 : decode cX5_refuse 5 = .ok (.aload_n 0, 1) := by decide +kernel
theorem dX5_refuse_6 : decode cX5_refuse 6 = .ok (.getfield 47, 3) := by decide +kernel
theorem dX5_refuse_9 : decode cX5_refuse 9 = .ok (.arraylength, 1) := by decide +kernel
theorem dX5_refuse_10 : decode cX5_refuse 10 = .ok (.if_icmp .ge 13, 3) := by decide +kernel
theorem dX5_refuse_13 : decode cX5_refuse 13 = .ok (.aload_n 0, 1) := by decide +kernel
theorem dX5_refuse_14 : decode cX5_refuse 14 = .ok (.getfield 47, 3) := by decide +kernel
theorem dX5_refuse_17 : decode cX5_refuse 17 = .ok (.iload_n 1, 1) := by decide +kernel
theorem dX5_refuse_18 : decode cX5_refuse 18 = .ok (.dup2, 1) := by decide +kernel
theorem dX5_refuse_19 : decode cX5_refuse 19 = .ok (.iaload, 1) := by decide +kernel
theorem dX5_refuse_20 : decode cX5_refuse 20 = .ok (.iconst 1, 1) := by decide +kernel
theorem dX5_refuse_21 : decode cX5_refuse 21 = .ok (.iadd, 1) := by decide +kernel
theorem dX5_refuse_22 : decode cX5_refuse 22 = .ok (.iastore, 1) := by decide +kernel
theorem dX5_refuse_23 : decode cX5_refuse 23 = .ok (.iload_n 1, 1) := by decide +kernel
theorem dX5_refuse_24 : decode cX5_refuse 24 = .ok (.ineg, 1) := by decide +kernel
theorem dX5_refuse_25 : decode cX5_refuse 25 = .ok (.ireturn, 1) := by decide +kernel
theorem dX5_bitOf_0 : decode cX5_bitOf 0 = .ok (.iconst 1, 1) := by decide +kernel
theorem dX5_bitOf_1 : decode cX5_bitOf 1 = .ok (.iload_n 0, 1) := by decide +kernel
theorem dX5_bitOf_2 : decode cX5_bitOf 2 = .ok (.iconst 1, 1) := by decide +kernel
theorem dX5_bitOf_3 : decode cX5_bitOf 3 = .ok (.isub, 1) := by decide +kernel
theorem dX5_bitOf_4 : decode cX5_bitOf 4 = .ok (.ishl, 1) := by decide +kernel
theorem dX5_bitOf_5 : decode cX5_bitOf 5 = .ok (.ireturn, 1) := by decide +kernel
theorem dX5_bitAt_0 : decode cX5_bitAt 0 = .ok (.iload_n 1, 1) := by decide +kernel
theorem dX5_bitAt_1 : decode cX5_bitAt 1 = .ok (.ifCond .ne 5, 3) := by decide +kernel
theorem dX5_bitAt_4 : decode cX5_bitAt 4 = .ok (.iconst 0, 1) := by decide +kernel
theorem dX5_bitAt_5 : decode cX5_bitAt 5 = .ok (.ireturn, 1) := by decide +kernel
theorem dX5_bitAt_6 : decode cX5_bitAt 6 = .ok (.iload_n 1, 1) := by decide +kernel
theorem dX5_bitAt_7 : decode cX5_bitAt 7 = .ok (.iconst 1, 1) := by decide +kernel
theorem dX5_bitAt_8 : decode cX5_bitAt 8 = .ok (.if_icmp .ne 10, 3) := by decide +kernel
theorem dX5_bitAt_11 : decode cX5_bitAt 11 = .ok (.iload_n 0, 1) := by decide +kernel
theorem dX5_bitAt_12 : decode cX5_bitAt 12 = .ok (.invokestatic 130, 3) := by decide +kernel
theorem dX5_bitAt_15 : decode cX5_bitAt 15 = .ok (.goto 10, 3) := by decide +kernel
theorem dX5_bitAt_18 : decode cX5_bitAt 18 = .ok (.iload_n 0, 1) := by decide +kernel
theorem dX5_bitAt_19 : decode cX5_bitAt 19 = .ok (.invokestatic 130, 3) := by decide +kernel
theorem dX5_bitAt_22 : decode cX5_bitAt 22 = .ok (.bipush 12, 2) := by decide +kernel
theorem dX5_bitAt_24 : decode cX5_bitAt 24 = .ok (.ishl, 1) := by decide +kernel
theorem dX5_bitAt_25 : decode cX5_bitAt 25 = .ok (.ireturn, 1) := by decide +kernel
theorem dX5_wayOf_0 : decode cX5_wayOf 0 = .ok (.iload_n 0, 1) := by decide +kernel
theorem dX5_wayOf_1 : decode cX5_wayOf 1 = .ok (.iload_n 1, 1) := by decide +kernel
theorem dX5_wayOf_2 : decode cX5_wayOf 2 = .ok (.iconst 1, 1) := by decide +kernel
theorem dX5_wayOf_3 : decode cX5_wayOf 3 = .ok (.invokestatic 265, 3) := by decide +kernel
theorem dX5_wayOf_6 : decode cX5_wayOf 6 = .ok (.iand, 1) := by decide +kernel
theorem dX5_wayOf_7 : decode cX5_wayOf 7 = .ok (.ifCond .eq 5, 3) := by decide +kernel
theorem dX5_wayOf_10 : decode cX5_wayOf 10 = .ok (.iconst 1, 1) := by decide +kernel
theorem dX5_wayOf_11 : decode cX5_wayOf 11 = .ok (.ireturn, 1) := by decide +kernel
theorem dX5_wayOf_12 : decode cX5_wayOf 12 = .ok (.iload_n 0, 1) := by decide +kernel
theorem dX5_wayOf_13 : decode cX5_wayOf 13 = .ok (.iload_n 1, 1) := by decide +kernel
theorem dX5_wayOf_14 : decode cX5_wayOf 14 = .ok (.iconst 2, 1) := by decide +kernel
theorem dX5_wayOf_15 : decode cX5_wayOf 15 = .ok (.invokestatic 265, 3) := by decide +kernel
theorem dX5_wayOf_18 : decode cX5_wayOf 18 = .ok (.iand, 1) := by decide +kernel
theorem dX5_wayOf_19 : decode cX5_wayOf 19 = .ok (.ifCond .eq 7, 3) := by decide +kernel
theorem dX5_wayOf_22 : decode cX5_wayOf 22 = .ok (.iconst 2, 1) := by decide +kernel
theorem dX5_wayOf_23 : decode cX5_wayOf 23 = .ok (.goto 4, 3) := by decide +kernel
theorem dX5_wayOf_26 : decode cX5_wayOf 26 = .ok (.iconst 0, 1) := by decide +kernel
theorem dX5_wayOf_27 : decode cX5_wayOf 27 = .ok (.ireturn, 1) := by decide +kernel
theorem dX5_notAtZero_0 : decode cX5_notAtZero 0 = .ok (.iload_n 0, 1) := by decide +kernel
theorem dX5_notAtZero_1 : decode cX5_notAtZero 1 = .ok (.iload_n 0, 1) := by decide +kernel
theorem dX5_notAtZero_2 : decode cX5_notAtZero 2 = .ok (.bipush 12, 2) := by decide +kernel
theorem dX5_notAtZero_4 : decode cX5_notAtZero 4 = .ok (.ishr, 1) := by decide +kernel
theorem dX5_notAtZero_5 : decode cX5_notAtZero 5 = .ok (.ior, 1) := by decide +kernel
theorem dX5_notAtZero_6 : decode cX5_notAtZero 6 = .ok (.sipush 4095, 3) := by decide +kernel
theorem dX5_notAtZero_9 : decode cX5_notAtZero 9 = .ok (.iand, 1) := by decide +kernel
theorem dX5_notAtZero_10 : decode cX5_notAtZero 10 = .ok (.ireturn, 1) := by decide +kernel
theorem dX5_turned_0 : decode cX5_turned 0 = .ok (.iload_n 2, 1) := by decide +kernel
theorem dX5_turned_1 : decode cX5_turned 1 = .ok (.iconst 2, 1) := by decide +kernel
theorem dX5_turned_2 : decode cX5_turned 2 = .ok (.if_icmp .ne 7, 3) := by decide +kernel
theorem dX5_turned_5 : decode cX5_turned 5 = .ok (.iload_n 0, 1) := by decide +kernel
theorem dX5_turned_6 : decode cX5_turned 6 = .ok (.iload_n 1, 1) := by decide +kernel
theorem dX5_turned_7 : decode cX5_turned 7 = .ok (.ixor, 1) := by decide +kernel
theorem dX5_turned_8 : decode cX5_turned 8 = .ok (.ireturn, 1) := by decide +kernel
theorem dX5_turned_9 : decode cX5_turned 9 = .ok (.iload_n 0, 1) := by decide +kernel
theorem dX5_turned_10 : decode cX5_turned 10 = .ok (.sipush 4095, 3) := by decide +kernel
theorem dX5_turned_13 : decode cX5_turned 13 = .ok (.iand, 1) := by decide +kernel
theorem dX5_turned_14 : decode cX5_turned 14 = .ok (.istore_n 3, 1) := by decide +kernel
theorem dX5_turned_15 : decode cX5_turned 15 = .ok (.iload_n 0, 1) := by decide +kernel
theorem dX5_turned_16 : decode cX5_turned 16 = .ok (.bipush 12, 2) := by decide +kernel
theorem dX5_turned_18 : decode cX5_turned 18 = .ok (.ishr, 1) := by decide +kernel
theorem dX5_turned_19 : decode cX5_turned 19 = .ok (.sipush 4095, 3) := by decide +kernel
theorem dX5_turned_22 : decode cX5_turned 22 = .ok (.iand, 1) := by decide +kernel
theorem dX5_turned_23 : decode cX5_turned 23 = .ok (.istore 4, 2) := by decide +kernel
theorem dX5_turned_25 : decode cX5_turned 25 = .ok (.sipush 4095, 3) := by decide +kernel
theorem dX5_turned_28 : decode cX5_turned 28 = .ok (.iload_n 3, 1) := by decide +kernel
theorem dX5_turned_29 : decode cX5_turned 29 = .ok (.iload 4, 2) := by decide +kernel
theorem dX5_turned_31 : decode cX5_turned 31 = .ok (.ior, 1) := by decide +kernel
theorem dX5_turned_32 : decode cX5_turned 32 = .ok (.iconst (-1), 1) := by decide +kernel
theorem dX5_turned_33 : decode cX5_turned 33 = .ok (.ixor, 1) := by decide +kernel
theorem dX5_turned_34 : decode cX5_turned 34 = .ok (.iand, 1) := by decide +kernel
theorem dX5_turned_35 : decode cX5_turned 35 = .ok (.istore 5, 2) := by decide +kernel
theorem dX5_turned_37 : decode cX5_turned 37 = .ok (.iload_n 3, 1) := by decide +kernel
theorem dX5_turned_38 : decode cX5_turned 38 = .ok (.iload_n 1, 1) := by decide +kernel
theorem dX5_turned_39 : decode cX5_turned 39 = .ok (.iconst (-1), 1) := by decide +kernel
theorem dX5_turned_40 : decode cX5_turned 40 = .ok (.ixor, 1) := by decide +kernel
theorem dX5_turned_41 : decode cX5_turned 41 = .ok (.iand, 1) := by decide +kernel
theorem dX5_turned_42 : decode cX5_turned 42 = .ok (.iload 5, 2) := by decide +kernel
theorem dX5_turned_44 : decode cX5_turned 44 = .ok (.iload_n 1, 1) := by decide +kernel
theorem dX5_turned_45 : decode cX5_turned 45 = .ok (.iand, 1) := by decide +kernel
theorem dX5_turned_46 : decode cX5_turned 46 = .ok (.ior, 1) := by decide +kernel
theorem dX5_turned_47 : decode cX5_turned 47 = .ok (.istore 6, 2) := by decide +kernel
theorem dX5_turned_49 : decode cX5_turned 49 = .ok (.iload 4, 2) := by decide +kernel
theorem dX5_turned_51 : decode cX5_turned 51 = .ok (.iload_n 1, 1) := by decide +kernel
theorem dX5_turned_52 : decode cX5_turned 52 = .ok (.iconst (-1), 1) := by decide +kernel
theorem dX5_turned_53 : decode cX5_turned 53 = .ok (.ixor, 1) := by decide +kernel
theorem dX5_turned_54 : decode cX5_turned 54 = .ok (.iand, 1) := by decide +kernel
theorem dX5_turned_55 : decode cX5_turned 55 = .ok (.iload_n 3, 1) := by decide +kernel
theorem dX5_turned_56 : decode cX5_turned 56 = .ok (.iload_n 1, 1) := by decide +kernel
theorem dX5_turned_57 : decode cX5_turned 57 = .ok (.iand, 1) := by decide +kernel
theorem dX5_turned_58 : decode cX5_turned 58 = .ok (.ior, 1) := by decide +kernel
theorem dX5_turned_59 : decode cX5_turned 59 = .ok (.istore 7, 2) := by decide +kernel
theorem dX5_turned_61 : decode cX5_turned 61 = .ok (.iload 6, 2) := by decide +kernel
theorem dX5_turned_63 : decode cX5_turned 63 = .ok (.iload 7, 2) := by decide +kernel
theorem dX5_turned_65 : decode cX5_turned 65 = .ok (.bipush 12, 2) := by decide +kernel
theorem dX5_turned_67 : decode cX5_turned 67 = .ok (.ishl, 1) := by decide +kernel
theorem dX5_turned_68 : decode cX5_turned 68 = .ok (.ior, 1) := by decide +kernel
theorem dX5_turned_69 : decode cX5_turned 69 = .ok (.ireturn, 1) := by decide +kernel
theorem dX5_goesInto_0 : decode cX5_goesInto 0 = .ok (.iload_n 0, 1) := by decide +kernel
theorem dX5_goesInto_1 : decode cX5_goesInto 1 = .ok (.ifCond .le 13, 3) := by decide +kernel
theorem dX5_goesInto_4 : decode cX5_goesInto 4 = .ok (.iload_n 1, 1) := by decide +kernel
theorem dX5_goesInto_5 : decode cX5_goesInto 5 = .ok (.iload_n 0, 1) := by decide +kernel
theorem dX5_goesInto_6 : decode cX5_goesInto 6 = .ok (.irem, 1) := by decide +kernel
theorem dX5_goesInto_7 : decode cX5_goesInto 7 = .ok (.ifCond .ne 7, 3) := by decide +kernel
theorem dX5_goesInto_10 : decode cX5_goesInto 10 = .ok (.iconst 1, 1) := by decide +kernel
theorem dX5_goesInto_11 : decode cX5_goesInto 11 = .ok (.goto 4, 3) := by decide +kernel
theorem dX5_goesInto_14 : decode cX5_goesInto 14 = .ok (.iconst 0, 1) := by decide +kernel
theorem dX5_goesInto_15 : decode cX5_goesInto 15 = .ok (.ireturn, 1) := by decide +kernel
theorem dX5_remainder_0 : decode cX5_remainder 0 = .ok (.iload_n 1, 1) := by decide +kernel
theorem dX5_remainder_1 : decode cX5_remainder 1 = .ok (.ifCond .le 9, 3) := by decide +kernel
theorem dX5_remainder_4 : decode cX5_remainder 4 = .ok (.iload_n 0, 1) := by decide +kernel
theorem dX5_remainder_5 : decode cX5_remainder 5 = .ok (.iload_n 1, 1) := by decide +kernel
theorem dX5_remainder_6 : decode cX5_remainder 6 = .ok (.irem, 1) := by decide +kernel
theorem dX5_remainder_7 : decode cX5_remainder 7 = .ok (.goto 4, 3) := by decide +kernel
theorem dX5_remainder_10 : decode cX5_remainder 10 = .ok (.iconst 0, 1) := by decide +kernel
theorem dX5_remainder_11 : decode cX5_remainder 11 = .ok (.ireturn, 1) := by decide +kernel
theorem dX5_quotient_0 : decode cX5_quotient 0 = .ok (.iload_n 1, 1) := by decide +kernel
theorem dX5_quotient_1 : decode cX5_quotient 1 = .ok (.ifCond .le 9, 3) := by decide +kernel
theorem dX5_quotient_4 : decode cX5_quotient 4 = .ok (.iload_n 0, 1) := by decide +kernel
theorem dX5_quotient_5 : decode cX5_quotient 5 = .ok (.iload_n 1, 1) := by decide +kernel
theorem dX5_quotient_6 : decode cX5_quotient 6 = .ok (.idiv, 1) := by decide +kernel
theorem dX5_quotient_7 : decode cX5_quotient 7 = .ok (.goto 4, 3) := by decide +kernel
theorem dX5_quotient_10 : decode cX5_quotient 10 = .ok (.iconst 0, 1) := by decide +kernel
theorem dX5_quotient_11 : decode cX5_quotient 11 = .ok (.ireturn, 1) := by decide +kernel
theorem dX5_power_0 : decode cX5_power 0 = .ok (.iconst 1, 1) := by decide +kernel
theorem dX5_power_1 : decode cX5_power 1 = .ok (.istore_n 2, 1) := by decide +kernel
theorem dX5_power_2 : decode cX5_power 2 = .ok (.iconst 0, 1) := by decide +kernel
theorem dX5_power_3 : decode cX5_power 3 = .ok (.istore_n 3, 1) := by decide +kernel
theorem dX5_power_4 : decode cX5_power 4 = .ok (.iload_n 3, 1) := by decide +kernel
theorem dX5_power_5 : decode cX5_power 5 = .ok (.iload_n 1, 1) := by decide +kernel
theorem dX5_power_6 : decode cX5_power 6 = .ok (.if_icmp .ge 13, 3) := by decide +kernel
theorem dX5_power_9 : decode cX5_power 9 = .ok (.iload_n 2, 1) := by decide +kernel
theorem dX5_power_10 : decode cX5_power 10 = .ok (.iload_n 0, 1) := by decide +kernel
theorem dX5_power_11 : decode cX5_power 11 = .ok (.imul, 1) := by decide +kernel
theorem dX5_power_12 : decode cX5_power 12 = .ok (.istore_n 2, 1) := by decide +kernel
theorem dX5_power_13 : decode cX5_power 13 = .ok (.iinc 3 1, 3) := by decide +kernel
theorem dX5_power_16 : decode cX5_power 16 = .ok (.goto (-12), 3) := by decide +kernel
theorem dX5_power_19 : decode cX5_power 19 = .ok (.iload_n 2, 1) := by decide +kernel
theorem dX5_power_20 : decode cX5_power 20 = .ok (.ireturn, 1) := by decide +kernel
theorem dX5_divisorsOf_0 : decode cX5_divisorsOf 0 = .ok (.iconst 1, 1) := by decide +kernel
theorem dX5_divisorsOf_1 : decode cX5_divisorsOf 1 = .ok (.istore_n 1, 1) := by decide +kernel
theorem dX5_divisorsOf_2 : decode cX5_divisorsOf 2 = .ok (.iload_n 0, 1) := by decide +kernel
theorem dX5_divisorsOf_3 : decode cX5_divisorsOf 3 = .ok (.istore_n 2, 1) := by decide +kernel
theorem dX5_divisorsOf_4 : decode cX5_divisorsOf 4 = .ok (.iconst 2, 1) := by decide +kernel
theorem dX5_divisorsOf_5 : decode cX5_divisorsOf 5 = .ok (.istore_n 3, 1) := by decide +kernel
theorem dX5_divisorsOf_6 : decode cX5_divisorsOf 6 = .ok (.iload_n 3, 1) := by decide +kernel
theorem dX5_divisorsOf_7 : decode cX5_divisorsOf 7 = .ok (.sipush 31622, 3) := by decide +kernel
theorem dX5_divisorsOf_10 : decode cX5_divisorsOf 10 = .ok (.if_icmp .gt 51, 3) := by decide +kernel
theorem dX5_divisorsOf_13 : decode cX5_divisorsOf 13 = .ok (.iload_n 3, 1) := by decide +kernel
theorem dX5_divisorsOf_14 : decode cX5_divisorsOf 14 = .ok (.iload_n 3, 1) := by decide +kernel
theorem dX5_divisorsOf_15 : decode cX5_divisorsOf 15 = .ok (.imul, 1) := by decide +kernel
theorem dX5_divisorsOf_16 : decode cX5_divisorsOf 16 = .ok (.iload_n 2, 1) := by decide +kernel
theorem dX5_divisorsOf_17 : decode cX5_divisorsOf 17 = .ok (.if_icmp .gt 44, 3) := by decide +kernel
theorem dX5_divisorsOf_20 : decode cX5_divisorsOf 20 = .ok (.iconst 0, 1) := by decide +kernel
theorem dX5_divisorsOf_21 : decode cX5_divisorsOf 21 = .ok (.istore 4, 2) := by decide +kernel
theorem dX5_divisorsOf_23 : decode cX5_divisorsOf 23 = .ok (.iload 4, 2) := by decide +kernel
theorem dX5_divisorsOf_25 : decode cX5_divisorsOf 25 = .ok (.bipush 31, 2) := by decide +kernel
theorem dX5_divisorsOf_27 : decode cX5_divisorsOf 27 = .ok (.if_icmp .ge 21, 3) := by decide +kernel
theorem dX5_divisorsOf_30 : decode cX5_divisorsOf 30 = .ok (.iload_n 3, 1) := by decide +kernel
theorem dX5_divisorsOf_31 : decode cX5_divisorsOf 31 = .ok (.iload_n 2, 1) := by decide +kernel
theorem dX5_divisorsOf_32 : decode cX5_divisorsOf 32 = .ok (.invokestatic 172, 3) := by decide +kernel
theorem dX5_divisorsOf_35 : decode cX5_divisorsOf 35 = .ok (.ifCond .eq 13, 3) := by decide +kernel
theorem dX5_divisorsOf_38 : decode cX5_divisorsOf 38 = .ok (.iload_n 2, 1) := by decide +kernel
theorem dX5_divisorsOf_39 : decode cX5_divisorsOf 39 = .ok (.iload_n 3, 1) := by decide +kernel
theorem dX5_divisorsOf_40 : decode cX5_divisorsOf 40 = .ok (.idiv, 1) := by decide +kernel
theorem dX5_divisorsOf_41 : decode cX5_divisorsOf 41 = .ok (.istore_n 2, 1) := by decide +kernel
theorem dX5_divisorsOf_42 : decode cX5_divisorsOf 42 = .ok (.iinc 4 1, 3) := by decide +kernel
theorem dX5_divisorsOf_45 : decode cX5_divisorsOf 45 = .ok (.goto (-22), 3) := by decide +kernel
theorem dX5_divisorsOf_48 : decode cX5_divisorsOf 48 = .ok (.iload_n 1, 1) := by decide +kernel
theorem dX5_divisorsOf_49 : decode cX5_divisorsOf 49 = .ok (.iload 4, 2) := by decide +kernel
theorem dX5_divisorsOf_51 : decode cX5_divisorsOf 51 = .ok (.iconst 1, 1) := by decide +kernel
theorem dX5_divisorsOf_52 : decode cX5_divisorsOf 52 = .ok (.iadd, 1) := by decide +kernel
theorem dX5_divisorsOf_53 : decode cX5_divisorsOf 53 = .ok (.imul, 1) := by decide +kernel
theorem dX5_divisorsOf_54 : decode cX5_divisorsOf 54 = .ok (.istore_n 1, 1) := by decide +kernel
theorem dX5_divisorsOf_55 : decode cX5_divisorsOf 55 = .ok (.iinc 3 1, 3) := by decide +kernel
theorem dX5_divisorsOf_58 : decode cX5_divisorsOf 58 = .ok (.goto (-52), 3) := by decide +kernel
theorem dX5_divisorsOf_61 : decode cX5_divisorsOf 61 = .ok (.iload_n 2, 1) := by decide +kernel
theorem dX5_divisorsOf_62 : decode cX5_divisorsOf 62 = .ok (.iconst 1, 1) := by decide +kernel
theorem dX5_divisorsOf_63 : decode cX5_divisorsOf 63 = .ok (.if_icmp .le 9, 3) := by decide +kernel
theorem dX5_divisorsOf_66 : decode cX5_divisorsOf 66 = .ok (.iload_n 1, 1) := by decide +kernel
theorem dX5_divisorsOf_67 : decode cX5_divisorsOf 67 = .ok (.iconst 2, 1) := by decide +kernel
theorem dX5_divisorsOf_68 : decode cX5_divisorsOf 68 = .ok (.imul, 1) := by decide +kernel
theorem dX5_divisorsOf_69 : decode cX5_divisorsOf 69 = .ok (.goto 4, 3) := by decide +kernel
theorem dX5_divisorsOf_72 : decode cX5_divisorsOf 72 = .ok (.iload_n 1, 1) := by decide +kernel
theorem dX5_divisorsOf_73 : decode cX5_divisorsOf 73 = .ok (.ireturn, 1) := by decide +kernel
theorem dX6_init_0 : decode cX6_init 0 = .ok (.aload_n 0, 1) := by decide +kernel
theorem dX6_init_1 : decode cX6_init 1 = .ok (.invokespecial 1, 3) := by decide +kernel
theorem dX6_init_4 : decode cX6_init 4 = .ok (.aload_n 0, 1) := by decide +kernel
theorem dX6_init_5 : decode cX6_init 5 = .ok (.bipush 7, 2) := by decide +kernel
theorem dX6_init_7 : decode cX6_init 7 = .ok (.newarray .int, 2) := by decide +kernel
theorem dX6_init_9 : decode cX6_init 9 = .ok (.putfield 7, 3) := by decide +kernel
theorem dX6_init_12 : decode cX6_init 12 = .ok (.aload_n 0, 1) := by decide +kernel
theorem dX6_init_13 : decode cX6_init 13 = .ok (.bipush 79, 2) := by decide +kernel
theorem dX6_init_15 : decode cX6_init 15 = .ok (.newarray .int, 2) := by decide +kernel
theorem dX6_init_17 : decode cX6_init 17 = .ok (.putfield 13, 3) := by decide +kernel
theorem dX6_init_20 : decode cX6_init 20 = .ok (.aload_n 0, 1) := by decide +kernel
theorem dX6_init_21 : decode cX6_init 21 = .ok (.bipush 79, 2) := by decide +kernel
theorem dX6_init_23 : decode cX6_init 23 = .ok (.newarray .int, 2) := by decide +kernel
theorem dX6_init_25 : decode cX6_init 25 = .ok (.putfield 16, 3) := by decide +kernel
theorem dX6_init_28 : decode cX6_init 28 = .ok (.aload_n 0, 1) := by decide +kernel
theorem dX6_init_29 : decode cX6_init 29 = .ok (.bipush 79, 2) := by decide +kernel
theorem dX6_init_31 : decode cX6_init 31 = .ok (.newarray .int, 2) := by decide +kernel
theorem dX6_init_33 : decode cX6_init 33 = .ok (.putfield 19, 3) := by decide +kernel
theorem dX6_init_36 : decode cX6_init 36 = .ok (.aload_n 0, 1) := by decide +kernel
theorem dX6_init_37 : decode cX6_init 37 = .ok (.bipush 64, 2) := by decide +kernel
theorem dX6_init_39 : decode cX6_init 39 = .ok (.newarray .int, 2) := by decide +kernel
theorem dX6_init_41 : decode cX6_init 41 = .ok (.putfield 22, 3) := by decide +kernel
theorem dX6_init_44 : decode cX6_init 44 = .ok (.aload_n 0, 1) := by decide +kernel
theorem dX6_init_45 : decode cX6_init 45 = .ok (.bipush 12, 2) := by decide +kernel
theorem dX6_init_47 : decode cX6_init 47 = .ok (.newarray .int, 2) := by decide +kernel
theorem dX6_init_49 : decode cX6_init 49 = .ok (.putfield 25, 3) := by decide +kernel
theorem dX6_init_52 : decode cX6_init 52 = .ok (.aload_n 0, 1) := by decide +kernel
theorem dX6_init_53 : decode cX6_init 53 = .ok (.bipush 13, 2) := by decide +kernel
theorem dX6_init_55 : decode cX6_init 55 = .ok (.newarray .int, 2) := by decide +kernel
theorem dX6_init_57 : decode cX6_init 57 = .ok (.putfield 28, 3) := by decide +kernel
theorem dX6_init_60 : decode cX6_init 60 = .ok (.aload_n 0, 1) := by decide +kernel
theorem dX6_init_61 : decode cX6_init 61 = .ok (.bipush 13, 2) := by decide +kernel
theorem dX6_init_63 : decode cX6_init 63 = .ok (.newarray .int, 2) := by decide +kernel
theorem dX6_init_65 : decode cX6_init 65 = .ok (.putfield 31, 3) := by decide +kernel
theorem dX6_init_68 : decode cX6_init 68 = .ok (.aload_n 0, 1) := by decide +kernel
theorem dX6_init_69 : decode cX6_init 69 = .ok (.bipush 12, 2) := by decide +kernel
theorem dX6_init_71 : decode cX6_init 71 = .ok (.newarray .int, 2) := by decide +kernel
theorem dX6_init_73 : decode cX6_init 73 = .ok (.putfield 34, 3) := by decide +kernel
theorem dX6_init_76 : decode cX6_init 76 = .ok (.aload_n 0, 1) := by decide +kernel
theorem dX6_init_77 : decode cX6_init 77 = .ok (.sipush 2187, 3) := by decide +kernel
theorem dX6_init_80 : decode cX6_init 80 = .ok (.newarray .int, 2) := by decide +kernel
theorem dX6_init_82 : decode cX6_init 82 = .ok (.putfield 37, 3) := by decide +kernel
theorem dX6_init_85 : decode cX6_init 85 = .ok (.aload_n 0, 1) := by decide +kernel
theorem dX6_init_86 : decode cX6_init 86 = .ok (.getfield 13, 3) := by decide +kernel
theorem dX6_init_89 : decode cX6_init 89 = .ok (.iconst 0, 1) := by decide +kernel
theorem dX6_init_90 : decode cX6_init 90 = .ok (.bipush 6, 2) := by decide +kernel
theorem dX6_init_92 : decode cX6_init 92 = .ok (.iastore, 1) := by decide +kernel
theorem dX6_init_93 : decode cX6_init 93 = .ok (.aload_n 0, 1) := by decide +kernel
theorem dX6_init_94 : decode cX6_init 94 = .ok (.getfield 13, 3) := by decide +kernel
theorem dX6_init_97 : decode cX6_init 97 = .ok (.iconst 1, 1) := by decide +kernel
theorem dX6_init_98 : decode cX6_init 98 = .ok (.iconst 2, 1) := by decide +kernel
theorem dX6_init_99 : decode cX6_init 99 = .ok (.iastore, 1) := by decide +kernel
theorem dX6_init_100 : decode cX6_init 100 = .ok (.iconst 0, 1) := by decide +kernel
theorem dX6_init_101 : decode cX6_init 101 = .ok (.istore_n 1, 1) := by decide +kernel
theorem dX6_init_102 : decode cX6_init 102 = .ok (.iload_n 1, 1) := by decide +kernel
theorem dX6_init_103 : decode cX6_init 103 = .ok (.bipush 12, 2) := by decide +kernel
theorem dX6_init_105 : decode cX6_init 105 = .ok (.if_icmp .ge 20, 3) := by decide +kernel
theorem dX6_init_108 : decode cX6_init 108 = .ok (.aload_n 0, 1) := by decide +kernel
theorem dX6_init_109 : decode cX6_init 109 = .ok (.getfield 13, 3) := by decide +kernel
theorem dX6_init_112 : decode cX6_init 112 = .ok (.bipush 16, 2) := by decide +kernel
theorem dX6_init_114 : decode cX6_init 114 = .ok (.iload_n 1, 1) := by decide +kernel
theorem dX6_init_115 : decode cX6_init 115 = .ok (.iadd, 1) := by decide +kernel
theorem dX6_init_116 : decode cX6_init 116 = .ok (.bipush 9, 2) := by decide +kernel
theorem dX6_init_118 : decode cX6_init 118 = .ok (.iastore, 1) := by decide +kernel
theorem dX6_init_119 : decode cX6_init 119 = .ok (.iinc 1 1, 3) := by decide +kernel
theorem dX6_init_122 : decode cX6_init 122 = .ok (.goto (-20), 3) := by decide +kernel
theorem dX6_init_125 : decode cX6_init 125 = .ok (.return_, 1) := by decide +kernel
theorem dX6_refuse_0 : decode cX6_refuse 0 = .ok (.aload_n 0, 1) := by decide +kernel

theorem dX3_init_0 : decode cX3_init 0 = .ok (.aload_n 0, 1) := by decide +kernel
theorem dX3_init_1 : decode cX3_init 1 = .ok (.invokespecial 1, 3) := by decide +kernel
theorem dX3_init_4 : decode cX3_init 4 = .ok (.aload_n 0, 1) := by decide +kernel
theorem dX3_init_5 : decode cX3_init 5 = .ok (.new 7, 3) := by decide +kernel
theorem dX3_init_8 : decode cX3_init 8 = .ok (.dup, 1) := by decide +kernel
theorem dX3_init_9 : decode cX3_init 9 = .ok (.invokespecial 9, 3) := by decide +kernel
theorem dX3_init_12 : decode cX3_init 12 = .ok (.putfield 10, 3) := by decide +kernel
theorem dX3_init_15 : decode cX3_init 15 = .ok (.aload_n 0, 1) := by decide +kernel
theorem dX3_init_16 : decode cX3_init 16 = .ok (.new 7, 3) := by decide +kernel
theorem dX3_init_19 : decode cX3_init 19 = .ok (.dup, 1) := by decide +kernel
theorem dX3_init_20 : decode cX3_init 20 = .ok (.invokespecial 9, 3) := by decide +kernel
theorem dX3_init_23 : decode cX3_init 23 = .ok (.putfield 16, 3) := by decide +kernel
theorem dX3_init_26 : decode cX3_init 26 = .ok (.aload_n 0, 1) := by decide +kernel
theorem dX3_init_27 : decode cX3_init 27 = .ok (.new 7, 3) := by decide +kernel
theorem dX3_init_30 : decode cX3_init 30 = .ok (.dup, 1) := by decide +kernel
theorem dX3_init_31 : decode cX3_init 31 = .ok (.invokespecial 9, 3) := by decide +kernel
theorem dX3_init_34 : decode cX3_init 34 = .ok (.putfield 19, 3) := by decide +kernel
theorem dX3_init_37 : decode cX3_init 37 = .ok (.aload_n 0, 1) := by decide +kernel
theorem dX3_init_38 : decode cX3_init 38 = .ok (.new 22, 3) := by decide +kernel
theorem dX3_init_41 : decode cX3_init 41 = .ok (.dup, 1) := by decide +kernel
theorem dX3_init_42 : decode cX3_init 42 = .ok (.invokespecial 24, 3) := by decide +kernel
theorem dX3_init_45 : decode cX3_init 45 = .ok (.putfield 25, 3) := by decide +kernel
theorem dX3_init_48 : decode cX3_init 48 = .ok (.aload_n 0, 1) := by decide +kernel
theorem dX3_init_49 : decode cX3_init 49 = .ok (.iconst 4, 1) := by decide +kernel
theorem dX3_init_50 : decode cX3_init 50 = .ok (.anewarray 29, 3) := by decide +kernel
theorem dX3_init_53 : decode cX3_init 53 = .ok (.putfield 31, 3) := by decide +kernel
theorem dX3_init_56 : decode cX3_init 56 = .ok (.aload_n 0, 1) := by decide +kernel
theorem dX3_init_57 : decode cX3_init 57 = .ok (.bipush 7, 2) := by decide +kernel
theorem dX3_init_59 : decode cX3_init 59 = .ok (.newarray .int, 2) := by decide +kernel
theorem dX3_init_61 : decode cX3_init 61 = .ok (.putfield 35, 3) := by decide +kernel
theorem dX3_init_64 : decode cX3_init 64 = .ok (.iconst 0, 1) := by decide +kernel
theorem dX3_init_65 : decode cX3_init 65 = .ok (.istore_n 1, 1) := by decide +kernel
theorem dX3_init_66 : decode cX3_init 66 = .ok (.iload_n 1, 1) := by decide +kernel
theorem dX3_init_67 : decode cX3_init 67 = .ok (.iconst 4, 1) := by decide +kernel
theorem dX3_init_68 : decode cX3_init 68 = .ok (.if_icmp .ge 22, 3) := by decide +kernel
theorem dX3_init_71 : decode cX3_init 71 = .ok (.aload_n 0, 1) := by decide +kernel
theorem dX3_init_72 : decode cX3_init 72 = .ok (.getfield 31, 3) := by decide +kernel
theorem dX3_init_75 : decode cX3_init 75 = .ok (.iload_n 1, 1) := by decide +kernel
theorem dX3_init_76 : decode cX3_init 76 = .ok (.new 29, 3) := by decide +kernel
theorem dX3_init_79 : decode cX3_init 79 = .ok (.dup, 1) := by decide +kernel
theorem dX3_init_80 : decode cX3_init 80 = .ok (.invokespecial 39, 3) := by decide +kernel
theorem dX3_init_83 : decode cX3_init 83 = .ok (.aastore, 1) := by decide +kernel
theorem dX3_init_84 : decode cX3_init 84 = .ok (.iinc 1 1, 3) := by decide +kernel
theorem dX3_init_87 : decode cX3_init 87 = .ok (.goto (-21), 3) := by decide +kernel
theorem dX3_init_90 : decode cX3_init 90 = .ok (.return_, 1) := by decide +kernel
theorem dX3_seats_0 : decode cX3_seats 0 = .ok (.iload_n 1, 1) := by decide +kernel
theorem dX3_seats_1 : decode cX3_seats 1 = .ok (.invokestatic 40, 3) := by decide +kernel
theorem dX3_seats_4 : decode cX3_seats 4 = .ok (.ifCond .eq 12, 3) := by decide +kernel
theorem dX3_seats_7 : decode cX3_seats 7 = .ok (.iload_n 2, 1) := by decide +kernel
theorem dX3_seats_8 : decode cX3_seats 8 = .ok (.iconst 0, 1) := by decide +kernel
theorem dX3_seats_9 : decode cX3_seats 9 = .ok (.iconst 4, 1) := by decide +kernel
theorem dX3_seats_10 : decode cX3_seats 10 = .ok (.invokestatic 44, 3) := by decide +kernel
theorem dX3_seats_13 : decode cX3_seats 13 = .ok (.ifCond .ne 10, 3) := by decide +kernel
theorem dX3_seats_16 : decode cX3_seats 16 = .ok (.aload_n 0, 1) := by decide +kernel
theorem dX3_seats_17 : decode cX3_seats 17 = .ok (.ldc 48, 2) := by decide +kernel
theorem dX3_seats_19 : decode cX3_seats 19 = .ok (.invokevirtual 49, 3) := by decide +kernel
theorem dX3_seats_22 : decode cX3_seats 22 = .ok (.ireturn, 1) := by decide +kernel
theorem dX3_seats_23 : decode cX3_seats 23 = .ok (.aload_n 0, 1) := by decide +kernel
theorem dX3_seats_24 : decode cX3_seats 24 = .ok (.getfield 10, 3) := by decide +kernel
theorem dX3_seats_27 : decode cX3_seats 27 = .ok (.iload_n 1, 1) := by decide +kernel
theorem dX3_seats_28 : decode cX3_seats 28 = .ok (.invokevirtual 53, 3) := by decide +kernel
theorem dX3_seats_31 : decode cX3_seats 31 = .ok (.iload_n 2, 1) := by decide +kernel
theorem dX3_seats_32 : decode cX3_seats 32 = .ok (.if_icmp .le 10, 3) := by decide +kernel
theorem dX3_seats_35 : decode cX3_seats 35 = .ok (.aload_n 0, 1) := by decide +kernel
theorem dX3_seats_36 : decode cX3_seats 36 = .ok (.ldc 56, 2) := by decide +kernel
theorem dX3_seats_38 : decode cX3_seats 38 = .ok (.invokevirtual 49, 3) := by decide +kernel
theorem dX3_seats_41 : decode cX3_seats 41 = .ok (.ireturn, 1) := by decide +kernel
theorem dX3_seats_42 : decode cX3_seats 42 = .ok (.aload_n 0, 1) := by decide +kernel
theorem dX3_seats_43 : decode cX3_seats 43 = .ok (.getfield 10, 3) := by decide +kernel
theorem dX3_seats_46 : decode cX3_seats 46 = .ok (.getfield 57, 3) := by decide +kernel
theorem dX3_seats_49 : decode cX3_seats 49 = .ok (.iload_n 1, 1) := by decide +kernel
theorem dX3_seats_50 : decode cX3_seats 50 = .ok (.iaload, 1) := by decide +kernel
theorem dX3_seats_51 : decode cX3_seats 51 = .ok (.istore_n 3, 1) := by decide +kernel
theorem dX3_seats_52 : decode cX3_seats 52 = .ok (.aload_n 0, 1) := by decide +kernel
theorem dX3_seats_53 : decode cX3_seats 53 = .ok (.getfield 10, 3) := by decide +kernel
theorem dX3_seats_56 : decode cX3_seats 56 = .ok (.getfield 57, 3) := by decide +kernel
theorem dX3_seats_59 : decode cX3_seats 59 = .ok (.iload_n 1, 1) := by decide +kernel
theorem dX3_seats_60 : decode cX3_seats 60 = .ok (.iload_n 2, 1) := by decide +kernel
theorem dX3_seats_61 : decode cX3_seats 61 = .ok (.iastore, 1) := by decide +kernel
theorem dX3_seats_62 : decode cX3_seats 62 = .ok (.iload_n 3, 1) := by decide +kernel
theorem dX3_seats_63 : decode cX3_seats 63 = .ok (.ireturn, 1) := by decide +kernel
theorem dX3_rankOf_0 : decode cX3_rankOf 0 = .ok (.iload_n 1, 1) := by decide +kernel
theorem dX3_rankOf_1 : decode cX3_rankOf 1 = .ok (.invokestatic 40, 3) := by decide +kernel
theorem dX3_rankOf_4 : decode cX3_rankOf 4 = .ok (.ifCond .ne 10, 3) := by decide +kernel
theorem dX3_rankOf_7 : decode cX3_rankOf 7 = .ok (.aload_n 0, 1) := by decide +kernel
theorem dX3_rankOf_8 : decode cX3_rankOf 8 = .ok (.ldc 48, 2) := by decide +kernel
theorem dX3_rankOf_10 : decode cX3_rankOf 10 = .ok (.invokevirtual 49, 3) := by decide +kernel
theorem dX3_rankOf_13 : decode cX3_rankOf 13 = .ok (.ireturn, 1) := by decide +kernel
theorem dX3_rankOf_14 : decode cX3_rankOf 14 = .ok (.iload_n 2, 1) := by decide +kernel
theorem dX3_rankOf_15 : decode cX3_rankOf 15 = .ok (.tableswitch 100 0 4 #[33, 43, 52, 62, 83], 33) := by decide +kernel
theorem dX3_rankOf_48 : decode cX3_rankOf 48 = .ok (.aload_n 0, 1) := by decide +kernel
theorem dX3_rankOf_49 : decode cX3_rankOf 49 = .ok (.getfield 10, 3) := by decide +kernel
theorem dX3_rankOf_52 : decode cX3_rankOf 52 = .ok (.getfield 57, 3) := by decide +kernel
theorem dX3_rankOf_55 : decode cX3_rankOf 55 = .ok (.iload_n 1, 1) := by decide +kernel
theorem dX3_rankOf_56 : decode cX3_rankOf 56 = .ok (.iaload, 1) := by decide +kernel
theorem dX3_rankOf_57 : decode cX3_rankOf 57 = .ok (.ireturn, 1) := by decide +kernel
theorem dX3_rankOf_58 : decode cX3_rankOf 58 = .ok (.aload_n 0, 1) := by decide +kernel
theorem dX3_rankOf_59 : decode cX3_rankOf 59 = .ok (.getfield 10, 3) := by decide +kernel
theorem dX3_rankOf_62 : decode cX3_rankOf 62 = .ok (.iload_n 1, 1) := by decide +kernel
theorem dX3_rankOf_63 : decode cX3_rankOf 63 = .ok (.invokevirtual 53, 3) := by decide +kernel
theorem dX3_rankOf_66 : decode cX3_rankOf 66 = .ok (.ireturn, 1) := by decide +kernel
theorem dX3_rankOf_67 : decode cX3_rankOf 67 = .ok (.aload_n 0, 1) := by decide +kernel
theorem dX3_rankOf_68 : decode cX3_rankOf 68 = .ok (.getfield 10, 3) := by decide +kernel
theorem dX3_rankOf_71 : decode cX3_rankOf 71 = .ok (.getfield 60, 3) := by decide +kernel
theorem dX3_rankOf_74 : decode cX3_rankOf 74 = .ok (.iload_n 1, 1) := by decide +kernel
theorem dX3_rankOf_75 : decode cX3_rankOf 75 = .ok (.iaload, 1) := by decide +kernel
theorem dX3_rankOf_76 : decode cX3_rankOf 76 = .ok (.ireturn, 1) := by decide +kernel
theorem dX3_rankOf_77 : decode cX3_rankOf 77 = .ok (.aload_n 0, 1) := by decide +kernel
theorem dX3_rankOf_78 : decode cX3_rankOf 78 = .ok (.getfield 10, 3) := by decide +kernel
theorem dX3_rankOf_81 : decode cX3_rankOf 81 = .ok (.getfield 60, 3) := by decide +kernel
theorem dX3_rankOf_84 : decode cX3_rankOf 84 = .ok (.iload_n 1, 1) := by decide +kernel
theorem dX3_rankOf_85 : decode cX3_rankOf 85 = .ok (.iaload, 1) := by decide +kernel
theorem dX3_rankOf_86 : decode cX3_rankOf 86 = .ok (.aload_n 0, 1) := by decide +kernel
theorem dX3_rankOf_87 : decode cX3_rankOf 87 = .ok (.getfield 10, 3) := by decide +kernel
theorem dX3_rankOf_90 : decode cX3_rankOf 90 = .ok (.invokevirtual 63, 3) := by decide +kernel
theorem dX3_rankOf_93 : decode cX3_rankOf 93 = .ok (.iand, 1) := by decide +kernel
theorem dX3_rankOf_94 : decode cX3_rankOf 94 = .ok (.invokestatic 67, 3) := by decide +kernel
theorem dX3_rankOf_97 : decode cX3_rankOf 97 = .ok (.ireturn, 1) := by decide +kernel
theorem dX3_rankOf_98 : decode cX3_rankOf 98 = .ok (.aload_n 0, 1) := by decide +kernel
theorem dX3_rankOf_99 : decode cX3_rankOf 99 = .ok (.getfield 10, 3) := by decide +kernel
theorem dX3_rankOf_102 : decode cX3_rankOf 102 = .ok (.aload_n 0, 1) := by decide +kernel
theorem dX3_rankOf_103 : decode cX3_rankOf 103 = .ok (.getfield 10, 3) := by decide +kernel
theorem dX3_rankOf_106 : decode cX3_rankOf 106 = .ok (.getfield 60, 3) := by decide +kernel
theorem dX3_rankOf_109 : decode cX3_rankOf 109 = .ok (.iload_n 1, 1) := by decide +kernel
theorem dX3_rankOf_110 : decode cX3_rankOf 110 = .ok (.iaload, 1) := by decide +kernel
theorem dX3_rankOf_111 : decode cX3_rankOf 111 = .ok (.invokevirtual 72, 3) := by decide +kernel
theorem dX3_rankOf_114 : decode cX3_rankOf 114 = .ok (.ireturn, 1) := by decide +kernel
theorem dX3_rankOf_115 : decode cX3_rankOf 115 = .ok (.aload_n 0, 1) := by decide +kernel
theorem dX3_rankOf_116 : decode cX3_rankOf 116 = .ok (.ldc 48, 2) := by decide +kernel
theorem dX3_rankOf_118 : decode cX3_rankOf 118 = .ok (.invokevirtual 49, 3) := by decide +kernel
theorem dX3_rankOf_121 : decode cX3_rankOf 121 = .ok (.ireturn, 1) := by decide +kernel
theorem dX3_law_0 : decode cX3_law 0 = .ok (.iload_n 1, 1) := by decide +kernel
theorem dX3_law_1 : decode cX3_law 1 = .ok (.iconst 0, 1) := by decide +kernel
theorem dX3_law_2 : decode cX3_law 2 = .ok (.iconst 2, 1) := by decide +kernel
theorem dX3_law_3 : decode cX3_law 3 = .ok (.invokestatic 44, 3) := by decide +kernel
theorem dX3_law_6 : decode cX3_law 6 = .ok (.ifCond .eq 20, 3) := by decide +kernel
theorem dX3_law_9 : decode cX3_law 9 = .ok (.iload_n 2, 1) := by decide +kernel
theorem dX3_law_10 : decode cX3_law 10 = .ok (.getstatic 75, 3) := by decide +kernel
theorem dX3_law_13 : decode cX3_law 13 = .ok (.iload_n 1, 1) := by decide +kernel
theorem dX3_law_14 : decode cX3_law 14 = .ok (.iaload, 1) := by decide +kernel
theorem dX3_law_15 : decode cX3_law 15 = .ok (.getstatic 78, 3) := by decide +kernel
theorem dX3_law_18 : decode cX3_law 18 = .ok (.iload_n 1, 1) := by decide +kernel
theorem dX3_law_19 : decode cX3_law 19 = .ok (.iaload, 1) := by decide +kernel
theorem dX3_law_20 : decode cX3_law 20 = .ok (.invokestatic 44, 3) := by decide +kernel
theorem dX3_law_23 : decode cX3_law 23 = .ok (.ifCond .ne 10, 3) := by decide +kernel
theorem dX3_law_26 : decode cX3_law 26 = .ok (.aload_n 0, 1) := by decide +kernel
theorem dX3_law_27 : decode cX3_law 27 = .ok (.ldc 48, 2) := by decide +kernel
theorem dX3_law_29 : decode cX3_law 29 = .ok (.invokevirtual 49, 3) := by decide +kernel
theorem dX3_law_32 : decode cX3_law 32 = .ok (.ireturn, 1) := by decide +kernel
theorem dX3_law_33 : decode cX3_law 33 = .ok (.aload_n 0, 1) := by decide +kernel
theorem dX3_law_34 : decode cX3_law 34 = .ok (.getfield 10, 3) := by decide +kernel
theorem dX3_law_37 : decode cX3_law 37 = .ok (.getfield 81, 3) := by decide +kernel
theorem dX3_law_40 : decode cX3_law 40 = .ok (.iload_n 1, 1) := by decide +kernel
theorem dX3_law_41 : decode cX3_law 41 = .ok (.iaload, 1) := by decide +kernel
theorem dX3_law_42 : decode cX3_law 42 = .ok (.istore_n 3, 1) := by decide +kernel
theorem dX3_law_43 : decode cX3_law 43 = .ok (.aload_n 0, 1) := by decide +kernel
theorem dX3_law_44 : decode cX3_law 44 = .ok (.getfield 10, 3) := by decide +kernel
theorem dX3_law_47 : decode cX3_law 47 = .ok (.getfield 81, 3) := by decide +kernel
theorem dX3_law_50 : decode cX3_law 50 = .ok (.iload_n 1, 1) := by decide +kernel
theorem dX3_law_51 : decode cX3_law 51 = .ok (.iload_n 2, 1) := by decide +kernel
theorem dX3_law_52 : decode cX3_law 52 = .ok (.iastore, 1) := by decide +kernel
theorem dX3_law_53 : decode cX3_law 53 = .ok (.iload_n 3, 1) := by decide +kernel
theorem dX3_law_54 : decode cX3_law 54 = .ok (.ireturn, 1) := by decide +kernel
theorem dX3_person_0 : decode cX3_person 0 = .ok (.iload_n 1, 1) := by decide +kernel
theorem dX3_person_1 : decode cX3_person 1 = .ok (.invokestatic 84, 3) := by decide +kernel
theorem dX3_person_4 : decode cX3_person 4 = .ok (.ifCond .eq 10, 3) := by decide +kernel
theorem dX3_person_7 : decode cX3_person 7 = .ok (.iload_n 2, 1) := by decide +kernel
theorem dX3_person_8 : decode cX3_person 8 = .ok (.invokestatic 40, 3) := by decide +kernel
theorem dX3_person_11 : decode cX3_person 11 = .ok (.ifCond .ne 10, 3) := by decide +kernel
theorem dX3_person_14 : decode cX3_person 14 = .ok (.aload_n 0, 1) := by decide +kernel
theorem dX3_person_15 : decode cX3_person 15 = .ok (.ldc 48, 2) := by decide +kernel
theorem dX3_person_17 : decode cX3_person 17 = .ok (.invokevirtual 49, 3) := by decide +kernel
theorem dX3_person_20 : decode cX3_person 20 = .ok (.ireturn, 1) := by decide +kernel
theorem dX3_person_21 : decode cX3_person 21 = .ok (.aload_n 0, 1) := by decide +kernel
theorem dX3_person_22 : decode cX3_person 22 = .ok (.getfield 10, 3) := by decide +kernel
theorem dX3_person_25 : decode cX3_person 25 = .ok (.iload_n 2, 1) := by decide +kernel
theorem dX3_person_26 : decode cX3_person 26 = .ok (.invokevirtual 87, 3) := by decide +kernel
theorem dX3_person_29 : decode cX3_person 29 = .ok (.ifCond .ne 10, 3) := by decide +kernel
theorem dX3_person_32 : decode cX3_person 32 = .ok (.aload_n 0, 1) := by decide +kernel
theorem dX3_person_33 : decode cX3_person 33 = .ok (.ldc 56, 2) := by decide +kernel
theorem dX3_person_35 : decode cX3_person 35 = .ok (.invokevirtual 49, 3) := by decide +kernel
theorem dX3_person_38 : decode cX3_person 38 = .ok (.ireturn, 1) := by decide +kernel
theorem dX3_person_39 : decode cX3_person 39 = .ok (.aload_n 0, 1) := by decide +kernel
theorem dX3_person_40 : decode cX3_person 40 = .ok (.getfield 10, 3) := by decide +kernel
theorem dX3_person_43 : decode cX3_person 43 = .ok (.getfield 90, 3) := by decide +kernel
theorem dX3_person_46 : decode cX3_person 46 = .ok (.bipush 12, 2) := by decide +kernel
theorem dX3_person_48 : decode cX3_person 48 = .ok (.if_icmp .lt 10, 3) := by decide +kernel
theorem dX3_person_51 : decode cX3_person 51 = .ok (.aload_n 0, 1) := by decide +kernel
theorem dX3_person_52 : decode cX3_person 52 = .ok (.ldc 94, 2) := by decide +kernel
theorem dX3_person_54 : decode cX3_person 54 = .ok (.invokevirtual 49, 3) := by decide +kernel
theorem dX3_person_57 : decode cX3_person 57 = .ok (.ireturn, 1) := by decide +kernel
theorem dX3_person_58 : decode cX3_person 58 = .ok (.aload_n 0, 1) := by decide +kernel
theorem dX3_person_59 : decode cX3_person 59 = .ok (.getfield 10, 3) := by decide +kernel
theorem dX3_person_62 : decode cX3_person 62 = .ok (.iload_n 1, 1) := by decide +kernel
theorem dX3_person_63 : decode cX3_person 63 = .ok (.iload_n 2, 1) := by decide +kernel
theorem dX3_person_64 : decode cX3_person 64 = .ok (.invokevirtual 95, 3) := by decide +kernel
theorem dX3_person_67 : decode cX3_person 67 = .ok (.ireturn, 1) := by decide +kernel
theorem dX3_of_0 : decode cX3_of 0 = .ok (.aload_n 0, 1) := by decide +kernel
theorem dX3_of_1 : decode cX3_of 1 = .ok (.getfield 10, 3) := by decide +kernel
theorem dX3_of_4 : decode cX3_of 4 = .ok (.iload_n 1, 1) := by decide +kernel
theorem dX3_of_5 : decode cX3_of 5 = .ok (.invokevirtual 99, 3) := by decide +kernel
theorem dX3_of_8 : decode cX3_of 8 = .ok (.ifCond .ne 10, 3) := by decide +kernel
theorem dX3_of_11 : decode cX3_of 11 = .ok (.aload_n 0, 1) := by decide +kernel
theorem dX3_of_12 : decode cX3_of 12 = .ok (.ldc 48, 2) := by decide +kernel
theorem dX3_of_14 : decode cX3_of 14 = .ok (.invokevirtual 49, 3) := by decide +kernel
theorem dX3_of_17 : decode cX3_of 17 = .ok (.ireturn, 1) := by decide +kernel
theorem dX3_of_18 : decode cX3_of 18 = .ok (.iload_n 2, 1) := by decide +kernel
theorem dX3_of_19 : decode cX3_of 19 = .ok (.tableswitch 111 0 6 #[41, 51, 61, 71, 81, 91, 101], 41) := by decide +kernel
theorem dX3_of_60 : decode cX3_of 60 = .ok (.aload_n 0, 1) := by decide +kernel
theorem dX3_of_61 : decode cX3_of 61 = .ok (.getfield 10, 3) := by decide +kernel
theorem dX3_of_64 : decode cX3_of 64 = .ok (.getfield 102, 3) := by decide +kernel
theorem dX3_of_67 : decode cX3_of 67 = .ok (.iload_n 1, 1) := by decide +kernel
theorem dX3_of_68 : decode cX3_of 68 = .ok (.iaload, 1) := by decide +kernel
theorem dX3_of_69 : decode cX3_of 69 = .ok (.ireturn, 1) := by decide +kernel
theorem dX3_of_70 : decode cX3_of 70 = .ok (.aload_n 0, 1) := by decide +kernel
theorem dX3_of_71 : decode cX3_of 71 = .ok (.getfield 10, 3) := by decide +kernel
theorem dX3_of_74 : decode cX3_of 74 = .ok (.getfield 105, 3) := by decide +kernel
theorem dX3_of_77 : decode cX3_of 77 = .ok (.iload_n 1, 1) := by decide +kernel
theorem dX3_of_78 : decode cX3_of 78 = .ok (.iaload, 1) := by decide +kernel
theorem dX3_of_79 : decode cX3_of 79 = .ok (.ireturn, 1) := by decide +kernel
theorem dX3_of_80 : decode cX3_of 80 = .ok (.aload_n 0, 1) := by decide +kernel
theorem dX3_of_81 : decode cX3_of 81 = .ok (.getfield 10, 3) := by decide +kernel
theorem dX3_of_84 : decode cX3_of 84 = .ok (.getfield 108, 3) := by decide +kernel
theorem dX3_of_87 : decode cX3_of 87 = .ok (.iload_n 1, 1) := by decide +kernel
theorem dX3_of_88 : decode cX3_of 88 = .ok (.iaload, 1) := by decide +kernel
theorem dX3_of_89 : decode cX3_of 89 = .ok (.ireturn, 1) := by decide +kernel
theorem dX3_of_90 : decode cX3_of 90 = .ok (.aload_n 0, 1) := by decide +kernel
theorem dX3_of_91 : decode cX3_of 91 = .ok (.getfield 10, 3) := by decide +kernel
theorem dX3_of_94 : decode cX3_of 94 = .ok (.getfield 111, 3) := by decide +kernel
theorem dX3_of_97 : decode cX3_of 97 = .ok (.iload_n 1, 1) := by decide +kernel
theorem dX3_of_98 : decode cX3_of 98 = .ok (.iaload, 1) := by decide +kernel
theorem dX3_of_99 : decode cX3_of 99 = .ok (.ireturn, 1) := by decide +kernel
theorem dX3_of_100 : decode cX3_of 100 = .ok (.aload_n 0, 1) := by decide +kernel
theorem dX3_of_101 : decode cX3_of 101 = .ok (.getfield 10, 3) := by decide +kernel
theorem dX3_of_104 : decode cX3_of 104 = .ok (.getfield 114, 3) := by decide +kernel
theorem dX3_of_107 : decode cX3_of 107 = .ok (.iload_n 1, 1) := by decide +kernel
theorem dX3_of_108 : decode cX3_of 108 = .ok (.iaload, 1) := by decide +kernel
theorem dX3_of_109 : decode cX3_of 109 = .ok (.ireturn, 1) := by decide +kernel
theorem dX3_of_110 : decode cX3_of 110 = .ok (.aload_n 0, 1) := by decide +kernel
theorem dX3_of_111 : decode cX3_of 111 = .ok (.getfield 10, 3) := by decide +kernel
theorem dX3_of_114 : decode cX3_of 114 = .ok (.getfield 117, 3) := by decide +kernel
theorem dX3_of_117 : decode cX3_of 117 = .ok (.iload_n 1, 1) := by decide +kernel
theorem dX3_of_118 : decode cX3_of 118 = .ok (.iaload, 1) := by decide +kernel
theorem dX3_of_119 : decode cX3_of 119 = .ok (.ireturn, 1) := by decide +kernel
theorem dX3_of_120 : decode cX3_of 120 = .ok (.aload_n 0, 1) := by decide +kernel
theorem dX3_of_121 : decode cX3_of 121 = .ok (.getfield 10, 3) := by decide +kernel
theorem dX3_of_124 : decode cX3_of 124 = .ok (.getfield 120, 3) := by decide +kernel
theorem dX3_of_127 : decode cX3_of 127 = .ok (.iload_n 1, 1) := by decide +kernel
theorem dX3_of_128 : decode cX3_of 128 = .ok (.iaload, 1) := by decide +kernel
theorem dX3_of_129 : decode cX3_of 129 = .ok (.ireturn, 1) := by decide +kernel
theorem dX3_of_130 : decode cX3_of 130 = .ok (.aload_n 0, 1) := by decide +kernel
theorem dX3_of_131 : decode cX3_of 131 = .ok (.ldc 48, 2) := by decide +kernel
theorem dX3_of_133 : decode cX3_of 133 = .ok (.invokevirtual 49, 3) := by decide +kernel
theorem dX3_of_136 : decode cX3_of 136 = .ok (.ireturn, 1) := by decide +kernel
theorem dX3_change_0 : decode cX3_change 0 = .ok (.aload_n 0, 1) := by decide +kernel
theorem dX3_change_1 : decode cX3_change 1 = .ok (.getfield 10, 3) := by decide +kernel
theorem dX3_change_4 : decode cX3_change 4 = .ok (.iload_n 1, 1) := by decide +kernel
theorem dX3_change_5 : decode cX3_change 5 = .ok (.invokevirtual 99, 3) := by decide +kernel
theorem dX3_change_8 : decode cX3_change 8 = .ok (.ifCond .ne 10, 3) := by decide +kernel
theorem dX3_change_11 : decode cX3_change 11 = .ok (.aload_n 0, 1) := by decide +kernel
theorem dX3_change_12 : decode cX3_change 12 = .ok (.ldc 48, 2) := by decide +kernel
theorem dX3_change_14 : decode cX3_change 14 = .ok (.invokevirtual 49, 3) := by decide +kernel
theorem dX3_change_17 : decode cX3_change 17 = .ok (.ireturn, 1) := by decide +kernel
theorem dX3_change_18 : decode cX3_change 18 = .ok (.iload_n 2, 1) := by decide +kernel
theorem dX3_change_19 : decode cX3_change 19 = .ok (.tableswitch 97 0 4 #[33, 97, 49, 65, 80], 33) := by decide +kernel
theorem dX3_change_52 : decode cX3_change 52 = .ok (.aload_n 0, 1) := by decide +kernel
theorem dX3_change_53 : decode cX3_change 53 = .ok (.aload_n 0, 1) := by decide +kernel
theorem dX3_change_54 : decode cX3_change 54 = .ok (.getfield 10, 3) := by decide +kernel
theorem dX3_change_57 : decode cX3_change 57 = .ok (.getfield 102, 3) := by decide +kernel
theorem dX3_change_60 : decode cX3_change 60 = .ok (.iload_n 1, 1) := by decide +kernel
theorem dX3_change_61 : decode cX3_change 61 = .ok (.iload_n 3, 1) := by decide +kernel
theorem dX3_change_62 : decode cX3_change 62 = .ok (.bipush 6, 2) := by decide +kernel
theorem dX3_change_64 : decode cX3_change 64 = .ok (.invokevirtual 123, 3) := by decide +kernel
theorem dX3_change_67 : decode cX3_change 67 = .ok (.ireturn, 1) := by decide +kernel
theorem dX3_change_68 : decode cX3_change 68 = .ok (.aload_n 0, 1) := by decide +kernel
theorem dX3_change_69 : decode cX3_change 69 = .ok (.aload_n 0, 1) := by decide +kernel
theorem dX3_change_70 : decode cX3_change 70 = .ok (.getfield 10, 3) := by decide +kernel
theorem dX3_change_73 : decode cX3_change 73 = .ok (.getfield 108, 3) := by decide +kernel
theorem dX3_change_76 : decode cX3_change 76 = .ok (.iload_n 1, 1) := by decide +kernel
theorem dX3_change_77 : decode cX3_change 77 = .ok (.iload_n 3, 1) := by decide +kernel
theorem dX3_change_78 : decode cX3_change 78 = .ok (.bipush 99, 2) := by decide +kernel
theorem dX3_change_80 : decode cX3_change 80 = .ok (.invokevirtual 123, 3) := by decide +kernel
theorem dX3_change_83 : decode cX3_change 83 = .ok (.ireturn, 1) := by decide +kernel
theorem dX3_change_84 : decode cX3_change 84 = .ok (.aload_n 0, 1) := by decide +kernel
theorem dX3_change_85 : decode cX3_change 85 = .ok (.aload_n 0, 1) := by decide +kernel
theorem dX3_change_86 : decode cX3_change 86 = .ok (.getfield 10, 3) := by decide +kernel
theorem dX3_change_89 : decode cX3_change 89 = .ok (.getfield 111, 3) := by decide +kernel
theorem dX3_change_92 : decode cX3_change 92 = .ok (.iload_n 1, 1) := by decide +kernel
theorem dX3_change_93 : decode cX3_change 93 = .ok (.iload_n 3, 1) := by decide +kernel
theorem dX3_change_94 : decode cX3_change 94 = .ok (.iconst 3, 1) := by decide +kernel
theorem dX3_change_95 : decode cX3_change 95 = .ok (.invokevirtual 123, 3) := by decide +kernel
theorem dX3_change_98 : decode cX3_change 98 = .ok (.ireturn, 1) := by decide +kernel
theorem dX3_change_99 : decode cX3_change 99 = .ok (.aload_n 0, 1) := by decide +kernel
theorem dX3_change_100 : decode cX3_change 100 = .ok (.aload_n 0, 1) := by decide +kernel
theorem dX3_change_101 : decode cX3_change 101 = .ok (.getfield 10, 3) := by decide +kernel
theorem dX3_change_104 : decode cX3_change 104 = .ok (.getfield 114, 3) := by decide +kernel
theorem dX3_change_107 : decode cX3_change 107 = .ok (.iload_n 1, 1) := by decide +kernel
theorem dX3_change_108 : decode cX3_change 108 = .ok (.iload_n 3, 1) := by decide +kernel
theorem dX3_change_109 : decode cX3_change 109 = .ok (.sipush 9999, 3) := by decide +kernel
theorem dX3_change_112 : decode cX3_change 112 = .ok (.invokevirtual 123, 3) := by decide +kernel
theorem dX3_change_115 : decode cX3_change 115 = .ok (.ireturn, 1) := by decide +kernel
theorem dX3_change_116 : decode cX3_change 116 = .ok (.aload_n 0, 1) := by decide +kernel
theorem dX3_change_117 : decode cX3_change 117 = .ok (.ldc 48, 2) := by decide +kernel
theorem dX3_change_119 : decode cX3_change 119 = .ok (.invokevirtual 49, 3) := by decide +kernel
theorem dX3_change_122 : decode cX3_change 122 = .ok (.ireturn, 1) := by decide +kernel
theorem dX3_replaced_0 : decode cX3_replaced 0 = .ok (.iload_n 3, 1) := by decide +kernel
theorem dX3_replaced_1 : decode cX3_replaced 1 = .ok (.iconst 0, 1) := by decide +kernel
theorem dX3_replaced_2 : decode cX3_replaced 2 = .ok (.iload 4, 2) := by decide +kernel
theorem dX3_replaced_4 : decode cX3_replaced 4 = .ok (.invokestatic 44, 3) := by decide +kernel
theorem dX3_replaced_7 : decode cX3_replaced 7 = .ok (.ifCond .ne 10, 3) := by decide +kernel
theorem dX3_replaced_10 : decode cX3_replaced 10 = .ok (.aload_n 0, 1) := by decide +kernel
theorem dX3_replaced_11 : decode cX3_replaced 11 = .ok (.ldc 48, 2) := by decide +kernel
theorem dX3_replaced_13 : decode cX3_replaced 13 = .ok (.invokevirtual 49, 3) := by decide +kernel
theorem dX3_replaced_16 : decode cX3_replaced 16 = .ok (.ireturn, 1) := by decide +kernel
theorem dX3_replaced_17 : decode cX3_replaced 17 = .ok (.aload_n 1, 1) := by decide +kernel
theorem dX3_replaced_18 : decode cX3_replaced 18 = .ok (.iload_n 2, 1) := by decide +kernel
theorem dX3_replaced_19 : decode cX3_replaced 19 = .ok (.iaload, 1) := by decide +kernel
theorem dX3_replaced_20 : decode cX3_replaced 20 = .ok (.istore 5, 2) := by decide +kernel
theorem dX3_replaced_22 : decode cX3_replaced 22 = .ok (.aload_n 1, 1) := by decide +kernel
theorem dX3_replaced_23 : decode cX3_replaced 23 = .ok (.iload_n 2, 1) := by decide +kernel
theorem dX3_replaced_24 : decode cX3_replaced 24 = .ok (.iload_n 3, 1) := by decide +kernel
theorem dX3_replaced_25 : decode cX3_replaced 25 = .ok (.iastore, 1) := by decide +kernel
theorem dX3_replaced_26 : decode cX3_replaced 26 = .ok (.iload 5, 2) := by decide +kernel
theorem dX3_replaced_28 : decode cX3_replaced 28 = .ok (.ireturn, 1) := by decide +kernel
theorem dX3_grudge_0 : decode cX3_grudge 0 = .ok (.aload_n 0, 1) := by decide +kernel
theorem dX3_grudge_1 : decode cX3_grudge 1 = .ok (.getfield 10, 3) := by decide +kernel
theorem dX3_grudge_4 : decode cX3_grudge 4 = .ok (.iload_n 1, 1) := by decide +kernel
theorem dX3_grudge_5 : decode cX3_grudge 5 = .ok (.invokevirtual 99, 3) := by decide +kernel
theorem dX3_grudge_8 : decode cX3_grudge 8 = .ok (.ifCond .eq 19, 3) := by decide +kernel
theorem dX3_grudge_11 : decode cX3_grudge 11 = .ok (.aload_n 0, 1) := by decide +kernel
theorem dX3_grudge_12 : decode cX3_grudge 12 = .ok (.getfield 10, 3) := by decide +kernel
theorem dX3_grudge_15 : decode cX3_grudge 15 = .ok (.iload_n 2, 1) := by decide +kernel
theorem dX3_grudge_16 : decode cX3_grudge 16 = .ok (.invokevirtual 127, 3) := by decide +kernel
theorem dX3_grudge_19 : decode cX3_grudge 19 = .ok (.ifCond .eq 8, 3) := by decide +kernel
theorem dX3_grudge_22 : decode cX3_grudge 22 = .ok (.iload_n 1, 1) := by decide +kernel
theorem dX3_grudge_23 : decode cX3_grudge 23 = .ok (.iload_n 2, 1) := by decide +kernel
theorem dX3_grudge_24 : decode cX3_grudge 24 = .ok (.if_icmp .ne 10, 3) := by decide +kernel
theorem dX3_grudge_27 : decode cX3_grudge 27 = .ok (.aload_n 0, 1) := by decide +kernel
theorem dX3_grudge_28 : decode cX3_grudge 28 = .ok (.ldc 48, 2) := by decide +kernel
theorem dX3_grudge_30 : decode cX3_grudge 30 = .ok (.invokevirtual 49, 3) := by decide +kernel
theorem dX3_grudge_33 : decode cX3_grudge 33 = .ok (.ireturn, 1) := by decide +kernel
theorem dX3_grudge_34 : decode cX3_grudge 34 = .ok (.aload_n 0, 1) := by decide +kernel
theorem dX3_grudge_35 : decode cX3_grudge 35 = .ok (.getfield 10, 3) := by decide +kernel
theorem dX3_grudge_38 : decode cX3_grudge 38 = .ok (.getfield 117, 3) := by decide +kernel
theorem dX3_grudge_41 : decode cX3_grudge 41 = .ok (.iload_n 1, 1) := by decide +kernel
theorem dX3_grudge_42 : decode cX3_grudge 42 = .ok (.iaload, 1) := by decide +kernel
theorem dX3_grudge_43 : decode cX3_grudge 43 = .ok (.istore_n 3, 1) := by decide +kernel
theorem dX3_grudge_44 : decode cX3_grudge 44 = .ok (.aload_n 0, 1) := by decide +kernel
theorem dX3_grudge_45 : decode cX3_grudge 45 = .ok (.getfield 10, 3) := by decide +kernel
theorem dX3_grudge_48 : decode cX3_grudge 48 = .ok (.iload_n 1, 1) := by decide +kernel
theorem dX3_grudge_49 : decode cX3_grudge 49 = .ok (.iload_n 2, 1) := by decide +kernel
theorem dX3_grudge_50 : decode cX3_grudge 50 = .ok (.invokevirtual 130, 3) := by decide +kernel
theorem dX3_grudge_53 : decode cX3_grudge 53 = .ok (.iload_n 3, 1) := by decide +kernel
theorem dX3_grudge_54 : decode cX3_grudge 54 = .ok (.ireturn, 1) := by decide +kernel
theorem dX3_put_0 : decode cX3_put 0 = .ok (.aload_n 0, 1) := by decide +kernel
theorem dX3_put_1 : decode cX3_put 1 = .ok (.getfield 10, 3) := by decide +kernel
theorem dX3_put_4 : decode cX3_put 4 = .ok (.iload_n 1, 1) := by decide +kernel
theorem dX3_put_5 : decode cX3_put 5 = .ok (.invokevirtual 99, 3) := by decide +kernel
theorem dX3_put_8 : decode cX3_put 8 = .ok (.ifCond .eq 13, 3) := by decide +kernel
theorem dX3_put_11 : decode cX3_put 11 = .ok (.iload_n 2, 1) := by decide +kernel
theorem dX3_put_12 : decode cX3_put 12 = .ok (.iconst (-1), 1) := by decide +kernel
theorem dX3_put_13 : decode cX3_put 13 = .ok (.bipush 7, 2) := by decide +kernel
theorem dX3_put_15 : decode cX3_put 15 = .ok (.invokestatic 44, 3) := by decide +kernel
theorem dX3_put_18 : decode cX3_put 18 = .ok (.ifCond .ne 10, 3) := by decide +kernel
theorem dX3_put_21 : decode cX3_put 21 = .ok (.aload_n 0, 1) := by decide +kernel
theorem dX3_put_22 : decode cX3_put 22 = .ok (.ldc 48, 2) := by decide +kernel
theorem dX3_put_24 : decode cX3_put 24 = .ok (.invokevirtual 49, 3) := by decide +kernel
theorem dX3_put_27 : decode cX3_put 27 = .ok (.ireturn, 1) := by decide +kernel
theorem dX3_put_28 : decode cX3_put 28 = .ok (.aload_n 0, 1) := by decide +kernel
theorem dX3_put_29 : decode cX3_put 29 = .ok (.getfield 10, 3) := by decide +kernel
theorem dX3_put_32 : decode cX3_put 32 = .ok (.getfield 105, 3) := by decide +kernel
theorem dX3_put_35 : decode cX3_put 35 = .ok (.iload_n 1, 1) := by decide +kernel
theorem dX3_put_36 : decode cX3_put 36 = .ok (.iaload, 1) := by decide +kernel
theorem dX3_put_37 : decode cX3_put 37 = .ok (.istore_n 3, 1) := by decide +kernel
theorem dX3_put_38 : decode cX3_put 38 = .ok (.iload_n 2, 1) := by decide +kernel
theorem dX3_put_39 : decode cX3_put 39 = .ok (.iconst (-1), 1) := by decide +kernel
theorem dX3_put_40 : decode cX3_put 40 = .ok (.if_icmp .eq 7, 3) := by decide +kernel
theorem dX3_put_43 : decode cX3_put 43 = .ok (.iconst 1, 1) := by decide +kernel
theorem dX3_put_44 : decode cX3_put 44 = .ok (.goto 4, 3) := by decide +kernel
theorem dX3_put_47 : decode cX3_put 47 = .ok (.iconst 0, 1) := by decide +kernel
theorem dX3_put_48 : decode cX3_put 48 = .ok (.istore 4, 2) := by decide +kernel
theorem dX3_put_50 : decode cX3_put 50 = .ok (.iload_n 3, 1) := by decide +kernel
theorem dX3_put_51 : decode cX3_put 51 = .ok (.iconst (-1), 1) := by decide +kernel
theorem dX3_put_52 : decode cX3_put 52 = .ok (.if_icmp .ne 7, 3) := by decide +kernel
theorem dX3_put_55 : decode cX3_put 55 = .ok (.iconst 1, 1) := by decide +kernel
theorem dX3_put_56 : decode cX3_put 56 = .ok (.goto 4, 3) := by decide +kernel
theorem dX3_put_59 : decode cX3_put 59 = .ok (.iconst 0, 1) := by decide +kernel
theorem dX3_put_60 : decode cX3_put 60 = .ok (.istore 5, 2) := by decide +kernel
theorem dX3_put_62 : decode cX3_put 62 = .ok (.iload 4, 2) := by decide +kernel
theorem dX3_put_64 : decode cX3_put 64 = .ok (.iload 5, 2) := by decide +kernel
theorem dX3_put_66 : decode cX3_put 66 = .ok (.if_icmp .ne 19, 3) := by decide +kernel
theorem dX3_put_69 : decode cX3_put 69 = .ok (.iload 4, 2) := by decide +kernel
theorem dX3_put_71 : decode cX3_put 71 = .ok (.ifCond .eq 21, 3) := by decide +kernel
theorem dX3_put_74 : decode cX3_put 74 = .ok (.aload_n 0, 1) := by decide +kernel
theorem dX3_put_75 : decode cX3_put 75 = .ok (.getfield 10, 3) := by decide +kernel
theorem dX3_put_78 : decode cX3_put 78 = .ok (.iload_n 2, 1) := by decide +kernel
theorem dX3_put_79 : decode cX3_put 79 = .ok (.invokevirtual 87, 3) := by decide +kernel
theorem dX3_put_82 : decode cX3_put 82 = .ok (.ifCond .ne 10, 3) := by decide +kernel
theorem dX3_put_85 : decode cX3_put 85 = .ok (.aload_n 0, 1) := by decide +kernel
theorem dX3_put_86 : decode cX3_put 86 = .ok (.ldc 56, 2) := by decide +kernel
theorem dX3_put_88 : decode cX3_put 88 = .ok (.invokevirtual 49, 3) := by decide +kernel
theorem dX3_put_91 : decode cX3_put 91 = .ok (.ireturn, 1) := by decide +kernel
theorem dX3_put_92 : decode cX3_put 92 = .ok (.aload_n 0, 1) := by decide +kernel
theorem dX3_put_93 : decode cX3_put 93 = .ok (.getfield 10, 3) := by decide +kernel
theorem dX3_put_96 : decode cX3_put 96 = .ok (.iload_n 1, 1) := by decide +kernel
theorem dX3_put_97 : decode cX3_put 97 = .ok (.iload_n 2, 1) := by decide +kernel
theorem dX3_put_98 : decode cX3_put 98 = .ok (.invokevirtual 134, 3) := by decide +kernel
theorem dX3_put_101 : decode cX3_put 101 = .ok (.iload_n 3, 1) := by decide +kernel
theorem dX3_put_102 : decode cX3_put 102 = .ok (.ireturn, 1) := by decide +kernel
theorem dX3_gift_0 : decode cX3_gift 0 = .ok (.aload_n 0, 1) := by decide +kernel
theorem dX3_gift_1 : decode cX3_gift 1 = .ok (.getfield 10, 3) := by decide +kernel
theorem dX3_gift_4 : decode cX3_gift 4 = .ok (.iload_n 1, 1) := by decide +kernel
theorem dX3_gift_5 : decode cX3_gift 5 = .ok (.invokevirtual 99, 3) := by decide +kernel
theorem dX3_gift_8 : decode cX3_gift 8 = .ok (.ifCond .eq 14, 3) := by decide +kernel
theorem dX3_gift_11 : decode cX3_gift 11 = .ok (.iload_n 2, 1) := by decide +kernel
theorem dX3_gift_12 : decode cX3_gift 12 = .ok (.iconst 1, 1) := by decide +kernel
theorem dX3_gift_13 : decode cX3_gift 13 = .ok (.sipush 9999, 3) := by decide +kernel
theorem dX3_gift_16 : decode cX3_gift 16 = .ok (.invokestatic 44, 3) := by decide +kernel
theorem dX3_gift_19 : decode cX3_gift 19 = .ok (.ifCond .ne 10, 3) := by decide +kernel
theorem dX3_gift_22 : decode cX3_gift 22 = .ok (.aload_n 0, 1) := by decide +kernel
theorem dX3_gift_23 : decode cX3_gift 23 = .ok (.ldc 48, 2) := by decide +kernel
theorem dX3_gift_25 : decode cX3_gift 25 = .ok (.invokevirtual 49, 3) := by decide +kernel
theorem dX3_gift_28 : decode cX3_gift 28 = .ok (.ireturn, 1) := by decide +kernel
theorem dX3_gift_29 : decode cX3_gift 29 = .ok (.aload_n 0, 1) := by decide +kernel
theorem dX3_gift_30 : decode cX3_gift 30 = .ok (.getfield 10, 3) := by decide +kernel
theorem dX3_gift_33 : decode cX3_gift 33 = .ok (.iload_n 1, 1) := by decide +kernel
theorem dX3_gift_34 : decode cX3_gift 34 = .ok (.iload_n 2, 1) := by decide +kernel
theorem dX3_gift_35 : decode cX3_gift 35 = .ok (.invokevirtual 137, 3) := by decide +kernel
theorem dX3_gift_38 : decode cX3_gift 38 = .ok (.ifCond .ne 10, 3) := by decide +kernel
theorem dX3_gift_41 : decode cX3_gift 41 = .ok (.aload_n 0, 1) := by decide +kernel
theorem dX3_gift_42 : decode cX3_gift 42 = .ok (.ldc 56, 2) := by decide +kernel
theorem dX3_gift_44 : decode cX3_gift 44 = .ok (.invokevirtual 49, 3) := by decide +kernel
theorem dX3_gift_47 : decode cX3_gift 47 = .ok (.ireturn, 1) := by decide +kernel
theorem dX3_gift_48 : decode cX3_gift 48 = .ok (.aload_n 0, 1) := by decide +kernel
theorem dX3_gift_49 : decode cX3_gift 49 = .ok (.getfield 10, 3) := by decide +kernel
theorem dX3_gift_52 : decode cX3_gift 52 = .ok (.iload_n 1, 1) := by decide +kernel
theorem dX3_gift_53 : decode cX3_gift 53 = .ok (.iload_n 2, 1) := by decide +kernel
theorem dX3_gift_54 : decode cX3_gift 54 = .ok (.invokevirtual 141, 3) := by decide +kernel
theorem dX3_gift_57 : decode cX3_gift 57 = .ok (.aload_n 0, 1) := by decide +kernel
theorem dX3_gift_58 : decode cX3_gift 58 = .ok (.getfield 10, 3) := by decide +kernel
theorem dX3_gift_61 : decode cX3_gift 61 = .ok (.getfield 120, 3) := by decide +kernel
theorem dX3_gift_64 : decode cX3_gift 64 = .ok (.iload_n 1, 1) := by decide +kernel
theorem dX3_gift_65 : decode cX3_gift 65 = .ok (.iaload, 1) := by decide +kernel
theorem dX3_gift_66 : decode cX3_gift 66 = .ok (.ireturn, 1) := by decide +kernel
theorem dX3_exchange_0 : decode cX3_exchange 0 = .ok (.aload_n 0, 1) := by decide +kernel
theorem dX3_exchange_1 : decode cX3_exchange 1 = .ok (.getfield 10, 3) := by decide +kernel
theorem dX3_exchange_4 : decode cX3_exchange 4 = .ok (.iload_n 1, 1) := by decide +kernel
theorem dX3_exchange_5 : decode cX3_exchange 5 = .ok (.invokevirtual 99, 3) := by decide +kernel
theorem dX3_exchange_8 : decode cX3_exchange 8 = .ok (.ifCond .eq 19, 3) := by decide +kernel
theorem dX3_exchange_11 : decode cX3_exchange 11 = .ok (.aload_n 0, 1) := by decide +kernel
theorem dX3_exchange_12 : decode cX3_exchange 12 = .ok (.getfield 10, 3) := by decide +kernel
theorem dX3_exchange_15 : decode cX3_exchange 15 = .ok (.iload_n 2, 1) := by decide +kernel
theorem dX3_exchange_16 : decode cX3_exchange 16 = .ok (.invokevirtual 99, 3) := by decide +kernel
theorem dX3_exchange_19 : decode cX3_exchange 19 = .ok (.ifCond .eq 8, 3) := by decide +kernel
theorem dX3_exchange_22 : decode cX3_exchange 22 = .ok (.iload_n 1, 1) := by decide +kernel
theorem dX3_exchange_23 : decode cX3_exchange 23 = .ok (.iload_n 2, 1) := by decide +kernel
theorem dX3_exchange_24 : decode cX3_exchange 24 = .ok (.if_icmp .ne 10, 3) := by decide +kernel
theorem dX3_exchange_27 : decode cX3_exchange 27 = .ok (.aload_n 0, 1) := by decide +kernel
theorem dX3_exchange_28 : decode cX3_exchange 28 = .ok (.ldc 48, 2) := by decide +kernel
theorem dX3_exchange_30 : decode cX3_exchange 30 = .ok (.invokevirtual 49, 3) := by decide +kernel
theorem dX3_exchange_33 : decode cX3_exchange 33 = .ok (.ireturn, 1) := by decide +kernel
theorem dX3_exchange_34 : decode cX3_exchange 34 = .ok (.aload_n 0, 1) := by decide +kernel
theorem dX3_exchange_35 : decode cX3_exchange 35 = .ok (.getfield 10, 3) := by decide +kernel
theorem dX3_exchange_38 : decode cX3_exchange 38 = .ok (.getfield 105, 3) := by decide +kernel
theorem dX3_exchange_41 : decode cX3_exchange 41 = .ok (.iload_n 1, 1) := by decide +kernel
theorem dX3_exchange_42 : decode cX3_exchange 42 = .ok (.iaload, 1) := by decide +kernel
theorem dX3_exchange_43 : decode cX3_exchange 43 = .ok (.istore_n 3, 1) := by decide +kernel
theorem dX3_exchange_44 : decode cX3_exchange 44 = .ok (.aload_n 0, 1) := by decide +kernel
theorem dX3_exchange_45 : decode cX3_exchange 45 = .ok (.getfield 10, 3) := by decide +kernel
theorem dX3_exchange_48 : decode cX3_exchange 48 = .ok (.getfield 105, 3) := by decide +kernel
theorem dX3_exchange_51 : decode cX3_exchange 51 = .ok (.iload_n 2, 1) := by decide +kernel
theorem dX3_exchange_52 : decode cX3_exchange 52 = .ok (.iaload, 1) := by decide +kernel
theorem dX3_exchange_53 : decode cX3_exchange 53 = .ok (.istore 4, 2) := by decide +kernel
theorem dX3_exchange_55 : decode cX3_exchange 55 = .ok (.iload_n 3, 1) := by decide +kernel
theorem dX3_exchange_56 : decode cX3_exchange 56 = .ok (.iconst (-1), 1) := by decide +kernel
theorem dX3_exchange_57 : decode cX3_exchange 57 = .ok (.if_icmp .eq 9, 3) := by decide +kernel
theorem dX3_exchange_60 : decode cX3_exchange 60 = .ok (.iload 4, 2) := by decide +kernel
theorem dX3_exchange_62 : decode cX3_exchange 62 = .ok (.iconst (-1), 1) := by decide +kernel
theorem dX3_exchange_63 : decode cX3_exchange 63 = .ok (.if_icmp .ne 10, 3) := by decide +kernel
theorem dX3_exchange_66 : decode cX3_exchange 66 = .ok (.aload_n 0, 1) := by decide +kernel
theorem dX3_exchange_67 : decode cX3_exchange 67 = .ok (.ldc 56, 2) := by decide +kernel
theorem dX3_exchange_69 : decode cX3_exchange 69 = .ok (.invokevirtual 49, 3) := by decide +kernel
theorem dX3_exchange_72 : decode cX3_exchange 72 = .ok (.ireturn, 1) := by decide +kernel
theorem dX3_exchange_73 : decode cX3_exchange 73 = .ok (.aload_n 0, 1) := by decide +kernel
theorem dX3_exchange_74 : decode cX3_exchange 74 = .ok (.getfield 10, 3) := by decide +kernel
theorem dX3_exchange_77 : decode cX3_exchange 77 = .ok (.iload_n 1, 1) := by decide +kernel
theorem dX3_exchange_78 : decode cX3_exchange 78 = .ok (.iload 4, 2) := by decide +kernel
theorem dX3_exchange_80 : decode cX3_exchange 80 = .ok (.invokevirtual 134, 3) := by decide +kernel
theorem dX3_exchange_83 : decode cX3_exchange 83 = .ok (.aload_n 0, 1) := by decide +kernel
theorem dX3_exchange_84 : decode cX3_exchange 84 = .ok (.getfield 10, 3) := by decide +kernel
theorem dX3_exchange_87 : decode cX3_exchange 87 = .ok (.iload_n 2, 1) := by decide +kernel
theorem dX3_exchange_88 : decode cX3_exchange 88 = .ok (.iload_n 3, 1) := by decide +kernel
theorem dX3_exchange_89 : decode cX3_exchange 89 = .ok (.invokevirtual 134, 3) := by decide +kernel
theorem dX3_exchange_92 : decode cX3_exchange 92 = .ok (.iconst 1, 1) := by decide +kernel
theorem dX3_exchange_93 : decode cX3_exchange 93 = .ok (.ireturn, 1) := by decide +kernel
theorem dX3_wants_0 : decode cX3_wants 0 = .ok (.aload_n 0, 1) := by decide +kernel
theorem dX3_wants_1 : decode cX3_wants 1 = .ok (.getfield 10, 3) := by decide +kernel
theorem dX3_wants_4 : decode cX3_wants 4 = .ok (.iload_n 1, 1) := by decide +kernel
theorem dX3_wants_5 : decode cX3_wants 5 = .ok (.invokevirtual 99, 3) := by decide +kernel
theorem dX3_wants_8 : decode cX3_wants 8 = .ok (.ifCond .eq 19, 3) := by decide +kernel
theorem dX3_wants_11 : decode cX3_wants 11 = .ok (.aload_n 0, 1) := by decide +kernel
theorem dX3_wants_12 : decode cX3_wants 12 = .ok (.getfield 10, 3) := by decide +kernel
theorem dX3_wants_15 : decode cX3_wants 15 = .ok (.iload_n 2, 1) := by decide +kernel
theorem dX3_wants_16 : decode cX3_wants 16 = .ok (.invokevirtual 99, 3) := by decide +kernel
theorem dX3_wants_19 : decode cX3_wants 19 = .ok (.ifCond .eq 8, 3) := by decide +kernel
theorem dX3_wants_22 : decode cX3_wants 22 = .ok (.iload_n 1, 1) := by decide +kernel
theorem dX3_wants_23 : decode cX3_wants 23 = .ok (.iload_n 2, 1) := by decide +kernel
theorem dX3_wants_24 : decode cX3_wants 24 = .ok (.if_icmp .ne 10, 3) := by decide +kernel
theorem dX3_wants_27 : decode cX3_wants 27 = .ok (.aload_n 0, 1) := by decide +kernel
theorem dX3_wants_28 : decode cX3_wants 28 = .ok (.ldc 48, 2) := by decide +kernel
theorem dX3_wants_30 : decode cX3_wants 30 = .ok (.invokevirtual 49, 3) := by decide +kernel
theorem dX3_wants_33 : decode cX3_wants 33 = .ok (.ireturn, 1) := by decide +kernel
theorem dX3_wants_34 : decode cX3_wants 34 = .ok (.aload_n 0, 1) := by decide +kernel
theorem dX3_wants_35 : decode cX3_wants 35 = .ok (.getfield 10, 3) := by decide +kernel
theorem dX3_wants_38 : decode cX3_wants 38 = .ok (.iload_n 1, 1) := by decide +kernel
theorem dX3_wants_39 : decode cX3_wants 39 = .ok (.iload_n 2, 1) := by decide +kernel
theorem dX3_wants_40 : decode cX3_wants 40 = .ok (.invokevirtual 144, 3) := by decide +kernel
theorem dX3_wants_43 : decode cX3_wants 43 = .ok (.ifCond .eq 7, 3) := by decide +kernel
theorem dX3_wants_46 : decode cX3_wants 46 = .ok (.iconst 1, 1) := by decide +kernel
theorem dX3_wants_47 : decode cX3_wants 47 = .ok (.goto 4, 3) := by decide +kernel
theorem dX3_wants_50 : decode cX3_wants 50 = .ok (.iconst 0, 1) := by decide +kernel
theorem dX3_wants_51 : decode cX3_wants 51 = .ok (.ireturn, 1) := by decide +kernel
theorem dX3_against_0 : decode cX3_against 0 = .ok (.aload_n 0, 1) := by decide +kernel
theorem dX3_against_1 : decode cX3_against 1 = .ok (.getfield 10, 3) := by decide +kernel
theorem dX3_against_4 : decode cX3_against 4 = .ok (.iload_n 1, 1) := by decide +kernel
theorem dX3_against_5 : decode cX3_against 5 = .ok (.invokevirtual 99, 3) := by decide +kernel
theorem dX3_against_8 : decode cX3_against 8 = .ok (.ifCond .ne 10, 3) := by decide +kernel
theorem dX3_against_11 : decode cX3_against 11 = .ok (.aload_n 0, 1) := by decide +kernel
theorem dX3_against_12 : decode cX3_against 12 = .ok (.ldc 48, 2) := by decide +kernel
theorem dX3_against_14 : decode cX3_against 14 = .ok (.invokevirtual 49, 3) := by decide +kernel
theorem dX3_against_17 : decode cX3_against 17 = .ok (.ireturn, 1) := by decide +kernel
theorem dX3_against_18 : decode cX3_against 18 = .ok (.aload_n 0, 1) := by decide +kernel
theorem dX3_against_19 : decode cX3_against 19 = .ok (.getfield 10, 3) := by decide +kernel
theorem dX3_against_22 : decode cX3_against 22 = .ok (.getfield 105, 3) := by decide +kernel
theorem dX3_against_25 : decode cX3_against 25 = .ok (.iload_n 1, 1) := by decide +kernel
theorem dX3_against_26 : decode cX3_against 26 = .ok (.iaload, 1) := by decide +kernel
theorem dX3_against_27 : decode cX3_against 27 = .ok (.iconst (-1), 1) := by decide +kernel
theorem dX3_against_28 : decode cX3_against 28 = .ok (.if_icmp .ne 10, 3) := by decide +kernel
theorem dX3_against_31 : decode cX3_against 31 = .ok (.aload_n 0, 1) := by decide +kernel
theorem dX3_against_32 : decode cX3_against 32 = .ok (.ldc 56, 2) := by decide +kernel
theorem dX3_against_34 : decode cX3_against 34 = .ok (.invokevirtual 49, 3) := by decide +kernel
theorem dX3_against_37 : decode cX3_against 37 = .ok (.ireturn, 1) := by decide +kernel
theorem dX3_against_38 : decode cX3_against 38 = .ok (.aload_n 0, 1) := by decide +kernel
theorem dX3_against_39 : decode cX3_against 39 = .ok (.getfield 10, 3) := by decide +kernel
theorem dX3_against_42 : decode cX3_against 42 = .ok (.aload_n 0, 1) := by decide +kernel
theorem dX3_against_43 : decode cX3_against 43 = .ok (.getfield 10, 3) := by decide +kernel
theorem dX3_against_46 : decode cX3_against 46 = .ok (.iload_n 1, 1) := by decide +kernel
theorem dX3_against_47 : decode cX3_against 47 = .ok (.aload_n 0, 1) := by decide +kernel
theorem dX3_against_48 : decode cX3_against 48 = .ok (.getfield 10, 3) := by decide +kernel
theorem dX3_against_51 : decode cX3_against 51 = .ok (.invokevirtual 63, 3) := by decide +kernel
theorem dX3_against_54 : decode cX3_against 54 = .ok (.invokevirtual 147, 3) := by decide +kernel
theorem dX3_against_57 : decode cX3_against 57 = .ok (.iload_n 1, 1) := by decide +kernel
theorem dX3_against_58 : decode cX3_against 58 = .ok (.invokevirtual 150, 3) := by decide +kernel
theorem dX3_against_61 : decode cX3_against 61 = .ok (.ireturn, 1) := by decide +kernel
theorem dX3_lacks_0 : decode cX3_lacks 0 = .ok (.aload_n 0, 1) := by decide +kernel
theorem dX3_lacks_1 : decode cX3_lacks 1 = .ok (.getfield 10, 3) := by decide +kernel
theorem dX3_lacks_4 : decode cX3_lacks 4 = .ok (.iload_n 1, 1) := by decide +kernel
theorem dX3_lacks_5 : decode cX3_lacks 5 = .ok (.invokevirtual 99, 3) := by decide +kernel
theorem dX3_lacks_8 : decode cX3_lacks 8 = .ok (.ifCond .ne 10, 3) := by decide +kernel
theorem dX3_lacks_11 : decode cX3_lacks 11 = .ok (.aload_n 0, 1) := by decide +kernel
theorem dX3_lacks_12 : decode cX3_lacks 12 = .ok (.ldc 48, 2) := by decide +kernel
theorem dX3_lacks_14 : decode cX3_lacks 14 = .ok (.invokevirtual 49, 3) := by decide +kernel
theorem dX3_lacks_17 : decode cX3_lacks 17 = .ok (.ireturn, 1) := by decide +kernel
theorem dX3_lacks_18 : decode cX3_lacks 18 = .ok (.aload_n 0, 1) := by decide +kernel
theorem dX3_lacks_19 : decode cX3_lacks 19 = .ok (.getfield 10, 3) := by decide +kernel
theorem dX3_lacks_22 : decode cX3_lacks 22 = .ok (.getfield 105, 3) := by decide +kernel
theorem dX3_lacks_25 : decode cX3_lacks 25 = .ok (.iload_n 1, 1) := by decide +kernel
theorem dX3_lacks_26 : decode cX3_lacks 26 = .ok (.iaload, 1) := by decide +kernel
theorem dX3_lacks_27 : decode cX3_lacks 27 = .ok (.iconst (-1), 1) := by decide +kernel
theorem dX3_lacks_28 : decode cX3_lacks 28 = .ok (.if_icmp .ne 10, 3) := by decide +kernel
theorem dX3_lacks_31 : decode cX3_lacks 31 = .ok (.aload_n 0, 1) := by decide +kernel
theorem dX3_lacks_32 : decode cX3_lacks 32 = .ok (.ldc 56, 2) := by decide +kernel
theorem dX3_lacks_34 : decode cX3_lacks 34 = .ok (.invokevirtual 49, 3) := by decide +kernel
theorem dX3_lacks_37 : decode cX3_lacks 37 = .ok (.ireturn, 1) := by decide +kernel
theorem dX3_lacks_38 : decode cX3_lacks 38 = .ok (.aload_n 0, 1) := by decide +kernel
theorem dX3_lacks_39 : decode cX3_lacks 39 = .ok (.getfield 10, 3) := by decide +kernel
theorem dX3_lacks_42 : decode cX3_lacks 42 = .ok (.iload_n 1, 1) := by decide +kernel
theorem dX3_lacks_43 : decode cX3_lacks 43 = .ok (.aload_n 0, 1) := by decide +kernel
theorem dX3_lacks_44 : decode cX3_lacks 44 = .ok (.getfield 10, 3) := by decide +kernel
theorem dX3_lacks_47 : decode cX3_lacks 47 = .ok (.invokevirtual 63, 3) := by decide +kernel
theorem dX3_lacks_50 : decode cX3_lacks 50 = .ok (.invokevirtual 147, 3) := by decide +kernel
theorem dX3_lacks_53 : decode cX3_lacks 53 = .ok (.istore_n 2, 1) := by decide +kernel
theorem dX3_lacks_54 : decode cX3_lacks 54 = .ok (.iload_n 2, 1) := by decide +kernel
theorem dX3_lacks_55 : decode cX3_lacks 55 = .ok (.invokestatic 67, 3) := by decide +kernel
theorem dX3_lacks_58 : decode cX3_lacks 58 = .ok (.istore_n 3, 1) := by decide +kernel
theorem dX3_lacks_59 : decode cX3_lacks 59 = .ok (.aload_n 0, 1) := by decide +kernel
theorem dX3_lacks_60 : decode cX3_lacks 60 = .ok (.getfield 10, 3) := by decide +kernel
theorem dX3_lacks_63 : decode cX3_lacks 63 = .ok (.iload_n 2, 1) := by decide +kernel
theorem dX3_lacks_64 : decode cX3_lacks 64 = .ok (.iload_n 1, 1) := by decide +kernel
theorem dX3_lacks_65 : decode cX3_lacks 65 = .ok (.invokevirtual 150, 3) := by decide +kernel
theorem dX3_lacks_68 : decode cX3_lacks 68 = .ok (.invokestatic 67, 3) := by decide +kernel
theorem dX3_lacks_71 : decode cX3_lacks 71 = .ok (.istore 4, 2) := by decide +kernel
theorem dX3_lacks_73 : decode cX3_lacks 73 = .ok (.iconst 0, 1) := by decide +kernel
theorem dX3_lacks_74 : decode cX3_lacks 74 = .ok (.istore 5, 2) := by decide +kernel
theorem dX3_lacks_76 : decode cX3_lacks 76 = .ok (.iload 4, 2) := by decide +kernel
theorem dX3_lacks_78 : decode cX3_lacks 78 = .ok (.iload 5, 2) := by decide +kernel
theorem dX3_lacks_80 : decode cX3_lacks 80 = .ok (.iadd, 1) := by decide +kernel
theorem dX3_lacks_81 : decode cX3_lacks 81 = .ok (.iload_n 3, 1) := by decide +kernel
theorem dX3_lacks_82 : decode cX3_lacks 82 = .ok (.if_icmp .gt 28, 3) := by decide +kernel
theorem dX3_lacks_85 : decode cX3_lacks 85 = .ok (.aload_n 0, 1) := by decide +kernel
theorem dX3_lacks_86 : decode cX3_lacks 86 = .ok (.getfield 10, 3) := by decide +kernel
theorem dX3_lacks_89 : decode cX3_lacks 89 = .ok (.iload 4, 2) := by decide +kernel
theorem dX3_lacks_91 : decode cX3_lacks 91 = .ok (.iload 5, 2) := by decide +kernel
theorem dX3_lacks_93 : decode cX3_lacks 93 = .ok (.iadd, 1) := by decide +kernel
theorem dX3_lacks_94 : decode cX3_lacks 94 = .ok (.iload_n 3, 1) := by decide +kernel
theorem dX3_lacks_95 : decode cX3_lacks 95 = .ok (.invokevirtual 153, 3) := by decide +kernel
theorem dX3_lacks_98 : decode cX3_lacks 98 = .ok (.ifCond .eq 6, 3) := by decide +kernel
theorem dX3_lacks_101 : decode cX3_lacks 101 = .ok (.iload 5, 2) := by decide +kernel
theorem dX3_lacks_103 : decode cX3_lacks 103 = .ok (.ireturn, 1) := by decide +kernel
theorem dX3_lacks_104 : decode cX3_lacks 104 = .ok (.iinc 5 1, 3) := by decide +kernel
theorem dX3_lacks_107 : decode cX3_lacks 107 = .ok (.goto (-31), 3) := by decide +kernel
theorem dX3_lacks_110 : decode cX3_lacks 110 = .ok (.aload_n 0, 1) := by decide +kernel
theorem dX3_lacks_111 : decode cX3_lacks 111 = .ok (.ldc 156, 2) := by decide +kernel
theorem dX3_lacks_113 : decode cX3_lacks 113 = .ok (.invokevirtual 49, 3) := by decide +kernel
theorem dX3_lacks_116 : decode cX3_lacks 116 = .ok (.ireturn, 1) := by decide +kernel
theorem dX3_tremble_0 : decode cX3_tremble 0 = .ok (.aload_n 0, 1) := by decide +kernel
theorem dX3_tremble_1 : decode cX3_tremble 1 = .ok (.getfield 10, 3) := by decide +kernel
theorem dX3_tremble_4 : decode cX3_tremble 4 = .ok (.invokevirtual 157, 3) := by decide +kernel
theorem dX3_tremble_7 : decode cX3_tremble 7 = .ok (.ireturn, 1) := by decide +kernel
theorem dX3_heir_0 : decode cX3_heir 0 = .ok (.iload_n 1, 1) := by decide +kernel
theorem dX3_heir_1 : decode cX3_heir 1 = .ok (.iconst 0, 1) := by decide +kernel
theorem dX3_heir_2 : decode cX3_heir 2 = .ok (.bipush 6, 2) := by decide +kernel
theorem dX3_heir_4 : decode cX3_heir 4 = .ok (.invokestatic 44, 3) := by decide +kernel
theorem dX3_heir_7 : decode cX3_heir 7 = .ok (.ifCond .ne 10, 3) := by decide +kernel
theorem dX3_heir_10 : decode cX3_heir 10 = .ok (.aload_n 0, 1) := by decide +kernel
theorem dX3_heir_11 : decode cX3_heir 11 = .ok (.ldc 48, 2) := by decide +kernel
theorem dX3_heir_13 : decode cX3_heir 13 = .ok (.invokevirtual 49, 3) := by decide +kernel
theorem dX3_heir_16 : decode cX3_heir 16 = .ok (.ireturn, 1) := by decide +kernel
theorem dX3_heir_17 : decode cX3_heir 17 = .ok (.aload_n 0, 1) := by decide +kernel
theorem dX3_heir_18 : decode cX3_heir 18 = .ok (.getfield 10, 3) := by decide +kernel
theorem dX3_heir_21 : decode cX3_heir 21 = .ok (.aload_n 0, 1) := by decide +kernel
theorem dX3_heir_22 : decode cX3_heir 22 = .ok (.getfield 10, 3) := by decide +kernel
theorem dX3_heir_25 : decode cX3_heir 25 = .ok (.getfield 60, 3) := by decide +kernel
theorem dX3_heir_28 : decode cX3_heir 28 = .ok (.iload_n 1, 1) := by decide +kernel
theorem dX3_heir_29 : decode cX3_heir 29 = .ok (.iconst 1, 1) := by decide +kernel
theorem dX3_heir_30 : decode cX3_heir 30 = .ok (.iadd, 1) := by decide +kernel
theorem dX3_heir_31 : decode cX3_heir 31 = .ok (.iaload, 1) := by decide +kernel
theorem dX3_heir_32 : decode cX3_heir 32 = .ok (.invokevirtual 160, 3) := by decide +kernel
theorem dX3_heir_35 : decode cX3_heir 35 = .ok (.istore_n 2, 1) := by decide +kernel
theorem dX3_heir_36 : decode cX3_heir 36 = .ok (.iload_n 2, 1) := by decide +kernel
theorem dX3_heir_37 : decode cX3_heir 37 = .ok (.iconst (-1), 1) := by decide +kernel
theorem dX3_heir_38 : decode cX3_heir 38 = .ok (.if_icmp .ne 12, 3) := by decide +kernel
theorem dX3_heir_41 : decode cX3_heir 41 = .ok (.aload_n 0, 1) := by decide +kernel
theorem dX3_heir_42 : decode cX3_heir 42 = .ok (.ldc 156, 2) := by decide +kernel
theorem dX3_heir_44 : decode cX3_heir 44 = .ok (.invokevirtual 49, 3) := by decide +kernel
theorem dX3_heir_47 : decode cX3_heir 47 = .ok (.goto 4, 3) := by decide +kernel
theorem dX3_heir_50 : decode cX3_heir 50 = .ok (.iload_n 2, 1) := by decide +kernel
theorem dX3_heir_51 : decode cX3_heir 51 = .ok (.ireturn, 1) := by decide +kernel
theorem dX3_months_0 : decode cX3_months 0 = .ok (.iload_n 1, 1) := by decide +kernel
theorem dX3_months_1 : decode cX3_months 1 = .ok (.iconst 1, 1) := by decide +kernel
theorem dX3_months_2 : decode cX3_months 2 = .ok (.bipush 60, 2) := by decide +kernel
theorem dX3_months_4 : decode cX3_months 4 = .ok (.invokestatic 44, 3) := by decide +kernel
theorem dX3_months_7 : decode cX3_months 7 = .ok (.ifCond .ne 10, 3) := by decide +kernel
theorem dX3_months_10 : decode cX3_months 10 = .ok (.aload_n 0, 1) := by decide +kernel
theorem dX3_months_11 : decode cX3_months 11 = .ok (.ldc 48, 2) := by decide +kernel
theorem dX3_months_13 : decode cX3_months 13 = .ok (.invokevirtual 49, 3) := by decide +kernel
theorem dX3_months_16 : decode cX3_months 16 = .ok (.ireturn, 1) := by decide +kernel
theorem dX3_months_17 : decode cX3_months 17 = .ok (.aload_n 0, 1) := by decide +kernel
theorem dX3_months_18 : decode cX3_months 18 = .ok (.iload_n 1, 1) := by decide +kernel
theorem dX3_months_19 : decode cX3_months 19 = .ok (.invokevirtual 163, 3) := by decide +kernel
theorem dX3_months_22 : decode cX3_months 22 = .ok (.ifCond .eq 12, 3) := by decide +kernel
theorem dX3_months_25 : decode cX3_months 25 = .ok (.aload_n 0, 1) := by decide +kernel
theorem dX3_months_26 : decode cX3_months 26 = .ok (.ldc 56, 2) := by decide +kernel
theorem dX3_months_28 : decode cX3_months 28 = .ok (.invokevirtual 49, 3) := by decide +kernel
theorem dX3_months_31 : decode cX3_months 31 = .ok (.goto 11, 3) := by decide +kernel
theorem dX3_months_34 : decode cX3_months 34 = .ok (.aload_n 0, 1) := by decide +kernel
theorem dX3_months_35 : decode cX3_months 35 = .ok (.getfield 10, 3) := by decide +kernel
theorem dX3_months_38 : decode cX3_months 38 = .ok (.iload_n 1, 1) := by decide +kernel
theorem dX3_months_39 : decode cX3_months 39 = .ok (.invokevirtual 166, 3) := by decide +kernel
theorem dX3_months_42 : decode cX3_months 42 = .ok (.ireturn, 1) := by decide +kernel
theorem dX3_ahead_0 : decode cX3_ahead 0 = .ok (.iload_n 1, 1) := by decide +kernel
theorem dX3_ahead_1 : decode cX3_ahead 1 = .ok (.iconst 0, 1) := by decide +kernel
theorem dX3_ahead_2 : decode cX3_ahead 2 = .ok (.bipush 120, 2) := by decide +kernel
theorem dX3_ahead_4 : decode cX3_ahead 4 = .ok (.invokestatic 44, 3) := by decide +kernel
theorem dX3_ahead_7 : decode cX3_ahead 7 = .ok (.ifCond .eq 25, 3) := by decide +kernel
theorem dX3_ahead_10 : decode cX3_ahead 10 = .ok (.iload_n 2, 1) := by decide +kernel
theorem dX3_ahead_11 : decode cX3_ahead 11 = .ok (.ifCond .lt 21, 3) := by decide +kernel
theorem dX3_ahead_14 : decode cX3_ahead 14 = .ok (.iload_n 2, 1) := by decide +kernel
theorem dX3_ahead_15 : decode cX3_ahead 15 = .ok (.iconst 4, 1) := by decide +kernel
theorem dX3_ahead_16 : decode cX3_ahead 16 = .ok (.if_icmp .lt 23, 3) := by decide +kernel
theorem dX3_ahead_19 : decode cX3_ahead 19 = .ok (.aload_n 0, 1) := by decide +kernel
theorem dX3_ahead_20 : decode cX3_ahead 20 = .ok (.getfield 10, 3) := by decide +kernel
theorem dX3_ahead_23 : decode cX3_ahead 23 = .ok (.iload_n 2, 1) := by decide +kernel
theorem dX3_ahead_24 : decode cX3_ahead 24 = .ok (.iconst 4, 1) := by decide +kernel
theorem dX3_ahead_25 : decode cX3_ahead 25 = .ok (.isub, 1) := by decide +kernel
theorem dX3_ahead_26 : decode cX3_ahead 26 = .ok (.invokevirtual 99, 3) := by decide +kernel
theorem dX3_ahead_29 : decode cX3_ahead 29 = .ok (.ifCond .ne 10, 3) := by decide +kernel
theorem dX3_ahead_32 : decode cX3_ahead 32 = .ok (.aload_n 0, 1) := by decide +kernel
theorem dX3_ahead_33 : decode cX3_ahead 33 = .ok (.ldc 48, 2) := by decide +kernel
theorem dX3_ahead_35 : decode cX3_ahead 35 = .ok (.invokevirtual 49, 3) := by decide +kernel
theorem dX3_ahead_38 : decode cX3_ahead 38 = .ok (.ireturn, 1) := by decide +kernel
theorem dX3_ahead_39 : decode cX3_ahead 39 = .ok (.aload_n 0, 1) := by decide +kernel
theorem dX3_ahead_40 : decode cX3_ahead 40 = .ok (.iload_n 1, 1) := by decide +kernel
theorem dX3_ahead_41 : decode cX3_ahead 41 = .ok (.invokevirtual 163, 3) := by decide +kernel
theorem dX3_ahead_44 : decode cX3_ahead 44 = .ok (.ifCond .eq 10, 3) := by decide +kernel
theorem dX3_ahead_47 : decode cX3_ahead 47 = .ok (.aload_n 0, 1) := by decide +kernel
theorem dX3_ahead_48 : decode cX3_ahead 48 = .ok (.ldc 56, 2) := by decide +kernel
theorem dX3_ahead_50 : decode cX3_ahead 50 = .ok (.invokevirtual 49, 3) := by decide +kernel
theorem dX3_ahead_53 : decode cX3_ahead 53 = .ok (.ireturn, 1) := by decide +kernel
theorem dX3_ahead_54 : decode cX3_ahead 54 = .ok (.aload_n 0, 1) := by decide +kernel
theorem dX3_ahead_55 : decode cX3_ahead 55 = .ok (.getfield 19, 3) := by decide +kernel
theorem dX3_ahead_58 : decode cX3_ahead 58 = .ok (.aload_n 0, 1) := by decide +kernel
theorem dX3_ahead_59 : decode cX3_ahead 59 = .ok (.getfield 10, 3) := by decide +kernel
theorem dX3_ahead_62 : decode cX3_ahead 62 = .ok (.invokevirtual 169, 3) := by decide +kernel
theorem dX3_ahead_65 : decode cX3_ahead 65 = .ok (.aload_n 0, 1) := by decide +kernel
theorem dX3_ahead_66 : decode cX3_ahead 66 = .ok (.getfield 19, 3) := by decide +kernel
theorem dX3_ahead_69 : decode cX3_ahead 69 = .ok (.iload_n 1, 1) := by decide +kernel
theorem dX3_ahead_70 : decode cX3_ahead 70 = .ok (.invokevirtual 166, 3) := by decide +kernel
theorem dX3_ahead_73 : decode cX3_ahead 73 = .ok (.istore_n 3, 1) := by decide +kernel
theorem dX3_ahead_74 : decode cX3_ahead 74 = .ok (.iload_n 2, 1) := by decide +kernel
theorem dX3_ahead_75 : decode cX3_ahead 75 = .ok (.tableswitch 64 0 3 #[29, 37, 39, 54], 29) := by decide +kernel
theorem dX3_ahead_104 : decode cX3_ahead 104 = .ok (.aload_n 0, 1) := by decide +kernel
theorem dX3_ahead_105 : decode cX3_ahead 105 = .ok (.getfield 19, 3) := by decide +kernel
theorem dX3_ahead_108 : decode cX3_ahead 108 = .ok (.invokevirtual 173, 3) := by decide +kernel
theorem dX3_ahead_111 : decode cX3_ahead 111 = .ok (.ireturn, 1) := by decide +kernel
theorem dX3_ahead_112 : decode cX3_ahead 112 = .ok (.iload_n 3, 1) := by decide +kernel
theorem dX3_ahead_113 : decode cX3_ahead 113 = .ok (.ireturn, 1) := by decide +kernel
theorem dX3_ahead_114 : decode cX3_ahead 114 = .ok (.aload_n 0, 1) := by decide +kernel
theorem dX3_ahead_115 : decode cX3_ahead 115 = .ok (.getfield 19, 3) := by decide +kernel
theorem dX3_ahead_118 : decode cX3_ahead 118 = .ok (.aload_n 0, 1) := by decide +kernel
theorem dX3_ahead_119 : decode cX3_ahead 119 = .ok (.getfield 19, 3) := by decide +kernel
theorem dX3_ahead_122 : decode cX3_ahead 122 = .ok (.invokevirtual 176, 3) := by decide +kernel
theorem dX3_ahead_125 : decode cX3_ahead 125 = .ok (.invokevirtual 72, 3) := by decide +kernel
theorem dX3_ahead_128 : decode cX3_ahead 128 = .ok (.ireturn, 1) := by decide +kernel
theorem dX3_ahead_129 : decode cX3_ahead 129 = .ok (.aload_n 0, 1) := by decide +kernel
theorem dX3_ahead_130 : decode cX3_ahead 130 = .ok (.getfield 19, 3) := by decide +kernel
theorem dX3_ahead_133 : decode cX3_ahead 133 = .ok (.getfield 60, 3) := by decide +kernel
theorem dX3_ahead_136 : decode cX3_ahead 136 = .ok (.iconst 0, 1) := by decide +kernel
theorem dX3_ahead_137 : decode cX3_ahead 137 = .ok (.iaload, 1) := by decide +kernel
theorem dX3_ahead_138 : decode cX3_ahead 138 = .ok (.ireturn, 1) := by decide +kernel
theorem dX3_ahead_139 : decode cX3_ahead 139 = .ok (.aload_n 0, 1) := by decide +kernel
theorem dX3_ahead_140 : decode cX3_ahead 140 = .ok (.getfield 19, 3) := by decide +kernel
theorem dX3_ahead_143 : decode cX3_ahead 143 = .ok (.getfield 105, 3) := by decide +kernel
theorem dX3_ahead_146 : decode cX3_ahead 146 = .ok (.iload_n 2, 1) := by decide +kernel
theorem dX3_ahead_147 : decode cX3_ahead 147 = .ok (.iconst 4, 1) := by decide +kernel
theorem dX3_ahead_148 : decode cX3_ahead 148 = .ok (.isub, 1) := by decide +kernel
theorem dX3_ahead_149 : decode cX3_ahead 149 = .ok (.iaload, 1) := by decide +kernel
theorem dX3_ahead_150 : decode cX3_ahead 150 = .ok (.ireturn, 1) := by decide +kernel
theorem dX3_sits_0 : decode cX3_sits 0 = .ok (.aload_n 0, 1) := by decide +kernel
theorem dX3_sits_1 : decode cX3_sits 1 = .ok (.getfield 10, 3) := by decide +kernel
theorem dX3_sits_4 : decode cX3_sits 4 = .ok (.iload_n 1, 1) := by decide +kernel
theorem dX3_sits_5 : decode cX3_sits 5 = .ok (.invokevirtual 99, 3) := by decide +kernel
theorem dX3_sits_8 : decode cX3_sits 8 = .ok (.ifCond .ne 10, 3) := by decide +kernel
theorem dX3_sits_11 : decode cX3_sits 11 = .ok (.aload_n 0, 1) := by decide +kernel
theorem dX3_sits_12 : decode cX3_sits 12 = .ok (.ldc 48, 2) := by decide +kernel
theorem dX3_sits_14 : decode cX3_sits 14 = .ok (.invokevirtual 49, 3) := by decide +kernel
theorem dX3_sits_17 : decode cX3_sits 17 = .ok (.ireturn, 1) := by decide +kernel
theorem dX3_sits_18 : decode cX3_sits 18 = .ok (.aload_n 0, 1) := by decide +kernel
theorem dX3_sits_19 : decode cX3_sits 19 = .ok (.getfield 10, 3) := by decide +kernel
theorem dX3_sits_22 : decode cX3_sits 22 = .ok (.getfield 105, 3) := by decide +kernel
theorem dX3_sits_25 : decode cX3_sits 25 = .ok (.iload_n 1, 1) := by decide +kernel
theorem dX3_sits_26 : decode cX3_sits 26 = .ok (.iaload, 1) := by decide +kernel
theorem dX3_sits_27 : decode cX3_sits 27 = .ok (.iconst (-1), 1) := by decide +kernel
theorem dX3_sits_28 : decode cX3_sits 28 = .ok (.if_icmp .eq 12, 3) := by decide +kernel
theorem dX3_sits_31 : decode cX3_sits 31 = .ok (.aload_n 0, 1) := by decide +kernel
theorem dX3_sits_32 : decode cX3_sits 32 = .ok (.bipush 120, 2) := by decide +kernel
theorem dX3_sits_34 : decode cX3_sits 34 = .ok (.invokevirtual 163, 3) := by decide +kernel
theorem dX3_sits_37 : decode cX3_sits 37 = .ok (.ifCond .eq 10, 3) := by decide +kernel
theorem dX3_sits_40 : decode cX3_sits 40 = .ok (.aload_n 0, 1) := by decide +kernel
theorem dX3_sits_41 : decode cX3_sits 41 = .ok (.ldc 56, 2) := by decide +kernel
theorem dX3_sits_43 : decode cX3_sits 43 = .ok (.invokevirtual 49, 3) := by decide +kernel
theorem dX3_sits_46 : decode cX3_sits 46 = .ok (.ireturn, 1) := by decide +kernel
theorem dX3_sits_47 : decode cX3_sits 47 = .ok (.aload_n 0, 1) := by decide +kernel
theorem dX3_sits_48 : decode cX3_sits 48 = .ok (.getfield 19, 3) := by decide +kernel
theorem dX3_sits_51 : decode cX3_sits 51 = .ok (.aload_n 0, 1) := by decide +kernel
theorem dX3_sits_52 : decode cX3_sits 52 = .ok (.getfield 10, 3) := by decide +kernel
theorem dX3_sits_55 : decode cX3_sits 55 = .ok (.invokevirtual 169, 3) := by decide +kernel
theorem dX3_sits_58 : decode cX3_sits 58 = .ok (.iconst 1, 1) := by decide +kernel
theorem dX3_sits_59 : decode cX3_sits 59 = .ok (.istore_n 2, 1) := by decide +kernel
theorem dX3_sits_60 : decode cX3_sits 60 = .ok (.iload_n 2, 1) := by decide +kernel
theorem dX3_sits_61 : decode cX3_sits 61 = .ok (.bipush 120, 2) := by decide +kernel
theorem dX3_sits_63 : decode cX3_sits 63 = .ok (.if_icmp .gt 31, 3) := by decide +kernel
theorem dX3_sits_66 : decode cX3_sits 66 = .ok (.aload_n 0, 1) := by decide +kernel
theorem dX3_sits_67 : decode cX3_sits 67 = .ok (.getfield 19, 3) := by decide +kernel
theorem dX3_sits_70 : decode cX3_sits 70 = .ok (.invokevirtual 179, 3) := by decide +kernel
theorem dX3_sits_73 : decode cX3_sits 73 = .ok (.aload_n 0, 1) := by decide +kernel
theorem dX3_sits_74 : decode cX3_sits 74 = .ok (.getfield 19, 3) := by decide +kernel
theorem dX3_sits_77 : decode cX3_sits 77 = .ok (.getfield 105, 3) := by decide +kernel
theorem dX3_sits_80 : decode cX3_sits 80 = .ok (.iload_n 1, 1) := by decide +kernel
theorem dX3_sits_81 : decode cX3_sits 81 = .ok (.iaload, 1) := by decide +kernel
theorem dX3_sits_82 : decode cX3_sits 82 = .ok (.iconst (-1), 1) := by decide +kernel
theorem dX3_sits_83 : decode cX3_sits 83 = .ok (.if_icmp .ne 5, 3) := by decide +kernel
theorem dX3_sits_86 : decode cX3_sits 86 = .ok (.iload_n 2, 1) := by decide +kernel
theorem dX3_sits_87 : decode cX3_sits 87 = .ok (.ireturn, 1) := by decide +kernel
theorem dX3_sits_88 : decode cX3_sits 88 = .ok (.iinc 2 1, 3) := by decide +kernel
theorem dX3_sits_91 : decode cX3_sits 91 = .ok (.goto (-31), 3) := by decide +kernel
theorem dX3_sits_94 : decode cX3_sits 94 = .ok (.aload_n 0, 1) := by decide +kernel
theorem dX3_sits_95 : decode cX3_sits 95 = .ok (.ldc 156, 2) := by decide +kernel
theorem dX3_sits_97 : decode cX3_sits 97 = .ok (.invokevirtual 49, 3) := by decide +kernel
theorem dX3_sits_100 : decode cX3_sits 100 = .ok (.ireturn, 1) := by decide +kernel
theorem dX3_rises_0 : decode cX3_rises 0 = .ok (.aload_n 0, 1) := by decide +kernel
theorem dX3_rises_1 : decode cX3_rises 1 = .ok (.getfield 10, 3) := by decide +kernel
theorem dX3_rises_4 : decode cX3_rises 4 = .ok (.iload_n 1, 1) := by decide +kernel
theorem dX3_rises_5 : decode cX3_rises 5 = .ok (.invokevirtual 99, 3) := by decide +kernel
theorem dX3_rises_8 : decode cX3_rises 8 = .ok (.ifCond .eq 13, 3) := by decide +kernel
theorem dX3_rises_11 : decode cX3_rises 11 = .ok (.iload_n 2, 1) := by decide +kernel
theorem dX3_rises_12 : decode cX3_rises 12 = .ok (.iconst 0, 1) := by decide +kernel
theorem dX3_rises_13 : decode cX3_rises 13 = .ok (.bipush 120, 2) := by decide +kernel
theorem dX3_rises_15 : decode cX3_rises 15 = .ok (.invokestatic 44, 3) := by decide +kernel
theorem dX3_rises_18 : decode cX3_rises 18 = .ok (.ifCond .ne 10, 3) := by decide +kernel
theorem dX3_rises_21 : decode cX3_rises 21 = .ok (.aload_n 0, 1) := by decide +kernel
theorem dX3_rises_22 : decode cX3_rises 22 = .ok (.ldc 48, 2) := by decide +kernel
theorem dX3_rises_24 : decode cX3_rises 24 = .ok (.invokevirtual 49, 3) := by decide +kernel
theorem dX3_rises_27 : decode cX3_rises 27 = .ok (.ireturn, 1) := by decide +kernel
theorem dX3_rises_28 : decode cX3_rises 28 = .ok (.aload_n 0, 1) := by decide +kernel
theorem dX3_rises_29 : decode cX3_rises 29 = .ok (.iload_n 2, 1) := by decide +kernel
theorem dX3_rises_30 : decode cX3_rises 30 = .ok (.invokevirtual 163, 3) := by decide +kernel
theorem dX3_rises_33 : decode cX3_rises 33 = .ok (.ifCond .eq 10, 3) := by decide +kernel
theorem dX3_rises_36 : decode cX3_rises 36 = .ok (.aload_n 0, 1) := by decide +kernel
theorem dX3_rises_37 : decode cX3_rises 37 = .ok (.ldc 56, 2) := by decide +kernel
theorem dX3_rises_39 : decode cX3_rises 39 = .ok (.invokevirtual 49, 3) := by decide +kernel
theorem dX3_rises_42 : decode cX3_rises 42 = .ok (.ireturn, 1) := by decide +kernel
theorem dX3_rises_43 : decode cX3_rises 43 = .ok (.aload_n 0, 1) := by decide +kernel
theorem dX3_rises_44 : decode cX3_rises 44 = .ok (.getfield 19, 3) := by decide +kernel
theorem dX3_rises_47 : decode cX3_rises 47 = .ok (.aload_n 0, 1) := by decide +kernel
theorem dX3_rises_48 : decode cX3_rises 48 = .ok (.getfield 10, 3) := by decide +kernel
theorem dX3_rises_51 : decode cX3_rises 51 = .ok (.invokevirtual 169, 3) := by decide +kernel
theorem dX3_rises_54 : decode cX3_rises 54 = .ok (.aload_n 0, 1) := by decide +kernel
theorem dX3_rises_55 : decode cX3_rises 55 = .ok (.getfield 19, 3) := by decide +kernel
theorem dX3_rises_58 : decode cX3_rises 58 = .ok (.iload_n 1, 1) := by decide +kernel
theorem dX3_rises_59 : decode cX3_rises 59 = .ok (.invokevirtual 182, 3) := by decide +kernel
theorem dX3_rises_62 : decode cX3_rises 62 = .ok (.istore_n 3, 1) := by decide +kernel
theorem dX3_rises_63 : decode cX3_rises 63 = .ok (.iconst 1, 1) := by decide +kernel
theorem dX3_rises_64 : decode cX3_rises 64 = .ok (.istore 4, 2) := by decide +kernel
theorem dX3_rises_66 : decode cX3_rises 66 = .ok (.iload 4, 2) := by decide +kernel
theorem dX3_rises_68 : decode cX3_rises 68 = .ok (.iload_n 2, 1) := by decide +kernel
theorem dX3_rises_69 : decode cX3_rises 69 = .ok (.if_icmp .gt 29, 3) := by decide +kernel
theorem dX3_rises_72 : decode cX3_rises 72 = .ok (.aload_n 0, 1) := by decide +kernel
theorem dX3_rises_73 : decode cX3_rises 73 = .ok (.getfield 19, 3) := by decide +kernel
theorem dX3_rises_76 : decode cX3_rises 76 = .ok (.invokevirtual 179, 3) := by decide +kernel
theorem dX3_rises_79 : decode cX3_rises 79 = .ok (.iload_n 3, 1) := by decide +kernel
theorem dX3_rises_80 : decode cX3_rises 80 = .ok (.aload_n 0, 1) := by decide +kernel
theorem dX3_rises_81 : decode cX3_rises 81 = .ok (.getfield 19, 3) := by decide +kernel
theorem dX3_rises_84 : decode cX3_rises 84 = .ok (.iload_n 1, 1) := by decide +kernel
theorem dX3_rises_85 : decode cX3_rises 85 = .ok (.invokevirtual 182, 3) := by decide +kernel
theorem dX3_rises_88 : decode cX3_rises 88 = .ok (.invokestatic 185, 3) := by decide +kernel
theorem dX3_rises_91 : decode cX3_rises 91 = .ok (.istore_n 3, 1) := by decide +kernel
theorem dX3_rises_92 : decode cX3_rises 92 = .ok (.iinc 4 1, 3) := by decide +kernel
theorem dX3_rises_95 : decode cX3_rises 95 = .ok (.goto (-29), 3) := by decide +kernel
theorem dX3_rises_98 : decode cX3_rises 98 = .ok (.iload_n 3, 1) := by decide +kernel
theorem dX3_rises_99 : decode cX3_rises 99 = .ok (.bipush 8, 2) := by decide +kernel
theorem dX3_rises_101 : decode cX3_rises 101 = .ok (.if_icmp .ne 12, 3) := by decide +kernel
theorem dX3_rises_104 : decode cX3_rises 104 = .ok (.aload_n 0, 1) := by decide +kernel
theorem dX3_rises_105 : decode cX3_rises 105 = .ok (.ldc 156, 2) := by decide +kernel
theorem dX3_rises_107 : decode cX3_rises 107 = .ok (.invokevirtual 49, 3) := by decide +kernel
theorem dX3_rises_110 : decode cX3_rises 110 = .ok (.goto 4, 3) := by decide +kernel
theorem dX3_rises_113 : decode cX3_rises 113 = .ok (.iload_n 3, 1) := by decide +kernel
theorem dX3_rises_114 : decode cX3_rises 114 = .ok (.ireturn, 1) := by decide +kernel
theorem dX3_worth_0 : decode cX3_worth 0 = .ok (.aload_n 0, 1) := by decide +kernel
theorem dX3_worth_1 : decode cX3_worth 1 = .ok (.getfield 10, 3) := by decide +kernel
theorem dX3_worth_4 : decode cX3_worth 4 = .ok (.iload_n 1, 1) := by decide +kernel
theorem dX3_worth_5 : decode cX3_worth 5 = .ok (.invokevirtual 99, 3) := by decide +kernel
theorem dX3_worth_8 : decode cX3_worth 8 = .ok (.ifCond .eq 20, 3) := by decide +kernel
theorem dX3_worth_11 : decode cX3_worth 11 = .ok (.iload_n 2, 1) := by decide +kernel
theorem dX3_worth_12 : decode cX3_worth 12 = .ok (.invokestatic 40, 3) := by decide +kernel
theorem dX3_worth_15 : decode cX3_worth 15 = .ok (.ifCond .eq 13, 3) := by decide +kernel
theorem dX3_worth_18 : decode cX3_worth 18 = .ok (.iload_n 3, 1) := by decide +kernel
theorem dX3_worth_19 : decode cX3_worth 19 = .ok (.iconst 1, 1) := by decide +kernel
theorem dX3_worth_20 : decode cX3_worth 20 = .ok (.bipush 120, 2) := by decide +kernel
theorem dX3_worth_22 : decode cX3_worth 22 = .ok (.invokestatic 44, 3) := by decide +kernel
theorem dX3_worth_25 : decode cX3_worth 25 = .ok (.ifCond .ne 10, 3) := by decide +kernel
theorem dX3_worth_28 : decode cX3_worth 28 = .ok (.aload_n 0, 1) := by decide +kernel
theorem dX3_worth_29 : decode cX3_worth 29 = .ok (.ldc 48, 2) := by decide +kernel
theorem dX3_worth_31 : decode cX3_worth 31 = .ok (.invokevirtual 49, 3) := by decide +kernel
theorem dX3_worth_34 : decode cX3_worth 34 = .ok (.ireturn, 1) := by decide +kernel
theorem dX3_worth_35 : decode cX3_worth 35 = .ok (.aload_n 0, 1) := by decide +kernel
theorem dX3_worth_36 : decode cX3_worth 36 = .ok (.iload_n 3, 1) := by decide +kernel
theorem dX3_worth_37 : decode cX3_worth 37 = .ok (.invokevirtual 163, 3) := by decide +kernel
theorem dX3_worth_40 : decode cX3_worth 40 = .ok (.ifCond .eq 10, 3) := by decide +kernel
theorem dX3_worth_43 : decode cX3_worth 43 = .ok (.aload_n 0, 1) := by decide +kernel
theorem dX3_worth_44 : decode cX3_worth 44 = .ok (.ldc 56, 2) := by decide +kernel
theorem dX3_worth_46 : decode cX3_worth 46 = .ok (.invokevirtual 49, 3) := by decide +kernel
theorem dX3_worth_49 : decode cX3_worth 49 = .ok (.ireturn, 1) := by decide +kernel
theorem dX3_worth_50 : decode cX3_worth 50 = .ok (.aload_n 0, 1) := by decide +kernel
theorem dX3_worth_51 : decode cX3_worth 51 = .ok (.getfield 19, 3) := by decide +kernel
theorem dX3_worth_54 : decode cX3_worth 54 = .ok (.aload_n 0, 1) := by decide +kernel
theorem dX3_worth_55 : decode cX3_worth 55 = .ok (.getfield 10, 3) := by decide +kernel
theorem dX3_worth_58 : decode cX3_worth 58 = .ok (.invokevirtual 169, 3) := by decide +kernel
theorem dX3_worth_61 : decode cX3_worth 61 = .ok (.aload_n 0, 1) := by decide +kernel
theorem dX3_worth_62 : decode cX3_worth 62 = .ok (.getfield 19, 3) := by decide +kernel
theorem dX3_worth_65 : decode cX3_worth 65 = .ok (.iload_n 1, 1) := by decide +kernel
theorem dX3_worth_66 : decode cX3_worth 66 = .ok (.iload_n 2, 1) := by decide +kernel
theorem dX3_worth_67 : decode cX3_worth 67 = .ok (.invokevirtual 134, 3) := by decide +kernel
theorem dX3_worth_70 : decode cX3_worth 70 = .ok (.aload_n 0, 1) := by decide +kernel
theorem dX3_worth_71 : decode cX3_worth 71 = .ok (.getfield 19, 3) := by decide +kernel
theorem dX3_worth_74 : decode cX3_worth 74 = .ok (.iload_n 3, 1) := by decide +kernel
theorem dX3_worth_75 : decode cX3_worth 75 = .ok (.invokevirtual 166, 3) := by decide +kernel
theorem dX3_worth_78 : decode cX3_worth 78 = .ok (.pop, 1) := by decide +kernel
theorem dX3_worth_79 : decode cX3_worth 79 = .ok (.aload_n 0, 1) := by decide +kernel
theorem dX3_worth_80 : decode cX3_worth 80 = .ok (.getfield 19, 3) := by decide +kernel
theorem dX3_worth_83 : decode cX3_worth 83 = .ok (.getfield 114, 3) := by decide +kernel
theorem dX3_worth_86 : decode cX3_worth 86 = .ok (.iload_n 1, 1) := by decide +kernel
theorem dX3_worth_87 : decode cX3_worth 87 = .ok (.iaload, 1) := by decide +kernel
theorem dX3_worth_88 : decode cX3_worth 88 = .ok (.aload_n 0, 1) := by decide +kernel
theorem dX3_worth_89 : decode cX3_worth 89 = .ok (.getfield 10, 3) := by decide +kernel
theorem dX3_worth_92 : decode cX3_worth 92 = .ok (.getfield 114, 3) := by decide +kernel
theorem dX3_worth_95 : decode cX3_worth 95 = .ok (.iload_n 1, 1) := by decide +kernel
theorem dX3_worth_96 : decode cX3_worth 96 = .ok (.iaload, 1) := by decide +kernel
theorem dX3_worth_97 : decode cX3_worth 97 = .ok (.isub, 1) := by decide +kernel
theorem dX3_worth_98 : decode cX3_worth 98 = .ok (.ireturn, 1) := by decide +kernel
theorem dX3_least_0 : decode cX3_least 0 = .ok (.aload_n 0, 1) := by decide +kernel
theorem dX3_least_1 : decode cX3_least 1 = .ok (.getfield 10, 3) := by decide +kernel
theorem dX3_least_4 : decode cX3_least 4 = .ok (.iload_n 1, 1) := by decide +kernel
theorem dX3_least_5 : decode cX3_least 5 = .ok (.invokevirtual 99, 3) := by decide +kernel
theorem dX3_least_8 : decode cX3_least 8 = .ok (.ifCond .eq 13, 3) := by decide +kernel
theorem dX3_least_11 : decode cX3_least 11 = .ok (.iload_n 2, 1) := by decide +kernel
theorem dX3_least_12 : decode cX3_least 12 = .ok (.iconst 1, 1) := by decide +kernel
theorem dX3_least_13 : decode cX3_least 13 = .ok (.bipush 24, 2) := by decide +kernel
theorem dX3_least_15 : decode cX3_least 15 = .ok (.invokestatic 44, 3) := by decide +kernel
theorem dX3_least_18 : decode cX3_least 18 = .ok (.ifCond .ne 10, 3) := by decide +kernel
theorem dX3_least_21 : decode cX3_least 21 = .ok (.aload_n 0, 1) := by decide +kernel
theorem dX3_least_22 : decode cX3_least 22 = .ok (.ldc 48, 2) := by decide +kernel
theorem dX3_least_24 : decode cX3_least 24 = .ok (.invokevirtual 49, 3) := by decide +kernel
theorem dX3_least_27 : decode cX3_least 27 = .ok (.ireturn, 1) := by decide +kernel
theorem dX3_least_28 : decode cX3_least 28 = .ok (.aload_n 0, 1) := by decide +kernel
theorem dX3_least_29 : decode cX3_least 29 = .ok (.getfield 10, 3) := by decide +kernel
theorem dX3_least_32 : decode cX3_least 32 = .ok (.getfield 117, 3) := by decide +kernel
theorem dX3_least_35 : decode cX3_least 35 = .ok (.iload_n 1, 1) := by decide +kernel
theorem dX3_least_36 : decode cX3_least 36 = .ok (.iaload, 1) := by decide +kernel
theorem dX3_least_37 : decode cX3_least 37 = .ok (.istore_n 3, 1) := by decide +kernel
theorem dX3_least_38 : decode cX3_least 38 = .ok (.aload_n 0, 1) := by decide +kernel
theorem dX3_least_39 : decode cX3_least 39 = .ok (.getfield 10, 3) := by decide +kernel
theorem dX3_least_42 : decode cX3_least 42 = .ok (.iload_n 3, 1) := by decide +kernel
theorem dX3_least_43 : decode cX3_least 43 = .ok (.invokevirtual 99, 3) := by decide +kernel
theorem dX3_least_46 : decode cX3_least 46 = .ok (.ifCond .eq 24, 3) := by decide +kernel
theorem dX3_least_49 : decode cX3_least 49 = .ok (.aload_n 0, 1) := by decide +kernel
theorem dX3_least_50 : decode cX3_least 50 = .ok (.getfield 10, 3) := by decide +kernel
theorem dX3_least_53 : decode cX3_least 53 = .ok (.getfield 105, 3) := by decide +kernel
theorem dX3_least_56 : decode cX3_least 56 = .ok (.iload_n 3, 1) := by decide +kernel
theorem dX3_least_57 : decode cX3_least 57 = .ok (.iaload, 1) := by decide +kernel
theorem dX3_least_58 : decode cX3_least 58 = .ok (.iconst (-1), 1) := by decide +kernel
theorem dX3_least_59 : decode cX3_least 59 = .ok (.if_icmp .eq 11, 3) := by decide +kernel
theorem dX3_least_62 : decode cX3_least 62 = .ok (.aload_n 0, 1) := by decide +kernel
theorem dX3_least_63 : decode cX3_least 63 = .ok (.iload_n 2, 1) := by decide +kernel
theorem dX3_least_64 : decode cX3_least 64 = .ok (.invokevirtual 163, 3) := by decide +kernel
theorem dX3_least_67 : decode cX3_least 67 = .ok (.ifCond .eq 10, 3) := by decide +kernel
theorem dX3_least_70 : decode cX3_least 70 = .ok (.aload_n 0, 1) := by decide +kernel
theorem dX3_least_71 : decode cX3_least 71 = .ok (.ldc 56, 2) := by decide +kernel
theorem dX3_least_73 : decode cX3_least 73 = .ok (.invokevirtual 49, 3) := by decide +kernel
theorem dX3_least_76 : decode cX3_least 76 = .ok (.ireturn, 1) := by decide +kernel
theorem dX3_least_77 : decode cX3_least 77 = .ok (.iconst 0, 1) := by decide +kernel
theorem dX3_least_78 : decode cX3_least 78 = .ok (.istore 4, 2) := by decide +kernel
theorem dX3_least_80 : decode cX3_least 80 = .ok (.iload 4, 2) := by decide +kernel
theorem dX3_least_82 : decode cX3_least 82 = .ok (.sipush 999, 3) := by decide +kernel
theorem dX3_least_85 : decode cX3_least 85 = .ok (.if_icmp .gt 58, 3) := by decide +kernel
theorem dX3_least_88 : decode cX3_least 88 = .ok (.aload_n 0, 1) := by decide +kernel
theorem dX3_least_89 : decode cX3_least 89 = .ok (.getfield 10, 3) := by decide +kernel
theorem dX3_least_92 : decode cX3_least 92 = .ok (.iload_n 1, 1) := by decide +kernel
theorem dX3_least_93 : decode cX3_least 93 = .ok (.iload 4, 2) := by decide +kernel
theorem dX3_least_95 : decode cX3_least 95 = .ok (.invokevirtual 137, 3) := by decide +kernel
theorem dX3_least_98 : decode cX3_least 98 = .ok (.ifCond .eq 45, 3) := by decide +kernel
theorem dX3_least_101 : decode cX3_least 101 = .ok (.aload_n 0, 1) := by decide +kernel
theorem dX3_least_102 : decode cX3_least 102 = .ok (.getfield 19, 3) := by decide +kernel
theorem dX3_least_105 : decode cX3_least 105 = .ok (.aload_n 0, 1) := by decide +kernel
theorem dX3_least_106 : decode cX3_least 106 = .ok (.getfield 10, 3) := by decide +kernel
theorem dX3_least_109 : decode cX3_least 109 = .ok (.invokevirtual 169, 3) := by decide +kernel
theorem dX3_least_112 : decode cX3_least 112 = .ok (.aload_n 0, 1) := by decide +kernel
theorem dX3_least_113 : decode cX3_least 113 = .ok (.getfield 19, 3) := by decide +kernel
theorem dX3_least_116 : decode cX3_least 116 = .ok (.iload_n 1, 1) := by decide +kernel
theorem dX3_least_117 : decode cX3_least 117 = .ok (.iload 4, 2) := by decide +kernel
theorem dX3_least_119 : decode cX3_least 119 = .ok (.invokevirtual 141, 3) := by decide +kernel
theorem dX3_least_122 : decode cX3_least 122 = .ok (.aload_n 0, 1) := by decide +kernel
theorem dX3_least_123 : decode cX3_least 123 = .ok (.getfield 19, 3) := by decide +kernel
theorem dX3_least_126 : decode cX3_least 126 = .ok (.iload_n 3, 1) := by decide +kernel
theorem dX3_least_127 : decode cX3_least 127 = .ok (.iload_n 2, 1) := by decide +kernel
theorem dX3_least_128 : decode cX3_least 128 = .ok (.invokevirtual 190, 3) := by decide +kernel
theorem dX3_least_131 : decode cX3_least 131 = .ok (.ifCond .eq 6, 3) := by decide +kernel
theorem dX3_least_134 : decode cX3_least 134 = .ok (.iload 4, 2) := by decide +kernel
theorem dX3_least_136 : decode cX3_least 136 = .ok (.ireturn, 1) := by decide +kernel
theorem dX3_least_137 : decode cX3_least 137 = .ok (.iinc 4 1, 3) := by decide +kernel
theorem dX3_least_140 : decode cX3_least 140 = .ok (.goto (-60), 3) := by decide +kernel
theorem dX3_least_143 : decode cX3_least 143 = .ok (.aload_n 0, 1) := by decide +kernel
theorem dX3_least_144 : decode cX3_least 144 = .ok (.ldc 156, 2) := by decide +kernel
theorem dX3_least_146 : decode cX3_least 146 = .ok (.invokevirtual 49, 3) := by decide +kernel
theorem dX3_least_149 : decode cX3_least 149 = .ok (.ireturn, 1) := by decide +kernel
theorem dX3_best_0 : decode cX3_best 0 = .ok (.aload_n 0, 1) := by decide +kernel
theorem dX3_best_1 : decode cX3_best 1 = .ok (.getfield 10, 3) := by decide +kernel
theorem dX3_best_4 : decode cX3_best 4 = .ok (.iload_n 1, 1) := by decide +kernel
theorem dX3_best_5 : decode cX3_best 5 = .ok (.invokevirtual 99, 3) := by decide +kernel
theorem dX3_best_8 : decode cX3_best 8 = .ok (.ifCond .eq 13, 3) := by decide +kernel
theorem dX3_best_11 : decode cX3_best 11 = .ok (.iload_n 2, 1) := by decide +kernel
theorem dX3_best_12 : decode cX3_best 12 = .ok (.iconst 1, 1) := by decide +kernel
theorem dX3_best_13 : decode cX3_best 13 = .ok (.bipush 60, 2) := by decide +kernel
theorem dX3_best_15 : decode cX3_best 15 = .ok (.invokestatic 44, 3) := by decide +kernel
theorem dX3_best_18 : decode cX3_best 18 = .ok (.ifCond .ne 10, 3) := by decide +kernel
theorem dX3_best_21 : decode cX3_best 21 = .ok (.aload_n 0, 1) := by decide +kernel
theorem dX3_best_22 : decode cX3_best 22 = .ok (.ldc 48, 2) := by decide +kernel
theorem dX3_best_24 : decode cX3_best 24 = .ok (.invokevirtual 49, 3) := by decide +kernel
theorem dX3_best_27 : decode cX3_best 27 = .ok (.ireturn, 1) := by decide +kernel
theorem dX3_best_28 : decode cX3_best 28 = .ok (.aload_n 0, 1) := by decide +kernel
theorem dX3_best_29 : decode cX3_best 29 = .ok (.iload_n 2, 1) := by decide +kernel
theorem dX3_best_30 : decode cX3_best 30 = .ok (.invokevirtual 163, 3) := by decide +kernel
theorem dX3_best_33 : decode cX3_best 33 = .ok (.ifCond .eq 10, 3) := by decide +kernel
theorem dX3_best_36 : decode cX3_best 36 = .ok (.aload_n 0, 1) := by decide +kernel
theorem dX3_best_37 : decode cX3_best 37 = .ok (.ldc 56, 2) := by decide +kernel
theorem dX3_best_39 : decode cX3_best 39 = .ok (.invokevirtual 49, 3) := by decide +kernel
theorem dX3_best_42 : decode cX3_best 42 = .ok (.ireturn, 1) := by decide +kernel
theorem dX3_best_43 : decode cX3_best 43 = .ok (.iconst 0, 1) := by decide +kernel
theorem dX3_best_44 : decode cX3_best 44 = .ok (.istore_n 3, 1) := by decide +kernel
theorem dX3_best_45 : decode cX3_best 45 = .ok (.bipush 9, 2) := by decide +kernel
theorem dX3_best_47 : decode cX3_best 47 = .ok (.istore 4, 2) := by decide +kernel
theorem dX3_best_49 : decode cX3_best 49 = .ok (.getstatic 75, 3) := by decide +kernel
theorem dX3_best_52 : decode cX3_best 52 = .ok (.iconst 0, 1) := by decide +kernel
theorem dX3_best_53 : decode cX3_best 53 = .ok (.iaload, 1) := by decide +kernel
theorem dX3_best_54 : decode cX3_best 54 = .ok (.istore 5, 2) := by decide +kernel
theorem dX3_best_56 : decode cX3_best 56 = .ok (.iload 5, 2) := by decide +kernel
theorem dX3_best_58 : decode cX3_best 58 = .ok (.getstatic 78, 3) := by decide +kernel
theorem dX3_best_61 : decode cX3_best 61 = .ok (.iconst 0, 1) := by decide +kernel
theorem dX3_best_62 : decode cX3_best 62 = .ok (.iaload, 1) := by decide +kernel
theorem dX3_best_63 : decode cX3_best 63 = .ok (.if_icmp .gt 66, 3) := by decide +kernel
theorem dX3_best_66 : decode cX3_best 66 = .ok (.aload_n 0, 1) := by decide +kernel
theorem dX3_best_67 : decode cX3_best 67 = .ok (.getfield 19, 3) := by decide +kernel
theorem dX3_best_70 : decode cX3_best 70 = .ok (.aload_n 0, 1) := by decide +kernel
theorem dX3_best_71 : decode cX3_best 71 = .ok (.getfield 10, 3) := by decide +kernel
theorem dX3_best_74 : decode cX3_best 74 = .ok (.invokevirtual 169, 3) := by decide +kernel
theorem dX3_best_77 : decode cX3_best 77 = .ok (.aload_n 0, 1) := by decide +kernel
theorem dX3_best_78 : decode cX3_best 78 = .ok (.getfield 19, 3) := by decide +kernel
theorem dX3_best_81 : decode cX3_best 81 = .ok (.getfield 81, 3) := by decide +kernel
theorem dX3_best_84 : decode cX3_best 84 = .ok (.iconst 0, 1) := by decide +kernel
theorem dX3_best_85 : decode cX3_best 85 = .ok (.iload 5, 2) := by decide +kernel
theorem dX3_best_87 : decode cX3_best 87 = .ok (.iastore, 1) := by decide +kernel
theorem dX3_best_88 : decode cX3_best 88 = .ok (.aload_n 0, 1) := by decide +kernel
theorem dX3_best_89 : decode cX3_best 89 = .ok (.getfield 19, 3) := by decide +kernel
theorem dX3_best_92 : decode cX3_best 92 = .ok (.iload_n 2, 1) := by decide +kernel
theorem dX3_best_93 : decode cX3_best 93 = .ok (.invokevirtual 166, 3) := by decide +kernel
theorem dX3_best_96 : decode cX3_best 96 = .ok (.pop, 1) := by decide +kernel
theorem dX3_best_97 : decode cX3_best 97 = .ok (.aload_n 0, 1) := by decide +kernel
theorem dX3_best_98 : decode cX3_best 98 = .ok (.getfield 19, 3) := by decide +kernel
theorem dX3_best_101 : decode cX3_best 101 = .ok (.iload_n 1, 1) := by decide +kernel
theorem dX3_best_102 : decode cX3_best 102 = .ok (.invokevirtual 182, 3) := by decide +kernel
theorem dX3_best_105 : decode cX3_best 105 = .ok (.iload 4, 2) := by decide +kernel
theorem dX3_best_107 : decode cX3_best 107 = .ok (.if_icmp .ge 16, 3) := by decide +kernel
theorem dX3_best_110 : decode cX3_best 110 = .ok (.iload 5, 2) := by decide +kernel
theorem dX3_best_112 : decode cX3_best 112 = .ok (.istore_n 3, 1) := by decide +kernel
theorem dX3_best_113 : decode cX3_best 113 = .ok (.aload_n 0, 1) := by decide +kernel
theorem dX3_best_114 : decode cX3_best 114 = .ok (.getfield 19, 3) := by decide +kernel
theorem dX3_best_117 : decode cX3_best 117 = .ok (.iload_n 1, 1) := by decide +kernel
theorem dX3_best_118 : decode cX3_best 118 = .ok (.invokevirtual 182, 3) := by decide +kernel
theorem dX3_best_121 : decode cX3_best 121 = .ok (.istore 4, 2) := by decide +kernel
theorem dX3_best_123 : decode cX3_best 123 = .ok (.iinc 5 1, 3) := by decide +kernel
theorem dX3_best_126 : decode cX3_best 126 = .ok (.goto (-70), 3) := by decide +kernel
theorem dX3_best_129 : decode cX3_best 129 = .ok (.iload_n 3, 1) := by decide +kernel
theorem dX3_best_130 : decode cX3_best 130 = .ok (.ireturn, 1) := by decide +kernel
theorem dX3_partsFor_0 : decode cX3_partsFor 0 = .ok (.iload_n 1, 1) := by decide +kernel
theorem dX3_partsFor_1 : decode cX3_partsFor 1 = .ok (.iconst 1, 1) := by decide +kernel
theorem dX3_partsFor_2 : decode cX3_partsFor 2 = .ok (.bipush 60, 2) := by decide +kernel
theorem dX3_partsFor_4 : decode cX3_partsFor 4 = .ok (.invokestatic 44, 3) := by decide +kernel
theorem dX3_partsFor_7 : decode cX3_partsFor 7 = .ok (.ifCond .ne 10, 3) := by decide +kernel
theorem dX3_partsFor_10 : decode cX3_partsFor 10 = .ok (.aload_n 0, 1) := by decide +kernel
theorem dX3_partsFor_11 : decode cX3_partsFor 11 = .ok (.ldc 48, 2) := by decide +kernel
theorem dX3_partsFor_13 : decode cX3_partsFor 13 = .ok (.invokevirtual 49, 3) := by decide +kernel
theorem dX3_partsFor_16 : decode cX3_partsFor 16 = .ok (.ireturn, 1) := by decide +kernel
theorem dX3_partsFor_17 : decode cX3_partsFor 17 = .ok (.aload_n 0, 1) := by decide +kernel
theorem dX3_partsFor_18 : decode cX3_partsFor 18 = .ok (.iload_n 1, 1) := by decide +kernel
theorem dX3_partsFor_19 : decode cX3_partsFor 19 = .ok (.invokevirtual 163, 3) := by decide +kernel
theorem dX3_partsFor_22 : decode cX3_partsFor 22 = .ok (.ifCond .eq 10, 3) := by decide +kernel
theorem dX3_partsFor_25 : decode cX3_partsFor 25 = .ok (.aload_n 0, 1) := by decide +kernel
theorem dX3_partsFor_26 : decode cX3_partsFor 26 = .ok (.ldc 56, 2) := by decide +kernel
theorem dX3_partsFor_28 : decode cX3_partsFor 28 = .ok (.invokevirtual 49, 3) := by decide +kernel
theorem dX3_partsFor_31 : decode cX3_partsFor 31 = .ok (.ireturn, 1) := by decide +kernel
theorem dX3_partsFor_32 : decode cX3_partsFor 32 = .ok (.iconst 1, 1) := by decide +kernel
theorem dX3_partsFor_33 : decode cX3_partsFor 33 = .ok (.istore_n 2, 1) := by decide +kernel
theorem dX3_partsFor_34 : decode cX3_partsFor 34 = .ok (.bipush 13, 2) := by decide +kernel
theorem dX3_partsFor_36 : decode cX3_partsFor 36 = .ok (.istore_n 3, 1) := by decide +kernel
theorem dX3_partsFor_37 : decode cX3_partsFor 37 = .ok (.getstatic 75, 3) := by decide +kernel
theorem dX3_partsFor_40 : decode cX3_partsFor 40 = .ok (.iconst 1, 1) := by decide +kernel
theorem dX3_partsFor_41 : decode cX3_partsFor 41 = .ok (.iaload, 1) := by decide +kernel
theorem dX3_partsFor_42 : decode cX3_partsFor 42 = .ok (.istore 4, 2) := by decide +kernel
theorem dX3_partsFor_44 : decode cX3_partsFor 44 = .ok (.iload 4, 2) := by decide +kernel
theorem dX3_partsFor_46 : decode cX3_partsFor 46 = .ok (.getstatic 78, 3) := by decide +kernel
theorem dX3_partsFor_49 : decode cX3_partsFor 49 = .ok (.iconst 1, 1) := by decide +kernel
theorem dX3_partsFor_50 : decode cX3_partsFor 50 = .ok (.iaload, 1) := by decide +kernel
theorem dX3_partsFor_51 : decode cX3_partsFor 51 = .ok (.if_icmp .gt 53, 3) := by decide +kernel
theorem dX3_partsFor_54 : decode cX3_partsFor 54 = .ok (.aload_n 0, 1) := by decide +kernel
theorem dX3_partsFor_55 : decode cX3_partsFor 55 = .ok (.getfield 19, 3) := by decide +kernel
theorem dX3_partsFor_58 : decode cX3_partsFor 58 = .ok (.aload_n 0, 1) := by decide +kernel
theorem dX3_partsFor_59 : decode cX3_partsFor 59 = .ok (.getfield 10, 3) := by decide +kernel
theorem dX3_partsFor_62 : decode cX3_partsFor 62 = .ok (.invokevirtual 169, 3) := by decide +kernel
theorem dX3_partsFor_65 : decode cX3_partsFor 65 = .ok (.aload_n 0, 1) := by decide +kernel
theorem dX3_partsFor_66 : decode cX3_partsFor 66 = .ok (.getfield 19, 3) := by decide +kernel
theorem dX3_partsFor_69 : decode cX3_partsFor 69 = .ok (.getfield 81, 3) := by decide +kernel
theorem dX3_partsFor_72 : decode cX3_partsFor 72 = .ok (.iconst 1, 1) := by decide +kernel
theorem dX3_partsFor_73 : decode cX3_partsFor 73 = .ok (.iload 4, 2) := by decide +kernel
theorem dX3_partsFor_75 : decode cX3_partsFor 75 = .ok (.iastore, 1) := by decide +kernel
theorem dX3_partsFor_76 : decode cX3_partsFor 76 = .ok (.aload_n 0, 1) := by decide +kernel
theorem dX3_partsFor_77 : decode cX3_partsFor 77 = .ok (.getfield 19, 3) := by decide +kernel
theorem dX3_partsFor_80 : decode cX3_partsFor 80 = .ok (.iload_n 1, 1) := by decide +kernel
theorem dX3_partsFor_81 : decode cX3_partsFor 81 = .ok (.invokevirtual 166, 3) := by decide +kernel
theorem dX3_partsFor_84 : decode cX3_partsFor 84 = .ok (.istore 5, 2) := by decide +kernel
theorem dX3_partsFor_86 : decode cX3_partsFor 86 = .ok (.iload 5, 2) := by decide +kernel
theorem dX3_partsFor_88 : decode cX3_partsFor 88 = .ok (.iload_n 3, 1) := by decide +kernel
theorem dX3_partsFor_89 : decode cX3_partsFor 89 = .ok (.if_icmp .ge 9, 3) := by decide +kernel
theorem dX3_partsFor_92 : decode cX3_partsFor 92 = .ok (.iload 4, 2) := by decide +kernel
theorem dX3_partsFor_94 : decode cX3_partsFor 94 = .ok (.istore_n 2, 1) := by decide +kernel
theorem dX3_partsFor_95 : decode cX3_partsFor 95 = .ok (.iload 5, 2) := by decide +kernel
theorem dX3_partsFor_97 : decode cX3_partsFor 97 = .ok (.istore_n 3, 1) := by decide +kernel
theorem dX3_partsFor_98 : decode cX3_partsFor 98 = .ok (.iinc 4 1, 3) := by decide +kernel
theorem dX3_partsFor_101 : decode cX3_partsFor 101 = .ok (.goto (-57), 3) := by decide +kernel
theorem dX3_partsFor_104 : decode cX3_partsFor 104 = .ok (.iload_n 2, 1) := by decide +kernel
theorem dX3_partsFor_105 : decode cX3_partsFor 105 = .ok (.ireturn, 1) := by decide +kernel
theorem dX3_kindFor_0 : decode cX3_kindFor 0 = .ok (.aload_n 0, 1) := by decide +kernel
theorem dX3_kindFor_1 : decode cX3_kindFor 1 = .ok (.getfield 10, 3) := by decide +kernel
theorem dX3_kindFor_4 : decode cX3_kindFor 4 = .ok (.iload_n 1, 1) := by decide +kernel
theorem dX3_kindFor_5 : decode cX3_kindFor 5 = .ok (.invokevirtual 99, 3) := by decide +kernel
theorem dX3_kindFor_8 : decode cX3_kindFor 8 = .ok (.ifCond .eq 13, 3) := by decide +kernel
theorem dX3_kindFor_11 : decode cX3_kindFor 11 = .ok (.iload_n 2, 1) := by decide +kernel
theorem dX3_kindFor_12 : decode cX3_kindFor 12 = .ok (.iconst 1, 1) := by decide +kernel
theorem dX3_kindFor_13 : decode cX3_kindFor 13 = .ok (.bipush 60, 2) := by decide +kernel
theorem dX3_kindFor_15 : decode cX3_kindFor 15 = .ok (.invokestatic 44, 3) := by decide +kernel
theorem dX3_kindFor_18 : decode cX3_kindFor 18 = .ok (.ifCond .ne 10, 3) := by decide +kernel
theorem dX3_kindFor_21 : decode cX3_kindFor 21 = .ok (.aload_n 0, 1) := by decide +kernel
theorem dX3_kindFor_22 : decode cX3_kindFor 22 = .ok (.ldc 48, 2) := by decide +kernel
theorem dX3_kindFor_24 : decode cX3_kindFor 24 = .ok (.invokevirtual 49, 3) := by decide +kernel
theorem dX3_kindFor_27 : decode cX3_kindFor 27 = .ok (.ireturn, 1) := by decide +kernel
theorem dX3_kindFor_28 : decode cX3_kindFor 28 = .ok (.aload_n 0, 1) := by decide +kernel
theorem dX3_kindFor_29 : decode cX3_kindFor 29 = .ok (.iload_n 2, 1) := by decide +kernel
theorem dX3_kindFor_30 : decode cX3_kindFor 30 = .ok (.invokevirtual 163, 3) := by decide +kernel
theorem dX3_kindFor_33 : decode cX3_kindFor 33 = .ok (.ifCond .eq 10, 3) := by decide +kernel
theorem dX3_kindFor_36 : decode cX3_kindFor 36 = .ok (.aload_n 0, 1) := by decide +kernel
theorem dX3_kindFor_37 : decode cX3_kindFor 37 = .ok (.ldc 56, 2) := by decide +kernel
theorem dX3_kindFor_39 : decode cX3_kindFor 39 = .ok (.invokevirtual 49, 3) := by decide +kernel
theorem dX3_kindFor_42 : decode cX3_kindFor 42 = .ok (.ireturn, 1) := by decide +kernel
theorem dX3_kindFor_43 : decode cX3_kindFor 43 = .ok (.iconst 0, 1) := by decide +kernel
theorem dX3_kindFor_44 : decode cX3_kindFor 44 = .ok (.istore_n 3, 1) := by decide +kernel
theorem dX3_kindFor_45 : decode cX3_kindFor 45 = .ok (.iconst (-1), 1) := by decide +kernel
theorem dX3_kindFor_46 : decode cX3_kindFor 46 = .ok (.istore 4, 2) := by decide +kernel
theorem dX3_kindFor_48 : decode cX3_kindFor 48 = .ok (.iconst 0, 1) := by decide +kernel
theorem dX3_kindFor_49 : decode cX3_kindFor 49 = .ok (.istore 5, 2) := by decide +kernel
theorem dX3_kindFor_51 : decode cX3_kindFor 51 = .ok (.iload 5, 2) := by decide +kernel
theorem dX3_kindFor_53 : decode cX3_kindFor 53 = .ok (.bipush 7, 2) := by decide +kernel
theorem dX3_kindFor_55 : decode cX3_kindFor 55 = .ok (.if_icmp .ge 68, 3) := by decide +kernel
theorem dX3_kindFor_58 : decode cX3_kindFor 58 = .ok (.aload_n 0, 1) := by decide +kernel
theorem dX3_kindFor_59 : decode cX3_kindFor 59 = .ok (.getfield 19, 3) := by decide +kernel
theorem dX3_kindFor_62 : decode cX3_kindFor 62 = .ok (.aload_n 0, 1) := by decide +kernel
theorem dX3_kindFor_63 : decode cX3_kindFor 63 = .ok (.getfield 10, 3) := by decide +kernel
theorem dX3_kindFor_66 : decode cX3_kindFor 66 = .ok (.invokevirtual 169, 3) := by decide +kernel
theorem dX3_kindFor_69 : decode cX3_kindFor 69 = .ok (.aload_n 0, 1) := by decide +kernel
theorem dX3_kindFor_70 : decode cX3_kindFor 70 = .ok (.getfield 19, 3) := by decide +kernel
theorem dX3_kindFor_73 : decode cX3_kindFor 73 = .ok (.getfield 102, 3) := by decide +kernel
theorem dX3_kindFor_76 : decode cX3_kindFor 76 = .ok (.iload_n 1, 1) := by decide +kernel
theorem dX3_kindFor_77 : decode cX3_kindFor 77 = .ok (.iload 5, 2) := by decide +kernel
theorem dX3_kindFor_79 : decode cX3_kindFor 79 = .ok (.iastore, 1) := by decide +kernel
theorem dX3_kindFor_80 : decode cX3_kindFor 80 = .ok (.aload_n 0, 1) := by decide +kernel
theorem dX3_kindFor_81 : decode cX3_kindFor 81 = .ok (.getfield 19, 3) := by decide +kernel
theorem dX3_kindFor_84 : decode cX3_kindFor 84 = .ok (.iload_n 2, 1) := by decide +kernel
theorem dX3_kindFor_85 : decode cX3_kindFor 85 = .ok (.invokevirtual 166, 3) := by decide +kernel
theorem dX3_kindFor_88 : decode cX3_kindFor 88 = .ok (.pop, 1) := by decide +kernel
theorem dX3_kindFor_89 : decode cX3_kindFor 89 = .ok (.aload_n 0, 1) := by decide +kernel
theorem dX3_kindFor_90 : decode cX3_kindFor 90 = .ok (.getfield 19, 3) := by decide +kernel
theorem dX3_kindFor_93 : decode cX3_kindFor 93 = .ok (.getfield 114, 3) := by decide +kernel
theorem dX3_kindFor_96 : decode cX3_kindFor 96 = .ok (.iload_n 1, 1) := by decide +kernel
theorem dX3_kindFor_97 : decode cX3_kindFor 97 = .ok (.iaload, 1) := by decide +kernel
theorem dX3_kindFor_98 : decode cX3_kindFor 98 = .ok (.iload 4, 2) := by decide +kernel
theorem dX3_kindFor_100 : decode cX3_kindFor 100 = .ok (.if_icmp .le 17, 3) := by decide +kernel
theorem dX3_kindFor_103 : decode cX3_kindFor 103 = .ok (.iload 5, 2) := by decide +kernel
theorem dX3_kindFor_105 : decode cX3_kindFor 105 = .ok (.istore_n 3, 1) := by decide +kernel
theorem dX3_kindFor_106 : decode cX3_kindFor 106 = .ok (.aload_n 0, 1) := by decide +kernel
theorem dX3_kindFor_107 : decode cX3_kindFor 107 = .ok (.getfield 19, 3) := by decide +kernel
theorem dX3_kindFor_110 : decode cX3_kindFor 110 = .ok (.getfield 114, 3) := by decide +kernel
theorem dX3_kindFor_113 : decode cX3_kindFor 113 = .ok (.iload_n 1, 1) := by decide +kernel
theorem dX3_kindFor_114 : decode cX3_kindFor 114 = .ok (.iaload, 1) := by decide +kernel
theorem dX3_kindFor_115 : decode cX3_kindFor 115 = .ok (.istore 4, 2) := by decide +kernel
theorem dX3_kindFor_117 : decode cX3_kindFor 117 = .ok (.iinc 5 1, 3) := by decide +kernel
theorem dX3_kindFor_120 : decode cX3_kindFor 120 = .ok (.goto (-69), 3) := by decide +kernel
theorem dX3_kindFor_123 : decode cX3_kindFor 123 = .ok (.iload_n 3, 1) := by decide +kernel
theorem dX3_kindFor_124 : decode cX3_kindFor 124 = .ok (.ireturn, 1) := by decide +kernel
theorem dX3_plot_0 : decode cX3_plot 0 = .ok (.aload_n 0, 1) := by decide +kernel
theorem dX3_plot_1 : decode cX3_plot 1 = .ok (.getfield 10, 3) := by decide +kernel
theorem dX3_plot_4 : decode cX3_plot 4 = .ok (.iload_n 1, 1) := by decide +kernel
theorem dX3_plot_5 : decode cX3_plot 5 = .ok (.invokevirtual 99, 3) := by decide +kernel
theorem dX3_plot_8 : decode cX3_plot 8 = .ok (.ifCond .eq 13, 3) := by decide +kernel
theorem dX3_plot_11 : decode cX3_plot 11 = .ok (.iload_n 2, 1) := by decide +kernel
theorem dX3_plot_12 : decode cX3_plot 12 = .ok (.iconst 1, 1) := by decide +kernel
theorem dX3_plot_13 : decode cX3_plot 13 = .ok (.bipush 12, 2) := by decide +kernel
theorem dX3_plot_15 : decode cX3_plot 15 = .ok (.invokestatic 44, 3) := by decide +kernel
theorem dX3_plot_18 : decode cX3_plot 18 = .ok (.ifCond .ne 10, 3) := by decide +kernel
theorem dX3_plot_21 : decode cX3_plot 21 = .ok (.aload_n 0, 1) := by decide +kernel
theorem dX3_plot_22 : decode cX3_plot 22 = .ok (.ldc 48, 2) := by decide +kernel
theorem dX3_plot_24 : decode cX3_plot 24 = .ok (.invokevirtual 49, 3) := by decide +kernel
theorem dX3_plot_27 : decode cX3_plot 27 = .ok (.ireturn, 1) := by decide +kernel
theorem dX3_plot_28 : decode cX3_plot 28 = .ok (.aload_n 0, 1) := by decide +kernel
theorem dX3_plot_29 : decode cX3_plot 29 = .ok (.getfield 10, 3) := by decide +kernel
theorem dX3_plot_32 : decode cX3_plot 32 = .ok (.getfield 105, 3) := by decide +kernel
theorem dX3_plot_35 : decode cX3_plot 35 = .ok (.iload_n 1, 1) := by decide +kernel
theorem dX3_plot_36 : decode cX3_plot 36 = .ok (.iaload, 1) := by decide +kernel
theorem dX3_plot_37 : decode cX3_plot 37 = .ok (.iconst (-1), 1) := by decide +kernel
theorem dX3_plot_38 : decode cX3_plot 38 = .ok (.if_icmp .eq 11, 3) := by decide +kernel
theorem dX3_plot_41 : decode cX3_plot 41 = .ok (.aload_n 0, 1) := by decide +kernel
theorem dX3_plot_42 : decode cX3_plot 42 = .ok (.iload_n 2, 1) := by decide +kernel
theorem dX3_plot_43 : decode cX3_plot 43 = .ok (.invokevirtual 163, 3) := by decide +kernel
theorem dX3_plot_46 : decode cX3_plot 46 = .ok (.ifCond .eq 10, 3) := by decide +kernel
theorem dX3_plot_49 : decode cX3_plot 49 = .ok (.aload_n 0, 1) := by decide +kernel
theorem dX3_plot_50 : decode cX3_plot 50 = .ok (.ldc 56, 2) := by decide +kernel
theorem dX3_plot_52 : decode cX3_plot 52 = .ok (.invokevirtual 49, 3) := by decide +kernel
theorem dX3_plot_55 : decode cX3_plot 55 = .ok (.ireturn, 1) := by decide +kernel
theorem dX3_plot_56 : decode cX3_plot 56 = .ok (.aload_n 0, 1) := by decide +kernel
theorem dX3_plot_57 : decode cX3_plot 57 = .ok (.getfield 10, 3) := by decide +kernel
theorem dX3_plot_60 : decode cX3_plot 60 = .ok (.invokevirtual 193, 3) := by decide +kernel
theorem dX3_plot_63 : decode cX3_plot 63 = .ok (.iconst 1, 1) := by decide +kernel
theorem dX3_plot_64 : decode cX3_plot 64 = .ok (.iload_n 1, 1) := by decide +kernel
theorem dX3_plot_65 : decode cX3_plot 65 = .ok (.ishl, 1) := by decide +kernel
theorem dX3_plot_66 : decode cX3_plot 66 = .ok (.iconst (-1), 1) := by decide +kernel
theorem dX3_plot_67 : decode cX3_plot 67 = .ok (.ixor, 1) := by decide +kernel
theorem dX3_plot_68 : decode cX3_plot 68 = .ok (.iand, 1) := by decide +kernel
theorem dX3_plot_69 : decode cX3_plot 69 = .ok (.istore_n 3, 1) := by decide +kernel
theorem dX3_plot_70 : decode cX3_plot 70 = .ok (.iload_n 3, 1) := by decide +kernel
theorem dX3_plot_71 : decode cX3_plot 71 = .ok (.invokestatic 67, 3) := by decide +kernel
theorem dX3_plot_74 : decode cX3_plot 74 = .ok (.istore 4, 2) := by decide +kernel
theorem dX3_plot_76 : decode cX3_plot 76 = .ok (.iload 4, 2) := by decide +kernel
theorem dX3_plot_78 : decode cX3_plot 78 = .ok (.bipush 10, 2) := by decide +kernel
theorem dX3_plot_80 : decode cX3_plot 80 = .ok (.if_icmp .le 10, 3) := by decide +kernel
theorem dX3_plot_83 : decode cX3_plot 83 = .ok (.aload_n 0, 1) := by decide +kernel
theorem dX3_plot_84 : decode cX3_plot 84 = .ok (.ldc 196, 2) := by decide +kernel
theorem dX3_plot_86 : decode cX3_plot 86 = .ok (.invokevirtual 49, 3) := by decide +kernel
theorem dX3_plot_89 : decode cX3_plot 89 = .ok (.ireturn, 1) := by decide +kernel
theorem dX3_plot_90 : decode cX3_plot 90 = .ok (.iconst 0, 1) := by decide +kernel
theorem dX3_plot_91 : decode cX3_plot 91 = .ok (.istore 5, 2) := by decide +kernel
theorem dX3_plot_93 : decode cX3_plot 93 = .ok (.iload 5, 2) := by decide +kernel
theorem dX3_plot_95 : decode cX3_plot 95 = .ok (.iload 4, 2) := by decide +kernel
theorem dX3_plot_97 : decode cX3_plot 97 = .ok (.if_icmp .gt 28, 3) := by decide +kernel
theorem dX3_plot_100 : decode cX3_plot 100 = .ok (.aload_n 0, 1) := by decide +kernel
theorem dX3_plot_101 : decode cX3_plot 101 = .ok (.iload_n 1, 1) := by decide +kernel
theorem dX3_plot_102 : decode cX3_plot 102 = .ok (.iload_n 2, 1) := by decide +kernel
theorem dX3_plot_103 : decode cX3_plot 103 = .ok (.iload_n 3, 1) := by decide +kernel
theorem dX3_plot_104 : decode cX3_plot 104 = .ok (.iload 5, 2) := by decide +kernel
theorem dX3_plot_106 : decode cX3_plot 106 = .ok (.invokevirtual 197, 3) := by decide +kernel
theorem dX3_plot_109 : decode cX3_plot 109 = .ok (.istore 6, 2) := by decide +kernel
theorem dX3_plot_111 : decode cX3_plot 111 = .ok (.iload 6, 2) := by decide +kernel
theorem dX3_plot_113 : decode cX3_plot 113 = .ok (.ifCond .lt 6, 3) := by decide +kernel
theorem dX3_plot_116 : decode cX3_plot 116 = .ok (.iload 6, 2) := by decide +kernel
theorem dX3_plot_118 : decode cX3_plot 118 = .ok (.ireturn, 1) := by decide +kernel
theorem dX3_plot_119 : decode cX3_plot 119 = .ok (.iinc 5 1, 3) := by decide +kernel
theorem dX3_plot_122 : decode cX3_plot 122 = .ok (.goto (-29), 3) := by decide +kernel
theorem dX3_plot_125 : decode cX3_plot 125 = .ok (.aload_n 0, 1) := by decide +kernel
theorem dX3_plot_126 : decode cX3_plot 126 = .ok (.ldc 156, 2) := by decide +kernel
theorem dX3_plot_128 : decode cX3_plot 128 = .ok (.invokevirtual 49, 3) := by decide +kernel
theorem dX3_plot_131 : decode cX3_plot 131 = .ok (.ireturn, 1) := by decide +kernel
theorem dX3_leastPlot_0 : decode cX3_leastPlot 0 = .ok (.iconst 0, 1) := by decide +kernel
theorem dX3_leastPlot_1 : decode cX3_leastPlot 1 = .ok (.istore 5, 2) := by decide +kernel
theorem dX3_leastPlot_3 : decode cX3_leastPlot 3 = .ok (.iload 5, 2) := by decide +kernel
theorem dX3_leastPlot_5 : decode cX3_leastPlot 5 = .ok (.iload_n 3, 1) := by decide +kernel
theorem dX3_leastPlot_6 : decode cX3_leastPlot 6 = .ok (.if_icmp .gt 64, 3) := by decide +kernel
theorem dX3_leastPlot_9 : decode cX3_leastPlot 9 = .ok (.iload 5, 2) := by decide +kernel
theorem dX3_leastPlot_11 : decode cX3_leastPlot 11 = .ok (.iload_n 3, 1) := by decide +kernel
theorem dX3_leastPlot_12 : decode cX3_leastPlot 12 = .ok (.iconst (-1), 1) := by decide +kernel
theorem dX3_leastPlot_13 : decode cX3_leastPlot 13 = .ok (.ixor, 1) := by decide +kernel
theorem dX3_leastPlot_14 : decode cX3_leastPlot 14 = .ok (.iand, 1) := by decide +kernel
theorem dX3_leastPlot_15 : decode cX3_leastPlot 15 = .ok (.ifCond .ne 49, 3) := by decide +kernel
theorem dX3_leastPlot_18 : decode cX3_leastPlot 18 = .ok (.iload 5, 2) := by decide +kernel
theorem dX3_leastPlot_20 : decode cX3_leastPlot 20 = .ok (.invokestatic 67, 3) := by decide +kernel
theorem dX3_leastPlot_23 : decode cX3_leastPlot 23 = .ok (.iload 4, 2) := by decide +kernel
theorem dX3_leastPlot_25 : decode cX3_leastPlot 25 = .ok (.if_icmp .ne 39, 3) := by decide +kernel
theorem dX3_leastPlot_28 : decode cX3_leastPlot 28 = .ok (.aload_n 0, 1) := by decide +kernel
theorem dX3_leastPlot_29 : decode cX3_leastPlot 29 = .ok (.getfield 19, 3) := by decide +kernel
theorem dX3_leastPlot_32 : decode cX3_leastPlot 32 = .ok (.aload_n 0, 1) := by decide +kernel
theorem dX3_leastPlot_33 : decode cX3_leastPlot 33 = .ok (.getfield 10, 3) := by decide +kernel
theorem dX3_leastPlot_36 : decode cX3_leastPlot 36 = .ok (.invokevirtual 169, 3) := by decide +kernel
theorem dX3_leastPlot_39 : decode cX3_leastPlot 39 = .ok (.aload_n 0, 1) := by decide +kernel
theorem dX3_leastPlot_40 : decode cX3_leastPlot 40 = .ok (.getfield 19, 3) := by decide +kernel
theorem dX3_leastPlot_43 : decode cX3_leastPlot 43 = .ok (.iload 5, 2) := by decide +kernel
theorem dX3_leastPlot_45 : decode cX3_leastPlot 45 = .ok (.iload_n 1, 1) := by decide +kernel
theorem dX3_leastPlot_46 : decode cX3_leastPlot 46 = .ok (.invokevirtual 201, 3) := by decide +kernel
theorem dX3_leastPlot_49 : decode cX3_leastPlot 49 = .ok (.aload_n 0, 1) := by decide +kernel
theorem dX3_leastPlot_50 : decode cX3_leastPlot 50 = .ok (.getfield 19, 3) := by decide +kernel
theorem dX3_leastPlot_53 : decode cX3_leastPlot 53 = .ok (.iload_n 1, 1) := by decide +kernel
theorem dX3_leastPlot_54 : decode cX3_leastPlot 54 = .ok (.iload_n 2, 1) := by decide +kernel
theorem dX3_leastPlot_55 : decode cX3_leastPlot 55 = .ok (.invokevirtual 190, 3) := by decide +kernel
theorem dX3_leastPlot_58 : decode cX3_leastPlot 58 = .ok (.ifCond .ne 6, 3) := by decide +kernel
theorem dX3_leastPlot_61 : decode cX3_leastPlot 61 = .ok (.iload 5, 2) := by decide +kernel
theorem dX3_leastPlot_63 : decode cX3_leastPlot 63 = .ok (.ireturn, 1) := by decide +kernel
theorem dX3_leastPlot_64 : decode cX3_leastPlot 64 = .ok (.iinc 5 1, 3) := by decide +kernel
theorem dX3_leastPlot_67 : decode cX3_leastPlot 67 = .ok (.goto (-64), 3) := by decide +kernel
theorem dX3_leastPlot_70 : decode cX3_leastPlot 70 = .ok (.iconst (-1), 1) := by decide +kernel
theorem dX3_leastPlot_71 : decode cX3_leastPlot 71 = .ok (.ireturn, 1) := by decide +kernel
theorem dX3_undo_0 : decode cX3_undo 0 = .ok (.aload_n 0, 1) := by decide +kernel
theorem dX3_undo_1 : decode cX3_undo 1 = .ok (.getfield 10, 3) := by decide +kernel
theorem dX3_undo_4 : decode cX3_undo 4 = .ok (.iload_n 1, 1) := by decide +kernel
theorem dX3_undo_5 : decode cX3_undo 5 = .ok (.invokevirtual 99, 3) := by decide +kernel
theorem dX3_undo_8 : decode cX3_undo 8 = .ok (.ifCond .eq 13, 3) := by decide +kernel
theorem dX3_undo_11 : decode cX3_undo 11 = .ok (.iload_n 2, 1) := by decide +kernel
theorem dX3_undo_12 : decode cX3_undo 12 = .ok (.iconst 1, 1) := by decide +kernel
theorem dX3_undo_13 : decode cX3_undo 13 = .ok (.bipush 60, 2) := by decide +kernel
theorem dX3_undo_15 : decode cX3_undo 15 = .ok (.invokestatic 44, 3) := by decide +kernel
theorem dX3_undo_18 : decode cX3_undo 18 = .ok (.ifCond .ne 10, 3) := by decide +kernel
theorem dX3_undo_21 : decode cX3_undo 21 = .ok (.aload_n 0, 1) := by decide +kernel
theorem dX3_undo_22 : decode cX3_undo 22 = .ok (.ldc 48, 2) := by decide +kernel
theorem dX3_undo_24 : decode cX3_undo 24 = .ok (.invokevirtual 49, 3) := by decide +kernel
theorem dX3_undo_27 : decode cX3_undo 27 = .ok (.ireturn, 1) := by decide +kernel
theorem dX3_undo_28 : decode cX3_undo 28 = .ok (.aload_n 0, 1) := by decide +kernel
theorem dX3_undo_29 : decode cX3_undo 29 = .ok (.getfield 10, 3) := by decide +kernel
theorem dX3_undo_32 : decode cX3_undo 32 = .ok (.getfield 105, 3) := by decide +kernel
theorem dX3_undo_35 : decode cX3_undo 35 = .ok (.iload_n 1, 1) := by decide +kernel
theorem dX3_undo_36 : decode cX3_undo 36 = .ok (.iaload, 1) := by decide +kernel
theorem dX3_undo_37 : decode cX3_undo 37 = .ok (.iconst (-1), 1) := by decide +kernel
theorem dX3_undo_38 : decode cX3_undo 38 = .ok (.if_icmp .eq 11, 3) := by decide +kernel
theorem dX3_undo_41 : decode cX3_undo 41 = .ok (.aload_n 0, 1) := by decide +kernel
theorem dX3_undo_42 : decode cX3_undo 42 = .ok (.iload_n 2, 1) := by decide +kernel
theorem dX3_undo_43 : decode cX3_undo 43 = .ok (.invokevirtual 163, 3) := by decide +kernel
theorem dX3_undo_46 : decode cX3_undo 46 = .ok (.ifCond .eq 10, 3) := by decide +kernel
theorem dX3_undo_49 : decode cX3_undo 49 = .ok (.aload_n 0, 1) := by decide +kernel
theorem dX3_undo_50 : decode cX3_undo 50 = .ok (.ldc 56, 2) := by decide +kernel
theorem dX3_undo_52 : decode cX3_undo 52 = .ok (.invokevirtual 49, 3) := by decide +kernel
theorem dX3_undo_55 : decode cX3_undo 55 = .ok (.ireturn, 1) := by decide +kernel
theorem dX3_undo_56 : decode cX3_undo 56 = .ok (.iconst 0, 1) := by decide +kernel
theorem dX3_undo_57 : decode cX3_undo 57 = .ok (.istore_n 3, 1) := by decide +kernel
theorem dX3_undo_58 : decode cX3_undo 58 = .ok (.iconst 0, 1) := by decide +kernel
theorem dX3_undo_59 : decode cX3_undo 59 = .ok (.istore 4, 2) := by decide +kernel
theorem dX3_undo_61 : decode cX3_undo 61 = .ok (.iload 4, 2) := by decide +kernel
theorem dX3_undo_63 : decode cX3_undo 63 = .ok (.aload_n 0, 1) := by decide +kernel
theorem dX3_undo_64 : decode cX3_undo 64 = .ok (.getfield 10, 3) := by decide +kernel
theorem dX3_undo_67 : decode cX3_undo 67 = .ok (.getfield 90, 3) := by decide +kernel
theorem dX3_undo_70 : decode cX3_undo 70 = .ok (.if_icmp .ge 69, 3) := by decide +kernel
theorem dX3_undo_73 : decode cX3_undo 73 = .ok (.iload 4, 2) := by decide +kernel
theorem dX3_undo_75 : decode cX3_undo 75 = .ok (.iload_n 1, 1) := by decide +kernel
theorem dX3_undo_76 : decode cX3_undo 76 = .ok (.if_icmp .eq 57, 3) := by decide +kernel
theorem dX3_undo_79 : decode cX3_undo 79 = .ok (.aload_n 0, 1) := by decide +kernel
theorem dX3_undo_80 : decode cX3_undo 80 = .ok (.getfield 10, 3) := by decide +kernel
theorem dX3_undo_83 : decode cX3_undo 83 = .ok (.getfield 105, 3) := by decide +kernel
theorem dX3_undo_86 : decode cX3_undo 86 = .ok (.iload 4, 2) := by decide +kernel
theorem dX3_undo_88 : decode cX3_undo 88 = .ok (.iaload, 1) := by decide +kernel
theorem dX3_undo_89 : decode cX3_undo 89 = .ok (.iconst (-1), 1) := by decide +kernel
theorem dX3_undo_90 : decode cX3_undo 90 = .ok (.if_icmp .eq 43, 3) := by decide +kernel
theorem dX3_undo_93 : decode cX3_undo 93 = .ok (.aload_n 0, 1) := by decide +kernel
theorem dX3_undo_94 : decode cX3_undo 94 = .ok (.getfield 19, 3) := by decide +kernel
theorem dX3_undo_97 : decode cX3_undo 97 = .ok (.aload_n 0, 1) := by decide +kernel
theorem dX3_undo_98 : decode cX3_undo 98 = .ok (.getfield 10, 3) := by decide +kernel
theorem dX3_undo_101 : decode cX3_undo 101 = .ok (.invokevirtual 169, 3) := by decide +kernel
theorem dX3_undo_104 : decode cX3_undo 104 = .ok (.aload_n 0, 1) := by decide +kernel
theorem dX3_undo_105 : decode cX3_undo 105 = .ok (.getfield 19, 3) := by decide +kernel
theorem dX3_undo_108 : decode cX3_undo 108 = .ok (.iload 4, 2) := by decide +kernel
theorem dX3_undo_110 : decode cX3_undo 110 = .ok (.iconst (-1), 1) := by decide +kernel
theorem dX3_undo_111 : decode cX3_undo 111 = .ok (.invokevirtual 134, 3) := by decide +kernel
theorem dX3_undo_114 : decode cX3_undo 114 = .ok (.aload_n 0, 1) := by decide +kernel
theorem dX3_undo_115 : decode cX3_undo 115 = .ok (.getfield 19, 3) := by decide +kernel
theorem dX3_undo_118 : decode cX3_undo 118 = .ok (.iload_n 1, 1) := by decide +kernel
theorem dX3_undo_119 : decode cX3_undo 119 = .ok (.iload_n 2, 1) := by decide +kernel
theorem dX3_undo_120 : decode cX3_undo 120 = .ok (.invokevirtual 190, 3) := by decide +kernel
theorem dX3_undo_123 : decode cX3_undo 123 = .ok (.ifCond .eq 10, 3) := by decide +kernel
theorem dX3_undo_126 : decode cX3_undo 126 = .ok (.iload_n 3, 1) := by decide +kernel
theorem dX3_undo_127 : decode cX3_undo 127 = .ok (.iconst 1, 1) := by decide +kernel
theorem dX3_undo_128 : decode cX3_undo 128 = .ok (.iload 4, 2) := by decide +kernel
theorem dX3_undo_130 : decode cX3_undo 130 = .ok (.ishl, 1) := by decide +kernel
theorem dX3_undo_131 : decode cX3_undo 131 = .ok (.ior, 1) := by decide +kernel
theorem dX3_undo_132 : decode cX3_undo 132 = .ok (.istore_n 3, 1) := by decide +kernel
theorem dX3_undo_133 : decode cX3_undo 133 = .ok (.iinc 4 1, 3) := by decide +kernel
theorem dX3_undo_136 : decode cX3_undo 136 = .ok (.goto (-75), 3) := by decide +kernel
theorem dX3_undo_139 : decode cX3_undo 139 = .ok (.iload_n 3, 1) := by decide +kernel
theorem dX3_undo_140 : decode cX3_undo 140 = .ok (.ireturn, 1) := by decide +kernel
theorem dX3_safe_0 : decode cX3_safe 0 = .ok (.aload_n 0, 1) := by decide +kernel
theorem dX3_safe_1 : decode cX3_safe 1 = .ok (.getfield 10, 3) := by decide +kernel
theorem dX3_safe_4 : decode cX3_safe 4 = .ok (.invokevirtual 63, 3) := by decide +kernel
theorem dX3_safe_7 : decode cX3_safe 7 = .ok (.istore_n 1, 1) := by decide +kernel
theorem dX3_safe_8 : decode cX3_safe 8 = .ok (.iconst 0, 1) := by decide +kernel
theorem dX3_safe_9 : decode cX3_safe 9 = .ok (.istore_n 2, 1) := by decide +kernel
theorem dX3_safe_10 : decode cX3_safe 10 = .ok (.iconst 0, 1) := by decide +kernel
theorem dX3_safe_11 : decode cX3_safe 11 = .ok (.istore_n 3, 1) := by decide +kernel
theorem dX3_safe_12 : decode cX3_safe 12 = .ok (.iload_n 3, 1) := by decide +kernel
theorem dX3_safe_13 : decode cX3_safe 13 = .ok (.aload_n 0, 1) := by decide +kernel
theorem dX3_safe_14 : decode cX3_safe 14 = .ok (.getfield 10, 3) := by decide +kernel
theorem dX3_safe_17 : decode cX3_safe 17 = .ok (.getfield 90, 3) := by decide +kernel
theorem dX3_safe_20 : decode cX3_safe 20 = .ok (.if_icmp .ge 64, 3) := by decide +kernel
theorem dX3_safe_23 : decode cX3_safe 23 = .ok (.aload_n 0, 1) := by decide +kernel
theorem dX3_safe_24 : decode cX3_safe 24 = .ok (.getfield 10, 3) := by decide +kernel
theorem dX3_safe_27 : decode cX3_safe 27 = .ok (.iload_n 3, 1) := by decide +kernel
theorem dX3_safe_28 : decode cX3_safe 28 = .ok (.iload_n 1, 1) := by decide +kernel
theorem dX3_safe_29 : decode cX3_safe 29 = .ok (.invokevirtual 147, 3) := by decide +kernel
theorem dX3_safe_32 : decode cX3_safe 32 = .ok (.istore 4, 2) := by decide +kernel
theorem dX3_safe_34 : decode cX3_safe 34 = .ok (.aload_n 0, 1) := by decide +kernel
theorem dX3_safe_35 : decode cX3_safe 35 = .ok (.getfield 10, 3) := by decide +kernel
theorem dX3_safe_38 : decode cX3_safe 38 = .ok (.getfield 105, 3) := by decide +kernel
theorem dX3_safe_41 : decode cX3_safe 41 = .ok (.iload_n 3, 1) := by decide +kernel
theorem dX3_safe_42 : decode cX3_safe 42 = .ok (.iaload, 1) := by decide +kernel
theorem dX3_safe_43 : decode cX3_safe 43 = .ok (.iconst (-1), 1) := by decide +kernel
theorem dX3_safe_44 : decode cX3_safe 44 = .ok (.if_icmp .eq 34, 3) := by decide +kernel
theorem dX3_safe_47 : decode cX3_safe 47 = .ok (.aload_n 0, 1) := by decide +kernel
theorem dX3_safe_48 : decode cX3_safe 48 = .ok (.getfield 10, 3) := by decide +kernel
theorem dX3_safe_51 : decode cX3_safe 51 = .ok (.aload_n 0, 1) := by decide +kernel
theorem dX3_safe_52 : decode cX3_safe 52 = .ok (.getfield 10, 3) := by decide +kernel
theorem dX3_safe_55 : decode cX3_safe 55 = .ok (.iload 4, 2) := by decide +kernel
theorem dX3_safe_57 : decode cX3_safe 57 = .ok (.iload_n 3, 1) := by decide +kernel
theorem dX3_safe_58 : decode cX3_safe 58 = .ok (.invokevirtual 204, 3) := by decide +kernel
theorem dX3_safe_61 : decode cX3_safe 61 = .ok (.iload 4, 2) := by decide +kernel
theorem dX3_safe_63 : decode cX3_safe 63 = .ok (.invokestatic 67, 3) := by decide +kernel
theorem dX3_safe_66 : decode cX3_safe 66 = .ok (.invokevirtual 153, 3) := by decide +kernel
theorem dX3_safe_69 : decode cX3_safe 69 = .ok (.ifCond .ne 9, 3) := by decide +kernel
theorem dX3_safe_72 : decode cX3_safe 72 = .ok (.iload_n 2, 1) := by decide +kernel
theorem dX3_safe_73 : decode cX3_safe 73 = .ok (.iconst 1, 1) := by decide +kernel
theorem dX3_safe_74 : decode cX3_safe 74 = .ok (.iload_n 3, 1) := by decide +kernel
theorem dX3_safe_75 : decode cX3_safe 75 = .ok (.ishl, 1) := by decide +kernel
theorem dX3_safe_76 : decode cX3_safe 76 = .ok (.ior, 1) := by decide +kernel
theorem dX3_safe_77 : decode cX3_safe 77 = .ok (.istore_n 2, 1) := by decide +kernel
theorem dX3_safe_78 : decode cX3_safe 78 = .ok (.iinc 3 1, 3) := by decide +kernel
theorem dX3_safe_81 : decode cX3_safe 81 = .ok (.goto (-69), 3) := by decide +kernel
theorem dX3_safe_84 : decode cX3_safe 84 = .ok (.iload_n 2, 1) := by decide +kernel
theorem dX3_safe_85 : decode cX3_safe 85 = .ok (.ireturn, 1) := by decide +kernel
theorem dX3_rumours_0 : decode cX3_rumours 0 = .ok (.iload_n 1, 1) := by decide +kernel
theorem dX3_rumours_1 : decode cX3_rumours 1 = .ok (.iconst 1, 1) := by decide +kernel
theorem dX3_rumours_2 : decode cX3_rumours 2 = .ok (.bipush 12, 2) := by decide +kernel
theorem dX3_rumours_4 : decode cX3_rumours 4 = .ok (.invokestatic 44, 3) := by decide +kernel
theorem dX3_rumours_7 : decode cX3_rumours 7 = .ok (.ifCond .ne 10, 3) := by decide +kernel
theorem dX3_rumours_10 : decode cX3_rumours 10 = .ok (.aload_n 0, 1) := by decide +kernel
theorem dX3_rumours_11 : decode cX3_rumours 11 = .ok (.ldc 48, 2) := by decide +kernel
theorem dX3_rumours_13 : decode cX3_rumours 13 = .ok (.invokevirtual 49, 3) := by decide +kernel
theorem dX3_rumours_16 : decode cX3_rumours 16 = .ok (.ireturn, 1) := by decide +kernel
theorem dX3_rumours_17 : decode cX3_rumours 17 = .ok (.aload_n 0, 1) := by decide +kernel
theorem dX3_rumours_18 : decode cX3_rumours 18 = .ok (.getfield 10, 3) := by decide +kernel
theorem dX3_rumours_21 : decode cX3_rumours 21 = .ok (.getfield 90, 3) := by decide +kernel
theorem dX3_rumours_24 : decode cX3_rumours 24 = .ok (.ifCond .ne 10, 3) := by decide +kernel
theorem dX3_rumours_27 : decode cX3_rumours 27 = .ok (.aload_n 0, 1) := by decide +kernel
theorem dX3_rumours_28 : decode cX3_rumours 28 = .ok (.ldc 56, 2) := by decide +kernel
theorem dX3_rumours_30 : decode cX3_rumours 30 = .ok (.invokevirtual 49, 3) := by decide +kernel
theorem dX3_rumours_33 : decode cX3_rumours 33 = .ok (.ireturn, 1) := by decide +kernel
theorem dX3_rumours_34 : decode cX3_rumours 34 = .ok (.iconst 0, 1) := by decide +kernel
theorem dX3_rumours_35 : decode cX3_rumours 35 = .ok (.istore_n 2, 1) := by decide +kernel
theorem dX3_rumours_36 : decode cX3_rumours 36 = .ok (.iload_n 2, 1) := by decide +kernel
theorem dX3_rumours_37 : decode cX3_rumours 37 = .ok (.iload_n 1, 1) := by decide +kernel
theorem dX3_rumours_38 : decode cX3_rumours 38 = .ok (.if_icmp .ge 46, 3) := by decide +kernel
theorem dX3_rumours_41 : decode cX3_rumours 41 = .ok (.aload_n 0, 1) := by decide +kernel
theorem dX3_rumours_42 : decode cX3_rumours 42 = .ok (.getfield 10, 3) := by decide +kernel
theorem dX3_rumours_45 : decode cX3_rumours 45 = .ok (.invokevirtual 207, 3) := by decide +kernel
theorem dX3_rumours_48 : decode cX3_rumours 48 = .ok (.istore_n 3, 1) := by decide +kernel
theorem dX3_rumours_49 : decode cX3_rumours 49 = .ok (.aload_n 0, 1) := by decide +kernel
theorem dX3_rumours_50 : decode cX3_rumours 50 = .ok (.getfield 10, 3) := by decide +kernel
theorem dX3_rumours_53 : decode cX3_rumours 53 = .ok (.invokevirtual 207, 3) := by decide +kernel
theorem dX3_rumours_56 : decode cX3_rumours 56 = .ok (.istore 4, 2) := by decide +kernel
theorem dX3_rumours_58 : decode cX3_rumours 58 = .ok (.aload_n 0, 1) := by decide +kernel
theorem dX3_rumours_59 : decode cX3_rumours 59 = .ok (.getfield 10, 3) := by decide +kernel
theorem dX3_rumours_62 : decode cX3_rumours 62 = .ok (.iload_n 3, 1) := by decide +kernel
theorem dX3_rumours_63 : decode cX3_rumours 63 = .ok (.iload 4, 2) := by decide +kernel
theorem dX3_rumours_65 : decode cX3_rumours 65 = .ok (.iload_n 3, 1) := by decide +kernel
theorem dX3_rumours_66 : decode cX3_rumours 66 = .ok (.if_icmp .ne 7, 3) := by decide +kernel
theorem dX3_rumours_69 : decode cX3_rumours 69 = .ok (.iconst (-1), 1) := by decide +kernel
theorem dX3_rumours_70 : decode cX3_rumours 70 = .ok (.goto 5, 3) := by decide +kernel
theorem dX3_rumours_73 : decode cX3_rumours 73 = .ok (.iload 4, 2) := by decide +kernel
theorem dX3_rumours_75 : decode cX3_rumours 75 = .ok (.invokevirtual 130, 3) := by decide +kernel
theorem dX3_rumours_78 : decode cX3_rumours 78 = .ok (.iinc 2 1, 3) := by decide +kernel
theorem dX3_rumours_81 : decode cX3_rumours 81 = .ok (.goto (-45), 3) := by decide +kernel
theorem dX3_rumours_84 : decode cX3_rumours 84 = .ok (.aload_n 0, 1) := by decide +kernel
theorem dX3_rumours_85 : decode cX3_rumours 85 = .ok (.getfield 10, 3) := by decide +kernel
theorem dX3_rumours_88 : decode cX3_rumours 88 = .ok (.invokevirtual 210, 3) := by decide +kernel
theorem dX3_rumours_91 : decode cX3_rumours 91 = .ok (.ireturn, 1) := by decide +kernel
theorem dX3_seed_0 : decode cX3_seed 0 = .ok (.aload_n 0, 1) := by decide +kernel
theorem dX3_seed_1 : decode cX3_seed 1 = .ok (.getfield 10, 3) := by decide +kernel
theorem dX3_seed_4 : decode cX3_seed 4 = .ok (.getfield 213, 3) := by decide +kernel
theorem dX3_seed_7 : decode cX3_seed 7 = .ok (.istore_n 2, 1) := by decide +kernel
theorem dX3_seed_8 : decode cX3_seed 8 = .ok (.aload_n 0, 1) := by decide +kernel
theorem dX3_seed_9 : decode cX3_seed 9 = .ok (.getfield 10, 3) := by decide +kernel
theorem dX3_seed_12 : decode cX3_seed 12 = .ok (.iload_n 1, 1) := by decide +kernel
theorem dX3_seed_13 : decode cX3_seed 13 = .ok (.putfield 213, 3) := by decide +kernel
theorem dX3_seed_16 : decode cX3_seed 16 = .ok (.iload_n 2, 1) := by decide +kernel
theorem dX3_seed_17 : decode cX3_seed 17 = .ok (.ireturn, 1) := by decide +kernel
theorem dX3_feed_0 : decode cX3_feed 0 = .ok (.iload_n 2, 1) := by decide +kernel
theorem dX3_feed_1 : decode cX3_feed 1 = .ok (.iconst 1, 1) := by decide +kernel
theorem dX3_feed_2 : decode cX3_feed 2 = .ok (.iconst 4, 1) := by decide +kernel
theorem dX3_feed_3 : decode cX3_feed 3 = .ok (.invokestatic 44, 3) := by decide +kernel
theorem dX3_feed_6 : decode cX3_feed 6 = .ok (.ifCond .ne 10, 3) := by decide +kernel
theorem dX3_feed_9 : decode cX3_feed 9 = .ok (.aload_n 0, 1) := by decide +kernel
theorem dX3_feed_10 : decode cX3_feed 10 = .ok (.ldc 48, 2) := by decide +kernel
theorem dX3_feed_12 : decode cX3_feed 12 = .ok (.invokevirtual 49, 3) := by decide +kernel
theorem dX3_feed_15 : decode cX3_feed 15 = .ok (.ireturn, 1) := by decide +kernel
theorem dX3_feed_16 : decode cX3_feed 16 = .ok (.aload_n 0, 1) := by decide +kernel
theorem dX3_feed_17 : decode cX3_feed 17 = .ok (.getfield 25, 3) := by decide +kernel
theorem dX3_feed_20 : decode cX3_feed 20 = .ok (.getfield 216, 3) := by decide +kernel
theorem dX3_feed_23 : decode cX3_feed 23 = .ok (.iload_n 2, 1) := by decide +kernel
theorem dX3_feed_24 : decode cX3_feed 24 = .ok (.iadd, 1) := by decide +kernel
theorem dX3_feed_25 : decode cX3_feed 25 = .ok (.bipush 120, 2) := by decide +kernel
theorem dX3_feed_27 : decode cX3_feed 27 = .ok (.if_icmp .le 10, 3) := by decide +kernel
theorem dX3_feed_30 : decode cX3_feed 30 = .ok (.aload_n 0, 1) := by decide +kernel
theorem dX3_feed_31 : decode cX3_feed 31 = .ok (.ldc 94, 2) := by decide +kernel
theorem dX3_feed_33 : decode cX3_feed 33 = .ok (.invokevirtual 49, 3) := by decide +kernel
theorem dX3_feed_36 : decode cX3_feed 36 = .ok (.ireturn, 1) := by decide +kernel
theorem dX3_feed_37 : decode cX3_feed 37 = .ok (.iload_n 2, 1) := by decide +kernel
theorem dX3_feed_38 : decode cX3_feed 38 = .ok (.iconst 1, 1) := by decide +kernel
theorem dX3_feed_39 : decode cX3_feed 39 = .ok (.isub, 1) := by decide +kernel
theorem dX3_feed_40 : decode cX3_feed 40 = .ok (.istore_n 3, 1) := by decide +kernel
theorem dX3_feed_41 : decode cX3_feed 41 = .ok (.iload_n 3, 1) := by decide +kernel
theorem dX3_feed_42 : decode cX3_feed 42 = .ok (.ifCond .lt 47, 3) := by decide +kernel
theorem dX3_feed_45 : decode cX3_feed 45 = .ok (.aload_n 0, 1) := by decide +kernel
theorem dX3_feed_46 : decode cX3_feed 46 = .ok (.getfield 25, 3) := by decide +kernel
theorem dX3_feed_49 : decode cX3_feed 49 = .ok (.getfield 219, 3) := by decide +kernel
theorem dX3_feed_52 : decode cX3_feed 52 = .ok (.aload_n 0, 1) := by decide +kernel
theorem dX3_feed_53 : decode cX3_feed 53 = .ok (.getfield 25, 3) := by decide +kernel
theorem dX3_feed_56 : decode cX3_feed 56 = .ok (.getfield 216, 3) := by decide +kernel
theorem dX3_feed_59 : decode cX3_feed 59 = .ok (.iload_n 1, 1) := by decide +kernel
theorem dX3_feed_60 : decode cX3_feed 60 = .ok (.bipush 8, 2) := by decide +kernel
theorem dX3_feed_62 : decode cX3_feed 62 = .ok (.iload_n 3, 1) := by decide +kernel
theorem dX3_feed_63 : decode cX3_feed 63 = .ok (.imul, 1) := by decide +kernel
theorem dX3_feed_64 : decode cX3_feed 64 = .ok (.iushr, 1) := by decide +kernel
theorem dX3_feed_65 : decode cX3_feed 65 = .ok (.sipush 255, 3) := by decide +kernel
theorem dX3_feed_68 : decode cX3_feed 68 = .ok (.iand, 1) := by decide +kernel
theorem dX3_feed_69 : decode cX3_feed 69 = .ok (.iastore, 1) := by decide +kernel
theorem dX3_feed_70 : decode cX3_feed 70 = .ok (.aload_n 0, 1) := by decide +kernel
theorem dX3_feed_71 : decode cX3_feed 71 = .ok (.getfield 25, 3) := by decide +kernel
theorem dX3_feed_74 : decode cX3_feed 74 = .ok (.dup, 1) := by decide +kernel
theorem dX3_feed_75 : decode cX3_feed 75 = .ok (.getfield 216, 3) := by decide +kernel
theorem dX3_feed_78 : decode cX3_feed 78 = .ok (.iconst 1, 1) := by decide +kernel
theorem dX3_feed_79 : decode cX3_feed 79 = .ok (.iadd, 1) := by decide +kernel
theorem dX3_feed_80 : decode cX3_feed 80 = .ok (.putfield 216, 3) := by decide +kernel
theorem dX3_feed_83 : decode cX3_feed 83 = .ok (.iinc 3 (-1), 3) := by decide +kernel
theorem dX3_feed_86 : decode cX3_feed 86 = .ok (.goto (-45), 3) := by decide +kernel
theorem dX3_feed_89 : decode cX3_feed 89 = .ok (.aload_n 0, 1) := by decide +kernel
theorem dX3_feed_90 : decode cX3_feed 90 = .ok (.getfield 25, 3) := by decide +kernel
theorem dX3_feed_93 : decode cX3_feed 93 = .ok (.getfield 216, 3) := by decide +kernel
theorem dX3_feed_96 : decode cX3_feed 96 = .ok (.ireturn, 1) := by decide +kernel
theorem dX3_wipe_0 : decode cX3_wipe 0 = .ok (.aload_n 0, 1) := by decide +kernel
theorem dX3_wipe_1 : decode cX3_wipe 1 = .ok (.getfield 25, 3) := by decide +kernel
theorem dX3_wipe_4 : decode cX3_wipe 4 = .ok (.getfield 216, 3) := by decide +kernel
theorem dX3_wipe_7 : decode cX3_wipe 7 = .ok (.istore_n 1, 1) := by decide +kernel
theorem dX3_wipe_8 : decode cX3_wipe 8 = .ok (.aload_n 0, 1) := by decide +kernel
theorem dX3_wipe_9 : decode cX3_wipe 9 = .ok (.getfield 25, 3) := by decide +kernel
theorem dX3_wipe_12 : decode cX3_wipe 12 = .ok (.iconst 0, 1) := by decide +kernel
theorem dX3_wipe_13 : decode cX3_wipe 13 = .ok (.putfield 216, 3) := by decide +kernel
theorem dX3_wipe_16 : decode cX3_wipe 16 = .ok (.iload_n 1, 1) := by decide +kernel
theorem dX3_wipe_17 : decode cX3_wipe 17 = .ok (.ireturn, 1) := by decide +kernel
theorem dX3_text_0 : decode cX3_text 0 = .ok (.aload_n 0, 1) := by decide +kernel
theorem dX3_text_1 : decode cX3_text 1 = .ok (.getfield 19, 3) := by decide +kernel
theorem dX3_text_4 : decode cX3_text 4 = .ok (.aload_n 0, 1) := by decide +kernel
theorem dX3_text_5 : decode cX3_text 5 = .ok (.getfield 10, 3) := by decide +kernel
theorem dX3_text_8 : decode cX3_text 8 = .ok (.invokevirtual 169, 3) := by decide +kernel
theorem dX3_text_11 : decode cX3_text 11 = .ok (.aload_n 0, 1) := by decide +kernel
theorem dX3_text_12 : decode cX3_text 12 = .ok (.getfield 25, 3) := by decide +kernel
theorem dX3_text_15 : decode cX3_text 15 = .ok (.aload_n 0, 1) := by decide +kernel
theorem dX3_text_16 : decode cX3_text 16 = .ok (.getfield 19, 3) := by decide +kernel
theorem dX3_text_19 : decode cX3_text 19 = .ok (.invokevirtual 222, 3) := by decide +kernel
theorem dX3_text_22 : decode cX3_text 22 = .ok (.istore_n 1, 1) := by decide +kernel
theorem dX3_text_23 : decode cX3_text 23 = .ok (.iload_n 1, 1) := by decide +kernel
theorem dX3_text_24 : decode cX3_text 24 = .ok (.ifCond .lt 14, 3) := by decide +kernel
theorem dX3_text_27 : decode cX3_text 27 = .ok (.aload_n 0, 1) := by decide +kernel
theorem dX3_text_28 : decode cX3_text 28 = .ok (.getfield 10, 3) := by decide +kernel
theorem dX3_text_31 : decode cX3_text 31 = .ok (.aload_n 0, 1) := by decide +kernel
theorem dX3_text_32 : decode cX3_text 32 = .ok (.getfield 19, 3) := by decide +kernel
theorem dX3_text_35 : decode cX3_text 35 = .ok (.invokevirtual 169, 3) := by decide +kernel
theorem dX3_text_38 : decode cX3_text 38 = .ok (.aload_n 0, 1) := by decide +kernel
theorem dX3_text_39 : decode cX3_text 39 = .ok (.getfield 25, 3) := by decide +kernel
theorem dX3_text_42 : decode cX3_text 42 = .ok (.iconst 0, 1) := by decide +kernel
theorem dX3_text_43 : decode cX3_text 43 = .ok (.putfield 216, 3) := by decide +kernel
theorem dX3_text_46 : decode cX3_text 46 = .ok (.iload_n 1, 1) := by decide +kernel
theorem dX3_text_47 : decode cX3_text 47 = .ok (.ireturn, 1) := by decide +kernel
theorem dX3_hold_0 : decode cX3_hold 0 = .ok (.iload_n 1, 1) := by decide +kernel
theorem dX3_hold_1 : decode cX3_hold 1 = .ok (.iconst 0, 1) := by decide +kernel
theorem dX3_hold_2 : decode cX3_hold 2 = .ok (.bipush 9, 2) := by decide +kernel
theorem dX3_hold_4 : decode cX3_hold 4 = .ok (.invokestatic 44, 3) := by decide +kernel
theorem dX3_hold_7 : decode cX3_hold 7 = .ok (.ifCond .eq 14, 3) := by decide +kernel
theorem dX3_hold_10 : decode cX3_hold 10 = .ok (.aload_n 0, 1) := by decide +kernel
theorem dX3_hold_11 : decode cX3_hold 11 = .ok (.getfield 10, 3) := by decide +kernel
theorem dX3_hold_14 : decode cX3_hold 14 = .ok (.iload_n 2, 1) := by decide +kernel
theorem dX3_hold_15 : decode cX3_hold 15 = .ok (.invokevirtual 127, 3) := by decide +kernel
theorem dX3_hold_18 : decode cX3_hold 18 = .ok (.ifCond .ne 10, 3) := by decide +kernel
theorem dX3_hold_21 : decode cX3_hold 21 = .ok (.aload_n 0, 1) := by decide +kernel
theorem dX3_hold_22 : decode cX3_hold 22 = .ok (.ldc 48, 2) := by decide +kernel
theorem dX3_hold_24 : decode cX3_hold 24 = .ok (.invokevirtual 49, 3) := by decide +kernel
theorem dX3_hold_27 : decode cX3_hold 27 = .ok (.ireturn, 1) := by decide +kernel
theorem dX3_hold_28 : decode cX3_hold 28 = .ok (.aload_n 0, 1) := by decide +kernel
theorem dX3_hold_29 : decode cX3_hold 29 = .ok (.getfield 10, 3) := by decide +kernel
theorem dX3_hold_32 : decode cX3_hold 32 = .ok (.getfield 226, 3) := by decide +kernel
theorem dX3_hold_35 : decode cX3_hold 35 = .ok (.iload_n 1, 1) := by decide +kernel
theorem dX3_hold_36 : decode cX3_hold 36 = .ok (.iload_n 2, 1) := by decide +kernel
theorem dX3_hold_37 : decode cX3_hold 37 = .ok (.iastore, 1) := by decide +kernel
theorem dX3_hold_38 : decode cX3_hold 38 = .ok (.iconst 1, 1) := by decide +kernel
theorem dX3_hold_39 : decode cX3_hold 39 = .ok (.ireturn, 1) := by decide +kernel
theorem dX3_as_0 : decode cX3_as 0 = .ok (.iload_n 1, 1) := by decide +kernel
theorem dX3_as_1 : decode cX3_as 1 = .ok (.iconst 0, 1) := by decide +kernel
theorem dX3_as_2 : decode cX3_as 2 = .ok (.bipush 9, 2) := by decide +kernel
theorem dX3_as_4 : decode cX3_as 4 = .ok (.invokestatic 44, 3) := by decide +kernel
theorem dX3_as_7 : decode cX3_as 7 = .ok (.ifCond .eq 10, 3) := by decide +kernel
theorem dX3_as_10 : decode cX3_as 10 = .ok (.iload_n 2, 1) := by decide +kernel
theorem dX3_as_11 : decode cX3_as 11 = .ok (.invokestatic 84, 3) := by decide +kernel
theorem dX3_as_14 : decode cX3_as 14 = .ok (.ifCond .ne 10, 3) := by decide +kernel
theorem dX3_as_17 : decode cX3_as 17 = .ok (.aload_n 0, 1) := by decide +kernel
theorem dX3_as_18 : decode cX3_as 18 = .ok (.ldc 48, 2) := by decide +kernel
theorem dX3_as_20 : decode cX3_as 20 = .ok (.invokevirtual 49, 3) := by decide +kernel
theorem dX3_as_23 : decode cX3_as 23 = .ok (.ireturn, 1) := by decide +kernel
theorem dX3_as_24 : decode cX3_as 24 = .ok (.aload_n 0, 1) := by decide +kernel
theorem dX3_as_25 : decode cX3_as 25 = .ok (.getfield 10, 3) := by decide +kernel
theorem dX3_as_28 : decode cX3_as 28 = .ok (.getfield 226, 3) := by decide +kernel
theorem dX3_as_31 : decode cX3_as 31 = .ok (.iload_n 1, 1) := by decide +kernel
theorem dX3_as_32 : decode cX3_as 32 = .ok (.iaload, 1) := by decide +kernel
theorem dX3_as_33 : decode cX3_as 33 = .ok (.istore_n 3, 1) := by decide +kernel
theorem dX3_as_34 : decode cX3_as 34 = .ok (.aload_n 0, 1) := by decide +kernel
theorem dX3_as_35 : decode cX3_as 35 = .ok (.getfield 10, 3) := by decide +kernel
theorem dX3_as_38 : decode cX3_as 38 = .ok (.iload_n 3, 1) := by decide +kernel
theorem dX3_as_39 : decode cX3_as 39 = .ok (.invokevirtual 99, 3) := by decide +kernel
theorem dX3_as_42 : decode cX3_as 42 = .ok (.ifCond .ne 10, 3) := by decide +kernel
theorem dX3_as_45 : decode cX3_as 45 = .ok (.aload_n 0, 1) := by decide +kernel
theorem dX3_as_46 : decode cX3_as 46 = .ok (.ldc 229, 2) := by decide +kernel
theorem dX3_as_48 : decode cX3_as 48 = .ok (.invokevirtual 49, 3) := by decide +kernel
theorem dX3_as_51 : decode cX3_as 51 = .ok (.ireturn, 1) := by decide +kernel
theorem dX3_as_52 : decode cX3_as 52 = .ok (.aload_n 0, 1) := by decide +kernel
theorem dX3_as_53 : decode cX3_as 53 = .ok (.getfield 10, 3) := by decide +kernel
theorem dX3_as_56 : decode cX3_as 56 = .ok (.getfield 102, 3) := by decide +kernel
theorem dX3_as_59 : decode cX3_as 59 = .ok (.iload_n 3, 1) := by decide +kernel
theorem dX3_as_60 : decode cX3_as 60 = .ok (.iaload, 1) := by decide +kernel
theorem dX3_as_61 : decode cX3_as 61 = .ok (.iload_n 2, 1) := by decide +kernel
theorem dX3_as_62 : decode cX3_as 62 = .ok (.invokestatic 230, 3) := by decide +kernel
theorem dX3_as_65 : decode cX3_as 65 = .ok (.ifCond .eq 7, 3) := by decide +kernel
theorem dX3_as_68 : decode cX3_as 68 = .ok (.iload_n 3, 1) := by decide +kernel
theorem dX3_as_69 : decode cX3_as 69 = .ok (.goto 9, 3) := by decide +kernel
theorem dX3_as_72 : decode cX3_as 72 = .ok (.aload_n 0, 1) := by decide +kernel
theorem dX3_as_73 : decode cX3_as 73 = .ok (.ldc 233, 2) := by decide +kernel
theorem dX3_as_75 : decode cX3_as 75 = .ok (.invokevirtual 49, 3) := by decide +kernel
theorem dX3_as_78 : decode cX3_as 78 = .ok (.ireturn, 1) := by decide +kernel
theorem dX3_sheet_0 : decode cX3_sheet 0 = .ok (.aload_n 0, 1) := by decide +kernel
theorem dX3_sheet_1 : decode cX3_sheet 1 = .ok (.iload_n 1, 1) := by decide +kernel
theorem dX3_sheet_2 : decode cX3_sheet 2 = .ok (.invokevirtual 234, 3) := by decide +kernel
theorem dX3_sheet_5 : decode cX3_sheet 5 = .ok (.astore 4, 2) := by decide +kernel
theorem dX3_sheet_7 : decode cX3_sheet 7 = .ok (.aload 4, 2) := by decide +kernel
theorem dX3_sheet_9 : decode cX3_sheet 9 = .ok (.ifnull 25, 3) := by decide +kernel
theorem dX3_sheet_12 : decode cX3_sheet 12 = .ok (.iload_n 2, 1) := by decide +kernel
theorem dX3_sheet_13 : decode cX3_sheet 13 = .ok (.ifCond .eq 28, 3) := by decide +kernel
theorem dX3_sheet_16 : decode cX3_sheet 16 = .ok (.iload_n 2, 1) := by decide +kernel
theorem dX3_sheet_17 : decode cX3_sheet 17 = .ok (.bipush 8, 2) := by decide +kernel
theorem dX3_sheet_19 : decode cX3_sheet 19 = .ok (.if_icmp .eq 22, 3) := by decide +kernel
theorem dX3_sheet_22 : decode cX3_sheet 22 = .ok (.iload_n 2, 1) := by decide +kernel
theorem dX3_sheet_23 : decode cX3_sheet 23 = .ok (.bipush 16, 2) := by decide +kernel
theorem dX3_sheet_25 : decode cX3_sheet 25 = .ok (.if_icmp .eq 16, 3) := by decide +kernel
theorem dX3_sheet_28 : decode cX3_sheet 28 = .ok (.iload_n 2, 1) := by decide +kernel
theorem dX3_sheet_29 : decode cX3_sheet 29 = .ok (.bipush 32, 2) := by decide +kernel
theorem dX3_sheet_31 : decode cX3_sheet 31 = .ok (.if_icmp .eq 10, 3) := by decide +kernel
theorem dX3_sheet_34 : decode cX3_sheet 34 = .ok (.aload_n 0, 1) := by decide +kernel
theorem dX3_sheet_35 : decode cX3_sheet 35 = .ok (.ldc 48, 2) := by decide +kernel
theorem dX3_sheet_37 : decode cX3_sheet 37 = .ok (.invokevirtual 49, 3) := by decide +kernel
theorem dX3_sheet_40 : decode cX3_sheet 40 = .ok (.ireturn, 1) := by decide +kernel
theorem dX3_sheet_41 : decode cX3_sheet 41 = .ok (.iload_n 3, 1) := by decide +kernel
theorem dX3_sheet_42 : decode cX3_sheet 42 = .ok (.ifCond .ge 10, 3) := by decide +kernel
theorem dX3_sheet_45 : decode cX3_sheet 45 = .ok (.aload_n 0, 1) := by decide +kernel
theorem dX3_sheet_46 : decode cX3_sheet 46 = .ok (.ldc 196, 2) := by decide +kernel
theorem dX3_sheet_48 : decode cX3_sheet 48 = .ok (.invokevirtual 49, 3) := by decide +kernel
theorem dX3_sheet_51 : decode cX3_sheet 51 = .ok (.ireturn, 1) := by decide +kernel
theorem dX3_sheet_52 : decode cX3_sheet 52 = .ok (.iload_n 3, 1) := by decide +kernel
theorem dX3_sheet_53 : decode cX3_sheet 53 = .ok (.bipush 40, 2) := by decide +kernel
theorem dX3_sheet_55 : decode cX3_sheet 55 = .ok (.if_icmp .le 10, 3) := by decide +kernel
theorem dX3_sheet_58 : decode cX3_sheet 58 = .ok (.aload_n 0, 1) := by decide +kernel
theorem dX3_sheet_59 : decode cX3_sheet 59 = .ok (.ldc 48, 2) := by decide +kernel
theorem dX3_sheet_61 : decode cX3_sheet 61 = .ok (.invokevirtual 49, 3) := by decide +kernel
theorem dX3_sheet_64 : decode cX3_sheet 64 = .ok (.ireturn, 1) := by decide +kernel
theorem dX3_sheet_65 : decode cX3_sheet 65 = .ok (.aload 4, 2) := by decide +kernel
theorem dX3_sheet_67 : decode cX3_sheet 67 = .ok (.iload_n 2, 1) := by decide +kernel
theorem dX3_sheet_68 : decode cX3_sheet 68 = .ok (.iload_n 3, 1) := by decide +kernel
theorem dX3_sheet_69 : decode cX3_sheet 69 = .ok (.invokevirtual 238, 3) := by decide +kernel
theorem dX3_sheet_72 : decode cX3_sheet 72 = .ok (.aload 4, 2) := by decide +kernel
theorem dX3_sheet_74 : decode cX3_sheet 74 = .ok (.getfield 241, 3) := by decide +kernel
theorem dX3_sheet_77 : decode cX3_sheet 77 = .ok (.ireturn, 1) := by decide +kernel
theorem dX3_write_0 : decode cX3_write 0 = .ok (.aload_n 0, 1) := by decide +kernel
theorem dX3_write_1 : decode cX3_write 1 = .ok (.iload_n 1, 1) := by decide +kernel
theorem dX3_write_2 : decode cX3_write 2 = .ok (.invokevirtual 234, 3) := by decide +kernel
theorem dX3_write_5 : decode cX3_write 5 = .ok (.astore 4, 2) := by decide +kernel
theorem dX3_write_7 : decode cX3_write 7 = .ok (.aload 4, 2) := by decide +kernel
theorem dX3_write_9 : decode cX3_write 9 = .ok (.ifnonnull 10, 3) := by decide +kernel
theorem dX3_write_12 : decode cX3_write 12 = .ok (.aload_n 0, 1) := by decide +kernel
theorem dX3_write_13 : decode cX3_write 13 = .ok (.ldc 48, 2) := by decide +kernel
theorem dX3_write_15 : decode cX3_write 15 = .ok (.invokevirtual 49, 3) := by decide +kernel
theorem dX3_write_18 : decode cX3_write 18 = .ok (.ireturn, 1) := by decide +kernel
theorem dX3_write_19 : decode cX3_write 19 = .ok (.aload 4, 2) := by decide +kernel
theorem dX3_write_21 : decode cX3_write 21 = .ok (.invokevirtual 244, 3) := by decide +kernel
theorem dX3_write_24 : decode cX3_write 24 = .ok (.ifCond .eq 10, 3) := by decide +kernel
theorem dX3_write_27 : decode cX3_write 27 = .ok (.aload_n 0, 1) := by decide +kernel
theorem dX3_write_28 : decode cX3_write 28 = .ok (.ldc 229, 2) := by decide +kernel
theorem dX3_write_30 : decode cX3_write 30 = .ok (.invokevirtual 49, 3) := by decide +kernel
theorem dX3_write_33 : decode cX3_write 33 = .ok (.ireturn, 1) := by decide +kernel
theorem dX3_write_34 : decode cX3_write 34 = .ok (.iload_n 2, 1) := by decide +kernel
theorem dX3_write_35 : decode cX3_write 35 = .ok (.iconst 0, 1) := by decide +kernel
theorem dX3_write_36 : decode cX3_write 36 = .ok (.aload 4, 2) := by decide +kernel
theorem dX3_write_38 : decode cX3_write 38 = .ok (.getfield 241, 3) := by decide +kernel
theorem dX3_write_41 : decode cX3_write 41 = .ok (.iconst 1, 1) := by decide +kernel
theorem dX3_write_42 : decode cX3_write 42 = .ok (.isub, 1) := by decide +kernel
theorem dX3_write_43 : decode cX3_write 43 = .ok (.invokestatic 44, 3) := by decide +kernel
theorem dX3_write_46 : decode cX3_write 46 = .ok (.ifCond .ne 10, 3) := by decide +kernel
theorem dX3_write_49 : decode cX3_write 49 = .ok (.aload_n 0, 1) := by decide +kernel
theorem dX3_write_50 : decode cX3_write 50 = .ok (.ldc 48, 2) := by decide +kernel
theorem dX3_write_52 : decode cX3_write 52 = .ok (.invokevirtual 49, 3) := by decide +kernel
theorem dX3_write_55 : decode cX3_write 55 = .ok (.ireturn, 1) := by decide +kernel
theorem dX3_write_56 : decode cX3_write 56 = .ok (.aload 4, 2) := by decide +kernel
theorem dX3_write_58 : decode cX3_write 58 = .ok (.getfield 248, 3) := by decide +kernel
theorem dX3_write_61 : decode cX3_write 61 = .ok (.iload_n 2, 1) := by decide +kernel
theorem dX3_write_62 : decode cX3_write 62 = .ok (.aload 4, 2) := by decide +kernel
theorem dX3_write_64 : decode cX3_write 64 = .ok (.iload_n 3, 1) := by decide +kernel
theorem dX3_write_65 : decode cX3_write 65 = .ok (.invokevirtual 251, 3) := by decide +kernel
theorem dX3_write_68 : decode cX3_write 68 = .ok (.iastore, 1) := by decide +kernel
theorem dX3_write_69 : decode cX3_write 69 = .ok (.iconst 1, 1) := by decide +kernel
theorem dX3_write_70 : decode cX3_write 70 = .ok (.ireturn, 1) := by decide +kernel
theorem dX3_copy_0 : decode cX3_copy 0 = .ok (.aload_n 0, 1) := by decide +kernel
theorem dX3_copy_1 : decode cX3_copy 1 = .ok (.iload_n 1, 1) := by decide +kernel
theorem dX3_copy_2 : decode cX3_copy 2 = .ok (.invokevirtual 234, 3) := by decide +kernel
theorem dX3_copy_5 : decode cX3_copy 5 = .ok (.astore 6, 2) := by decide +kernel
theorem dX3_copy_7 : decode cX3_copy 7 = .ok (.aload_n 0, 1) := by decide +kernel
theorem dX3_copy_8 : decode cX3_copy 8 = .ok (.iload_n 3, 1) := by decide +kernel
theorem dX3_copy_9 : decode cX3_copy 9 = .ok (.invokevirtual 234, 3) := by decide +kernel
theorem dX3_copy_12 : decode cX3_copy 12 = .ok (.astore 7, 2) := by decide +kernel
theorem dX3_copy_14 : decode cX3_copy 14 = .ok (.aload 6, 2) := by decide +kernel
theorem dX3_copy_16 : decode cX3_copy 16 = .ok (.ifnull 8, 3) := by decide +kernel
theorem dX3_copy_19 : decode cX3_copy 19 = .ok (.aload 7, 2) := by decide +kernel
theorem dX3_copy_21 : decode cX3_copy 21 = .ok (.ifnonnull 10, 3) := by decide +kernel
theorem dX3_copy_24 : decode cX3_copy 24 = .ok (.aload_n 0, 1) := by decide +kernel
theorem dX3_copy_25 : decode cX3_copy 25 = .ok (.ldc 48, 2) := by decide +kernel
theorem dX3_copy_27 : decode cX3_copy 27 = .ok (.invokevirtual 49, 3) := by decide +kernel
theorem dX3_copy_30 : decode cX3_copy 30 = .ok (.ireturn, 1) := by decide +kernel
theorem dX3_copy_31 : decode cX3_copy 31 = .ok (.aload 6, 2) := by decide +kernel
theorem dX3_copy_33 : decode cX3_copy 33 = .ok (.invokevirtual 244, 3) := by decide +kernel
theorem dX3_copy_36 : decode cX3_copy 36 = .ok (.ifCond .ne 11, 3) := by decide +kernel
theorem dX3_copy_39 : decode cX3_copy 39 = .ok (.aload 7, 2) := by decide +kernel
theorem dX3_copy_41 : decode cX3_copy 41 = .ok (.invokevirtual 244, 3) := by decide +kernel
theorem dX3_copy_44 : decode cX3_copy 44 = .ok (.ifCond .eq 10, 3) := by decide +kernel
theorem dX3_copy_47 : decode cX3_copy 47 = .ok (.aload_n 0, 1) := by decide +kernel
theorem dX3_copy_48 : decode cX3_copy 48 = .ok (.ldc 229, 2) := by decide +kernel
theorem dX3_copy_50 : decode cX3_copy 50 = .ok (.invokevirtual 49, 3) := by decide +kernel
theorem dX3_copy_53 : decode cX3_copy 53 = .ok (.ireturn, 1) := by decide +kernel
theorem dX3_copy_54 : decode cX3_copy 54 = .ok (.aload 6, 2) := by decide +kernel
theorem dX3_copy_56 : decode cX3_copy 56 = .ok (.getfield 254, 3) := by decide +kernel
theorem dX3_copy_59 : decode cX3_copy 59 = .ok (.aload 7, 2) := by decide +kernel
theorem dX3_copy_61 : decode cX3_copy 61 = .ok (.getfield 254, 3) := by decide +kernel
theorem dX3_copy_64 : decode cX3_copy 64 = .ok (.if_icmp .eq 10, 3) := by decide +kernel
theorem dX3_copy_67 : decode cX3_copy 67 = .ok (.aload_n 0, 1) := by decide +kernel
theorem dX3_copy_68 : decode cX3_copy 68 = .ok (.ldc 233, 2) := by decide +kernel
theorem dX3_copy_70 : decode cX3_copy 70 = .ok (.invokevirtual 49, 3) := by decide +kernel
theorem dX3_copy_73 : decode cX3_copy 73 = .ok (.ireturn, 1) := by decide +kernel
theorem dX3_copy_74 : decode cX3_copy 74 = .ok (.aload 6, 2) := by decide +kernel
theorem dX3_copy_76 : decode cX3_copy 76 = .ok (.iload_n 2, 1) := by decide +kernel
theorem dX3_copy_77 : decode cX3_copy 77 = .ok (.iload 5, 2) := by decide +kernel
theorem dX3_copy_79 : decode cX3_copy 79 = .ok (.invokevirtual 257, 3) := by decide +kernel
theorem dX3_copy_82 : decode cX3_copy 82 = .ok (.ifCond .eq 15, 3) := by decide +kernel
theorem dX3_copy_85 : decode cX3_copy 85 = .ok (.aload 7, 2) := by decide +kernel
theorem dX3_copy_87 : decode cX3_copy 87 = .ok (.iload 4, 2) := by decide +kernel
theorem dX3_copy_89 : decode cX3_copy 89 = .ok (.iload 5, 2) := by decide +kernel
theorem dX3_copy_91 : decode cX3_copy 91 = .ok (.invokevirtual 257, 3) := by decide +kernel
theorem dX3_copy_94 : decode cX3_copy 94 = .ok (.ifCond .ne 10, 3) := by decide +kernel
theorem dX3_copy_97 : decode cX3_copy 97 = .ok (.aload_n 0, 1) := by decide +kernel
theorem dX3_copy_98 : decode cX3_copy 98 = .ok (.ldc 48, 2) := by decide +kernel
theorem dX3_copy_100 : decode cX3_copy 100 = .ok (.invokevirtual 49, 3) := by decide +kernel
theorem dX3_copy_103 : decode cX3_copy 103 = .ok (.ireturn, 1) := by decide +kernel
theorem dX3_copy_104 : decode cX3_copy 104 = .ok (.aload 6, 2) := by decide +kernel
theorem dX3_copy_106 : decode cX3_copy 106 = .ok (.getfield 248, 3) := by decide +kernel
theorem dX3_copy_109 : decode cX3_copy 109 = .ok (.iload_n 2, 1) := by decide +kernel
theorem dX3_copy_110 : decode cX3_copy 110 = .ok (.aload 7, 2) := by decide +kernel
theorem dX3_copy_112 : decode cX3_copy 112 = .ok (.getfield 248, 3) := by decide +kernel
theorem dX3_copy_115 : decode cX3_copy 115 = .ok (.iload 4, 2) := by decide +kernel
theorem dX3_copy_117 : decode cX3_copy 117 = .ok (.iload 5, 2) := by decide +kernel
theorem dX3_copy_119 : decode cX3_copy 119 = .ok (.invokestatic 260, 3) := by decide +kernel
theorem dX3_copy_122 : decode cX3_copy 122 = .ok (.iload 5, 2) := by decide +kernel
theorem dX3_copy_124 : decode cX3_copy 124 = .ok (.ireturn, 1) := by decide +kernel
theorem dX3_load_0 : decode cX3_load 0 = .ok (.aload_n 0, 1) := by decide +kernel
theorem dX3_load_1 : decode cX3_load 1 = .ok (.iload_n 1, 1) := by decide +kernel
theorem dX3_load_2 : decode cX3_load 2 = .ok (.invokevirtual 234, 3) := by decide +kernel
theorem dX3_load_5 : decode cX3_load 5 = .ok (.astore_n 2, 1) := by decide +kernel
theorem dX3_load_6 : decode cX3_load 6 = .ok (.aload_n 2, 1) := by decide +kernel
theorem dX3_load_7 : decode cX3_load 7 = .ok (.ifnonnull 10, 3) := by decide +kernel
theorem dX3_load_10 : decode cX3_load 10 = .ok (.aload_n 0, 1) := by decide +kernel
theorem dX3_load_11 : decode cX3_load 11 = .ok (.ldc 48, 2) := by decide +kernel
theorem dX3_load_13 : decode cX3_load 13 = .ok (.invokevirtual 49, 3) := by decide +kernel
theorem dX3_load_16 : decode cX3_load 16 = .ok (.ireturn, 1) := by decide +kernel
theorem dX3_load_17 : decode cX3_load 17 = .ok (.aload_n 2, 1) := by decide +kernel
theorem dX3_load_18 : decode cX3_load 18 = .ok (.invokevirtual 244, 3) := by decide +kernel
theorem dX3_load_21 : decode cX3_load 21 = .ok (.ifCond .eq 10, 3) := by decide +kernel
theorem dX3_load_24 : decode cX3_load 24 = .ok (.aload_n 0, 1) := by decide +kernel
theorem dX3_load_25 : decode cX3_load 25 = .ok (.ldc 229, 2) := by decide +kernel
theorem dX3_load_27 : decode cX3_load 27 = .ok (.invokevirtual 49, 3) := by decide +kernel
theorem dX3_load_30 : decode cX3_load 30 = .ok (.ireturn, 1) := by decide +kernel
theorem dX3_load_31 : decode cX3_load 31 = .ok (.iconst 0, 1) := by decide +kernel
theorem dX3_load_32 : decode cX3_load 32 = .ok (.istore_n 3, 1) := by decide +kernel
theorem dX3_load_33 : decode cX3_load 33 = .ok (.iload_n 3, 1) := by decide +kernel
theorem dX3_load_34 : decode cX3_load 34 = .ok (.aload_n 2, 1) := by decide +kernel
theorem dX3_load_35 : decode cX3_load 35 = .ok (.getfield 241, 3) := by decide +kernel
theorem dX3_load_38 : decode cX3_load 38 = .ok (.if_icmp .ge 59, 3) := by decide +kernel
theorem dX3_load_41 : decode cX3_load 41 = .ok (.iload_n 3, 1) := by decide +kernel
theorem dX3_load_42 : decode cX3_load 42 = .ok (.aload_n 0, 1) := by decide +kernel
theorem dX3_load_43 : decode cX3_load 43 = .ok (.getfield 10, 3) := by decide +kernel
theorem dX3_load_46 : decode cX3_load 46 = .ok (.getfield 90, 3) := by decide +kernel
theorem dX3_load_49 : decode cX3_load 49 = .ok (.if_icmp .ge 48, 3) := by decide +kernel
theorem dX3_load_52 : decode cX3_load 52 = .ok (.aload_n 2, 1) := by decide +kernel
theorem dX3_load_53 : decode cX3_load 53 = .ok (.getfield 248, 3) := by decide +kernel
theorem dX3_load_56 : decode cX3_load 56 = .ok (.iload_n 3, 1) := by decide +kernel
theorem dX3_load_57 : decode cX3_load 57 = .ok (.iaload, 1) := by decide +kernel
theorem dX3_load_58 : decode cX3_load 58 = .ok (.istore 4, 2) := by decide +kernel
theorem dX3_load_60 : decode cX3_load 60 = .ok (.aload_n 0, 1) := by decide +kernel
theorem dX3_load_61 : decode cX3_load 61 = .ok (.getfield 10, 3) := by decide +kernel
theorem dX3_load_64 : decode cX3_load 64 = .ok (.iload 4, 2) := by decide +kernel
theorem dX3_load_66 : decode cX3_load 66 = .ok (.invokevirtual 127, 3) := by decide +kernel
theorem dX3_load_69 : decode cX3_load 69 = .ok (.ifCond .eq 28, 3) := by decide +kernel
theorem dX3_load_72 : decode cX3_load 72 = .ok (.iload 4, 2) := by decide +kernel
theorem dX3_load_74 : decode cX3_load 74 = .ok (.iload_n 3, 1) := by decide +kernel
theorem dX3_load_75 : decode cX3_load 75 = .ok (.if_icmp .ne 6, 3) := by decide +kernel
theorem dX3_load_78 : decode cX3_load 78 = .ok (.goto 19, 3) := by decide +kernel
theorem dX3_load_81 : decode cX3_load 81 = .ok (.aload_n 0, 1) := by decide +kernel
theorem dX3_load_82 : decode cX3_load 82 = .ok (.getfield 10, 3) := by decide +kernel
theorem dX3_load_85 : decode cX3_load 85 = .ok (.iload_n 3, 1) := by decide +kernel
theorem dX3_load_86 : decode cX3_load 86 = .ok (.iload 4, 2) := by decide +kernel
theorem dX3_load_88 : decode cX3_load 88 = .ok (.invokevirtual 130, 3) := by decide +kernel
theorem dX3_load_91 : decode cX3_load 91 = .ok (.iinc 3 1, 3) := by decide +kernel
theorem dX3_load_94 : decode cX3_load 94 = .ok (.goto (-61), 3) := by decide +kernel
theorem dX3_load_97 : decode cX3_load 97 = .ok (.iload_n 3, 1) := by decide +kernel
theorem dX3_load_98 : decode cX3_load 98 = .ok (.ireturn, 1) := by decide +kernel
theorem dX3_judge_0 : decode cX3_judge 0 = .ok (.aload_n 0, 1) := by decide +kernel
theorem dX3_judge_1 : decode cX3_judge 1 = .ok (.iload_n 1, 1) := by decide +kernel
theorem dX3_judge_2 : decode cX3_judge 2 = .ok (.invokevirtual 234, 3) := by decide +kernel
theorem dX3_judge_5 : decode cX3_judge 5 = .ok (.astore_n 2, 1) := by decide +kernel
theorem dX3_judge_6 : decode cX3_judge 6 = .ok (.aload_n 2, 1) := by decide +kernel
theorem dX3_judge_7 : decode cX3_judge 7 = .ok (.ifnonnull 10, 3) := by decide +kernel
theorem dX3_judge_10 : decode cX3_judge 10 = .ok (.aload_n 0, 1) := by decide +kernel
theorem dX3_judge_11 : decode cX3_judge 11 = .ok (.ldc 48, 2) := by decide +kernel
theorem dX3_judge_13 : decode cX3_judge 13 = .ok (.invokevirtual 49, 3) := by decide +kernel
theorem dX3_judge_16 : decode cX3_judge 16 = .ok (.ireturn, 1) := by decide +kernel
theorem dX3_judge_17 : decode cX3_judge 17 = .ok (.aload_n 2, 1) := by decide +kernel
theorem dX3_judge_18 : decode cX3_judge 18 = .ok (.invokevirtual 244, 3) := by decide +kernel
theorem dX3_judge_21 : decode cX3_judge 21 = .ok (.ifCond .eq 10, 3) := by decide +kernel
theorem dX3_judge_24 : decode cX3_judge 24 = .ok (.aload_n 0, 1) := by decide +kernel
theorem dX3_judge_25 : decode cX3_judge 25 = .ok (.ldc 229, 2) := by decide +kernel
theorem dX3_judge_27 : decode cX3_judge 27 = .ok (.invokevirtual 49, 3) := by decide +kernel
theorem dX3_judge_30 : decode cX3_judge 30 = .ok (.ireturn, 1) := by decide +kernel
theorem dX3_judge_31 : decode cX3_judge 31 = .ok (.aload_n 0, 1) := by decide +kernel
theorem dX3_judge_32 : decode cX3_judge 32 = .ok (.aload_n 2, 1) := by decide +kernel
theorem dX3_judge_33 : decode cX3_judge 33 = .ok (.getfield 241, 3) := by decide +kernel
theorem dX3_judge_36 : decode cX3_judge 36 = .ok (.invokevirtual 163, 3) := by decide +kernel
theorem dX3_judge_39 : decode cX3_judge 39 = .ok (.ifCond .eq 10, 3) := by decide +kernel
theorem dX3_judge_42 : decode cX3_judge 42 = .ok (.aload_n 0, 1) := by decide +kernel
theorem dX3_judge_43 : decode cX3_judge 43 = .ok (.ldc 56, 2) := by decide +kernel
theorem dX3_judge_45 : decode cX3_judge 45 = .ok (.invokevirtual 49, 3) := by decide +kernel
theorem dX3_judge_48 : decode cX3_judge 48 = .ok (.ireturn, 1) := by decide +kernel
theorem dX3_judge_49 : decode cX3_judge 49 = .ok (.aload_n 0, 1) := by decide +kernel
theorem dX3_judge_50 : decode cX3_judge 50 = .ok (.getfield 19, 3) := by decide +kernel
theorem dX3_judge_53 : decode cX3_judge 53 = .ok (.aload_n 0, 1) := by decide +kernel
theorem dX3_judge_54 : decode cX3_judge 54 = .ok (.getfield 10, 3) := by decide +kernel
theorem dX3_judge_57 : decode cX3_judge 57 = .ok (.invokevirtual 169, 3) := by decide +kernel
theorem dX3_judge_60 : decode cX3_judge 60 = .ok (.iconst 0, 1) := by decide +kernel
theorem dX3_judge_61 : decode cX3_judge 61 = .ok (.istore_n 3, 1) := by decide +kernel
theorem dX3_judge_62 : decode cX3_judge 62 = .ok (.iload_n 3, 1) := by decide +kernel
theorem dX3_judge_63 : decode cX3_judge 63 = .ok (.aload_n 2, 1) := by decide +kernel
theorem dX3_judge_64 : decode cX3_judge 64 = .ok (.getfield 241, 3) := by decide +kernel
theorem dX3_judge_67 : decode cX3_judge 67 = .ok (.if_icmp .ge 38, 3) := by decide +kernel
theorem dX3_judge_70 : decode cX3_judge 70 = .ok (.aload_n 0, 1) := by decide +kernel
theorem dX3_judge_71 : decode cX3_judge 71 = .ok (.getfield 19, 3) := by decide +kernel
theorem dX3_judge_74 : decode cX3_judge 74 = .ok (.invokevirtual 179, 3) := by decide +kernel
theorem dX3_judge_77 : decode cX3_judge 77 = .ok (.aload_n 2, 1) := by decide +kernel
theorem dX3_judge_78 : decode cX3_judge 78 = .ok (.getfield 248, 3) := by decide +kernel
theorem dX3_judge_81 : decode cX3_judge 81 = .ok (.iload_n 3, 1) := by decide +kernel
theorem dX3_judge_82 : decode cX3_judge 82 = .ok (.iaload, 1) := by decide +kernel
theorem dX3_judge_83 : decode cX3_judge 83 = .ok (.aload_n 0, 1) := by decide +kernel
theorem dX3_judge_84 : decode cX3_judge 84 = .ok (.getfield 19, 3) := by decide +kernel
theorem dX3_judge_87 : decode cX3_judge 87 = .ok (.getfield 60, 3) := by decide +kernel
theorem dX3_judge_90 : decode cX3_judge 90 = .ok (.iconst 0, 1) := by decide +kernel
theorem dX3_judge_91 : decode cX3_judge 91 = .ok (.iaload, 1) := by decide +kernel
theorem dX3_judge_92 : decode cX3_judge 92 = .ok (.if_icmp .eq 7, 3) := by decide +kernel
theorem dX3_judge_95 : decode cX3_judge 95 = .ok (.iconst 1, 1) := by decide +kernel
theorem dX3_judge_96 : decode cX3_judge 96 = .ok (.iload_n 3, 1) := by decide +kernel
theorem dX3_judge_97 : decode cX3_judge 97 = .ok (.iadd, 1) := by decide +kernel
theorem dX3_judge_98 : decode cX3_judge 98 = .ok (.ireturn, 1) := by decide +kernel
theorem dX3_judge_99 : decode cX3_judge 99 = .ok (.iinc 3 1, 3) := by decide +kernel
theorem dX3_judge_102 : decode cX3_judge 102 = .ok (.goto (-40), 3) := by decide +kernel
theorem dX3_judge_105 : decode cX3_judge 105 = .ok (.iconst 0, 1) := by decide +kernel
theorem dX3_judge_106 : decode cX3_judge 106 = .ok (.ireturn, 1) := by decide +kernel
theorem dX3_image_0 : decode cX3_image 0 = .ok (.aload_n 0, 1) := by decide +kernel
theorem dX3_image_1 : decode cX3_image 1 = .ok (.getfield 16, 3) := by decide +kernel
theorem dX3_image_4 : decode cX3_image 4 = .ok (.aload_n 0, 1) := by decide +kernel
theorem dX3_image_5 : decode cX3_image 5 = .ok (.getfield 10, 3) := by decide +kernel
theorem dX3_image_8 : decode cX3_image 8 = .ok (.invokevirtual 169, 3) := by decide +kernel
theorem dX3_image_11 : decode cX3_image 11 = .ok (.aload_n 0, 1) := by decide +kernel
theorem dX3_image_12 : decode cX3_image 12 = .ok (.iconst 1, 1) := by decide +kernel
theorem dX3_image_13 : decode cX3_image 13 = .ok (.putfield 266, 3) := by decide +kernel
theorem dX3_image_16 : decode cX3_image 16 = .ok (.iconst 1, 1) := by decide +kernel
theorem dX3_image_17 : decode cX3_image 17 = .ok (.ireturn, 1) := by decide +kernel
theorem dX3_back_0 : decode cX3_back 0 = .ok (.aload_n 0, 1) := by decide +kernel
theorem dX3_back_1 : decode cX3_back 1 = .ok (.getfield 266, 3) := by decide +kernel
theorem dX3_back_4 : decode cX3_back 4 = .ok (.ifCond .ne 10, 3) := by decide +kernel
theorem dX3_back_7 : decode cX3_back 7 = .ok (.aload_n 0, 1) := by decide +kernel
theorem dX3_back_8 : decode cX3_back 8 = .ok (.ldc 156, 2) := by decide +kernel
theorem dX3_back_10 : decode cX3_back 10 = .ok (.invokevirtual 49, 3) := by decide +kernel
theorem dX3_back_13 : decode cX3_back 13 = .ok (.ireturn, 1) := by decide +kernel
theorem dX3_back_14 : decode cX3_back 14 = .ok (.aload_n 0, 1) := by decide +kernel
theorem dX3_back_15 : decode cX3_back 15 = .ok (.getfield 10, 3) := by decide +kernel
theorem dX3_back_18 : decode cX3_back 18 = .ok (.aload_n 0, 1) := by decide +kernel
theorem dX3_back_19 : decode cX3_back 19 = .ok (.getfield 16, 3) := by decide +kernel
theorem dX3_back_22 : decode cX3_back 22 = .ok (.invokevirtual 169, 3) := by decide +kernel
theorem dX3_back_25 : decode cX3_back 25 = .ok (.aload_n 0, 1) := by decide +kernel
theorem dX3_back_26 : decode cX3_back 26 = .ok (.getfield 10, 3) := by decide +kernel
theorem dX3_back_29 : decode cX3_back 29 = .ok (.getfield 270, 3) := by decide +kernel
theorem dX3_back_32 : decode cX3_back 32 = .ok (.ireturn, 1) := by decide +kernel
theorem dX3_tear_0 : decode cX3_tear 0 = .ok (.aload_n 0, 1) := by decide +kernel
theorem dX3_tear_1 : decode cX3_tear 1 = .ok (.getfield 266, 3) := by decide +kernel
theorem dX3_tear_4 : decode cX3_tear 4 = .ok (.ifCond .eq 7, 3) := by decide +kernel
theorem dX3_tear_7 : decode cX3_tear 7 = .ok (.iconst 1, 1) := by decide +kernel
theorem dX3_tear_8 : decode cX3_tear 8 = .ok (.goto 4, 3) := by decide +kernel
theorem dX3_tear_11 : decode cX3_tear 11 = .ok (.iconst 0, 1) := by decide +kernel
theorem dX3_tear_12 : decode cX3_tear 12 = .ok (.istore_n 1, 1) := by decide +kernel
theorem dX3_tear_13 : decode cX3_tear 13 = .ok (.aload_n 0, 1) := by decide +kernel
theorem dX3_tear_14 : decode cX3_tear 14 = .ok (.iconst 0, 1) := by decide +kernel
theorem dX3_tear_15 : decode cX3_tear 15 = .ok (.putfield 266, 3) := by decide +kernel
theorem dX3_tear_18 : decode cX3_tear 18 = .ok (.iload_n 1, 1) := by decide +kernel
theorem dX3_tear_19 : decode cX3_tear 19 = .ok (.ireturn, 1) := by decide +kernel
theorem dX3_count_0 : decode cX3_count 0 = .ok (.iload_n 1, 1) := by decide +kernel
theorem dX3_count_1 : decode cX3_count 1 = .ok (.tableswitch 121 0 7 #[47, 55, 63, 74, 82, 97, 105, 113], 47) := by decide +kernel
theorem dX3_count_48 : decode cX3_count 48 = .ok (.aload_n 0, 1) := by decide +kernel
theorem dX3_count_49 : decode cX3_count 49 = .ok (.getfield 10, 3) := by decide +kernel
theorem dX3_count_52 : decode cX3_count 52 = .ok (.getfield 270, 3) := by decide +kernel
theorem dX3_count_55 : decode cX3_count 55 = .ok (.ireturn, 1) := by decide +kernel
theorem dX3_count_56 : decode cX3_count 56 = .ok (.aload_n 0, 1) := by decide +kernel
theorem dX3_count_57 : decode cX3_count 57 = .ok (.getfield 10, 3) := by decide +kernel
theorem dX3_count_60 : decode cX3_count 60 = .ok (.getfield 90, 3) := by decide +kernel
theorem dX3_count_63 : decode cX3_count 63 = .ok (.ireturn, 1) := by decide +kernel
theorem dX3_count_64 : decode cX3_count 64 = .ok (.aload_n 0, 1) := by decide +kernel
theorem dX3_count_65 : decode cX3_count 65 = .ok (.getfield 10, 3) := by decide +kernel
theorem dX3_count_68 : decode cX3_count 68 = .ok (.invokevirtual 173, 3) := by decide +kernel
theorem dX3_count_71 : decode cX3_count 71 = .ok (.invokestatic 67, 3) := by decide +kernel
theorem dX3_count_74 : decode cX3_count 74 = .ok (.ireturn, 1) := by decide +kernel
theorem dX3_count_75 : decode cX3_count 75 = .ok (.aload_n 0, 1) := by decide +kernel
theorem dX3_count_76 : decode cX3_count 76 = .ok (.getfield 10, 3) := by decide +kernel
theorem dX3_count_79 : decode cX3_count 79 = .ok (.getfield 273, 3) := by decide +kernel
theorem dX3_count_82 : decode cX3_count 82 = .ok (.ireturn, 1) := by decide +kernel
theorem dX3_count_83 : decode cX3_count 83 = .ok (.aload_n 0, 1) := by decide +kernel
theorem dX3_count_84 : decode cX3_count 84 = .ok (.getfield 10, 3) := by decide +kernel
theorem dX3_count_87 : decode cX3_count 87 = .ok (.aload_n 0, 1) := by decide +kernel
theorem dX3_count_88 : decode cX3_count 88 = .ok (.getfield 10, 3) := by decide +kernel
theorem dX3_count_91 : decode cX3_count 91 = .ok (.invokevirtual 176, 3) := by decide +kernel
theorem dX3_count_94 : decode cX3_count 94 = .ok (.invokevirtual 72, 3) := by decide +kernel
theorem dX3_count_97 : decode cX3_count 97 = .ok (.ireturn, 1) := by decide +kernel
theorem dX3_count_98 : decode cX3_count 98 = .ok (.aload_n 0, 1) := by decide +kernel
theorem dX3_count_99 : decode cX3_count 99 = .ok (.getfield 10, 3) := by decide +kernel
theorem dX3_count_102 : decode cX3_count 102 = .ok (.invokevirtual 210, 3) := by decide +kernel
theorem dX3_count_105 : decode cX3_count 105 = .ok (.ireturn, 1) := by decide +kernel
theorem dX3_count_106 : decode cX3_count 106 = .ok (.aload_n 0, 1) := by decide +kernel
theorem dX3_count_107 : decode cX3_count 107 = .ok (.getfield 25, 3) := by decide +kernel
theorem dX3_count_110 : decode cX3_count 110 = .ok (.getfield 216, 3) := by decide +kernel
theorem dX3_count_113 : decode cX3_count 113 = .ok (.ireturn, 1) := by decide +kernel
theorem dX3_count_114 : decode cX3_count 114 = .ok (.aload_n 0, 1) := by decide +kernel
theorem dX3_count_115 : decode cX3_count 115 = .ok (.getfield 10, 3) := by decide +kernel
theorem dX3_count_118 : decode cX3_count 118 = .ok (.getfield 213, 3) := by decide +kernel
theorem dX3_count_121 : decode cX3_count 121 = .ok (.ireturn, 1) := by decide +kernel
theorem dX3_count_122 : decode cX3_count 122 = .ok (.aload_n 0, 1) := by decide +kernel
theorem dX3_count_123 : decode cX3_count 123 = .ok (.ldc 48, 2) := by decide +kernel
theorem dX3_count_125 : decode cX3_count 125 = .ok (.invokevirtual 49, 3) := by decide +kernel
theorem dX3_count_128 : decode cX3_count 128 = .ok (.ireturn, 1) := by decide +kernel
theorem dX3_status_0 : decode cX3_status 0 = .ok (.iload_n 1, 1) := by decide +kernel
theorem dX3_status_1 : decode cX3_status 1 = .ok (.iconst (-1), 1) := by decide +kernel
theorem dX3_status_2 : decode cX3_status 2 = .ok (.bipush 6, 2) := by decide +kernel
theorem dX3_status_4 : decode cX3_status 4 = .ok (.invokestatic 44, 3) := by decide +kernel
theorem dX3_status_7 : decode cX3_status 7 = .ok (.ifCond .ne 10, 3) := by decide +kernel
theorem dX3_status_10 : decode cX3_status 10 = .ok (.aload_n 0, 1) := by decide +kernel
theorem dX3_status_11 : decode cX3_status 11 = .ok (.ldc 48, 2) := by decide +kernel
theorem dX3_status_13 : decode cX3_status 13 = .ok (.invokevirtual 49, 3) := by decide +kernel
theorem dX3_status_16 : decode cX3_status 16 = .ok (.ireturn, 1) := by decide +kernel
theorem dX3_status_17 : decode cX3_status 17 = .ok (.iload_n 1, 1) := by decide +kernel
theorem dX3_status_18 : decode cX3_status 18 = .ok (.ifCond .lt 10, 3) := by decide +kernel
theorem dX3_status_21 : decode cX3_status 21 = .ok (.aload_n 0, 1) := by decide +kernel
theorem dX3_status_22 : decode cX3_status 22 = .ok (.getfield 35, 3) := by decide +kernel
theorem dX3_status_25 : decode cX3_status 25 = .ok (.iload_n 1, 1) := by decide +kernel
theorem dX3_status_26 : decode cX3_status 26 = .ok (.iaload, 1) := by decide +kernel
theorem dX3_status_27 : decode cX3_status 27 = .ok (.ireturn, 1) := by decide +kernel
theorem dX3_status_28 : decode cX3_status 28 = .ok (.iconst 0, 1) := by decide +kernel
theorem dX3_status_29 : decode cX3_status 29 = .ok (.istore_n 2, 1) := by decide +kernel
theorem dX3_status_30 : decode cX3_status 30 = .ok (.iconst 0, 1) := by decide +kernel
theorem dX3_status_31 : decode cX3_status 31 = .ok (.istore_n 3, 1) := by decide +kernel
theorem dX3_status_32 : decode cX3_status 32 = .ok (.iload_n 3, 1) := by decide +kernel
theorem dX3_status_33 : decode cX3_status 33 = .ok (.bipush 7, 2) := by decide +kernel
theorem dX3_status_35 : decode cX3_status 35 = .ok (.if_icmp .ge 18, 3) := by decide +kernel
theorem dX3_status_38 : decode cX3_status 38 = .ok (.iload_n 2, 1) := by decide +kernel
theorem dX3_status_39 : decode cX3_status 39 = .ok (.aload_n 0, 1) := by decide +kernel
theorem dX3_status_40 : decode cX3_status 40 = .ok (.getfield 35, 3) := by decide +kernel
theorem dX3_status_43 : decode cX3_status 43 = .ok (.iload_n 3, 1) := by decide +kernel
theorem dX3_status_44 : decode cX3_status 44 = .ok (.iaload, 1) := by decide +kernel
theorem dX3_status_45 : decode cX3_status 45 = .ok (.iadd, 1) := by decide +kernel
theorem dX3_status_46 : decode cX3_status 46 = .ok (.istore_n 2, 1) := by decide +kernel
theorem dX3_status_47 : decode cX3_status 47 = .ok (.iinc 3 1, 3) := by decide +kernel
theorem dX3_status_50 : decode cX3_status 50 = .ok (.goto (-18), 3) := by decide +kernel
theorem dX3_status_53 : decode cX3_status 53 = .ok (.iload_n 2, 1) := by decide +kernel
theorem dX3_status_54 : decode cX3_status 54 = .ok (.ireturn, 1) := by decide +kernel
theorem dX3_found_0 : decode cX3_found 0 = .ok (.ldc 48, 2) := by decide +kernel
theorem dX3_found_2 : decode cX3_found 2 = .ok (.iload_n 1, 1) := by decide +kernel
theorem dX3_found_3 : decode cX3_found 3 = .ok (.isub, 1) := by decide +kernel
theorem dX3_found_4 : decode cX3_found 4 = .ok (.istore_n 2, 1) := by decide +kernel
theorem dX3_found_5 : decode cX3_found 5 = .ok (.iload_n 2, 1) := by decide +kernel
theorem dX3_found_6 : decode cX3_found 6 = .ok (.iconst 0, 1) := by decide +kernel
theorem dX3_found_7 : decode cX3_found 7 = .ok (.bipush 6, 2) := by decide +kernel
theorem dX3_found_9 : decode cX3_found 9 = .ok (.invokestatic 44, 3) := by decide +kernel
theorem dX3_found_12 : decode cX3_found 12 = .ok (.ifCond .eq 13, 3) := by decide +kernel
theorem dX3_found_15 : decode cX3_found 15 = .ok (.aload_n 0, 1) := by decide +kernel
theorem dX3_found_16 : decode cX3_found 16 = .ok (.getfield 35, 3) := by decide +kernel
theorem dX3_found_19 : decode cX3_found 19 = .ok (.iload_n 2, 1) := by decide +kernel
theorem dX3_found_20 : decode cX3_found 20 = .ok (.dup2, 1) := by decide +kernel
theorem dX3_found_21 : decode cX3_found 21 = .ok (.iaload, 1) := by decide +kernel
theorem dX3_found_22 : decode cX3_found 22 = .ok (.iconst 1, 1) := by decide +kernel
theorem dX3_found_23 : decode cX3_found 23 = .ok (.iadd, 1) := by decide +kernel
theorem dX3_found_24 : decode cX3_found 24 = .ok (.iastore, 1) := by decide +kernel
theorem dX3_found_25 : decode cX3_found 25 = .ok (.iload_n 1, 1) := by decide +kernel
theorem dX3_found_26 : decode cX3_found 26 = .ok (.ireturn, 1) := by decide +kernel
theorem dX3_isTooLate_0 : decode cX3_isTooLate 0 = .ok (.aload_n 0, 1) := by decide +kernel
theorem dX3_isTooLate_1 : decode cX3_isTooLate 1 = .ok (.getfield 10, 3) := by decide +kernel
theorem dX3_isTooLate_4 : decode cX3_isTooLate 4 = .ok (.getfield 270, 3) := by decide +kernel
theorem dX3_isTooLate_7 : decode cX3_isTooLate 7 = .ok (.iload_n 1, 1) := by decide +kernel
theorem dX3_isTooLate_8 : decode cX3_isTooLate 8 = .ok (.iadd, 1) := by decide +kernel
theorem dX3_isTooLate_9 : decode cX3_isTooLate 9 = .ok (.sipush 999, 3) := by decide +kernel
theorem dX3_isTooLate_12 : decode cX3_isTooLate 12 = .ok (.if_icmp .le 7, 3) := by decide +kernel
theorem dX3_isTooLate_15 : decode cX3_isTooLate 15 = .ok (.iconst 1, 1) := by decide +kernel
theorem dX3_isTooLate_16 : decode cX3_isTooLate 16 = .ok (.goto 4, 3) := by decide +kernel
theorem dX3_isTooLate_19 : decode cX3_isTooLate 19 = .ok (.iconst 0, 1) := by decide +kernel
theorem dX3_isTooLate_20 : decode cX3_isTooLate 20 = .ok (.ireturn, 1) := by decide +kernel
theorem dX3_sheetAt_0 : decode cX3_sheetAt 0 = .ok (.iload_n 1, 1) := by decide +kernel
theorem dX3_sheetAt_1 : decode cX3_sheetAt 1 = .ok (.iconst 0, 1) := by decide +kernel
theorem dX3_sheetAt_2 : decode cX3_sheetAt 2 = .ok (.iconst 3, 1) := by decide +kernel
theorem dX3_sheetAt_3 : decode cX3_sheetAt 3 = .ok (.invokestatic 44, 3) := by decide +kernel
theorem dX3_sheetAt_6 : decode cX3_sheetAt 6 = .ok (.ifCond .eq 12, 3) := by decide +kernel
theorem dX3_sheetAt_9 : decode cX3_sheetAt 9 = .ok (.aload_n 0, 1) := by decide +kernel
theorem dX3_sheetAt_10 : decode cX3_sheetAt 10 = .ok (.getfield 31, 3) := by decide +kernel
theorem dX3_sheetAt_13 : decode cX3_sheetAt 13 = .ok (.iload_n 1, 1) := by decide +kernel
theorem dX3_sheetAt_14 : decode cX3_sheetAt 14 = .ok (.aaload, 1) := by decide +kernel
theorem dX3_sheetAt_15 : decode cX3_sheetAt 15 = .ok (.goto 4, 3) := by decide +kernel
theorem dX3_sheetAt_18 : decode cX3_sheetAt 18 = .ok (.aconst_null, 1) := by decide +kernel
theorem dX3_sheetAt_19 : decode cX3_sheetAt 19 = .ok (.areturn, 1) := by decide +kernel
theorem dX3_isWithin_0 : decode cX3_isWithin 0 = .ok (.iload_n 0, 1) := by decide +kernel
theorem dX3_isWithin_1 : decode cX3_isWithin 1 = .ok (.iload_n 1, 1) := by decide +kernel
theorem dX3_isWithin_2 : decode cX3_isWithin 2 = .ok (.if_icmp .lt 12, 3) := by decide +kernel
theorem dX3_isWithin_5 : decode cX3_isWithin 5 = .ok (.iload_n 0, 1) := by decide +kernel
theorem dX3_isWithin_6 : decode cX3_isWithin 6 = .ok (.iload_n 2, 1) := by decide +kernel
theorem dX3_isWithin_7 : decode cX3_isWithin 7 = .ok (.if_icmp .gt 7, 3) := by decide +kernel
theorem dX3_isWithin_10 : decode cX3_isWithin 10 = .ok (.iconst 1, 1) := by decide +kernel
theorem dX3_isWithin_11 : decode cX3_isWithin 11 = .ok (.goto 4, 3) := by decide +kernel
theorem dX3_isWithin_14 : decode cX3_isWithin 14 = .ok (.iconst 0, 1) := by decide +kernel
theorem dX3_isWithin_15 : decode cX3_isWithin 15 = .ok (.ireturn, 1) := by decide +kernel
theorem dX3_isRank_0 : decode cX3_isRank 0 = .ok (.iload_n 0, 1) := by decide +kernel
theorem dX3_isRank_1 : decode cX3_isRank 1 = .ok (.iconst 0, 1) := by decide +kernel
theorem dX3_isRank_2 : decode cX3_isRank 2 = .ok (.bipush 7, 2) := by decide +kernel
theorem dX3_isRank_4 : decode cX3_isRank 4 = .ok (.invokestatic 44, 3) := by decide +kernel
theorem dX3_isRank_7 : decode cX3_isRank 7 = .ok (.ireturn, 1) := by decide +kernel
theorem dX3_isKind_0 : decode cX3_isKind 0 = .ok (.iload_n 0, 1) := by decide +kernel
theorem dX3_isKind_1 : decode cX3_isKind 1 = .ok (.iconst 0, 1) := by decide +kernel
theorem dX3_isKind_2 : decode cX3_isKind 2 = .ok (.bipush 6, 2) := by decide +kernel
theorem dX3_isKind_4 : decode cX3_isKind 4 = .ok (.invokestatic 44, 3) := by decide +kernel
theorem dX3_isKind_7 : decode cX3_isKind 7 = .ok (.ireturn, 1) := by decide +kernel
theorem dX3_isOfKind_0 : decode cX3_isOfKind 0 = .ok (.iload_n 0, 1) := by decide +kernel
theorem dX3_isOfKind_1 : decode cX3_isOfKind 1 = .ok (.istore_n 2, 1) := by decide +kernel
theorem dX3_isOfKind_2 : decode cX3_isOfKind 2 = .ok (.iconst 0, 1) := by decide +kernel
theorem dX3_isOfKind_3 : decode cX3_isOfKind 3 = .ok (.istore_n 3, 1) := by decide +kernel
theorem dX3_isOfKind_4 : decode cX3_isOfKind 4 = .ok (.iload_n 3, 1) := by decide +kernel
theorem dX3_isOfKind_5 : decode cX3_isOfKind 5 = .ok (.bipush 7, 2) := by decide +kernel
theorem dX3_isOfKind_7 : decode cX3_isOfKind 7 = .ok (.if_icmp .ge 29, 3) := by decide +kernel
theorem dX3_isOfKind_10 : decode cX3_isOfKind 10 = .ok (.iload_n 2, 1) := by decide +kernel
theorem dX3_isOfKind_11 : decode cX3_isOfKind 11 = .ok (.invokestatic 84, 3) := by decide +kernel
theorem dX3_isOfKind_14 : decode cX3_isOfKind 14 = .ok (.ifCond .eq 22, 3) := by decide +kernel
theorem dX3_isOfKind_17 : decode cX3_isOfKind 17 = .ok (.iload_n 2, 1) := by decide +kernel
theorem dX3_isOfKind_18 : decode cX3_isOfKind 18 = .ok (.iload_n 1, 1) := by decide +kernel
theorem dX3_isOfKind_19 : decode cX3_isOfKind 19 = .ok (.if_icmp .ne 5, 3) := by decide +kernel
theorem dX3_isOfKind_22 : decode cX3_isOfKind 22 = .ok (.iconst 1, 1) := by decide +kernel
theorem dX3_isOfKind_23 : decode cX3_isOfKind 23 = .ok (.ireturn, 1) := by decide +kernel
theorem dX3_isOfKind_24 : decode cX3_isOfKind 24 = .ok (.getstatic 276, 3) := by decide +kernel
theorem dX3_isOfKind_27 : decode cX3_isOfKind 27 = .ok (.iload_n 2, 1) := by decide +kernel
theorem dX3_isOfKind_28 : decode cX3_isOfKind 28 = .ok (.iaload, 1) := by decide +kernel
theorem dX3_isOfKind_29 : decode cX3_isOfKind 29 = .ok (.istore_n 2, 1) := by decide +kernel
theorem dX3_isOfKind_30 : decode cX3_isOfKind 30 = .ok (.iinc 3 1, 3) := by decide +kernel
theorem dX3_isOfKind_33 : decode cX3_isOfKind 33 = .ok (.goto (-29), 3) := by decide +kernel
theorem dX3_isOfKind_36 : decode cX3_isOfKind 36 = .ok (.iconst 0, 1) := by decide +kernel
theorem dX3_isOfKind_37 : decode cX3_isOfKind 37 = .ok (.ireturn, 1) := by decide +kernel

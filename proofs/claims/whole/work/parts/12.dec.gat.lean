/-! Decoded instructions of Gat. -/
theorem d_Gat_init_0 : decode b_Gat_init 0 = .ok (.aload_n 0, 1) := by decide +kernel
theorem d_Gat_init_1 : decode b_Gat_init 1 = .ok (.invokespecial 3, 3) := by decide +kernel
theorem d_Gat_init_4 : decode b_Gat_init 4 = .ok (.aload_n 0, 1) := by decide +kernel
theorem d_Gat_init_5 : decode b_Gat_init 5 = .ok (.aload_n 1, 1) := by decide +kernel
theorem d_Gat_init_6 : decode b_Gat_init 6 = .ok (.putfield 9, 3) := by decide +kernel
theorem d_Gat_init_9 : decode b_Gat_init 9 = .ok (.aload_n 0, 1) := by decide +kernel
theorem d_Gat_init_10 : decode b_Gat_init 10 = .ok (.new 15, 3) := by decide +kernel
theorem d_Gat_init_13 : decode b_Gat_init 13 = .ok (.dup, 1) := by decide +kernel
theorem d_Gat_init_14 : decode b_Gat_init 14 = .ok (.bipush 32, 2) := by decide +kernel
theorem d_Gat_init_16 : decode b_Gat_init 16 = .ok (.invokespecial 17, 3) := by decide +kernel
theorem d_Gat_init_19 : decode b_Gat_init 19 = .ok (.putfield 20, 3) := by decide +kernel
theorem d_Gat_init_22 : decode b_Gat_init 22 = .ok (.aload_n 0, 1) := by decide +kernel
theorem d_Gat_init_23 : decode b_Gat_init 23 = .ok (.new 15, 3) := by decide +kernel
theorem d_Gat_init_26 : decode b_Gat_init 26 = .ok (.dup, 1) := by decide +kernel
theorem d_Gat_init_27 : decode b_Gat_init 27 = .ok (.bipush 32, 2) := by decide +kernel
theorem d_Gat_init_29 : decode b_Gat_init 29 = .ok (.invokespecial 17, 3) := by decide +kernel
theorem d_Gat_init_32 : decode b_Gat_init 32 = .ok (.putfield 24, 3) := by decide +kernel
theorem d_Gat_init_35 : decode b_Gat_init 35 = .ok (.aload_n 0, 1) := by decide +kernel
theorem d_Gat_init_36 : decode b_Gat_init 36 = .ok (.new 15, 3) := by decide +kernel
theorem d_Gat_init_39 : decode b_Gat_init 39 = .ok (.dup, 1) := by decide +kernel
theorem d_Gat_init_40 : decode b_Gat_init 40 = .ok (.bipush 32, 2) := by decide +kernel
theorem d_Gat_init_42 : decode b_Gat_init 42 = .ok (.invokespecial 17, 3) := by decide +kernel
theorem d_Gat_init_45 : decode b_Gat_init 45 = .ok (.putfield 27, 3) := by decide +kernel
theorem d_Gat_init_48 : decode b_Gat_init 48 = .ok (.aload_n 0, 1) := by decide +kernel
theorem d_Gat_init_49 : decode b_Gat_init 49 = .ok (.new 15, 3) := by decide +kernel
theorem d_Gat_init_52 : decode b_Gat_init 52 = .ok (.dup, 1) := by decide +kernel
theorem d_Gat_init_53 : decode b_Gat_init 53 = .ok (.bipush 32, 2) := by decide +kernel
theorem d_Gat_init_55 : decode b_Gat_init 55 = .ok (.invokespecial 17, 3) := by decide +kernel
theorem d_Gat_init_58 : decode b_Gat_init 58 = .ok (.putfield 30, 3) := by decide +kernel
theorem d_Gat_init_61 : decode b_Gat_init 61 = .ok (.aload_n 0, 1) := by decide +kernel
theorem d_Gat_init_62 : decode b_Gat_init 62 = .ok (.bipush 6, 2) := by decide +kernel
theorem d_Gat_init_64 : decode b_Gat_init 64 = .ok (.newarray .int, 2) := by decide +kernel
theorem d_Gat_init_66 : decode b_Gat_init 66 = .ok (.putfield 33, 3) := by decide +kernel
theorem d_Gat_init_69 : decode b_Gat_init 69 = .ok (.return_, 1) := by decide +kernel
theorem d_Gat_startAnew_0 : decode b_Gat_startAnew 0 = .ok (.aload_n 0, 1) := by decide +kernel
theorem d_Gat_startAnew_1 : decode b_Gat_startAnew 1 = .ok (.iload_n 1, 1) := by decide +kernel
theorem d_Gat_startAnew_2 : decode b_Gat_startAnew 2 = .ok (.putfield 37, 3) := by decide +kernel
theorem d_Gat_startAnew_5 : decode b_Gat_startAnew 5 = .ok (.aload_n 0, 1) := by decide +kernel
theorem d_Gat_startAnew_6 : decode b_Gat_startAnew 6 = .ok (.iload_n 2, 1) := by decide +kernel
theorem d_Gat_startAnew_7 : decode b_Gat_startAnew 7 = .ok (.putfield 41, 3) := by decide +kernel
theorem d_Gat_startAnew_10 : decode b_Gat_startAnew 10 = .ok (.aload_n 0, 1) := by decide +kernel
theorem d_Gat_startAnew_11 : decode b_Gat_startAnew 11 = .ok (.iload_n 3, 1) := by decide +kernel
theorem d_Gat_startAnew_12 : decode b_Gat_startAnew 12 = .ok (.putfield 44, 3) := by decide +kernel
theorem d_Gat_startAnew_15 : decode b_Gat_startAnew 15 = .ok (.aload_n 0, 1) := by decide +kernel
theorem d_Gat_startAnew_16 : decode b_Gat_startAnew 16 = .ok (.iload 4, 2) := by decide +kernel
theorem d_Gat_startAnew_18 : decode b_Gat_startAnew 18 = .ok (.putfield 47, 3) := by decide +kernel
theorem d_Gat_startAnew_21 : decode b_Gat_startAnew 21 = .ok (.aload_n 0, 1) := by decide +kernel
theorem d_Gat_startAnew_22 : decode b_Gat_startAnew 22 = .ok (.getfield 20, 3) := by decide +kernel
theorem d_Gat_startAnew_25 : decode b_Gat_startAnew 25 = .ok (.iconst 0, 1) := by decide +kernel
theorem d_Gat_startAnew_26 : decode b_Gat_startAnew 26 = .ok (.invokevirtual 50, 3) := by decide +kernel
theorem d_Gat_startAnew_29 : decode b_Gat_startAnew 29 = .ok (.aload_n 0, 1) := by decide +kernel
theorem d_Gat_startAnew_30 : decode b_Gat_startAnew 30 = .ok (.getfield 24, 3) := by decide +kernel
theorem d_Gat_startAnew_33 : decode b_Gat_startAnew 33 = .ok (.iconst 0, 1) := by decide +kernel
theorem d_Gat_startAnew_34 : decode b_Gat_startAnew 34 = .ok (.invokevirtual 50, 3) := by decide +kernel
theorem d_Gat_startAnew_37 : decode b_Gat_startAnew 37 = .ok (.aload_n 0, 1) := by decide +kernel
theorem d_Gat_startAnew_38 : decode b_Gat_startAnew 38 = .ok (.getfield 27, 3) := by decide +kernel
theorem d_Gat_startAnew_41 : decode b_Gat_startAnew 41 = .ok (.iconst 0, 1) := by decide +kernel
theorem d_Gat_startAnew_42 : decode b_Gat_startAnew 42 = .ok (.invokevirtual 50, 3) := by decide +kernel
theorem d_Gat_startAnew_45 : decode b_Gat_startAnew 45 = .ok (.aload_n 0, 1) := by decide +kernel
theorem d_Gat_startAnew_46 : decode b_Gat_startAnew 46 = .ok (.getfield 30, 3) := by decide +kernel
theorem d_Gat_startAnew_49 : decode b_Gat_startAnew 49 = .ok (.iconst 0, 1) := by decide +kernel
theorem d_Gat_startAnew_50 : decode b_Gat_startAnew 50 = .ok (.invokevirtual 50, 3) := by decide +kernel
theorem d_Gat_startAnew_53 : decode b_Gat_startAnew 53 = .ok (.aload_n 0, 1) := by decide +kernel
theorem d_Gat_startAnew_54 : decode b_Gat_startAnew 54 = .ok (.iconst 0, 1) := by decide +kernel
theorem d_Gat_startAnew_55 : decode b_Gat_startAnew 55 = .ok (.putfield 53, 3) := by decide +kernel
theorem d_Gat_startAnew_58 : decode b_Gat_startAnew 58 = .ok (.aload_n 0, 1) := by decide +kernel
theorem d_Gat_startAnew_59 : decode b_Gat_startAnew 59 = .ok (.iconst 0, 1) := by decide +kernel
theorem d_Gat_startAnew_60 : decode b_Gat_startAnew 60 = .ok (.putfield 56, 3) := by decide +kernel
theorem d_Gat_startAnew_63 : decode b_Gat_startAnew 63 = .ok (.aload_n 0, 1) := by decide +kernel
theorem d_Gat_startAnew_64 : decode b_Gat_startAnew 64 = .ok (.iconst 0, 1) := by decide +kernel
theorem d_Gat_startAnew_65 : decode b_Gat_startAnew 65 = .ok (.putfield 59, 3) := by decide +kernel
theorem d_Gat_startAnew_68 : decode b_Gat_startAnew 68 = .ok (.aload_n 0, 1) := by decide +kernel
theorem d_Gat_startAnew_69 : decode b_Gat_startAnew 69 = .ok (.iconst 0, 1) := by decide +kernel
theorem d_Gat_startAnew_70 : decode b_Gat_startAnew 70 = .ok (.invokevirtual 62, 3) := by decide +kernel
theorem d_Gat_startAnew_73 : decode b_Gat_startAnew 73 = .ok (.aload_n 0, 1) := by decide +kernel
theorem d_Gat_startAnew_74 : decode b_Gat_startAnew 74 = .ok (.aload_n 0, 1) := by decide +kernel
theorem d_Gat_startAnew_75 : decode b_Gat_startAnew 75 = .ok (.getfield 9, 3) := by decide +kernel
theorem d_Gat_startAnew_78 : decode b_Gat_startAnew 78 = .ok (.getfield 65, 3) := by decide +kernel
theorem d_Gat_startAnew_81 : decode b_Gat_startAnew 81 = .ok (.iconst 0, 1) := by decide +kernel
theorem d_Gat_startAnew_82 : decode b_Gat_startAnew 82 = .ok (.invokevirtual 70, 3) := by decide +kernel
theorem d_Gat_startAnew_85 : decode b_Gat_startAnew 85 = .ok (.aload_n 0, 1) := by decide +kernel
theorem d_Gat_startAnew_86 : decode b_Gat_startAnew 86 = .ok (.invokevirtual 74, 3) := by decide +kernel
theorem d_Gat_startAnew_89 : decode b_Gat_startAnew 89 = .ok (.return_, 1) := by decide +kernel
theorem d_Gat_entriesLeft_0 : decode b_Gat_entriesLeft 0 = .ok (.aload_n 0, 1) := by decide +kernel
theorem d_Gat_entriesLeft_1 : decode b_Gat_entriesLeft 1 = .ok (.getfield 20, 3) := by decide +kernel
theorem d_Gat_entriesLeft_4 : decode b_Gat_entriesLeft 4 = .ok (.getfield 77, 3) := by decide +kernel
theorem d_Gat_entriesLeft_7 : decode b_Gat_entriesLeft 7 = .ok (.aload_n 0, 1) := by decide +kernel
theorem d_Gat_entriesLeft_8 : decode b_Gat_entriesLeft 8 = .ok (.getfield 53, 3) := by decide +kernel
theorem d_Gat_entriesLeft_11 : decode b_Gat_entriesLeft 11 = .ok (.isub, 1) := by decide +kernel
theorem d_Gat_entriesLeft_12 : decode b_Gat_entriesLeft 12 = .ok (.ireturn, 1) := by decide +kernel
theorem d_Gat_handleEntry_0 : decode b_Gat_handleEntry 0 = .ok (.aload_n 0, 1) := by decide +kernel
theorem d_Gat_handleEntry_1 : decode b_Gat_handleEntry 1 = .ok (.getfield 20, 3) := by decide +kernel
theorem d_Gat_handleEntry_4 : decode b_Gat_handleEntry 4 = .ok (.aload_n 0, 1) := by decide +kernel
theorem d_Gat_handleEntry_5 : decode b_Gat_handleEntry 5 = .ok (.getfield 53, 3) := by decide +kernel
theorem d_Gat_handleEntry_8 : decode b_Gat_handleEntry 8 = .ok (.invokevirtual 80, 3) := by decide +kernel
theorem d_Gat_handleEntry_11 : decode b_Gat_handleEntry 11 = .ok (.istore_n 1, 1) := by decide +kernel
theorem d_Gat_handleEntry_12 : decode b_Gat_handleEntry 12 = .ok (.aload_n 0, 1) := by decide +kernel
theorem d_Gat_handleEntry_13 : decode b_Gat_handleEntry 13 = .ok (.getfield 24, 3) := by decide +kernel
theorem d_Gat_handleEntry_16 : decode b_Gat_handleEntry 16 = .ok (.aload_n 0, 1) := by decide +kernel
theorem d_Gat_handleEntry_17 : decode b_Gat_handleEntry 17 = .ok (.getfield 53, 3) := by decide +kernel
theorem d_Gat_handleEntry_20 : decode b_Gat_handleEntry 20 = .ok (.invokevirtual 80, 3) := by decide +kernel
theorem d_Gat_handleEntry_23 : decode b_Gat_handleEntry 23 = .ok (.istore_n 2, 1) := by decide +kernel
theorem d_Gat_handleEntry_24 : decode b_Gat_handleEntry 24 = .ok (.aload_n 0, 1) := by decide +kernel
theorem d_Gat_handleEntry_25 : decode b_Gat_handleEntry 25 = .ok (.dup, 1) := by decide +kernel
theorem d_Gat_handleEntry_26 : decode b_Gat_handleEntry 26 = .ok (.getfield 53, 3) := by decide +kernel
theorem d_Gat_handleEntry_29 : decode b_Gat_handleEntry 29 = .ok (.iconst 1, 1) := by decide +kernel
theorem d_Gat_handleEntry_30 : decode b_Gat_handleEntry 30 = .ok (.iadd, 1) := by decide +kernel
theorem d_Gat_handleEntry_31 : decode b_Gat_handleEntry 31 = .ok (.putfield 53, 3) := by decide +kernel
theorem d_Gat_handleEntry_34 : decode b_Gat_handleEntry 34 = .ok (.aload_n 0, 1) := by decide +kernel
theorem d_Gat_handleEntry_35 : decode b_Gat_handleEntry 35 = .ok (.iload_n 1, 1) := by decide +kernel
theorem d_Gat_handleEntry_36 : decode b_Gat_handleEntry 36 = .ok (.iconst 1, 1) := by decide +kernel
theorem d_Gat_handleEntry_37 : decode b_Gat_handleEntry 37 = .ok (.invokevirtual 84, 3) := by decide +kernel
theorem d_Gat_handleEntry_40 : decode b_Gat_handleEntry 40 = .ok (.istore_n 3, 1) := by decide +kernel
theorem d_Gat_handleEntry_41 : decode b_Gat_handleEntry 41 = .ok (.iload_n 3, 1) := by decide +kernel
theorem d_Gat_handleEntry_42 : decode b_Gat_handleEntry 42 = .ok (.iconst (-1), 1) := by decide +kernel
theorem d_Gat_handleEntry_43 : decode b_Gat_handleEntry 43 = .ok (.if_icmp .eq 50, 3) := by decide +kernel
theorem d_Gat_handleEntry_46 : decode b_Gat_handleEntry 46 = .ok (.aload_n 0, 1) := by decide +kernel
theorem d_Gat_handleEntry_47 : decode b_Gat_handleEntry 47 = .ok (.getfield 30, 3) := by decide +kernel
theorem d_Gat_handleEntry_50 : decode b_Gat_handleEntry 50 = .ok (.iload_n 3, 1) := by decide +kernel
theorem d_Gat_handleEntry_51 : decode b_Gat_handleEntry 51 = .ok (.invokevirtual 88, 3) := by decide +kernel
theorem d_Gat_handleEntry_54 : decode b_Gat_handleEntry 54 = .ok (.ifCond .ne 39, 3) := by decide +kernel
theorem d_Gat_handleEntry_57 : decode b_Gat_handleEntry 57 = .ok (.aload_n 0, 1) := by decide +kernel
theorem d_Gat_handleEntry_58 : decode b_Gat_handleEntry 58 = .ok (.getfield 30, 3) := by decide +kernel
theorem d_Gat_handleEntry_61 : decode b_Gat_handleEntry 61 = .ok (.iload_n 3, 1) := by decide +kernel
theorem d_Gat_handleEntry_62 : decode b_Gat_handleEntry 62 = .ok (.invokevirtual 92, 3) := by decide +kernel
theorem d_Gat_handleEntry_65 : decode b_Gat_handleEntry 65 = .ok (.pop, 1) := by decide +kernel
theorem d_Gat_handleEntry_66 : decode b_Gat_handleEntry 66 = .ok (.iload_n 2, 1) := by decide +kernel
theorem d_Gat_handleEntry_67 : decode b_Gat_handleEntry 67 = .ok (.aload_n 0, 1) := by decide +kernel
theorem d_Gat_handleEntry_68 : decode b_Gat_handleEntry 68 = .ok (.getfield 37, 3) := by decide +kernel
theorem d_Gat_handleEntry_71 : decode b_Gat_handleEntry 71 = .ok (.if_icmp .ge 22, 3) := by decide +kernel
theorem d_Gat_handleEntry_74 : decode b_Gat_handleEntry 74 = .ok (.aload_n 0, 1) := by decide +kernel
theorem d_Gat_handleEntry_75 : decode b_Gat_handleEntry 75 = .ok (.aload_n 0, 1) := by decide +kernel
theorem d_Gat_handleEntry_76 : decode b_Gat_handleEntry 76 = .ok (.getfield 9, 3) := by decide +kernel
theorem d_Gat_handleEntry_79 : decode b_Gat_handleEntry 79 = .ok (.getfield 95, 3) := by decide +kernel
theorem d_Gat_handleEntry_82 : decode b_Gat_handleEntry 82 = .ok (.iload_n 3, 1) := by decide +kernel
theorem d_Gat_handleEntry_83 : decode b_Gat_handleEntry 83 = .ok (.aaload, 1) := by decide +kernel
theorem d_Gat_handleEntry_84 : decode b_Gat_handleEntry 84 = .ok (.getfield 99, 3) := by decide +kernel
theorem d_Gat_handleEntry_87 : decode b_Gat_handleEntry 87 = .ok (.iload_n 2, 1) := by decide +kernel
theorem d_Gat_handleEntry_88 : decode b_Gat_handleEntry 88 = .ok (.iconst 1, 1) := by decide +kernel
theorem d_Gat_handleEntry_89 : decode b_Gat_handleEntry 89 = .ok (.iadd, 1) := by decide +kernel
theorem d_Gat_handleEntry_90 : decode b_Gat_handleEntry 90 = .ok (.invokevirtual 70, 3) := by decide +kernel
theorem d_Gat_handleEntry_93 : decode b_Gat_handleEntry 93 = .ok (.aload_n 0, 1) := by decide +kernel
theorem d_Gat_handleEntry_94 : decode b_Gat_handleEntry 94 = .ok (.getfield 53, 3) := by decide +kernel
theorem d_Gat_handleEntry_97 : decode b_Gat_handleEntry 97 = .ok (.aload_n 0, 1) := by decide +kernel
theorem d_Gat_handleEntry_98 : decode b_Gat_handleEntry 98 = .ok (.getfield 104, 3) := by decide +kernel
theorem d_Gat_handleEntry_101 : decode b_Gat_handleEntry 101 = .ok (.isub, 1) := by decide +kernel
theorem d_Gat_handleEntry_102 : decode b_Gat_handleEntry 102 = .ok (.aload_n 0, 1) := by decide +kernel
theorem d_Gat_handleEntry_103 : decode b_Gat_handleEntry 103 = .ok (.getfield 47, 3) := by decide +kernel
theorem d_Gat_handleEntry_106 : decode b_Gat_handleEntry 106 = .ok (.if_icmp .ne 7, 3) := by decide +kernel
theorem d_Gat_handleEntry_109 : decode b_Gat_handleEntry 109 = .ok (.aload_n 0, 1) := by decide +kernel
theorem d_Gat_handleEntry_110 : decode b_Gat_handleEntry 110 = .ok (.invokevirtual 74, 3) := by decide +kernel
theorem d_Gat_handleEntry_113 : decode b_Gat_handleEntry 113 = .ok (.return_, 1) := by decide +kernel
theorem d_Gat_chase_0 : decode b_Gat_chase 0 = .ok (.iload_n 1, 1) := by decide +kernel
theorem d_Gat_chase_1 : decode b_Gat_chase 1 = .ok (.istore_n 3, 1) := by decide +kernel
theorem d_Gat_chase_2 : decode b_Gat_chase 2 = .ok (.iconst 0, 1) := by decide +kernel
theorem d_Gat_chase_3 : decode b_Gat_chase 3 = .ok (.istore 4, 2) := by decide +kernel
theorem d_Gat_chase_5 : decode b_Gat_chase 5 = .ok (.iload 4, 2) := by decide +kernel
theorem d_Gat_chase_7 : decode b_Gat_chase 7 = .ok (.aload_n 0, 1) := by decide +kernel
theorem d_Gat_chase_8 : decode b_Gat_chase 8 = .ok (.getfield 41, 3) := by decide +kernel
theorem d_Gat_chase_11 : decode b_Gat_chase 11 = .ok (.if_icmp .gt 72, 3) := by decide +kernel
theorem d_Gat_chase_14 : decode b_Gat_chase 14 = .ok (.aload_n 0, 1) := by decide +kernel
theorem d_Gat_chase_15 : decode b_Gat_chase 15 = .ok (.getfield 9, 3) := by decide +kernel
theorem d_Gat_chase_18 : decode b_Gat_chase 18 = .ok (.iload_n 3, 1) := by decide +kernel
theorem d_Gat_chase_19 : decode b_Gat_chase 19 = .ok (.invokevirtual 107, 3) := by decide +kernel
theorem d_Gat_chase_22 : decode b_Gat_chase 22 = .ok (.ifCond .eq 61, 3) := by decide +kernel
theorem d_Gat_chase_25 : decode b_Gat_chase 25 = .ok (.iload_n 2, 1) := by decide +kernel
theorem d_Gat_chase_26 : decode b_Gat_chase 26 = .ok (.ifCond .eq 8, 3) := by decide +kernel
theorem d_Gat_chase_29 : decode b_Gat_chase 29 = .ok (.aload_n 0, 1) := by decide +kernel
theorem d_Gat_chase_30 : decode b_Gat_chase 30 = .ok (.iload_n 3, 1) := by decide +kernel
theorem d_Gat_chase_31 : decode b_Gat_chase 31 = .ok (.invokevirtual 110, 3) := by decide +kernel
theorem d_Gat_chase_34 : decode b_Gat_chase 34 = .ok (.aload_n 0, 1) := by decide +kernel
theorem d_Gat_chase_35 : decode b_Gat_chase 35 = .ok (.getfield 9, 3) := by decide +kernel
theorem d_Gat_chase_38 : decode b_Gat_chase 38 = .ok (.getfield 95, 3) := by decide +kernel
theorem d_Gat_chase_41 : decode b_Gat_chase 41 = .ok (.iload_n 3, 1) := by decide +kernel
theorem d_Gat_chase_42 : decode b_Gat_chase 42 = .ok (.aaload, 1) := by decide +kernel
theorem d_Gat_chase_43 : decode b_Gat_chase 43 = .ok (.astore 5, 2) := by decide +kernel
theorem d_Gat_chase_45 : decode b_Gat_chase 45 = .ok (.aload 5, 2) := by decide +kernel
theorem d_Gat_chase_47 : decode b_Gat_chase 47 = .ok (.getfield 113, 3) := by decide +kernel
theorem d_Gat_chase_50 : decode b_Gat_chase 50 = .ok (.getstatic 117, 3) := by decide +kernel
theorem d_Gat_chase_53 : decode b_Gat_chase 53 = .ok (.if_acmp .ne 5, 3) := by decide +kernel
theorem d_Gat_chase_56 : decode b_Gat_chase 56 = .ok (.iload_n 3, 1) := by decide +kernel
theorem d_Gat_chase_57 : decode b_Gat_chase 57 = .ok (.ireturn, 1) := by decide +kernel
theorem d_Gat_chase_58 : decode b_Gat_chase 58 = .ok (.aload 5, 2) := by decide +kernel
theorem d_Gat_chase_60 : decode b_Gat_chase 60 = .ok (.getfield 113, 3) := by decide +kernel
theorem d_Gat_chase_63 : decode b_Gat_chase 63 = .ok (.getstatic 122, 3) := by decide +kernel
theorem d_Gat_chase_66 : decode b_Gat_chase 66 = .ok (.if_acmp .ne 5, 3) := by decide +kernel
theorem d_Gat_chase_69 : decode b_Gat_chase 69 = .ok (.iconst (-1), 1) := by decide +kernel
theorem d_Gat_chase_70 : decode b_Gat_chase 70 = .ok (.ireturn, 1) := by decide +kernel
theorem d_Gat_chase_71 : decode b_Gat_chase 71 = .ok (.aload 5, 2) := by decide +kernel
theorem d_Gat_chase_73 : decode b_Gat_chase 73 = .ok (.getfield 125, 3) := by decide +kernel
theorem d_Gat_chase_76 : decode b_Gat_chase 76 = .ok (.istore_n 3, 1) := by decide +kernel
theorem d_Gat_chase_77 : decode b_Gat_chase 77 = .ok (.iinc 4 1, 3) := by decide +kernel
theorem d_Gat_chase_80 : decode b_Gat_chase 80 = .ok (.goto (-75), 3) := by decide +kernel
theorem d_Gat_chase_83 : decode b_Gat_chase 83 = .ok (.iconst (-1), 1) := by decide +kernel
theorem d_Gat_chase_84 : decode b_Gat_chase 84 = .ok (.ireturn, 1) := by decide +kernel
theorem d_Gat_fallBack_0 : decode b_Gat_fallBack 0 = .ok (.aload_n 0, 1) := by decide +kernel
theorem d_Gat_fallBack_1 : decode b_Gat_fallBack 1 = .ok (.getfield 53, 3) := by decide +kernel
theorem d_Gat_fallBack_4 : decode b_Gat_fallBack 4 = .ok (.aload_n 0, 1) := by decide +kernel
theorem d_Gat_fallBack_5 : decode b_Gat_fallBack 5 = .ok (.getfield 104, 3) := by decide +kernel
theorem d_Gat_fallBack_8 : decode b_Gat_fallBack 8 = .ok (.isub, 1) := by decide +kernel
theorem d_Gat_fallBack_9 : decode b_Gat_fallBack 9 = .ok (.istore_n 1, 1) := by decide +kernel
theorem d_Gat_fallBack_10 : decode b_Gat_fallBack 10 = .ok (.aload_n 0, 1) := by decide +kernel
theorem d_Gat_fallBack_11 : decode b_Gat_fallBack 11 = .ok (.aload_n 0, 1) := by decide +kernel
theorem d_Gat_fallBack_12 : decode b_Gat_fallBack 12 = .ok (.getfield 104, 3) := by decide +kernel
theorem d_Gat_fallBack_15 : decode b_Gat_fallBack 15 = .ok (.putfield 53, 3) := by decide +kernel
theorem d_Gat_fallBack_18 : decode b_Gat_fallBack 18 = .ok (.aload_n 0, 1) := by decide +kernel
theorem d_Gat_fallBack_19 : decode b_Gat_fallBack 19 = .ok (.getfield 20, 3) := by decide +kernel
theorem d_Gat_fallBack_22 : decode b_Gat_fallBack 22 = .ok (.aload_n 0, 1) := by decide +kernel
theorem d_Gat_fallBack_23 : decode b_Gat_fallBack 23 = .ok (.getfield 128, 3) := by decide +kernel
theorem d_Gat_fallBack_26 : decode b_Gat_fallBack 26 = .ok (.invokevirtual 50, 3) := by decide +kernel
theorem d_Gat_fallBack_29 : decode b_Gat_fallBack 29 = .ok (.aload_n 0, 1) := by decide +kernel
theorem d_Gat_fallBack_30 : decode b_Gat_fallBack 30 = .ok (.getfield 24, 3) := by decide +kernel
theorem d_Gat_fallBack_33 : decode b_Gat_fallBack 33 = .ok (.aload_n 0, 1) := by decide +kernel
theorem d_Gat_fallBack_34 : decode b_Gat_fallBack 34 = .ok (.getfield 128, 3) := by decide +kernel
theorem d_Gat_fallBack_37 : decode b_Gat_fallBack 37 = .ok (.invokevirtual 50, 3) := by decide +kernel
theorem d_Gat_fallBack_40 : decode b_Gat_fallBack 40 = .ok (.aload_n 0, 1) := by decide +kernel
theorem d_Gat_fallBack_41 : decode b_Gat_fallBack 41 = .ok (.getfield 27, 3) := by decide +kernel
theorem d_Gat_fallBack_44 : decode b_Gat_fallBack 44 = .ok (.aload_n 0, 1) := by decide +kernel
theorem d_Gat_fallBack_45 : decode b_Gat_fallBack 45 = .ok (.getfield 131, 3) := by decide +kernel
theorem d_Gat_fallBack_48 : decode b_Gat_fallBack 48 = .ok (.invokevirtual 50, 3) := by decide +kernel
theorem d_Gat_fallBack_51 : decode b_Gat_fallBack 51 = .ok (.aload_n 0, 1) := by decide +kernel
theorem d_Gat_fallBack_52 : decode b_Gat_fallBack 52 = .ok (.getfield 30, 3) := by decide +kernel
theorem d_Gat_fallBack_55 : decode b_Gat_fallBack 55 = .ok (.aload_n 0, 1) := by decide +kernel
theorem d_Gat_fallBack_56 : decode b_Gat_fallBack 56 = .ok (.getfield 134, 3) := by decide +kernel
theorem d_Gat_fallBack_59 : decode b_Gat_fallBack 59 = .ok (.invokevirtual 50, 3) := by decide +kernel
theorem d_Gat_fallBack_62 : decode b_Gat_fallBack 62 = .ok (.aload_n 0, 1) := by decide +kernel
theorem d_Gat_fallBack_63 : decode b_Gat_fallBack 63 = .ok (.aload_n 0, 1) := by decide +kernel
theorem d_Gat_fallBack_64 : decode b_Gat_fallBack 64 = .ok (.getfield 56, 3) := by decide +kernel
theorem d_Gat_fallBack_67 : decode b_Gat_fallBack 67 = .ok (.aload_n 0, 1) := by decide +kernel
theorem d_Gat_fallBack_68 : decode b_Gat_fallBack 68 = .ok (.getfield 44, 3) := by decide +kernel
theorem d_Gat_fallBack_71 : decode b_Gat_fallBack 71 = .ok (.iadd, 1) := by decide +kernel
theorem d_Gat_fallBack_72 : decode b_Gat_fallBack 72 = .ok (.invokevirtual 62, 3) := by decide +kernel
theorem d_Gat_fallBack_75 : decode b_Gat_fallBack 75 = .ok (.iload_n 1, 1) := by decide +kernel
theorem d_Gat_fallBack_76 : decode b_Gat_fallBack 76 = .ok (.ireturn, 1) := by decide +kernel
theorem d_Gat_fetch_0 : decode b_Gat_fetch 0 = .ok (.aload_n 0, 1) := by decide +kernel
theorem d_Gat_fetch_1 : decode b_Gat_fetch 1 = .ok (.getfield 27, 3) := by decide +kernel
theorem d_Gat_fetch_4 : decode b_Gat_fetch 4 = .ok (.iload_n 1, 1) := by decide +kernel
theorem d_Gat_fetch_5 : decode b_Gat_fetch 5 = .ok (.invokevirtual 88, 3) := by decide +kernel
theorem d_Gat_fetch_8 : decode b_Gat_fetch 8 = .ok (.ifCond .eq 4, 3) := by decide +kernel
theorem d_Gat_fetch_11 : decode b_Gat_fetch 11 = .ok (.return_, 1) := by decide +kernel
theorem d_Gat_fetch_12 : decode b_Gat_fetch 12 = .ok (.aload_n 0, 1) := by decide +kernel
theorem d_Gat_fetch_13 : decode b_Gat_fetch 13 = .ok (.getfield 9, 3) := by decide +kernel
theorem d_Gat_fetch_16 : decode b_Gat_fetch 16 = .ok (.getfield 95, 3) := by decide +kernel
theorem d_Gat_fetch_19 : decode b_Gat_fetch 19 = .ok (.iload_n 1, 1) := by decide +kernel
theorem d_Gat_fetch_20 : decode b_Gat_fetch 20 = .ok (.aaload, 1) := by decide +kernel
theorem d_Gat_fetch_21 : decode b_Gat_fetch 21 = .ok (.getfield 137, 3) := by decide +kernel
theorem d_Gat_fetch_24 : decode b_Gat_fetch 24 = .ok (.istore_n 2, 1) := by decide +kernel
theorem d_Gat_fetch_25 : decode b_Gat_fetch 25 = .ok (.aload_n 0, 1) := by decide +kernel
theorem d_Gat_fetch_26 : decode b_Gat_fetch 26 = .ok (.getfield 56, 3) := by decide +kernel
theorem d_Gat_fetch_29 : decode b_Gat_fetch 29 = .ok (.aload_n 0, 1) := by decide +kernel
theorem d_Gat_fetch_30 : decode b_Gat_fetch 30 = .ok (.getfield 33, 3) := by decide +kernel
theorem d_Gat_fetch_33 : decode b_Gat_fetch 33 = .ok (.iload_n 2, 1) := by decide +kernel
theorem d_Gat_fetch_34 : decode b_Gat_fetch 34 = .ok (.iaload, 1) := by decide +kernel
theorem d_Gat_fetch_35 : decode b_Gat_fetch 35 = .ok (.invokestatic 140, 3) := by decide +kernel
theorem d_Gat_fetch_38 : decode b_Gat_fetch 38 = .ok (.istore_n 3, 1) := by decide +kernel
theorem d_Gat_fetch_39 : decode b_Gat_fetch 39 = .ok (.aload_n 0, 1) := by decide +kernel
theorem d_Gat_fetch_40 : decode b_Gat_fetch 40 = .ok (.getfield 33, 3) := by decide +kernel
theorem d_Gat_fetch_43 : decode b_Gat_fetch 43 = .ok (.iload_n 2, 1) := by decide +kernel
theorem d_Gat_fetch_44 : decode b_Gat_fetch 44 = .ok (.iload_n 3, 1) := by decide +kernel
theorem d_Gat_fetch_45 : decode b_Gat_fetch 45 = .ok (.aload_n 0, 1) := by decide +kernel
theorem d_Gat_fetch_46 : decode b_Gat_fetch 46 = .ok (.getfield 44, 3) := by decide +kernel
theorem d_Gat_fetch_49 : decode b_Gat_fetch 49 = .ok (.iadd, 1) := by decide +kernel
theorem d_Gat_fetch_50 : decode b_Gat_fetch 50 = .ok (.iastore, 1) := by decide +kernel
theorem d_Gat_fetch_51 : decode b_Gat_fetch 51 = .ok (.aload_n 0, 1) := by decide +kernel
theorem d_Gat_fetch_52 : decode b_Gat_fetch 52 = .ok (.iload_n 3, 1) := by decide +kernel
theorem d_Gat_fetch_53 : decode b_Gat_fetch 53 = .ok (.iconst 1, 1) := by decide +kernel
theorem d_Gat_fetch_54 : decode b_Gat_fetch 54 = .ok (.iadd, 1) := by decide +kernel
theorem d_Gat_fetch_55 : decode b_Gat_fetch 55 = .ok (.putfield 56, 3) := by decide +kernel
theorem d_Gat_fetch_58 : decode b_Gat_fetch 58 = .ok (.aload_n 0, 1) := by decide +kernel
theorem d_Gat_fetch_59 : decode b_Gat_fetch 59 = .ok (.getfield 27, 3) := by decide +kernel
theorem d_Gat_fetch_62 : decode b_Gat_fetch 62 = .ok (.iload_n 1, 1) := by decide +kernel
theorem d_Gat_fetch_63 : decode b_Gat_fetch 63 = .ok (.invokevirtual 92, 3) := by decide +kernel
theorem d_Gat_fetch_66 : decode b_Gat_fetch 66 = .ok (.pop, 1) := by decide +kernel
theorem d_Gat_fetch_67 : decode b_Gat_fetch 67 = .ok (.aload_n 0, 1) := by decide +kernel
theorem d_Gat_fetch_68 : decode b_Gat_fetch 68 = .ok (.dup, 1) := by decide +kernel
theorem d_Gat_fetch_69 : decode b_Gat_fetch 69 = .ok (.getfield 59, 3) := by decide +kernel
theorem d_Gat_fetch_72 : decode b_Gat_fetch 72 = .ok (.iconst 1, 1) := by decide +kernel
theorem d_Gat_fetch_73 : decode b_Gat_fetch 73 = .ok (.iadd, 1) := by decide +kernel
theorem d_Gat_fetch_74 : decode b_Gat_fetch 74 = .ok (.putfield 59, 3) := by decide +kernel
theorem d_Gat_fetch_77 : decode b_Gat_fetch 77 = .ok (.return_, 1) := by decide +kernel
theorem d_Gat_enqueueAll_0 : decode b_Gat_enqueueAll 0 = .ok (.iconst 0, 1) := by decide +kernel
theorem d_Gat_enqueueAll_1 : decode b_Gat_enqueueAll 1 = .ok (.istore_n 3, 1) := by decide +kernel
theorem d_Gat_enqueueAll_2 : decode b_Gat_enqueueAll 2 = .ok (.iload_n 3, 1) := by decide +kernel
theorem d_Gat_enqueueAll_3 : decode b_Gat_enqueueAll 3 = .ok (.aload_n 1, 1) := by decide +kernel
theorem d_Gat_enqueueAll_4 : decode b_Gat_enqueueAll 4 = .ok (.getfield 77, 3) := by decide +kernel
theorem d_Gat_enqueueAll_7 : decode b_Gat_enqueueAll 7 = .ok (.if_icmp .ge 47, 3) := by decide +kernel
theorem d_Gat_enqueueAll_10 : decode b_Gat_enqueueAll 10 = .ok (.aload_n 1, 1) := by decide +kernel
theorem d_Gat_enqueueAll_11 : decode b_Gat_enqueueAll 11 = .ok (.iload_n 3, 1) := by decide +kernel
theorem d_Gat_enqueueAll_12 : decode b_Gat_enqueueAll 12 = .ok (.invokevirtual 80, 3) := by decide +kernel
theorem d_Gat_enqueueAll_15 : decode b_Gat_enqueueAll 15 = .ok (.istore 4, 2) := by decide +kernel
theorem d_Gat_enqueueAll_17 : decode b_Gat_enqueueAll 17 = .ok (.aload_n 0, 1) := by decide +kernel
theorem d_Gat_enqueueAll_18 : decode b_Gat_enqueueAll 18 = .ok (.getfield 20, 3) := by decide +kernel
theorem d_Gat_enqueueAll_21 : decode b_Gat_enqueueAll 21 = .ok (.iload 4, 2) := by decide +kernel
theorem d_Gat_enqueueAll_23 : decode b_Gat_enqueueAll 23 = .ok (.invokevirtual 88, 3) := by decide +kernel
theorem d_Gat_enqueueAll_26 : decode b_Gat_enqueueAll 26 = .ok (.ifCond .ne 22, 3) := by decide +kernel
theorem d_Gat_enqueueAll_29 : decode b_Gat_enqueueAll 29 = .ok (.aload_n 0, 1) := by decide +kernel
theorem d_Gat_enqueueAll_30 : decode b_Gat_enqueueAll 30 = .ok (.getfield 20, 3) := by decide +kernel
theorem d_Gat_enqueueAll_33 : decode b_Gat_enqueueAll 33 = .ok (.iload 4, 2) := by decide +kernel
theorem d_Gat_enqueueAll_35 : decode b_Gat_enqueueAll 35 = .ok (.invokevirtual 92, 3) := by decide +kernel
theorem d_Gat_enqueueAll_38 : decode b_Gat_enqueueAll 38 = .ok (.pop, 1) := by decide +kernel
theorem d_Gat_enqueueAll_39 : decode b_Gat_enqueueAll 39 = .ok (.aload_n 0, 1) := by decide +kernel
theorem d_Gat_enqueueAll_40 : decode b_Gat_enqueueAll 40 = .ok (.getfield 24, 3) := by decide +kernel
theorem d_Gat_enqueueAll_43 : decode b_Gat_enqueueAll 43 = .ok (.iload_n 2, 1) := by decide +kernel
theorem d_Gat_enqueueAll_44 : decode b_Gat_enqueueAll 44 = .ok (.invokevirtual 92, 3) := by decide +kernel
theorem d_Gat_enqueueAll_47 : decode b_Gat_enqueueAll 47 = .ok (.pop, 1) := by decide +kernel
theorem d_Gat_enqueueAll_48 : decode b_Gat_enqueueAll 48 = .ok (.iinc 3 1, 3) := by decide +kernel
theorem d_Gat_enqueueAll_51 : decode b_Gat_enqueueAll 51 = .ok (.goto (-49), 3) := by decide +kernel
theorem d_Gat_enqueueAll_54 : decode b_Gat_enqueueAll 54 = .ok (.return_, 1) := by decide +kernel
theorem d_Gat_setAllFrom_0 : decode b_Gat_setAllFrom 0 = .ok (.iconst 0, 1) := by decide +kernel
theorem d_Gat_setAllFrom_1 : decode b_Gat_setAllFrom 1 = .ok (.istore_n 2, 1) := by decide +kernel
theorem d_Gat_setAllFrom_2 : decode b_Gat_setAllFrom 2 = .ok (.iload_n 2, 1) := by decide +kernel
theorem d_Gat_setAllFrom_3 : decode b_Gat_setAllFrom 3 = .ok (.bipush 6, 2) := by decide +kernel
theorem d_Gat_setAllFrom_5 : decode b_Gat_setAllFrom 5 = .ok (.if_icmp .ge 16, 3) := by decide +kernel
theorem d_Gat_setAllFrom_8 : decode b_Gat_setAllFrom 8 = .ok (.aload_n 0, 1) := by decide +kernel
theorem d_Gat_setAllFrom_9 : decode b_Gat_setAllFrom 9 = .ok (.getfield 33, 3) := by decide +kernel
theorem d_Gat_setAllFrom_12 : decode b_Gat_setAllFrom 12 = .ok (.iload_n 2, 1) := by decide +kernel
theorem d_Gat_setAllFrom_13 : decode b_Gat_setAllFrom 13 = .ok (.iload_n 1, 1) := by decide +kernel
theorem d_Gat_setAllFrom_14 : decode b_Gat_setAllFrom 14 = .ok (.iastore, 1) := by decide +kernel
theorem d_Gat_setAllFrom_15 : decode b_Gat_setAllFrom 15 = .ok (.iinc 2 1, 3) := by decide +kernel
theorem d_Gat_setAllFrom_18 : decode b_Gat_setAllFrom 18 = .ok (.goto (-16), 3) := by decide +kernel
theorem d_Gat_setAllFrom_21 : decode b_Gat_setAllFrom 21 = .ok (.return_, 1) := by decide +kernel
theorem d_Gat_setMark_0 : decode b_Gat_setMark 0 = .ok (.aload_n 0, 1) := by decide +kernel
theorem d_Gat_setMark_1 : decode b_Gat_setMark 1 = .ok (.aload_n 0, 1) := by decide +kernel
theorem d_Gat_setMark_2 : decode b_Gat_setMark 2 = .ok (.getfield 53, 3) := by decide +kernel
theorem d_Gat_setMark_5 : decode b_Gat_setMark 5 = .ok (.putfield 104, 3) := by decide +kernel
theorem d_Gat_setMark_8 : decode b_Gat_setMark 8 = .ok (.aload_n 0, 1) := by decide +kernel
theorem d_Gat_setMark_9 : decode b_Gat_setMark 9 = .ok (.aload_n 0, 1) := by decide +kernel
theorem d_Gat_setMark_10 : decode b_Gat_setMark 10 = .ok (.getfield 20, 3) := by decide +kernel
theorem d_Gat_setMark_13 : decode b_Gat_setMark 13 = .ok (.getfield 77, 3) := by decide +kernel
theorem d_Gat_setMark_16 : decode b_Gat_setMark 16 = .ok (.putfield 128, 3) := by decide +kernel
theorem d_Gat_setMark_19 : decode b_Gat_setMark 19 = .ok (.aload_n 0, 1) := by decide +kernel
theorem d_Gat_setMark_20 : decode b_Gat_setMark 20 = .ok (.aload_n 0, 1) := by decide +kernel
theorem d_Gat_setMark_21 : decode b_Gat_setMark 21 = .ok (.getfield 27, 3) := by decide +kernel
theorem d_Gat_setMark_24 : decode b_Gat_setMark 24 = .ok (.getfield 77, 3) := by decide +kernel
theorem d_Gat_setMark_27 : decode b_Gat_setMark 27 = .ok (.putfield 131, 3) := by decide +kernel
theorem d_Gat_setMark_30 : decode b_Gat_setMark 30 = .ok (.aload_n 0, 1) := by decide +kernel
theorem d_Gat_setMark_31 : decode b_Gat_setMark 31 = .ok (.aload_n 0, 1) := by decide +kernel
theorem d_Gat_setMark_32 : decode b_Gat_setMark 32 = .ok (.getfield 30, 3) := by decide +kernel
theorem d_Gat_setMark_35 : decode b_Gat_setMark 35 = .ok (.getfield 77, 3) := by decide +kernel
theorem d_Gat_setMark_38 : decode b_Gat_setMark 38 = .ok (.putfield 134, 3) := by decide +kernel
theorem d_Gat_setMark_41 : decode b_Gat_setMark 41 = .ok (.return_, 1) := by decide +kernel

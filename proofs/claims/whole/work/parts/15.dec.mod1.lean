/-! Decoded instructions of Mod. -/
theorem d_Mod_fetch_0 : decode b_Mod_fetch 0 = .ok (.aload_n 0, 1) := by decide +kernel
theorem d_Mod_fetch_1 : decode b_Mod_fetch 1 = .ok (.iload_n 1, 1) := by decide +kernel
theorem d_Mod_fetch_2 : decode b_Mod_fetch 2 = .ok (.invokevirtual 92, 3) := by decide +kernel
theorem d_Mod_fetch_5 : decode b_Mod_fetch 5 = .ok (.ifCond .eq 4, 3) := by decide +kernel
theorem d_Mod_fetch_8 : decode b_Mod_fetch 8 = .ok (.return_, 1) := by decide +kernel
theorem d_Mod_fetch_9 : decode b_Mod_fetch 9 = .ok (.aload_n 0, 1) := by decide +kernel
theorem d_Mod_fetch_10 : decode b_Mod_fetch 10 = .ok (.getfield 7, 3) := by decide +kernel
theorem d_Mod_fetch_13 : decode b_Mod_fetch 13 = .ok (.iload_n 1, 1) := by decide +kernel
theorem d_Mod_fetch_14 : decode b_Mod_fetch 14 = .ok (.iaload, 1) := by decide +kernel
theorem d_Mod_fetch_15 : decode b_Mod_fetch 15 = .ok (.istore_n 2, 1) := by decide +kernel
theorem d_Mod_fetch_16 : decode b_Mod_fetch 16 = .ok (.aload_n 0, 1) := by decide +kernel
theorem d_Mod_fetch_17 : decode b_Mod_fetch 17 = .ok (.getfield 95, 3) := by decide +kernel
theorem d_Mod_fetch_20 : decode b_Mod_fetch 20 = .ok (.aload_n 0, 1) := by decide +kernel
theorem d_Mod_fetch_21 : decode b_Mod_fetch 21 = .ok (.getfield 56, 3) := by decide +kernel
theorem d_Mod_fetch_24 : decode b_Mod_fetch 24 = .ok (.iload_n 2, 1) := by decide +kernel
theorem d_Mod_fetch_25 : decode b_Mod_fetch 25 = .ok (.iaload, 1) := by decide +kernel
theorem d_Mod_fetch_26 : decode b_Mod_fetch 26 = .ok (.if_icmp .le 10, 3) := by decide +kernel
theorem d_Mod_fetch_29 : decode b_Mod_fetch 29 = .ok (.aload_n 0, 1) := by decide +kernel
theorem d_Mod_fetch_30 : decode b_Mod_fetch 30 = .ok (.getfield 95, 3) := by decide +kernel
theorem d_Mod_fetch_33 : decode b_Mod_fetch 33 = .ok (.goto 9, 3) := by decide +kernel
theorem d_Mod_fetch_36 : decode b_Mod_fetch 36 = .ok (.aload_n 0, 1) := by decide +kernel
theorem d_Mod_fetch_37 : decode b_Mod_fetch 37 = .ok (.getfield 56, 3) := by decide +kernel
theorem d_Mod_fetch_40 : decode b_Mod_fetch 40 = .ok (.iload_n 2, 1) := by decide +kernel
theorem d_Mod_fetch_41 : decode b_Mod_fetch 41 = .ok (.iaload, 1) := by decide +kernel
theorem d_Mod_fetch_42 : decode b_Mod_fetch 42 = .ok (.istore_n 3, 1) := by decide +kernel
theorem d_Mod_fetch_43 : decode b_Mod_fetch 43 = .ok (.aload_n 0, 1) := by decide +kernel
theorem d_Mod_fetch_44 : decode b_Mod_fetch 44 = .ok (.getfield 56, 3) := by decide +kernel
theorem d_Mod_fetch_47 : decode b_Mod_fetch 47 = .ok (.iload_n 2, 1) := by decide +kernel
theorem d_Mod_fetch_48 : decode b_Mod_fetch 48 = .ok (.iload_n 3, 1) := by decide +kernel
theorem d_Mod_fetch_49 : decode b_Mod_fetch 49 = .ok (.aload_n 0, 1) := by decide +kernel
theorem d_Mod_fetch_50 : decode b_Mod_fetch 50 = .ok (.getfield 98, 3) := by decide +kernel
theorem d_Mod_fetch_53 : decode b_Mod_fetch 53 = .ok (.iadd, 1) := by decide +kernel
theorem d_Mod_fetch_54 : decode b_Mod_fetch 54 = .ok (.iastore, 1) := by decide +kernel
theorem d_Mod_fetch_55 : decode b_Mod_fetch 55 = .ok (.aload_n 0, 1) := by decide +kernel
theorem d_Mod_fetch_56 : decode b_Mod_fetch 56 = .ok (.iload_n 3, 1) := by decide +kernel
theorem d_Mod_fetch_57 : decode b_Mod_fetch 57 = .ok (.iconst 1, 1) := by decide +kernel
theorem d_Mod_fetch_58 : decode b_Mod_fetch 58 = .ok (.iadd, 1) := by decide +kernel
theorem d_Mod_fetch_59 : decode b_Mod_fetch 59 = .ok (.putfield 95, 3) := by decide +kernel
theorem d_Mod_fetch_62 : decode b_Mod_fetch 62 = .ok (.aload_n 0, 1) := by decide +kernel
theorem d_Mod_fetch_63 : decode b_Mod_fetch 63 = .ok (.getfield 50, 3) := by decide +kernel
theorem d_Mod_fetch_66 : decode b_Mod_fetch 66 = .ok (.aload_n 0, 1) := by decide +kernel
theorem d_Mod_fetch_67 : decode b_Mod_fetch 67 = .ok (.getfield 89, 3) := by decide +kernel
theorem d_Mod_fetch_70 : decode b_Mod_fetch 70 = .ok (.iload_n 1, 1) := by decide +kernel
theorem d_Mod_fetch_71 : decode b_Mod_fetch 71 = .ok (.iastore, 1) := by decide +kernel
theorem d_Mod_fetch_72 : decode b_Mod_fetch 72 = .ok (.aload_n 0, 1) := by decide +kernel
theorem d_Mod_fetch_73 : decode b_Mod_fetch 73 = .ok (.aload_n 0, 1) := by decide +kernel
theorem d_Mod_fetch_74 : decode b_Mod_fetch 74 = .ok (.getfield 89, 3) := by decide +kernel
theorem d_Mod_fetch_77 : decode b_Mod_fetch 77 = .ok (.iconst 1, 1) := by decide +kernel
theorem d_Mod_fetch_78 : decode b_Mod_fetch 78 = .ok (.iadd, 1) := by decide +kernel
theorem d_Mod_fetch_79 : decode b_Mod_fetch 79 = .ok (.putfield 89, 3) := by decide +kernel
theorem d_Mod_fetch_82 : decode b_Mod_fetch 82 = .ok (.aload_n 0, 1) := by decide +kernel
theorem d_Mod_fetch_83 : decode b_Mod_fetch 83 = .ok (.aload_n 0, 1) := by decide +kernel
theorem d_Mod_fetch_84 : decode b_Mod_fetch 84 = .ok (.getfield 101, 3) := by decide +kernel
theorem d_Mod_fetch_87 : decode b_Mod_fetch 87 = .ok (.iconst 1, 1) := by decide +kernel
theorem d_Mod_fetch_88 : decode b_Mod_fetch 88 = .ok (.iadd, 1) := by decide +kernel
theorem d_Mod_fetch_89 : decode b_Mod_fetch 89 = .ok (.putfield 101, 3) := by decide +kernel
theorem d_Mod_fetch_92 : decode b_Mod_fetch 92 = .ok (.return_, 1) := by decide +kernel
theorem d_Mod_chase_0 : decode b_Mod_chase 0 = .ok (.iload_n 1, 1) := by decide +kernel
theorem d_Mod_chase_1 : decode b_Mod_chase 1 = .ok (.istore_n 3, 1) := by decide +kernel
theorem d_Mod_chase_2 : decode b_Mod_chase 2 = .ok (.iconst 0, 1) := by decide +kernel
theorem d_Mod_chase_3 : decode b_Mod_chase 3 = .ok (.istore 4, 2) := by decide +kernel
theorem d_Mod_chase_5 : decode b_Mod_chase 5 = .ok (.iload 4, 2) := by decide +kernel
theorem d_Mod_chase_7 : decode b_Mod_chase 7 = .ok (.iconst 4, 1) := by decide +kernel
theorem d_Mod_chase_8 : decode b_Mod_chase 8 = .ok (.if_icmp .gt 70, 3) := by decide +kernel
theorem d_Mod_chase_11 : decode b_Mod_chase 11 = .ok (.aload_n 0, 1) := by decide +kernel
theorem d_Mod_chase_12 : decode b_Mod_chase 12 = .ok (.iload_n 3, 1) := by decide +kernel
theorem d_Mod_chase_13 : decode b_Mod_chase 13 = .ok (.invokevirtual 104, 3) := by decide +kernel
theorem d_Mod_chase_16 : decode b_Mod_chase 16 = .ok (.ifCond .ne 5, 3) := by decide +kernel
theorem d_Mod_chase_19 : decode b_Mod_chase 19 = .ok (.iconst (-1), 1) := by decide +kernel
theorem d_Mod_chase_20 : decode b_Mod_chase 20 = .ok (.ireturn, 1) := by decide +kernel
theorem d_Mod_chase_21 : decode b_Mod_chase 21 = .ok (.iload_n 2, 1) := by decide +kernel
theorem d_Mod_chase_22 : decode b_Mod_chase 22 = .ok (.ifCond .eq 8, 3) := by decide +kernel
theorem d_Mod_chase_25 : decode b_Mod_chase 25 = .ok (.aload_n 0, 1) := by decide +kernel
theorem d_Mod_chase_26 : decode b_Mod_chase 26 = .ok (.iload_n 3, 1) := by decide +kernel
theorem d_Mod_chase_27 : decode b_Mod_chase 27 = .ok (.invokevirtual 107, 3) := by decide +kernel
theorem d_Mod_chase_30 : decode b_Mod_chase 30 = .ok (.aload_n 0, 1) := by decide +kernel
theorem d_Mod_chase_31 : decode b_Mod_chase 31 = .ok (.getfield 16, 3) := by decide +kernel
theorem d_Mod_chase_34 : decode b_Mod_chase 34 = .ok (.iload_n 3, 1) := by decide +kernel
theorem d_Mod_chase_35 : decode b_Mod_chase 35 = .ok (.iaload, 1) := by decide +kernel
theorem d_Mod_chase_36 : decode b_Mod_chase 36 = .ok (.bipush (-2), 2) := by decide +kernel
theorem d_Mod_chase_38 : decode b_Mod_chase 38 = .ok (.if_icmp .ne 5, 3) := by decide +kernel
theorem d_Mod_chase_41 : decode b_Mod_chase 41 = .ok (.iload_n 3, 1) := by decide +kernel
theorem d_Mod_chase_42 : decode b_Mod_chase 42 = .ok (.ireturn, 1) := by decide +kernel
theorem d_Mod_chase_43 : decode b_Mod_chase 43 = .ok (.aload_n 0, 1) := by decide +kernel
theorem d_Mod_chase_44 : decode b_Mod_chase 44 = .ok (.getfield 16, 3) := by decide +kernel
theorem d_Mod_chase_47 : decode b_Mod_chase 47 = .ok (.iload_n 3, 1) := by decide +kernel
theorem d_Mod_chase_48 : decode b_Mod_chase 48 = .ok (.iaload, 1) := by decide +kernel
theorem d_Mod_chase_49 : decode b_Mod_chase 49 = .ok (.bipush (-3), 2) := by decide +kernel
theorem d_Mod_chase_51 : decode b_Mod_chase 51 = .ok (.if_icmp .eq 12, 3) := by decide +kernel
theorem d_Mod_chase_54 : decode b_Mod_chase 54 = .ok (.iload 4, 2) := by decide +kernel
theorem d_Mod_chase_56 : decode b_Mod_chase 56 = .ok (.aload_n 0, 1) := by decide +kernel
theorem d_Mod_chase_57 : decode b_Mod_chase 57 = .ok (.getfield 111, 3) := by decide +kernel
theorem d_Mod_chase_60 : decode b_Mod_chase 60 = .ok (.if_icmp .lt 5, 3) := by decide +kernel
theorem d_Mod_chase_63 : decode b_Mod_chase 63 = .ok (.iconst (-1), 1) := by decide +kernel
theorem d_Mod_chase_64 : decode b_Mod_chase 64 = .ok (.ireturn, 1) := by decide +kernel
theorem d_Mod_chase_65 : decode b_Mod_chase 65 = .ok (.aload_n 0, 1) := by decide +kernel
theorem d_Mod_chase_66 : decode b_Mod_chase 66 = .ok (.getfield 16, 3) := by decide +kernel
theorem d_Mod_chase_69 : decode b_Mod_chase 69 = .ok (.iload_n 3, 1) := by decide +kernel
theorem d_Mod_chase_70 : decode b_Mod_chase 70 = .ok (.iaload, 1) := by decide +kernel
theorem d_Mod_chase_71 : decode b_Mod_chase 71 = .ok (.istore_n 3, 1) := by decide +kernel
theorem d_Mod_chase_72 : decode b_Mod_chase 72 = .ok (.iinc 4 1, 3) := by decide +kernel
theorem d_Mod_chase_75 : decode b_Mod_chase 75 = .ok (.goto (-70), 3) := by decide +kernel
theorem d_Mod_chase_78 : decode b_Mod_chase 78 = .ok (.iconst (-1), 1) := by decide +kernel
theorem d_Mod_chase_79 : decode b_Mod_chase 79 = .ok (.ireturn, 1) := by decide +kernel
theorem d_Mod_placeInCorpus_0 : decode b_Mod_placeInCorpus 0 = .ok (.iconst (-1), 1) := by decide +kernel
theorem d_Mod_placeInCorpus_1 : decode b_Mod_placeInCorpus 1 = .ok (.istore_n 2, 1) := by decide +kernel
theorem d_Mod_placeInCorpus_2 : decode b_Mod_placeInCorpus 2 = .ok (.iconst 0, 1) := by decide +kernel
theorem d_Mod_placeInCorpus_3 : decode b_Mod_placeInCorpus 3 = .ok (.istore_n 3, 1) := by decide +kernel
theorem d_Mod_placeInCorpus_4 : decode b_Mod_placeInCorpus 4 = .ok (.iload_n 3, 1) := by decide +kernel
theorem d_Mod_placeInCorpus_5 : decode b_Mod_placeInCorpus 5 = .ok (.aload_n 0, 1) := by decide +kernel
theorem d_Mod_placeInCorpus_6 : decode b_Mod_placeInCorpus 6 = .ok (.getfield 114, 3) := by decide +kernel
theorem d_Mod_placeInCorpus_9 : decode b_Mod_placeInCorpus 9 = .ok (.if_icmp .ge 25, 3) := by decide +kernel
theorem d_Mod_placeInCorpus_12 : decode b_Mod_placeInCorpus 12 = .ok (.aload_n 0, 1) := by decide +kernel
theorem d_Mod_placeInCorpus_13 : decode b_Mod_placeInCorpus 13 = .ok (.getfield 53, 3) := by decide +kernel
theorem d_Mod_placeInCorpus_16 : decode b_Mod_placeInCorpus 16 = .ok (.iload_n 3, 1) := by decide +kernel
theorem d_Mod_placeInCorpus_17 : decode b_Mod_placeInCorpus 17 = .ok (.iaload, 1) := by decide +kernel
theorem d_Mod_placeInCorpus_18 : decode b_Mod_placeInCorpus 18 = .ok (.iload_n 1, 1) := by decide +kernel
theorem d_Mod_placeInCorpus_19 : decode b_Mod_placeInCorpus 19 = .ok (.if_icmp .ne 7, 3) := by decide +kernel
theorem d_Mod_placeInCorpus_22 : decode b_Mod_placeInCorpus 22 = .ok (.iload_n 3, 1) := by decide +kernel
theorem d_Mod_placeInCorpus_23 : decode b_Mod_placeInCorpus 23 = .ok (.goto 4, 3) := by decide +kernel
theorem d_Mod_placeInCorpus_26 : decode b_Mod_placeInCorpus 26 = .ok (.iload_n 2, 1) := by decide +kernel
theorem d_Mod_placeInCorpus_27 : decode b_Mod_placeInCorpus 27 = .ok (.istore_n 2, 1) := by decide +kernel
theorem d_Mod_placeInCorpus_28 : decode b_Mod_placeInCorpus 28 = .ok (.iinc 3 1, 3) := by decide +kernel
theorem d_Mod_placeInCorpus_31 : decode b_Mod_placeInCorpus 31 = .ok (.goto (-27), 3) := by decide +kernel
theorem d_Mod_placeInCorpus_34 : decode b_Mod_placeInCorpus 34 = .ok (.iload_n 2, 1) := by decide +kernel
theorem d_Mod_placeInCorpus_35 : decode b_Mod_placeInCorpus 35 = .ok (.ireturn, 1) := by decide +kernel
theorem d_Mod_queue_0 : decode b_Mod_queue 0 = .ok (.iconst 0, 1) := by decide +kernel
theorem d_Mod_queue_1 : decode b_Mod_queue 1 = .ok (.istore_n 3, 1) := by decide +kernel
theorem d_Mod_queue_2 : decode b_Mod_queue 2 = .ok (.iload_n 3, 1) := by decide +kernel
theorem d_Mod_queue_3 : decode b_Mod_queue 3 = .ok (.aload_n 0, 1) := by decide +kernel
theorem d_Mod_queue_4 : decode b_Mod_queue 4 = .ok (.getfield 117, 3) := by decide +kernel
theorem d_Mod_queue_7 : decode b_Mod_queue 7 = .ok (.if_icmp .ge 20, 3) := by decide +kernel
theorem d_Mod_queue_10 : decode b_Mod_queue 10 = .ok (.aload_n 0, 1) := by decide +kernel
theorem d_Mod_queue_11 : decode b_Mod_queue 11 = .ok (.getfield 44, 3) := by decide +kernel
theorem d_Mod_queue_14 : decode b_Mod_queue 14 = .ok (.iload_n 3, 1) := by decide +kernel
theorem d_Mod_queue_15 : decode b_Mod_queue 15 = .ok (.iaload, 1) := by decide +kernel
theorem d_Mod_queue_16 : decode b_Mod_queue 16 = .ok (.iload_n 1, 1) := by decide +kernel
theorem d_Mod_queue_17 : decode b_Mod_queue 17 = .ok (.if_icmp .ne 4, 3) := by decide +kernel
theorem d_Mod_queue_20 : decode b_Mod_queue 20 = .ok (.return_, 1) := by decide +kernel
theorem d_Mod_queue_21 : decode b_Mod_queue 21 = .ok (.iinc 3 1, 3) := by decide +kernel
theorem d_Mod_queue_24 : decode b_Mod_queue 24 = .ok (.goto (-22), 3) := by decide +kernel
theorem d_Mod_queue_27 : decode b_Mod_queue 27 = .ok (.aload_n 0, 1) := by decide +kernel
theorem d_Mod_queue_28 : decode b_Mod_queue 28 = .ok (.getfield 44, 3) := by decide +kernel
theorem d_Mod_queue_31 : decode b_Mod_queue 31 = .ok (.aload_n 0, 1) := by decide +kernel
theorem d_Mod_queue_32 : decode b_Mod_queue 32 = .ok (.getfield 117, 3) := by decide +kernel
theorem d_Mod_queue_35 : decode b_Mod_queue 35 = .ok (.iload_n 1, 1) := by decide +kernel
theorem d_Mod_queue_36 : decode b_Mod_queue 36 = .ok (.iastore, 1) := by decide +kernel
theorem d_Mod_queue_37 : decode b_Mod_queue 37 = .ok (.aload_n 0, 1) := by decide +kernel
theorem d_Mod_queue_38 : decode b_Mod_queue 38 = .ok (.getfield 47, 3) := by decide +kernel
theorem d_Mod_queue_41 : decode b_Mod_queue 41 = .ok (.aload_n 0, 1) := by decide +kernel
theorem d_Mod_queue_42 : decode b_Mod_queue 42 = .ok (.getfield 117, 3) := by decide +kernel
theorem d_Mod_queue_45 : decode b_Mod_queue 45 = .ok (.iload_n 2, 1) := by decide +kernel
theorem d_Mod_queue_46 : decode b_Mod_queue 46 = .ok (.iastore, 1) := by decide +kernel
theorem d_Mod_queue_47 : decode b_Mod_queue 47 = .ok (.aload_n 0, 1) := by decide +kernel
theorem d_Mod_queue_48 : decode b_Mod_queue 48 = .ok (.aload_n 0, 1) := by decide +kernel
theorem d_Mod_queue_49 : decode b_Mod_queue 49 = .ok (.getfield 117, 3) := by decide +kernel
theorem d_Mod_queue_52 : decode b_Mod_queue 52 = .ok (.iconst 1, 1) := by decide +kernel
theorem d_Mod_queue_53 : decode b_Mod_queue 53 = .ok (.iadd, 1) := by decide +kernel
theorem d_Mod_queue_54 : decode b_Mod_queue 54 = .ok (.putfield 117, 3) := by decide +kernel
theorem d_Mod_queue_57 : decode b_Mod_queue 57 = .ok (.return_, 1) := by decide +kernel
theorem d_Mod_handle_0 : decode b_Mod_handle 0 = .ok (.aload_n 0, 1) := by decide +kernel
theorem d_Mod_handle_1 : decode b_Mod_handle 1 = .ok (.getfield 44, 3) := by decide +kernel
theorem d_Mod_handle_4 : decode b_Mod_handle 4 = .ok (.aload_n 0, 1) := by decide +kernel
theorem d_Mod_handle_5 : decode b_Mod_handle 5 = .ok (.getfield 120, 3) := by decide +kernel
theorem d_Mod_handle_8 : decode b_Mod_handle 8 = .ok (.iaload, 1) := by decide +kernel
theorem d_Mod_handle_9 : decode b_Mod_handle 9 = .ok (.istore_n 1, 1) := by decide +kernel
theorem d_Mod_handle_10 : decode b_Mod_handle 10 = .ok (.aload_n 0, 1) := by decide +kernel
theorem d_Mod_handle_11 : decode b_Mod_handle 11 = .ok (.getfield 47, 3) := by decide +kernel
theorem d_Mod_handle_14 : decode b_Mod_handle 14 = .ok (.aload_n 0, 1) := by decide +kernel
theorem d_Mod_handle_15 : decode b_Mod_handle 15 = .ok (.getfield 120, 3) := by decide +kernel
theorem d_Mod_handle_18 : decode b_Mod_handle 18 = .ok (.iaload, 1) := by decide +kernel
theorem d_Mod_handle_19 : decode b_Mod_handle 19 = .ok (.istore_n 2, 1) := by decide +kernel
theorem d_Mod_handle_20 : decode b_Mod_handle 20 = .ok (.aload_n 0, 1) := by decide +kernel
theorem d_Mod_handle_21 : decode b_Mod_handle 21 = .ok (.aload_n 0, 1) := by decide +kernel
theorem d_Mod_handle_22 : decode b_Mod_handle 22 = .ok (.getfield 120, 3) := by decide +kernel
theorem d_Mod_handle_25 : decode b_Mod_handle 25 = .ok (.iconst 1, 1) := by decide +kernel
theorem d_Mod_handle_26 : decode b_Mod_handle 26 = .ok (.iadd, 1) := by decide +kernel
theorem d_Mod_handle_27 : decode b_Mod_handle 27 = .ok (.putfield 120, 3) := by decide +kernel
theorem d_Mod_handle_30 : decode b_Mod_handle 30 = .ok (.aload_n 0, 1) := by decide +kernel
theorem d_Mod_handle_31 : decode b_Mod_handle 31 = .ok (.iload_n 1, 1) := by decide +kernel
theorem d_Mod_handle_32 : decode b_Mod_handle 32 = .ok (.iconst 1, 1) := by decide +kernel
theorem d_Mod_handle_33 : decode b_Mod_handle 33 = .ok (.invokevirtual 123, 3) := by decide +kernel
theorem d_Mod_handle_36 : decode b_Mod_handle 36 = .ok (.istore_n 3, 1) := by decide +kernel
theorem d_Mod_handle_37 : decode b_Mod_handle 37 = .ok (.iload_n 3, 1) := by decide +kernel
theorem d_Mod_handle_38 : decode b_Mod_handle 38 = .ok (.ifCond .lt 77, 3) := by decide +kernel
theorem d_Mod_handle_41 : decode b_Mod_handle 41 = .ok (.aload_n 0, 1) := by decide +kernel
theorem d_Mod_handle_42 : decode b_Mod_handle 42 = .ok (.iload_n 3, 1) := by decide +kernel
theorem d_Mod_handle_43 : decode b_Mod_handle 43 = .ok (.invokevirtual 127, 3) := by decide +kernel
theorem d_Mod_handle_46 : decode b_Mod_handle 46 = .ok (.ifCond .ge 69, 3) := by decide +kernel
theorem d_Mod_handle_49 : decode b_Mod_handle 49 = .ok (.aload_n 0, 1) := by decide +kernel
theorem d_Mod_handle_50 : decode b_Mod_handle 50 = .ok (.getfield 53, 3) := by decide +kernel
theorem d_Mod_handle_53 : decode b_Mod_handle 53 = .ok (.aload_n 0, 1) := by decide +kernel
theorem d_Mod_handle_54 : decode b_Mod_handle 54 = .ok (.getfield 114, 3) := by decide +kernel
theorem d_Mod_handle_57 : decode b_Mod_handle 57 = .ok (.iload_n 3, 1) := by decide +kernel
theorem d_Mod_handle_58 : decode b_Mod_handle 58 = .ok (.iastore, 1) := by decide +kernel
theorem d_Mod_handle_59 : decode b_Mod_handle 59 = .ok (.aload_n 0, 1) := by decide +kernel
theorem d_Mod_handle_60 : decode b_Mod_handle 60 = .ok (.aload_n 0, 1) := by decide +kernel
theorem d_Mod_handle_61 : decode b_Mod_handle 61 = .ok (.getfield 114, 3) := by decide +kernel
theorem d_Mod_handle_64 : decode b_Mod_handle 64 = .ok (.iconst 1, 1) := by decide +kernel
theorem d_Mod_handle_65 : decode b_Mod_handle 65 = .ok (.iadd, 1) := by decide +kernel
theorem d_Mod_handle_66 : decode b_Mod_handle 66 = .ok (.putfield 114, 3) := by decide +kernel
theorem d_Mod_handle_69 : decode b_Mod_handle 69 = .ok (.iconst 0, 1) := by decide +kernel
theorem d_Mod_handle_70 : decode b_Mod_handle 70 = .ok (.istore 4, 2) := by decide +kernel
theorem d_Mod_handle_72 : decode b_Mod_handle 72 = .ok (.iload 4, 2) := by decide +kernel
theorem d_Mod_handle_74 : decode b_Mod_handle 74 = .ok (.aload_n 0, 1) := by decide +kernel
theorem d_Mod_handle_75 : decode b_Mod_handle 75 = .ok (.getfield 28, 3) := by decide +kernel
theorem d_Mod_handle_78 : decode b_Mod_handle 78 = .ok (.iload_n 3, 1) := by decide +kernel
theorem d_Mod_handle_79 : decode b_Mod_handle 79 = .ok (.iaload, 1) := by decide +kernel
theorem d_Mod_handle_80 : decode b_Mod_handle 80 = .ok (.if_icmp .ge 35, 3) := by decide +kernel
theorem d_Mod_handle_83 : decode b_Mod_handle 83 = .ok (.iload_n 2, 1) := by decide +kernel
theorem d_Mod_handle_84 : decode b_Mod_handle 84 = .ok (.aload_n 0, 1) := by decide +kernel
theorem d_Mod_handle_85 : decode b_Mod_handle 85 = .ok (.getfield 131, 3) := by decide +kernel
theorem d_Mod_handle_88 : decode b_Mod_handle 88 = .ok (.if_icmp .ge 27, 3) := by decide +kernel
theorem d_Mod_handle_91 : decode b_Mod_handle 91 = .ok (.aload_n 0, 1) := by decide +kernel
theorem d_Mod_handle_92 : decode b_Mod_handle 92 = .ok (.aload_n 0, 1) := by decide +kernel
theorem d_Mod_handle_93 : decode b_Mod_handle 93 = .ok (.getfield 25, 3) := by decide +kernel
theorem d_Mod_handle_96 : decode b_Mod_handle 96 = .ok (.iconst 5, 1) := by decide +kernel
theorem d_Mod_handle_97 : decode b_Mod_handle 97 = .ok (.iload_n 3, 1) := by decide +kernel
theorem d_Mod_handle_98 : decode b_Mod_handle 98 = .ok (.imul, 1) := by decide +kernel
theorem d_Mod_handle_99 : decode b_Mod_handle 99 = .ok (.iload 4, 2) := by decide +kernel
theorem d_Mod_handle_101 : decode b_Mod_handle 101 = .ok (.iadd, 1) := by decide +kernel
theorem d_Mod_handle_102 : decode b_Mod_handle 102 = .ok (.iaload, 1) := by decide +kernel
theorem d_Mod_handle_103 : decode b_Mod_handle 103 = .ok (.iload_n 2, 1) := by decide +kernel
theorem d_Mod_handle_104 : decode b_Mod_handle 104 = .ok (.iconst 1, 1) := by decide +kernel
theorem d_Mod_handle_105 : decode b_Mod_handle 105 = .ok (.iadd, 1) := by decide +kernel
theorem d_Mod_handle_106 : decode b_Mod_handle 106 = .ok (.invokevirtual 134, 3) := by decide +kernel
theorem d_Mod_handle_109 : decode b_Mod_handle 109 = .ok (.iinc 4 1, 3) := by decide +kernel
theorem d_Mod_handle_112 : decode b_Mod_handle 112 = .ok (.goto (-40), 3) := by decide +kernel
theorem d_Mod_handle_115 : decode b_Mod_handle 115 = .ok (.aload_n 0, 1) := by decide +kernel
theorem d_Mod_handle_116 : decode b_Mod_handle 116 = .ok (.aload_n 0, 1) := by decide +kernel
theorem d_Mod_handle_117 : decode b_Mod_handle 117 = .ok (.getfield 138, 3) := by decide +kernel
theorem d_Mod_handle_120 : decode b_Mod_handle 120 = .ok (.iconst 1, 1) := by decide +kernel
theorem d_Mod_handle_121 : decode b_Mod_handle 121 = .ok (.iadd, 1) := by decide +kernel
theorem d_Mod_handle_122 : decode b_Mod_handle 122 = .ok (.putfield 138, 3) := by decide +kernel
theorem d_Mod_handle_125 : decode b_Mod_handle 125 = .ok (.aload_n 0, 1) := by decide +kernel
theorem d_Mod_handle_126 : decode b_Mod_handle 126 = .ok (.getfield 138, 3) := by decide +kernel
theorem d_Mod_handle_129 : decode b_Mod_handle 129 = .ok (.aload_n 0, 1) := by decide +kernel
theorem d_Mod_handle_130 : decode b_Mod_handle 130 = .ok (.getfield 141, 3) := by decide +kernel
theorem d_Mod_handle_133 : decode b_Mod_handle 133 = .ok (.if_icmp .ne 7, 3) := by decide +kernel
theorem d_Mod_handle_136 : decode b_Mod_handle 136 = .ok (.aload_n 0, 1) := by decide +kernel
theorem d_Mod_handle_137 : decode b_Mod_handle 137 = .ok (.invokevirtual 144, 3) := by decide +kernel
theorem d_Mod_handle_140 : decode b_Mod_handle 140 = .ok (.return_, 1) := by decide +kernel
theorem d_Mod_mark_0 : decode b_Mod_mark 0 = .ok (.aload_n 0, 1) := by decide +kernel
theorem d_Mod_mark_1 : decode b_Mod_mark 1 = .ok (.aload_n 0, 1) := by decide +kernel
theorem d_Mod_mark_2 : decode b_Mod_mark 2 = .ok (.getfield 120, 3) := by decide +kernel
theorem d_Mod_mark_5 : decode b_Mod_mark 5 = .ok (.putfield 147, 3) := by decide +kernel
theorem d_Mod_mark_8 : decode b_Mod_mark 8 = .ok (.aload_n 0, 1) := by decide +kernel
theorem d_Mod_mark_9 : decode b_Mod_mark 9 = .ok (.aload_n 0, 1) := by decide +kernel
theorem d_Mod_mark_10 : decode b_Mod_mark 10 = .ok (.getfield 117, 3) := by decide +kernel
theorem d_Mod_mark_13 : decode b_Mod_mark 13 = .ok (.putfield 150, 3) := by decide +kernel
theorem d_Mod_mark_16 : decode b_Mod_mark 16 = .ok (.aload_n 0, 1) := by decide +kernel
theorem d_Mod_mark_17 : decode b_Mod_mark 17 = .ok (.aload_n 0, 1) := by decide +kernel
theorem d_Mod_mark_18 : decode b_Mod_mark 18 = .ok (.getfield 89, 3) := by decide +kernel
theorem d_Mod_mark_21 : decode b_Mod_mark 21 = .ok (.putfield 153, 3) := by decide +kernel
theorem d_Mod_mark_24 : decode b_Mod_mark 24 = .ok (.aload_n 0, 1) := by decide +kernel
theorem d_Mod_mark_25 : decode b_Mod_mark 25 = .ok (.aload_n 0, 1) := by decide +kernel
theorem d_Mod_mark_26 : decode b_Mod_mark 26 = .ok (.getfield 114, 3) := by decide +kernel
theorem d_Mod_mark_29 : decode b_Mod_mark 29 = .ok (.putfield 156, 3) := by decide +kernel
theorem d_Mod_mark_32 : decode b_Mod_mark 32 = .ok (.aload_n 0, 1) := by decide +kernel
theorem d_Mod_mark_33 : decode b_Mod_mark 33 = .ok (.iconst 0, 1) := by decide +kernel
theorem d_Mod_mark_34 : decode b_Mod_mark 34 = .ok (.putfield 138, 3) := by decide +kernel
theorem d_Mod_mark_37 : decode b_Mod_mark 37 = .ok (.return_, 1) := by decide +kernel
theorem d_Mod_begin_0 : decode b_Mod_begin 0 = .ok (.aload_n 0, 1) := by decide +kernel
theorem d_Mod_begin_1 : decode b_Mod_begin 1 = .ok (.getfield 73, 3) := by decide +kernel
theorem d_Mod_begin_4 : decode b_Mod_begin 4 = .ok (.ifCond .ne 52, 3) := by decide +kernel
theorem d_Mod_begin_7 : decode b_Mod_begin 7 = .ok (.iload_n 1, 1) := by decide +kernel
theorem d_Mod_begin_8 : decode b_Mod_begin 8 = .ok (.ifCond .lt 48, 3) := by decide +kernel
theorem d_Mod_begin_11 : decode b_Mod_begin 11 = .ok (.iload_n 1, 1) := by decide +kernel
theorem d_Mod_begin_12 : decode b_Mod_begin 12 = .ok (.bipush 6, 2) := by decide +kernel
theorem d_Mod_begin_14 : decode b_Mod_begin 14 = .ok (.if_icmp .gt 42, 3) := by decide +kernel
theorem d_Mod_begin_17 : decode b_Mod_begin 17 = .ok (.iload_n 2, 1) := by decide +kernel
theorem d_Mod_begin_18 : decode b_Mod_begin 18 = .ok (.ifCond .lt 38, 3) := by decide +kernel
theorem d_Mod_begin_21 : decode b_Mod_begin 21 = .ok (.iload_n 2, 1) := by decide +kernel
theorem d_Mod_begin_22 : decode b_Mod_begin 22 = .ok (.iconst 4, 1) := by decide +kernel
theorem d_Mod_begin_23 : decode b_Mod_begin 23 = .ok (.if_icmp .gt 33, 3) := by decide +kernel
theorem d_Mod_begin_26 : decode b_Mod_begin 26 = .ok (.iload_n 3, 1) := by decide +kernel
theorem d_Mod_begin_27 : decode b_Mod_begin 27 = .ok (.ifCond .lt 29, 3) := by decide +kernel
theorem d_Mod_begin_30 : decode b_Mod_begin 30 = .ok (.iload_n 3, 1) := by decide +kernel
theorem d_Mod_begin_31 : decode b_Mod_begin 31 = .ok (.bipush 9, 2) := by decide +kernel
theorem d_Mod_begin_33 : decode b_Mod_begin 33 = .ok (.if_icmp .gt 23, 3) := by decide +kernel
theorem d_Mod_begin_36 : decode b_Mod_begin 36 = .ok (.iload 4, 2) := by decide +kernel
theorem d_Mod_begin_38 : decode b_Mod_begin 38 = .ok (.iconst 1, 1) := by decide +kernel
theorem d_Mod_begin_39 : decode b_Mod_begin 39 = .ok (.if_icmp .lt 17, 3) := by decide +kernel
theorem d_Mod_begin_42 : decode b_Mod_begin 42 = .ok (.iload 4, 2) := by decide +kernel
theorem d_Mod_begin_44 : decode b_Mod_begin 44 = .ok (.bipush 8, 2) := by decide +kernel
theorem d_Mod_begin_46 : decode b_Mod_begin 46 = .ok (.if_icmp .gt 10, 3) := by decide +kernel
theorem d_Mod_begin_49 : decode b_Mod_begin 49 = .ok (.aload_n 0, 1) := by decide +kernel
theorem d_Mod_begin_50 : decode b_Mod_begin 50 = .ok (.getfield 82, 3) := by decide +kernel
theorem d_Mod_begin_53 : decode b_Mod_begin 53 = .ok (.ifCond .ne 5, 3) := by decide +kernel
theorem d_Mod_begin_56 : decode b_Mod_begin 56 = .ok (.iconst 0, 1) := by decide +kernel
theorem d_Mod_begin_57 : decode b_Mod_begin 57 = .ok (.ireturn, 1) := by decide +kernel
theorem d_Mod_begin_58 : decode b_Mod_begin 58 = .ok (.aload_n 0, 1) := by decide +kernel
theorem d_Mod_begin_59 : decode b_Mod_begin 59 = .ok (.iconst 1, 1) := by decide +kernel
theorem d_Mod_begin_60 : decode b_Mod_begin 60 = .ok (.putfield 73, 3) := by decide +kernel
theorem d_Mod_begin_63 : decode b_Mod_begin 63 = .ok (.aload_n 0, 1) := by decide +kernel
theorem d_Mod_begin_64 : decode b_Mod_begin 64 = .ok (.iload_n 1, 1) := by decide +kernel
theorem d_Mod_begin_65 : decode b_Mod_begin 65 = .ok (.putfield 131, 3) := by decide +kernel
theorem d_Mod_begin_68 : decode b_Mod_begin 68 = .ok (.aload_n 0, 1) := by decide +kernel
theorem d_Mod_begin_69 : decode b_Mod_begin 69 = .ok (.iload_n 2, 1) := by decide +kernel
theorem d_Mod_begin_70 : decode b_Mod_begin 70 = .ok (.putfield 111, 3) := by decide +kernel
theorem d_Mod_begin_73 : decode b_Mod_begin 73 = .ok (.aload_n 0, 1) := by decide +kernel
theorem d_Mod_begin_74 : decode b_Mod_begin 74 = .ok (.iload_n 3, 1) := by decide +kernel
theorem d_Mod_begin_75 : decode b_Mod_begin 75 = .ok (.putfield 98, 3) := by decide +kernel
theorem d_Mod_begin_78 : decode b_Mod_begin 78 = .ok (.aload_n 0, 1) := by decide +kernel
theorem d_Mod_begin_79 : decode b_Mod_begin 79 = .ok (.iload 4, 2) := by decide +kernel
theorem d_Mod_begin_81 : decode b_Mod_begin 81 = .ok (.putfield 141, 3) := by decide +kernel
theorem d_Mod_begin_84 : decode b_Mod_begin 84 = .ok (.aload_n 0, 1) := by decide +kernel
theorem d_Mod_begin_85 : decode b_Mod_begin 85 = .ok (.iconst 0, 1) := by decide +kernel
theorem d_Mod_begin_86 : decode b_Mod_begin 86 = .ok (.putfield 120, 3) := by decide +kernel
theorem d_Mod_begin_89 : decode b_Mod_begin 89 = .ok (.aload_n 0, 1) := by decide +kernel
theorem d_Mod_begin_90 : decode b_Mod_begin 90 = .ok (.iconst 0, 1) := by decide +kernel
theorem d_Mod_begin_91 : decode b_Mod_begin 91 = .ok (.putfield 117, 3) := by decide +kernel
theorem d_Mod_begin_94 : decode b_Mod_begin 94 = .ok (.aload_n 0, 1) := by decide +kernel
theorem d_Mod_begin_95 : decode b_Mod_begin 95 = .ok (.iconst 0, 1) := by decide +kernel
theorem d_Mod_begin_96 : decode b_Mod_begin 96 = .ok (.putfield 89, 3) := by decide +kernel
theorem d_Mod_begin_99 : decode b_Mod_begin 99 = .ok (.aload_n 0, 1) := by decide +kernel
theorem d_Mod_begin_100 : decode b_Mod_begin 100 = .ok (.iconst 0, 1) := by decide +kernel
theorem d_Mod_begin_101 : decode b_Mod_begin 101 = .ok (.putfield 114, 3) := by decide +kernel
theorem d_Mod_begin_104 : decode b_Mod_begin 104 = .ok (.aload_n 0, 1) := by decide +kernel
theorem d_Mod_begin_105 : decode b_Mod_begin 105 = .ok (.iconst 0, 1) := by decide +kernel
theorem d_Mod_begin_106 : decode b_Mod_begin 106 = .ok (.putfield 95, 3) := by decide +kernel
theorem d_Mod_begin_109 : decode b_Mod_begin 109 = .ok (.aload_n 0, 1) := by decide +kernel
theorem d_Mod_begin_110 : decode b_Mod_begin 110 = .ok (.iconst 0, 1) := by decide +kernel
theorem d_Mod_begin_111 : decode b_Mod_begin 111 = .ok (.putfield 101, 3) := by decide +kernel
theorem d_Mod_begin_114 : decode b_Mod_begin 114 = .ok (.iconst 0, 1) := by decide +kernel
theorem d_Mod_begin_115 : decode b_Mod_begin 115 = .ok (.istore 5, 2) := by decide +kernel
theorem d_Mod_begin_117 : decode b_Mod_begin 117 = .ok (.iload 5, 2) := by decide +kernel
theorem d_Mod_begin_119 : decode b_Mod_begin 119 = .ok (.bipush 6, 2) := by decide +kernel
theorem d_Mod_begin_121 : decode b_Mod_begin 121 = .ok (.if_icmp .ge 17, 3) := by decide +kernel
theorem d_Mod_begin_124 : decode b_Mod_begin 124 = .ok (.aload_n 0, 1) := by decide +kernel
theorem d_Mod_begin_125 : decode b_Mod_begin 125 = .ok (.getfield 56, 3) := by decide +kernel
theorem d_Mod_begin_128 : decode b_Mod_begin 128 = .ok (.iload 5, 2) := by decide +kernel
theorem d_Mod_begin_130 : decode b_Mod_begin 130 = .ok (.iconst 0, 1) := by decide +kernel
theorem d_Mod_begin_131 : decode b_Mod_begin 131 = .ok (.iastore, 1) := by decide +kernel
theorem d_Mod_begin_132 : decode b_Mod_begin 132 = .ok (.iinc 5 1, 3) := by decide +kernel
theorem d_Mod_begin_135 : decode b_Mod_begin 135 = .ok (.goto (-18), 3) := by decide +kernel
theorem d_Mod_begin_138 : decode b_Mod_begin 138 = .ok (.iconst 0, 1) := by decide +kernel
theorem d_Mod_begin_139 : decode b_Mod_begin 139 = .ok (.istore 5, 2) := by decide +kernel
theorem d_Mod_begin_141 : decode b_Mod_begin 141 = .ok (.iload 5, 2) := by decide +kernel
theorem d_Mod_begin_143 : decode b_Mod_begin 143 = .ok (.aload_n 0, 1) := by decide +kernel
theorem d_Mod_begin_144 : decode b_Mod_begin 144 = .ok (.getfield 82, 3) := by decide +kernel
theorem d_Mod_begin_147 : decode b_Mod_begin 147 = .ok (.if_icmp .ge 21, 3) := by decide +kernel
theorem d_Mod_begin_150 : decode b_Mod_begin 150 = .ok (.aload_n 0, 1) := by decide +kernel
theorem d_Mod_begin_151 : decode b_Mod_begin 151 = .ok (.aload_n 0, 1) := by decide +kernel
theorem d_Mod_begin_152 : decode b_Mod_begin 152 = .ok (.getfield 41, 3) := by decide +kernel
theorem d_Mod_begin_155 : decode b_Mod_begin 155 = .ok (.iload 5, 2) := by decide +kernel
theorem d_Mod_begin_157 : decode b_Mod_begin 157 = .ok (.iaload, 1) := by decide +kernel
theorem d_Mod_begin_158 : decode b_Mod_begin 158 = .ok (.iconst 0, 1) := by decide +kernel
theorem d_Mod_begin_159 : decode b_Mod_begin 159 = .ok (.invokevirtual 134, 3) := by decide +kernel
theorem d_Mod_begin_162 : decode b_Mod_begin 162 = .ok (.iinc 5 1, 3) := by decide +kernel
theorem d_Mod_begin_165 : decode b_Mod_begin 165 = .ok (.goto (-24), 3) := by decide +kernel
theorem d_Mod_begin_168 : decode b_Mod_begin 168 = .ok (.aload_n 0, 1) := by decide +kernel
theorem d_Mod_begin_169 : decode b_Mod_begin 169 = .ok (.invokevirtual 144, 3) := by decide +kernel
theorem d_Mod_begin_172 : decode b_Mod_begin 172 = .ok (.iconst 1, 1) := by decide +kernel
theorem d_Mod_begin_173 : decode b_Mod_begin 173 = .ok (.ireturn, 1) := by decide +kernel
theorem d_Mod_stop_0 : decode b_Mod_stop 0 = .ok (.aload_n 0, 1) := by decide +kernel
theorem d_Mod_stop_1 : decode b_Mod_stop 1 = .ok (.getfield 73, 3) := by decide +kernel
theorem d_Mod_stop_4 : decode b_Mod_stop 4 = .ok (.istore_n 1, 1) := by decide +kernel
theorem d_Mod_stop_5 : decode b_Mod_stop 5 = .ok (.aload_n 0, 1) := by decide +kernel
theorem d_Mod_stop_6 : decode b_Mod_stop 6 = .ok (.iconst 0, 1) := by decide +kernel
theorem d_Mod_stop_7 : decode b_Mod_stop 7 = .ok (.putfield 73, 3) := by decide +kernel
theorem d_Mod_stop_10 : decode b_Mod_stop 10 = .ok (.iload_n 1, 1) := by decide +kernel
theorem d_Mod_stop_11 : decode b_Mod_stop 11 = .ok (.ireturn, 1) := by decide +kernel
theorem d_Mod_work_0 : decode b_Mod_work 0 = .ok (.aload_n 0, 1) := by decide +kernel
theorem d_Mod_work_1 : decode b_Mod_work 1 = .ok (.getfield 73, 3) := by decide +kernel
theorem d_Mod_work_4 : decode b_Mod_work 4 = .ok (.ifCond .eq 14, 3) := by decide +kernel
theorem d_Mod_work_7 : decode b_Mod_work 7 = .ok (.iload_n 1, 1) := by decide +kernel
theorem d_Mod_work_8 : decode b_Mod_work 8 = .ok (.iconst 1, 1) := by decide +kernel
theorem d_Mod_work_9 : decode b_Mod_work 9 = .ok (.if_icmp .lt 9, 3) := by decide +kernel
theorem d_Mod_work_12 : decode b_Mod_work 12 = .ok (.iload_n 1, 1) := by decide +kernel
theorem d_Mod_work_13 : decode b_Mod_work 13 = .ok (.bipush 10, 2) := by decide +kernel
theorem d_Mod_work_15 : decode b_Mod_work 15 = .ok (.if_icmp .le 5, 3) := by decide +kernel
theorem d_Mod_work_18 : decode b_Mod_work 18 = .ok (.iconst (-1), 1) := by decide +kernel
theorem d_Mod_work_19 : decode b_Mod_work 19 = .ok (.ireturn, 1) := by decide +kernel
theorem d_Mod_work_20 : decode b_Mod_work 20 = .ok (.aload_n 0, 1) := by decide +kernel
theorem d_Mod_work_21 : decode b_Mod_work 21 = .ok (.getfield 101, 3) := by decide +kernel
theorem d_Mod_work_24 : decode b_Mod_work 24 = .ok (.istore_n 2, 1) := by decide +kernel
theorem d_Mod_work_25 : decode b_Mod_work 25 = .ok (.iconst 0, 1) := by decide +kernel
theorem d_Mod_work_26 : decode b_Mod_work 26 = .ok (.istore_n 3, 1) := by decide +kernel
theorem d_Mod_work_27 : decode b_Mod_work 27 = .ok (.iload_n 3, 1) := by decide +kernel
theorem d_Mod_work_28 : decode b_Mod_work 28 = .ok (.iload_n 1, 1) := by decide +kernel
theorem d_Mod_work_29 : decode b_Mod_work 29 = .ok (.if_icmp .ge 24, 3) := by decide +kernel
theorem d_Mod_work_32 : decode b_Mod_work 32 = .ok (.aload_n 0, 1) := by decide +kernel
theorem d_Mod_work_33 : decode b_Mod_work 33 = .ok (.getfield 120, 3) := by decide +kernel
theorem d_Mod_work_36 : decode b_Mod_work 36 = .ok (.aload_n 0, 1) := by decide +kernel
theorem d_Mod_work_37 : decode b_Mod_work 37 = .ok (.getfield 117, 3) := by decide +kernel
theorem d_Mod_work_40 : decode b_Mod_work 40 = .ok (.if_icmp .ge 13, 3) := by decide +kernel
theorem d_Mod_work_43 : decode b_Mod_work 43 = .ok (.aload_n 0, 1) := by decide +kernel
theorem d_Mod_work_44 : decode b_Mod_work 44 = .ok (.invokevirtual 159, 3) := by decide +kernel
theorem d_Mod_work_47 : decode b_Mod_work 47 = .ok (.iinc 3 1, 3) := by decide +kernel
theorem d_Mod_work_50 : decode b_Mod_work 50 = .ok (.goto (-23), 3) := by decide +kernel
theorem d_Mod_work_53 : decode b_Mod_work 53 = .ok (.aload_n 0, 1) := by decide +kernel
theorem d_Mod_work_54 : decode b_Mod_work 54 = .ok (.getfield 101, 3) := by decide +kernel
theorem d_Mod_work_57 : decode b_Mod_work 57 = .ok (.iload_n 2, 1) := by decide +kernel
theorem d_Mod_work_58 : decode b_Mod_work 58 = .ok (.isub, 1) := by decide +kernel
theorem d_Mod_work_59 : decode b_Mod_work 59 = .ok (.ireturn, 1) := by decide +kernel
theorem d_Mod_crash_0 : decode b_Mod_crash 0 = .ok (.aload_n 0, 1) := by decide +kernel
theorem d_Mod_crash_1 : decode b_Mod_crash 1 = .ok (.getfield 73, 3) := by decide +kernel
theorem d_Mod_crash_4 : decode b_Mod_crash 4 = .ok (.ifCond .ne 5, 3) := by decide +kernel
theorem d_Mod_crash_7 : decode b_Mod_crash 7 = .ok (.iconst (-1), 1) := by decide +kernel
theorem d_Mod_crash_8 : decode b_Mod_crash 8 = .ok (.ireturn, 1) := by decide +kernel
theorem d_Mod_crash_9 : decode b_Mod_crash 9 = .ok (.aload_n 0, 1) := by decide +kernel
theorem d_Mod_crash_10 : decode b_Mod_crash 10 = .ok (.getfield 138, 3) := by decide +kernel
theorem d_Mod_crash_13 : decode b_Mod_crash 13 = .ok (.istore_n 1, 1) := by decide +kernel
theorem d_Mod_crash_14 : decode b_Mod_crash 14 = .ok (.aload_n 0, 1) := by decide +kernel
theorem d_Mod_crash_15 : decode b_Mod_crash 15 = .ok (.aload_n 0, 1) := by decide +kernel
theorem d_Mod_crash_16 : decode b_Mod_crash 16 = .ok (.getfield 147, 3) := by decide +kernel
theorem d_Mod_crash_19 : decode b_Mod_crash 19 = .ok (.putfield 120, 3) := by decide +kernel
theorem d_Mod_crash_22 : decode b_Mod_crash 22 = .ok (.aload_n 0, 1) := by decide +kernel
theorem d_Mod_crash_23 : decode b_Mod_crash 23 = .ok (.aload_n 0, 1) := by decide +kernel
theorem d_Mod_crash_24 : decode b_Mod_crash 24 = .ok (.getfield 150, 3) := by decide +kernel
theorem d_Mod_crash_27 : decode b_Mod_crash 27 = .ok (.putfield 117, 3) := by decide +kernel
theorem d_Mod_crash_30 : decode b_Mod_crash 30 = .ok (.aload_n 0, 1) := by decide +kernel
theorem d_Mod_crash_31 : decode b_Mod_crash 31 = .ok (.aload_n 0, 1) := by decide +kernel
theorem d_Mod_crash_32 : decode b_Mod_crash 32 = .ok (.getfield 153, 3) := by decide +kernel
theorem d_Mod_crash_35 : decode b_Mod_crash 35 = .ok (.putfield 89, 3) := by decide +kernel
theorem d_Mod_crash_38 : decode b_Mod_crash 38 = .ok (.aload_n 0, 1) := by decide +kernel
theorem d_Mod_crash_39 : decode b_Mod_crash 39 = .ok (.aload_n 0, 1) := by decide +kernel
theorem d_Mod_crash_40 : decode b_Mod_crash 40 = .ok (.getfield 156, 3) := by decide +kernel
theorem d_Mod_crash_43 : decode b_Mod_crash 43 = .ok (.putfield 114, 3) := by decide +kernel
theorem d_Mod_crash_46 : decode b_Mod_crash 46 = .ok (.aload_n 0, 1) := by decide +kernel
theorem d_Mod_crash_47 : decode b_Mod_crash 47 = .ok (.iconst 0, 1) := by decide +kernel
theorem d_Mod_crash_48 : decode b_Mod_crash 48 = .ok (.putfield 138, 3) := by decide +kernel
theorem d_Mod_crash_51 : decode b_Mod_crash 51 = .ok (.iconst 0, 1) := by decide +kernel
theorem d_Mod_crash_52 : decode b_Mod_crash 52 = .ok (.istore_n 2, 1) := by decide +kernel
theorem d_Mod_crash_53 : decode b_Mod_crash 53 = .ok (.iload_n 2, 1) := by decide +kernel
theorem d_Mod_crash_54 : decode b_Mod_crash 54 = .ok (.bipush 6, 2) := by decide +kernel
theorem d_Mod_crash_56 : decode b_Mod_crash 56 = .ok (.if_icmp .ge 24, 3) := by decide +kernel
theorem d_Mod_crash_59 : decode b_Mod_crash 59 = .ok (.aload_n 0, 1) := by decide +kernel
theorem d_Mod_crash_60 : decode b_Mod_crash 60 = .ok (.getfield 56, 3) := by decide +kernel
theorem d_Mod_crash_63 : decode b_Mod_crash 63 = .ok (.iload_n 2, 1) := by decide +kernel
theorem d_Mod_crash_64 : decode b_Mod_crash 64 = .ok (.aload_n 0, 1) := by decide +kernel
theorem d_Mod_crash_65 : decode b_Mod_crash 65 = .ok (.getfield 95, 3) := by decide +kernel
theorem d_Mod_crash_68 : decode b_Mod_crash 68 = .ok (.aload_n 0, 1) := by decide +kernel
theorem d_Mod_crash_69 : decode b_Mod_crash 69 = .ok (.getfield 98, 3) := by decide +kernel
theorem d_Mod_crash_72 : decode b_Mod_crash 72 = .ok (.iadd, 1) := by decide +kernel
theorem d_Mod_crash_73 : decode b_Mod_crash 73 = .ok (.iastore, 1) := by decide +kernel
theorem d_Mod_crash_74 : decode b_Mod_crash 74 = .ok (.iinc 2 1, 3) := by decide +kernel
theorem d_Mod_crash_77 : decode b_Mod_crash 77 = .ok (.goto (-24), 3) := by decide +kernel
theorem d_Mod_crash_80 : decode b_Mod_crash 80 = .ok (.iload_n 1, 1) := by decide +kernel
theorem d_Mod_crash_81 : decode b_Mod_crash 81 = .ok (.ireturn, 1) := by decide +kernel
theorem d_Mod_found_0 : decode b_Mod_found 0 = .ok (.aload_n 0, 1) := by decide +kernel
theorem d_Mod_found_1 : decode b_Mod_found 1 = .ok (.getfield 73, 3) := by decide +kernel
theorem d_Mod_found_4 : decode b_Mod_found 4 = .ok (.ifCond .eq 20, 3) := by decide +kernel
theorem d_Mod_found_7 : decode b_Mod_found 7 = .ok (.aload_n 0, 1) := by decide +kernel
theorem d_Mod_found_8 : decode b_Mod_found 8 = .ok (.iload_n 1, 1) := by decide +kernel
theorem d_Mod_found_9 : decode b_Mod_found 9 = .ok (.invokevirtual 78, 3) := by decide +kernel
theorem d_Mod_found_12 : decode b_Mod_found 12 = .ok (.ifCond .eq 12, 3) := by decide +kernel
theorem d_Mod_found_15 : decode b_Mod_found 15 = .ok (.aload_n 0, 1) := by decide +kernel
theorem d_Mod_found_16 : decode b_Mod_found 16 = .ok (.iload_n 1, 1) := by decide +kernel
theorem d_Mod_found_17 : decode b_Mod_found 17 = .ok (.iconst 0, 1) := by decide +kernel
theorem d_Mod_found_18 : decode b_Mod_found 18 = .ok (.invokevirtual 123, 3) := by decide +kernel
theorem d_Mod_found_21 : decode b_Mod_found 21 = .ok (.goto 4, 3) := by decide +kernel
theorem d_Mod_found_24 : decode b_Mod_found 24 = .ok (.iconst (-1), 1) := by decide +kernel
theorem d_Mod_found_25 : decode b_Mod_found 25 = .ok (.ireturn, 1) := by decide +kernel
theorem d_Mod_clock_0 : decode b_Mod_clock 0 = .ok (.aload_n 0, 1) := by decide +kernel
theorem d_Mod_clock_1 : decode b_Mod_clock 1 = .ok (.getfield 73, 3) := by decide +kernel
theorem d_Mod_clock_4 : decode b_Mod_clock 4 = .ok (.ifCond .eq 10, 3) := by decide +kernel
theorem d_Mod_clock_7 : decode b_Mod_clock 7 = .ok (.aload_n 0, 1) := by decide +kernel
theorem d_Mod_clock_8 : decode b_Mod_clock 8 = .ok (.getfield 95, 3) := by decide +kernel
theorem d_Mod_clock_11 : decode b_Mod_clock 11 = .ok (.goto 4, 3) := by decide +kernel
theorem d_Mod_clock_14 : decode b_Mod_clock 14 = .ok (.iconst 0, 1) := by decide +kernel
theorem d_Mod_clock_15 : decode b_Mod_clock 15 = .ok (.ireturn, 1) := by decide +kernel

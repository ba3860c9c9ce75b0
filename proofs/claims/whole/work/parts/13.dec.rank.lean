/-! Decoded instructions of Rank. -/
theorem d_Rank_init_0 : decode b_Rank_init 0 = .ok (.aload_n 0, 1) := by decide +kernel
theorem d_Rank_init_1 : decode b_Rank_init 1 = .ok (.invokespecial 3, 3) := by decide +kernel
theorem d_Rank_init_4 : decode b_Rank_init 4 = .ok (.aload_n 0, 1) := by decide +kernel
theorem d_Rank_init_5 : decode b_Rank_init 5 = .ok (.aload_n 1, 1) := by decide +kernel
theorem d_Rank_init_6 : decode b_Rank_init 6 = .ok (.putfield 9, 3) := by decide +kernel
theorem d_Rank_init_9 : decode b_Rank_init 9 = .ok (.aload_n 0, 1) := by decide +kernel
theorem d_Rank_init_10 : decode b_Rank_init 10 = .ok (.aload_n 2, 1) := by decide +kernel
theorem d_Rank_init_11 : decode b_Rank_init 11 = .ok (.putfield 15, 3) := by decide +kernel
theorem d_Rank_init_14 : decode b_Rank_init 14 = .ok (.aload_n 0, 1) := by decide +kernel
theorem d_Rank_init_15 : decode b_Rank_init 15 = .ok (.new 19, 3) := by decide +kernel
theorem d_Rank_init_18 : decode b_Rank_init 18 = .ok (.dup, 1) := by decide +kernel
theorem d_Rank_init_19 : decode b_Rank_init 19 = .ok (.bipush 32, 2) := by decide +kernel
theorem d_Rank_init_21 : decode b_Rank_init 21 = .ok (.invokespecial 21, 3) := by decide +kernel
theorem d_Rank_init_24 : decode b_Rank_init 24 = .ok (.putfield 24, 3) := by decide +kernel
theorem d_Rank_init_27 : decode b_Rank_init 27 = .ok (.aload_n 0, 1) := by decide +kernel
theorem d_Rank_init_28 : decode b_Rank_init 28 = .ok (.bipush 32, 2) := by decide +kernel
theorem d_Rank_init_30 : decode b_Rank_init 30 = .ok (.iconst 5, 1) := by decide +kernel
theorem d_Rank_init_31 : decode b_Rank_init 31 = .ok (.multianewarray 28 2, 4) := by decide +kernel
theorem d_Rank_init_35 : decode b_Rank_init 35 = .ok (.putfield 30, 3) := by decide +kernel
theorem d_Rank_init_38 : decode b_Rank_init 38 = .ok (.aload_n 0, 1) := by decide +kernel
theorem d_Rank_init_39 : decode b_Rank_init 39 = .ok (.bipush 32, 2) := by decide +kernel
theorem d_Rank_init_41 : decode b_Rank_init 41 = .ok (.newarray .int, 2) := by decide +kernel
theorem d_Rank_init_43 : decode b_Rank_init 43 = .ok (.putfield 33, 3) := by decide +kernel
theorem d_Rank_init_46 : decode b_Rank_init 46 = .ok (.aload_n 0, 1) := by decide +kernel
theorem d_Rank_init_47 : decode b_Rank_init 47 = .ok (.bipush 32, 2) := by decide +kernel
theorem d_Rank_init_49 : decode b_Rank_init 49 = .ok (.newarray .long, 2) := by decide +kernel
theorem d_Rank_init_51 : decode b_Rank_init 51 = .ok (.putfield 37, 3) := by decide +kernel
theorem d_Rank_init_54 : decode b_Rank_init 54 = .ok (.aload_n 0, 1) := by decide +kernel
theorem d_Rank_init_55 : decode b_Rank_init 55 = .ok (.bipush 32, 2) := by decide +kernel
theorem d_Rank_init_57 : decode b_Rank_init 57 = .ok (.newarray .long, 2) := by decide +kernel
theorem d_Rank_init_59 : decode b_Rank_init 59 = .ok (.putfield 41, 3) := by decide +kernel
theorem d_Rank_init_62 : decode b_Rank_init 62 = .ok (.aload_n 0, 1) := by decide +kernel
theorem d_Rank_init_63 : decode b_Rank_init 63 = .ok (.bipush 32, 2) := by decide +kernel
theorem d_Rank_init_65 : decode b_Rank_init 65 = .ok (.newarray .long, 2) := by decide +kernel
theorem d_Rank_init_67 : decode b_Rank_init 67 = .ok (.putfield 44, 3) := by decide +kernel
theorem d_Rank_init_70 : decode b_Rank_init 70 = .ok (.return_, 1) := by decide +kernel
theorem d_Rank_documentOf_0 : decode b_Rank_documentOf 0 = .ok (.aload_n 0, 1) := by decide +kernel
theorem d_Rank_documentOf_1 : decode b_Rank_documentOf 1 = .ok (.getfield 15, 3) := by decide +kernel
theorem d_Rank_documentOf_4 : decode b_Rank_documentOf 4 = .ok (.getfield 47, 3) := by decide +kernel
theorem d_Rank_documentOf_7 : decode b_Rank_documentOf 7 = .ok (.iload_n 1, 1) := by decide +kernel
theorem d_Rank_documentOf_8 : decode b_Rank_documentOf 8 = .ok (.invokevirtual 52, 3) := by decide +kernel
theorem d_Rank_documentOf_11 : decode b_Rank_documentOf 11 = .ok (.ifCond .ne 5, 3) := by decide +kernel
theorem d_Rank_documentOf_14 : decode b_Rank_documentOf 14 = .ok (.iconst (-1), 1) := by decide +kernel
theorem d_Rank_documentOf_15 : decode b_Rank_documentOf 15 = .ok (.ireturn, 1) := by decide +kernel
theorem d_Rank_documentOf_16 : decode b_Rank_documentOf 16 = .ok (.aload_n 0, 1) := by decide +kernel
theorem d_Rank_documentOf_17 : decode b_Rank_documentOf 17 = .ok (.getfield 9, 3) := by decide +kernel
theorem d_Rank_documentOf_20 : decode b_Rank_documentOf 20 = .ok (.getfield 56, 3) := by decide +kernel
theorem d_Rank_documentOf_23 : decode b_Rank_documentOf 23 = .ok (.iload_n 1, 1) := by decide +kernel
theorem d_Rank_documentOf_24 : decode b_Rank_documentOf 24 = .ok (.aaload, 1) := by decide +kernel
theorem d_Rank_documentOf_25 : decode b_Rank_documentOf 25 = .ok (.getfield 62, 3) := by decide +kernel
theorem d_Rank_documentOf_28 : decode b_Rank_documentOf 28 = .ok (.astore_n 2, 1) := by decide +kernel
theorem d_Rank_documentOf_29 : decode b_Rank_documentOf 29 = .ok (.iconst 0, 1) := by decide +kernel
theorem d_Rank_documentOf_30 : decode b_Rank_documentOf 30 = .ok (.istore_n 3, 1) := by decide +kernel
theorem d_Rank_documentOf_31 : decode b_Rank_documentOf 31 = .ok (.iload_n 3, 1) := by decide +kernel
theorem d_Rank_documentOf_32 : decode b_Rank_documentOf 32 = .ok (.aload_n 0, 1) := by decide +kernel
theorem d_Rank_documentOf_33 : decode b_Rank_documentOf 33 = .ok (.getfield 15, 3) := by decide +kernel
theorem d_Rank_documentOf_36 : decode b_Rank_documentOf 36 = .ok (.getfield 47, 3) := by decide +kernel
theorem d_Rank_documentOf_39 : decode b_Rank_documentOf 39 = .ok (.getfield 67, 3) := by decide +kernel
theorem d_Rank_documentOf_42 : decode b_Rank_documentOf 42 = .ok (.if_icmp .ge 45, 3) := by decide +kernel
theorem d_Rank_documentOf_45 : decode b_Rank_documentOf 45 = .ok (.aload_n 0, 1) := by decide +kernel
theorem d_Rank_documentOf_46 : decode b_Rank_documentOf 46 = .ok (.getfield 15, 3) := by decide +kernel
theorem d_Rank_documentOf_49 : decode b_Rank_documentOf 49 = .ok (.getfield 47, 3) := by decide +kernel
theorem d_Rank_documentOf_52 : decode b_Rank_documentOf 52 = .ok (.iload_n 3, 1) := by decide +kernel
theorem d_Rank_documentOf_53 : decode b_Rank_documentOf 53 = .ok (.invokevirtual 71, 3) := by decide +kernel
theorem d_Rank_documentOf_56 : decode b_Rank_documentOf 56 = .ok (.istore 4, 2) := by decide +kernel
theorem d_Rank_documentOf_58 : decode b_Rank_documentOf 58 = .ok (.aload_n 0, 1) := by decide +kernel
theorem d_Rank_documentOf_59 : decode b_Rank_documentOf 59 = .ok (.getfield 9, 3) := by decide +kernel
theorem d_Rank_documentOf_62 : decode b_Rank_documentOf 62 = .ok (.getfield 56, 3) := by decide +kernel
theorem d_Rank_documentOf_65 : decode b_Rank_documentOf 65 = .ok (.iload 4, 2) := by decide +kernel
theorem d_Rank_documentOf_67 : decode b_Rank_documentOf 67 = .ok (.aaload, 1) := by decide +kernel
theorem d_Rank_documentOf_68 : decode b_Rank_documentOf 68 = .ok (.getfield 62, 3) := by decide +kernel
theorem d_Rank_documentOf_71 : decode b_Rank_documentOf 71 = .ok (.aload_n 2, 1) := by decide +kernel
theorem d_Rank_documentOf_72 : decode b_Rank_documentOf 72 = .ok (.invokevirtual 75, 3) := by decide +kernel
theorem d_Rank_documentOf_75 : decode b_Rank_documentOf 75 = .ok (.ifCond .eq 6, 3) := by decide +kernel
theorem d_Rank_documentOf_78 : decode b_Rank_documentOf 78 = .ok (.iload 4, 2) := by decide +kernel
theorem d_Rank_documentOf_80 : decode b_Rank_documentOf 80 = .ok (.ireturn, 1) := by decide +kernel
theorem d_Rank_documentOf_81 : decode b_Rank_documentOf 81 = .ok (.iinc 3 1, 3) := by decide +kernel
theorem d_Rank_documentOf_84 : decode b_Rank_documentOf 84 = .ok (.goto (-53), 3) := by decide +kernel
theorem d_Rank_documentOf_87 : decode b_Rank_documentOf 87 = .ok (.iconst (-1), 1) := by decide +kernel
theorem d_Rank_documentOf_88 : decode b_Rank_documentOf 88 = .ok (.ireturn, 1) := by decide +kernel
theorem d_Rank_isDocument_0 : decode b_Rank_isDocument 0 = .ok (.iload_n 1, 1) := by decide +kernel
theorem d_Rank_isDocument_1 : decode b_Rank_isDocument 1 = .ok (.iconst (-1), 1) := by decide +kernel
theorem d_Rank_isDocument_2 : decode b_Rank_isDocument 2 = .ok (.if_icmp .eq 16, 3) := by decide +kernel
theorem d_Rank_isDocument_5 : decode b_Rank_isDocument 5 = .ok (.aload_n 0, 1) := by decide +kernel
theorem d_Rank_isDocument_6 : decode b_Rank_isDocument 6 = .ok (.iload_n 1, 1) := by decide +kernel
theorem d_Rank_isDocument_7 : decode b_Rank_isDocument 7 = .ok (.invokevirtual 79, 3) := by decide +kernel
theorem d_Rank_isDocument_10 : decode b_Rank_isDocument 10 = .ok (.iload_n 1, 1) := by decide +kernel
theorem d_Rank_isDocument_11 : decode b_Rank_isDocument 11 = .ok (.if_icmp .ne 7, 3) := by decide +kernel
theorem d_Rank_isDocument_14 : decode b_Rank_isDocument 14 = .ok (.iconst 1, 1) := by decide +kernel
theorem d_Rank_isDocument_15 : decode b_Rank_isDocument 15 = .ok (.goto 4, 3) := by decide +kernel
theorem d_Rank_isDocument_18 : decode b_Rank_isDocument 18 = .ok (.iconst 0, 1) := by decide +kernel
theorem d_Rank_isDocument_19 : decode b_Rank_isDocument 19 = .ok (.ireturn, 1) := by decide +kernel
theorem d_Rank_computeRanks_0 : decode b_Rank_computeRanks 0 = .ok (.aload_n 0, 1) := by decide +kernel
theorem d_Rank_computeRanks_1 : decode b_Rank_computeRanks 1 = .ok (.invokevirtual 82, 3) := by decide +kernel
theorem d_Rank_computeRanks_4 : decode b_Rank_computeRanks 4 = .ok (.iconst 0, 1) := by decide +kernel
theorem d_Rank_computeRanks_5 : decode b_Rank_computeRanks 5 = .ok (.istore_n 2, 1) := by decide +kernel
theorem d_Rank_computeRanks_6 : decode b_Rank_computeRanks 6 = .ok (.iload_n 2, 1) := by decide +kernel
theorem d_Rank_computeRanks_7 : decode b_Rank_computeRanks 7 = .ok (.aload_n 0, 1) := by decide +kernel
theorem d_Rank_computeRanks_8 : decode b_Rank_computeRanks 8 = .ok (.getfield 24, 3) := by decide +kernel
theorem d_Rank_computeRanks_11 : decode b_Rank_computeRanks 11 = .ok (.getfield 67, 3) := by decide +kernel
theorem d_Rank_computeRanks_14 : decode b_Rank_computeRanks 14 = .ok (.if_icmp .ge 32, 3) := by decide +kernel
theorem d_Rank_computeRanks_17 : decode b_Rank_computeRanks 17 = .ok (.aload_n 0, 1) := by decide +kernel
theorem d_Rank_computeRanks_18 : decode b_Rank_computeRanks 18 = .ok (.getfield 24, 3) := by decide +kernel
theorem d_Rank_computeRanks_21 : decode b_Rank_computeRanks 21 = .ok (.iload_n 2, 1) := by decide +kernel
theorem d_Rank_computeRanks_22 : decode b_Rank_computeRanks 22 = .ok (.invokevirtual 71, 3) := by decide +kernel
theorem d_Rank_computeRanks_25 : decode b_Rank_computeRanks 25 = .ok (.istore_n 3, 1) := by decide +kernel
theorem d_Rank_computeRanks_26 : decode b_Rank_computeRanks 26 = .ok (.aload_n 0, 1) := by decide +kernel
theorem d_Rank_computeRanks_27 : decode b_Rank_computeRanks 27 = .ok (.getfield 37, 3) := by decide +kernel
theorem d_Rank_computeRanks_30 : decode b_Rank_computeRanks 30 = .ok (.iload_n 3, 1) := by decide +kernel
theorem d_Rank_computeRanks_31 : decode b_Rank_computeRanks 31 = .ok (.ldc2_w 85, 3) := by decide +kernel
theorem d_Rank_computeRanks_34 : decode b_Rank_computeRanks 34 = .ok (.lastore, 1) := by decide +kernel
theorem d_Rank_computeRanks_35 : decode b_Rank_computeRanks 35 = .ok (.aload_n 0, 1) := by decide +kernel
theorem d_Rank_computeRanks_36 : decode b_Rank_computeRanks 36 = .ok (.iload_n 3, 1) := by decide +kernel
theorem d_Rank_computeRanks_37 : decode b_Rank_computeRanks 37 = .ok (.invokevirtual 87, 3) := by decide +kernel
theorem d_Rank_computeRanks_40 : decode b_Rank_computeRanks 40 = .ok (.iinc 2 1, 3) := by decide +kernel
theorem d_Rank_computeRanks_43 : decode b_Rank_computeRanks 43 = .ok (.goto (-37), 3) := by decide +kernel
theorem d_Rank_computeRanks_46 : decode b_Rank_computeRanks 46 = .ok (.iconst 0, 1) := by decide +kernel
theorem d_Rank_computeRanks_47 : decode b_Rank_computeRanks 47 = .ok (.istore_n 2, 1) := by decide +kernel
theorem d_Rank_computeRanks_48 : decode b_Rank_computeRanks 48 = .ok (.iload_n 2, 1) := by decide +kernel
theorem d_Rank_computeRanks_49 : decode b_Rank_computeRanks 49 = .ok (.iload_n 1, 1) := by decide +kernel
theorem d_Rank_computeRanks_50 : decode b_Rank_computeRanks 50 = .ok (.if_icmp .ge 13, 3) := by decide +kernel
theorem d_Rank_computeRanks_53 : decode b_Rank_computeRanks 53 = .ok (.aload_n 0, 1) := by decide +kernel
theorem d_Rank_computeRanks_54 : decode b_Rank_computeRanks 54 = .ok (.invokevirtual 90, 3) := by decide +kernel
theorem d_Rank_computeRanks_57 : decode b_Rank_computeRanks 57 = .ok (.iinc 2 1, 3) := by decide +kernel
theorem d_Rank_computeRanks_60 : decode b_Rank_computeRanks 60 = .ok (.goto (-12), 3) := by decide +kernel
theorem d_Rank_computeRanks_63 : decode b_Rank_computeRanks 63 = .ok (.return_, 1) := by decide +kernel
theorem d_Rank_computeScores_0 : decode b_Rank_computeScores 0 = .ok (.iconst 0, 1) := by decide +kernel
theorem d_Rank_computeScores_1 : decode b_Rank_computeScores 1 = .ok (.istore_n 3, 1) := by decide +kernel
theorem d_Rank_computeScores_2 : decode b_Rank_computeScores 2 = .ok (.iload_n 3, 1) := by decide +kernel
theorem d_Rank_computeScores_3 : decode b_Rank_computeScores 3 = .ok (.aload_n 0, 1) := by decide +kernel
theorem d_Rank_computeScores_4 : decode b_Rank_computeScores 4 = .ok (.getfield 24, 3) := by decide +kernel
theorem d_Rank_computeScores_7 : decode b_Rank_computeScores 7 = .ok (.getfield 67, 3) := by decide +kernel
theorem d_Rank_computeScores_10 : decode b_Rank_computeScores 10 = .ok (.if_icmp .ge 50, 3) := by decide +kernel
theorem d_Rank_computeScores_13 : decode b_Rank_computeScores 13 = .ok (.aload_n 0, 1) := by decide +kernel
theorem d_Rank_computeScores_14 : decode b_Rank_computeScores 14 = .ok (.getfield 24, 3) := by decide +kernel
theorem d_Rank_computeScores_17 : decode b_Rank_computeScores 17 = .ok (.iload_n 3, 1) := by decide +kernel
theorem d_Rank_computeScores_18 : decode b_Rank_computeScores 18 = .ok (.invokevirtual 71, 3) := by decide +kernel
theorem d_Rank_computeScores_21 : decode b_Rank_computeScores 21 = .ok (.istore 4, 2) := by decide +kernel
theorem d_Rank_computeScores_23 : decode b_Rank_computeScores 23 = .ok (.aload_n 0, 1) := by decide +kernel
theorem d_Rank_computeScores_24 : decode b_Rank_computeScores 24 = .ok (.getfield 44, 3) := by decide +kernel
theorem d_Rank_computeScores_27 : decode b_Rank_computeScores 27 = .ok (.iload 4, 2) := by decide +kernel
theorem d_Rank_computeScores_29 : decode b_Rank_computeScores 29 = .ok (.aload_n 0, 1) := by decide +kernel
theorem d_Rank_computeScores_30 : decode b_Rank_computeScores 30 = .ok (.getfield 9, 3) := by decide +kernel
theorem d_Rank_computeScores_33 : decode b_Rank_computeScores 33 = .ok (.getfield 56, 3) := by decide +kernel
theorem d_Rank_computeScores_36 : decode b_Rank_computeScores 36 = .ok (.iload 4, 2) := by decide +kernel
theorem d_Rank_computeScores_38 : decode b_Rank_computeScores 38 = .ok (.aaload, 1) := by decide +kernel
theorem d_Rank_computeScores_39 : decode b_Rank_computeScores 39 = .ok (.iload_n 1, 1) := by decide +kernel
theorem d_Rank_computeScores_40 : decode b_Rank_computeScores 40 = .ok (.iload_n 2, 1) := by decide +kernel
theorem d_Rank_computeScores_41 : decode b_Rank_computeScores 41 = .ok (.invokevirtual 93, 3) := by decide +kernel
theorem d_Rank_computeScores_44 : decode b_Rank_computeScores 44 = .ok (.i2l, 1) := by decide +kernel
theorem d_Rank_computeScores_45 : decode b_Rank_computeScores 45 = .ok (.aload_n 0, 1) := by decide +kernel
theorem d_Rank_computeScores_46 : decode b_Rank_computeScores 46 = .ok (.getfield 37, 3) := by decide +kernel
theorem d_Rank_computeScores_49 : decode b_Rank_computeScores 49 = .ok (.iload 4, 2) := by decide +kernel
theorem d_Rank_computeScores_51 : decode b_Rank_computeScores 51 = .ok (.laload, 1) := by decide +kernel
theorem d_Rank_computeScores_52 : decode b_Rank_computeScores 52 = .ok (.lmul, 1) := by decide +kernel
theorem d_Rank_computeScores_53 : decode b_Rank_computeScores 53 = .ok (.lastore, 1) := by decide +kernel
theorem d_Rank_computeScores_54 : decode b_Rank_computeScores 54 = .ok (.iinc 3 1, 3) := by decide +kernel
theorem d_Rank_computeScores_57 : decode b_Rank_computeScores 57 = .ok (.goto (-55), 3) := by decide +kernel
theorem d_Rank_computeScores_60 : decode b_Rank_computeScores 60 = .ok (.return_, 1) := by decide +kernel
theorem d_Rank_documentAtPlace_0 : decode b_Rank_documentAtPlace 0 = .ok (.iconst 0, 1) := by decide +kernel
theorem d_Rank_documentAtPlace_1 : decode b_Rank_documentAtPlace 1 = .ok (.istore_n 2, 1) := by decide +kernel
theorem d_Rank_documentAtPlace_2 : decode b_Rank_documentAtPlace 2 = .ok (.iload_n 2, 1) := by decide +kernel
theorem d_Rank_documentAtPlace_3 : decode b_Rank_documentAtPlace 3 = .ok (.aload_n 0, 1) := by decide +kernel
theorem d_Rank_documentAtPlace_4 : decode b_Rank_documentAtPlace 4 = .ok (.getfield 24, 3) := by decide +kernel
theorem d_Rank_documentAtPlace_7 : decode b_Rank_documentAtPlace 7 = .ok (.getfield 67, 3) := by decide +kernel
theorem d_Rank_documentAtPlace_10 : decode b_Rank_documentAtPlace 10 = .ok (.if_icmp .ge 40, 3) := by decide +kernel
theorem d_Rank_documentAtPlace_13 : decode b_Rank_documentAtPlace 13 = .ok (.aload_n 0, 1) := by decide +kernel
theorem d_Rank_documentAtPlace_14 : decode b_Rank_documentAtPlace 14 = .ok (.getfield 24, 3) := by decide +kernel
theorem d_Rank_documentAtPlace_17 : decode b_Rank_documentAtPlace 17 = .ok (.iload_n 2, 1) := by decide +kernel
theorem d_Rank_documentAtPlace_18 : decode b_Rank_documentAtPlace 18 = .ok (.invokevirtual 71, 3) := by decide +kernel
theorem d_Rank_documentAtPlace_21 : decode b_Rank_documentAtPlace 21 = .ok (.istore_n 3, 1) := by decide +kernel
theorem d_Rank_documentAtPlace_22 : decode b_Rank_documentAtPlace 22 = .ok (.aload_n 0, 1) := by decide +kernel
theorem d_Rank_documentAtPlace_23 : decode b_Rank_documentAtPlace 23 = .ok (.getfield 44, 3) := by decide +kernel
theorem d_Rank_documentAtPlace_26 : decode b_Rank_documentAtPlace 26 = .ok (.iload_n 3, 1) := by decide +kernel
theorem d_Rank_documentAtPlace_27 : decode b_Rank_documentAtPlace 27 = .ok (.laload, 1) := by decide +kernel
theorem d_Rank_documentAtPlace_28 : decode b_Rank_documentAtPlace 28 = .ok (.lconst 0, 1) := by decide +kernel
theorem d_Rank_documentAtPlace_29 : decode b_Rank_documentAtPlace 29 = .ok (.lcmp, 1) := by decide +kernel
theorem d_Rank_documentAtPlace_30 : decode b_Rank_documentAtPlace 30 = .ok (.ifCond .le 14, 3) := by decide +kernel
theorem d_Rank_documentAtPlace_33 : decode b_Rank_documentAtPlace 33 = .ok (.aload_n 0, 1) := by decide +kernel
theorem d_Rank_documentAtPlace_34 : decode b_Rank_documentAtPlace 34 = .ok (.iload_n 3, 1) := by decide +kernel
theorem d_Rank_documentAtPlace_35 : decode b_Rank_documentAtPlace 35 = .ok (.invokevirtual 97, 3) := by decide +kernel
theorem d_Rank_documentAtPlace_38 : decode b_Rank_documentAtPlace 38 = .ok (.iload_n 1, 1) := by decide +kernel
theorem d_Rank_documentAtPlace_39 : decode b_Rank_documentAtPlace 39 = .ok (.if_icmp .ne 5, 3) := by decide +kernel
theorem d_Rank_documentAtPlace_42 : decode b_Rank_documentAtPlace 42 = .ok (.iload_n 3, 1) := by decide +kernel
theorem d_Rank_documentAtPlace_43 : decode b_Rank_documentAtPlace 43 = .ok (.ireturn, 1) := by decide +kernel
theorem d_Rank_documentAtPlace_44 : decode b_Rank_documentAtPlace 44 = .ok (.iinc 2 1, 3) := by decide +kernel
theorem d_Rank_documentAtPlace_47 : decode b_Rank_documentAtPlace 47 = .ok (.goto (-45), 3) := by decide +kernel
theorem d_Rank_documentAtPlace_50 : decode b_Rank_documentAtPlace 50 = .ok (.iconst (-1), 1) := by decide +kernel
theorem d_Rank_documentAtPlace_51 : decode b_Rank_documentAtPlace 51 = .ok (.ireturn, 1) := by decide +kernel
theorem d_Rank_listDocuments_0 : decode b_Rank_listDocuments 0 = .ok (.aload_n 0, 1) := by decide +kernel
theorem d_Rank_listDocuments_1 : decode b_Rank_listDocuments 1 = .ok (.getfield 24, 3) := by decide +kernel
theorem d_Rank_listDocuments_4 : decode b_Rank_listDocuments 4 = .ok (.iconst 0, 1) := by decide +kernel
theorem d_Rank_listDocuments_5 : decode b_Rank_listDocuments 5 = .ok (.invokevirtual 100, 3) := by decide +kernel
theorem d_Rank_listDocuments_8 : decode b_Rank_listDocuments 8 = .ok (.iconst 0, 1) := by decide +kernel
theorem d_Rank_listDocuments_9 : decode b_Rank_listDocuments 9 = .ok (.istore_n 1, 1) := by decide +kernel
theorem d_Rank_listDocuments_10 : decode b_Rank_listDocuments 10 = .ok (.iload_n 1, 1) := by decide +kernel
theorem d_Rank_listDocuments_11 : decode b_Rank_listDocuments 11 = .ok (.aload_n 0, 1) := by decide +kernel
theorem d_Rank_listDocuments_12 : decode b_Rank_listDocuments 12 = .ok (.getfield 15, 3) := by decide +kernel
theorem d_Rank_listDocuments_15 : decode b_Rank_listDocuments 15 = .ok (.getfield 47, 3) := by decide +kernel
theorem d_Rank_listDocuments_18 : decode b_Rank_listDocuments 18 = .ok (.getfield 67, 3) := by decide +kernel
theorem d_Rank_listDocuments_21 : decode b_Rank_listDocuments 21 = .ok (.if_icmp .ge 38, 3) := by decide +kernel
theorem d_Rank_listDocuments_24 : decode b_Rank_listDocuments 24 = .ok (.aload_n 0, 1) := by decide +kernel
theorem d_Rank_listDocuments_25 : decode b_Rank_listDocuments 25 = .ok (.getfield 15, 3) := by decide +kernel
theorem d_Rank_listDocuments_28 : decode b_Rank_listDocuments 28 = .ok (.getfield 47, 3) := by decide +kernel
theorem d_Rank_listDocuments_31 : decode b_Rank_listDocuments 31 = .ok (.iload_n 1, 1) := by decide +kernel
theorem d_Rank_listDocuments_32 : decode b_Rank_listDocuments 32 = .ok (.invokevirtual 71, 3) := by decide +kernel
theorem d_Rank_listDocuments_35 : decode b_Rank_listDocuments 35 = .ok (.istore_n 2, 1) := by decide +kernel
theorem d_Rank_listDocuments_36 : decode b_Rank_listDocuments 36 = .ok (.aload_n 0, 1) := by decide +kernel
theorem d_Rank_listDocuments_37 : decode b_Rank_listDocuments 37 = .ok (.iload_n 2, 1) := by decide +kernel
theorem d_Rank_listDocuments_38 : decode b_Rank_listDocuments 38 = .ok (.invokevirtual 103, 3) := by decide +kernel
theorem d_Rank_listDocuments_41 : decode b_Rank_listDocuments 41 = .ok (.ifCond .eq 12, 3) := by decide +kernel
theorem d_Rank_listDocuments_44 : decode b_Rank_listDocuments 44 = .ok (.aload_n 0, 1) := by decide +kernel
theorem d_Rank_listDocuments_45 : decode b_Rank_listDocuments 45 = .ok (.getfield 24, 3) := by decide +kernel
theorem d_Rank_listDocuments_48 : decode b_Rank_listDocuments 48 = .ok (.iload_n 2, 1) := by decide +kernel
theorem d_Rank_listDocuments_49 : decode b_Rank_listDocuments 49 = .ok (.invokevirtual 106, 3) := by decide +kernel
theorem d_Rank_listDocuments_52 : decode b_Rank_listDocuments 52 = .ok (.pop, 1) := by decide +kernel
theorem d_Rank_listDocuments_53 : decode b_Rank_listDocuments 53 = .ok (.iinc 1 1, 3) := by decide +kernel
theorem d_Rank_listDocuments_56 : decode b_Rank_listDocuments 56 = .ok (.goto (-46), 3) := by decide +kernel
theorem d_Rank_listDocuments_59 : decode b_Rank_listDocuments 59 = .ok (.return_, 1) := by decide +kernel
theorem d_Rank_followLinks_0 : decode b_Rank_followLinks 0 = .ok (.aload_n 0, 1) := by decide +kernel
theorem d_Rank_followLinks_1 : decode b_Rank_followLinks 1 = .ok (.getfield 9, 3) := by decide +kernel
theorem d_Rank_followLinks_4 : decode b_Rank_followLinks 4 = .ok (.getfield 56, 3) := by decide +kernel
theorem d_Rank_followLinks_7 : decode b_Rank_followLinks 7 = .ok (.iload_n 1, 1) := by decide +kernel
theorem d_Rank_followLinks_8 : decode b_Rank_followLinks 8 = .ok (.aaload, 1) := by decide +kernel
theorem d_Rank_followLinks_9 : decode b_Rank_followLinks 9 = .ok (.getfield 109, 3) := by decide +kernel
theorem d_Rank_followLinks_12 : decode b_Rank_followLinks 12 = .ok (.astore_n 2, 1) := by decide +kernel
theorem d_Rank_followLinks_13 : decode b_Rank_followLinks 13 = .ok (.aload_n 0, 1) := by decide +kernel
theorem d_Rank_followLinks_14 : decode b_Rank_followLinks 14 = .ok (.getfield 33, 3) := by decide +kernel
theorem d_Rank_followLinks_17 : decode b_Rank_followLinks 17 = .ok (.iload_n 1, 1) := by decide +kernel
theorem d_Rank_followLinks_18 : decode b_Rank_followLinks 18 = .ok (.iconst 0, 1) := by decide +kernel
theorem d_Rank_followLinks_19 : decode b_Rank_followLinks 19 = .ok (.iastore, 1) := by decide +kernel
theorem d_Rank_followLinks_20 : decode b_Rank_followLinks 20 = .ok (.iconst 0, 1) := by decide +kernel
theorem d_Rank_followLinks_21 : decode b_Rank_followLinks 21 = .ok (.istore_n 3, 1) := by decide +kernel
theorem d_Rank_followLinks_22 : decode b_Rank_followLinks 22 = .ok (.iload_n 3, 1) := by decide +kernel
theorem d_Rank_followLinks_23 : decode b_Rank_followLinks 23 = .ok (.aload_n 2, 1) := by decide +kernel
theorem d_Rank_followLinks_24 : decode b_Rank_followLinks 24 = .ok (.getfield 67, 3) := by decide +kernel
theorem d_Rank_followLinks_27 : decode b_Rank_followLinks 27 = .ok (.if_icmp .ge 60, 3) := by decide +kernel
theorem d_Rank_followLinks_30 : decode b_Rank_followLinks 30 = .ok (.aload_n 0, 1) := by decide +kernel
theorem d_Rank_followLinks_31 : decode b_Rank_followLinks 31 = .ok (.getfield 15, 3) := by decide +kernel
theorem d_Rank_followLinks_34 : decode b_Rank_followLinks 34 = .ok (.aload_n 2, 1) := by decide +kernel
theorem d_Rank_followLinks_35 : decode b_Rank_followLinks 35 = .ok (.iload_n 3, 1) := by decide +kernel
theorem d_Rank_followLinks_36 : decode b_Rank_followLinks 36 = .ok (.invokevirtual 71, 3) := by decide +kernel
theorem d_Rank_followLinks_39 : decode b_Rank_followLinks 39 = .ok (.iconst 0, 1) := by decide +kernel
theorem d_Rank_followLinks_40 : decode b_Rank_followLinks 40 = .ok (.invokevirtual 112, 3) := by decide +kernel
theorem d_Rank_followLinks_43 : decode b_Rank_followLinks 43 = .ok (.istore 4, 2) := by decide +kernel
theorem d_Rank_followLinks_45 : decode b_Rank_followLinks 45 = .ok (.aload_n 0, 1) := by decide +kernel
theorem d_Rank_followLinks_46 : decode b_Rank_followLinks 46 = .ok (.getfield 30, 3) := by decide +kernel
theorem d_Rank_followLinks_49 : decode b_Rank_followLinks 49 = .ok (.iload_n 1, 1) := by decide +kernel
theorem d_Rank_followLinks_50 : decode b_Rank_followLinks 50 = .ok (.aaload, 1) := by decide +kernel
theorem d_Rank_followLinks_51 : decode b_Rank_followLinks 51 = .ok (.iload_n 3, 1) := by decide +kernel
theorem d_Rank_followLinks_52 : decode b_Rank_followLinks 52 = .ok (.aload_n 0, 1) := by decide +kernel
theorem d_Rank_followLinks_53 : decode b_Rank_followLinks 53 = .ok (.iload 4, 2) := by decide +kernel
theorem d_Rank_followLinks_55 : decode b_Rank_followLinks 55 = .ok (.invokevirtual 79, 3) := by decide +kernel
theorem d_Rank_followLinks_58 : decode b_Rank_followLinks 58 = .ok (.iastore, 1) := by decide +kernel
theorem d_Rank_followLinks_59 : decode b_Rank_followLinks 59 = .ok (.aload_n 0, 1) := by decide +kernel
theorem d_Rank_followLinks_60 : decode b_Rank_followLinks 60 = .ok (.getfield 30, 3) := by decide +kernel
theorem d_Rank_followLinks_63 : decode b_Rank_followLinks 63 = .ok (.iload_n 1, 1) := by decide +kernel
theorem d_Rank_followLinks_64 : decode b_Rank_followLinks 64 = .ok (.aaload, 1) := by decide +kernel
theorem d_Rank_followLinks_65 : decode b_Rank_followLinks 65 = .ok (.iload_n 3, 1) := by decide +kernel
theorem d_Rank_followLinks_66 : decode b_Rank_followLinks 66 = .ok (.iaload, 1) := by decide +kernel
theorem d_Rank_followLinks_67 : decode b_Rank_followLinks 67 = .ok (.iconst (-1), 1) := by decide +kernel
theorem d_Rank_followLinks_68 : decode b_Rank_followLinks 68 = .ok (.if_icmp .eq 13, 3) := by decide +kernel
theorem d_Rank_followLinks_71 : decode b_Rank_followLinks 71 = .ok (.aload_n 0, 1) := by decide +kernel
theorem d_Rank_followLinks_72 : decode b_Rank_followLinks 72 = .ok (.getfield 33, 3) := by decide +kernel
theorem d_Rank_followLinks_75 : decode b_Rank_followLinks 75 = .ok (.iload_n 1, 1) := by decide +kernel
theorem d_Rank_followLinks_76 : decode b_Rank_followLinks 76 = .ok (.dup2, 1) := by decide +kernel
theorem d_Rank_followLinks_77 : decode b_Rank_followLinks 77 = .ok (.iaload, 1) := by decide +kernel
theorem d_Rank_followLinks_78 : decode b_Rank_followLinks 78 = .ok (.iconst 1, 1) := by decide +kernel
theorem d_Rank_followLinks_79 : decode b_Rank_followLinks 79 = .ok (.iadd, 1) := by decide +kernel
theorem d_Rank_followLinks_80 : decode b_Rank_followLinks 80 = .ok (.iastore, 1) := by decide +kernel
theorem d_Rank_followLinks_81 : decode b_Rank_followLinks 81 = .ok (.iinc 3 1, 3) := by decide +kernel
theorem d_Rank_followLinks_84 : decode b_Rank_followLinks 84 = .ok (.goto (-62), 3) := by decide +kernel
theorem d_Rank_followLinks_87 : decode b_Rank_followLinks 87 = .ok (.return_, 1) := by decide +kernel
theorem d_Rank_playRound_0 : decode b_Rank_playRound 0 = .ok (.iconst 0, 1) := by decide +kernel
theorem d_Rank_playRound_1 : decode b_Rank_playRound 1 = .ok (.istore_n 1, 1) := by decide +kernel
theorem d_Rank_playRound_2 : decode b_Rank_playRound 2 = .ok (.iload_n 1, 1) := by decide +kernel
theorem d_Rank_playRound_3 : decode b_Rank_playRound 3 = .ok (.aload_n 0, 1) := by decide +kernel
theorem d_Rank_playRound_4 : decode b_Rank_playRound 4 = .ok (.getfield 24, 3) := by decide +kernel
theorem d_Rank_playRound_7 : decode b_Rank_playRound 7 = .ok (.getfield 67, 3) := by decide +kernel
theorem d_Rank_playRound_10 : decode b_Rank_playRound 10 = .ok (.if_icmp .ge 23, 3) := by decide +kernel
theorem d_Rank_playRound_13 : decode b_Rank_playRound 13 = .ok (.aload_n 0, 1) := by decide +kernel
theorem d_Rank_playRound_14 : decode b_Rank_playRound 14 = .ok (.getfield 41, 3) := by decide +kernel
theorem d_Rank_playRound_17 : decode b_Rank_playRound 17 = .ok (.aload_n 0, 1) := by decide +kernel
theorem d_Rank_playRound_18 : decode b_Rank_playRound 18 = .ok (.getfield 24, 3) := by decide +kernel
theorem d_Rank_playRound_21 : decode b_Rank_playRound 21 = .ok (.iload_n 1, 1) := by decide +kernel
theorem d_Rank_playRound_22 : decode b_Rank_playRound 22 = .ok (.invokevirtual 71, 3) := by decide +kernel
theorem d_Rank_playRound_25 : decode b_Rank_playRound 25 = .ok (.lconst 0, 1) := by decide +kernel
theorem d_Rank_playRound_26 : decode b_Rank_playRound 26 = .ok (.lastore, 1) := by decide +kernel
theorem d_Rank_playRound_27 : decode b_Rank_playRound 27 = .ok (.iinc 1 1, 3) := by decide +kernel
theorem d_Rank_playRound_30 : decode b_Rank_playRound 30 = .ok (.goto (-28), 3) := by decide +kernel
theorem d_Rank_playRound_33 : decode b_Rank_playRound 33 = .ok (.iconst 0, 1) := by decide +kernel
theorem d_Rank_playRound_34 : decode b_Rank_playRound 34 = .ok (.istore_n 1, 1) := by decide +kernel
theorem d_Rank_playRound_35 : decode b_Rank_playRound 35 = .ok (.iload_n 1, 1) := by decide +kernel
theorem d_Rank_playRound_36 : decode b_Rank_playRound 36 = .ok (.aload_n 0, 1) := by decide +kernel
theorem d_Rank_playRound_37 : decode b_Rank_playRound 37 = .ok (.getfield 24, 3) := by decide +kernel
theorem d_Rank_playRound_40 : decode b_Rank_playRound 40 = .ok (.getfield 67, 3) := by decide +kernel
theorem d_Rank_playRound_43 : decode b_Rank_playRound 43 = .ok (.if_icmp .ge 21, 3) := by decide +kernel
theorem d_Rank_playRound_46 : decode b_Rank_playRound 46 = .ok (.aload_n 0, 1) := by decide +kernel
theorem d_Rank_playRound_47 : decode b_Rank_playRound 47 = .ok (.aload_n 0, 1) := by decide +kernel
theorem d_Rank_playRound_48 : decode b_Rank_playRound 48 = .ok (.getfield 24, 3) := by decide +kernel
theorem d_Rank_playRound_51 : decode b_Rank_playRound 51 = .ok (.iload_n 1, 1) := by decide +kernel
theorem d_Rank_playRound_52 : decode b_Rank_playRound 52 = .ok (.invokevirtual 71, 3) := by decide +kernel
theorem d_Rank_playRound_55 : decode b_Rank_playRound 55 = .ok (.invokevirtual 116, 3) := by decide +kernel
theorem d_Rank_playRound_58 : decode b_Rank_playRound 58 = .ok (.iinc 1 1, 3) := by decide +kernel
theorem d_Rank_playRound_61 : decode b_Rank_playRound 61 = .ok (.goto (-26), 3) := by decide +kernel
theorem d_Rank_playRound_64 : decode b_Rank_playRound 64 = .ok (.iconst 0, 1) := by decide +kernel
theorem d_Rank_playRound_65 : decode b_Rank_playRound 65 = .ok (.istore_n 1, 1) := by decide +kernel
theorem d_Rank_playRound_66 : decode b_Rank_playRound 66 = .ok (.iload_n 1, 1) := by decide +kernel
theorem d_Rank_playRound_67 : decode b_Rank_playRound 67 = .ok (.aload_n 0, 1) := by decide +kernel
theorem d_Rank_playRound_68 : decode b_Rank_playRound 68 = .ok (.getfield 24, 3) := by decide +kernel
theorem d_Rank_playRound_71 : decode b_Rank_playRound 71 = .ok (.getfield 67, 3) := by decide +kernel
theorem d_Rank_playRound_74 : decode b_Rank_playRound 74 = .ok (.if_icmp .ge 42, 3) := by decide +kernel
theorem d_Rank_playRound_77 : decode b_Rank_playRound 77 = .ok (.aload_n 0, 1) := by decide +kernel
theorem d_Rank_playRound_78 : decode b_Rank_playRound 78 = .ok (.getfield 24, 3) := by decide +kernel
theorem d_Rank_playRound_81 : decode b_Rank_playRound 81 = .ok (.iload_n 1, 1) := by decide +kernel
theorem d_Rank_playRound_82 : decode b_Rank_playRound 82 = .ok (.invokevirtual 71, 3) := by decide +kernel
theorem d_Rank_playRound_85 : decode b_Rank_playRound 85 = .ok (.istore_n 2, 1) := by decide +kernel
theorem d_Rank_playRound_86 : decode b_Rank_playRound 86 = .ok (.aload_n 0, 1) := by decide +kernel
theorem d_Rank_playRound_87 : decode b_Rank_playRound 87 = .ok (.getfield 37, 3) := by decide +kernel
theorem d_Rank_playRound_90 : decode b_Rank_playRound 90 = .ok (.iload_n 2, 1) := by decide +kernel
theorem d_Rank_playRound_91 : decode b_Rank_playRound 91 = .ok (.ldc2_w 119, 3) := by decide +kernel
theorem d_Rank_playRound_94 : decode b_Rank_playRound 94 = .ok (.ldc2_w 121, 3) := by decide +kernel
theorem d_Rank_playRound_97 : decode b_Rank_playRound 97 = .ok (.aload_n 0, 1) := by decide +kernel
theorem d_Rank_playRound_98 : decode b_Rank_playRound 98 = .ok (.getfield 41, 3) := by decide +kernel
theorem d_Rank_playRound_101 : decode b_Rank_playRound 101 = .ok (.iload_n 2, 1) := by decide +kernel
theorem d_Rank_playRound_102 : decode b_Rank_playRound 102 = .ok (.laload, 1) := by decide +kernel
theorem d_Rank_playRound_103 : decode b_Rank_playRound 103 = .ok (.lmul, 1) := by decide +kernel
theorem d_Rank_playRound_104 : decode b_Rank_playRound 104 = .ok (.ldc2_w 123, 3) := by decide +kernel
theorem d_Rank_playRound_107 : decode b_Rank_playRound 107 = .ok (.ldiv, 1) := by decide +kernel
theorem d_Rank_playRound_108 : decode b_Rank_playRound 108 = .ok (.ladd, 1) := by decide +kernel
theorem d_Rank_playRound_109 : decode b_Rank_playRound 109 = .ok (.lastore, 1) := by decide +kernel
theorem d_Rank_playRound_110 : decode b_Rank_playRound 110 = .ok (.iinc 1 1, 3) := by decide +kernel
theorem d_Rank_playRound_113 : decode b_Rank_playRound 113 = .ok (.goto (-47), 3) := by decide +kernel
theorem d_Rank_playRound_116 : decode b_Rank_playRound 116 = .ok (.return_, 1) := by decide +kernel
theorem d_Rank_passOn_0 : decode b_Rank_passOn 0 = .ok (.aload_n 0, 1) := by decide +kernel
theorem d_Rank_passOn_1 : decode b_Rank_passOn 1 = .ok (.getfield 33, 3) := by decide +kernel
theorem d_Rank_passOn_4 : decode b_Rank_passOn 4 = .ok (.iload_n 1, 1) := by decide +kernel
theorem d_Rank_passOn_5 : decode b_Rank_passOn 5 = .ok (.iaload, 1) := by decide +kernel
theorem d_Rank_passOn_6 : decode b_Rank_passOn 6 = .ok (.ifCond .ne 4, 3) := by decide +kernel
theorem d_Rank_passOn_9 : decode b_Rank_passOn 9 = .ok (.return_, 1) := by decide +kernel
theorem d_Rank_passOn_10 : decode b_Rank_passOn 10 = .ok (.aload_n 0, 1) := by decide +kernel
theorem d_Rank_passOn_11 : decode b_Rank_passOn 11 = .ok (.getfield 37, 3) := by decide +kernel
theorem d_Rank_passOn_14 : decode b_Rank_passOn 14 = .ok (.iload_n 1, 1) := by decide +kernel
theorem d_Rank_passOn_15 : decode b_Rank_passOn 15 = .ok (.laload, 1) := by decide +kernel
theorem d_Rank_passOn_16 : decode b_Rank_passOn 16 = .ok (.aload_n 0, 1) := by decide +kernel
theorem d_Rank_passOn_17 : decode b_Rank_passOn 17 = .ok (.getfield 33, 3) := by decide +kernel
theorem d_Rank_passOn_20 : decode b_Rank_passOn 20 = .ok (.iload_n 1, 1) := by decide +kernel
theorem d_Rank_passOn_21 : decode b_Rank_passOn 21 = .ok (.iaload, 1) := by decide +kernel
theorem d_Rank_passOn_22 : decode b_Rank_passOn 22 = .ok (.i2l, 1) := by decide +kernel
theorem d_Rank_passOn_23 : decode b_Rank_passOn 23 = .ok (.ldiv, 1) := by decide +kernel
theorem d_Rank_passOn_24 : decode b_Rank_passOn 24 = .ok (.lstore_n 2, 1) := by decide +kernel
theorem d_Rank_passOn_25 : decode b_Rank_passOn 25 = .ok (.iconst 0, 1) := by decide +kernel
theorem d_Rank_passOn_26 : decode b_Rank_passOn 26 = .ok (.istore 4, 2) := by decide +kernel
theorem d_Rank_passOn_28 : decode b_Rank_passOn 28 = .ok (.iload 4, 2) := by decide +kernel
theorem d_Rank_passOn_30 : decode b_Rank_passOn 30 = .ok (.aload_n 0, 1) := by decide +kernel
theorem d_Rank_passOn_31 : decode b_Rank_passOn 31 = .ok (.getfield 9, 3) := by decide +kernel
theorem d_Rank_passOn_34 : decode b_Rank_passOn 34 = .ok (.getfield 56, 3) := by decide +kernel
theorem d_Rank_passOn_37 : decode b_Rank_passOn 37 = .ok (.iload_n 1, 1) := by decide +kernel
theorem d_Rank_passOn_38 : decode b_Rank_passOn 38 = .ok (.aaload, 1) := by decide +kernel
theorem d_Rank_passOn_39 : decode b_Rank_passOn 39 = .ok (.getfield 109, 3) := by decide +kernel
theorem d_Rank_passOn_42 : decode b_Rank_passOn 42 = .ok (.getfield 67, 3) := by decide +kernel
theorem d_Rank_passOn_45 : decode b_Rank_passOn 45 = .ok (.if_icmp .ge 37, 3) := by decide +kernel
theorem d_Rank_passOn_48 : decode b_Rank_passOn 48 = .ok (.aload_n 0, 1) := by decide +kernel
theorem d_Rank_passOn_49 : decode b_Rank_passOn 49 = .ok (.getfield 30, 3) := by decide +kernel
theorem d_Rank_passOn_52 : decode b_Rank_passOn 52 = .ok (.iload_n 1, 1) := by decide +kernel
theorem d_Rank_passOn_53 : decode b_Rank_passOn 53 = .ok (.aaload, 1) := by decide +kernel
theorem d_Rank_passOn_54 : decode b_Rank_passOn 54 = .ok (.iload 4, 2) := by decide +kernel
theorem d_Rank_passOn_56 : decode b_Rank_passOn 56 = .ok (.iaload, 1) := by decide +kernel
theorem d_Rank_passOn_57 : decode b_Rank_passOn 57 = .ok (.istore 5, 2) := by decide +kernel
theorem d_Rank_passOn_59 : decode b_Rank_passOn 59 = .ok (.iload 5, 2) := by decide +kernel
theorem d_Rank_passOn_61 : decode b_Rank_passOn 61 = .ok (.iconst (-1), 1) := by decide +kernel
theorem d_Rank_passOn_62 : decode b_Rank_passOn 62 = .ok (.if_icmp .eq 14, 3) := by decide +kernel
theorem d_Rank_passOn_65 : decode b_Rank_passOn 65 = .ok (.aload_n 0, 1) := by decide +kernel
theorem d_Rank_passOn_66 : decode b_Rank_passOn 66 = .ok (.getfield 41, 3) := by decide +kernel
theorem d_Rank_passOn_69 : decode b_Rank_passOn 69 = .ok (.iload 5, 2) := by decide +kernel
theorem d_Rank_passOn_71 : decode b_Rank_passOn 71 = .ok (.dup2, 1) := by decide +kernel
theorem d_Rank_passOn_72 : decode b_Rank_passOn 72 = .ok (.laload, 1) := by decide +kernel
theorem d_Rank_passOn_73 : decode b_Rank_passOn 73 = .ok (.lload_n 2, 1) := by decide +kernel
theorem d_Rank_passOn_74 : decode b_Rank_passOn 74 = .ok (.ladd, 1) := by decide +kernel
theorem d_Rank_passOn_75 : decode b_Rank_passOn 75 = .ok (.lastore, 1) := by decide +kernel
theorem d_Rank_passOn_76 : decode b_Rank_passOn 76 = .ok (.iinc 4 1, 3) := by decide +kernel
theorem d_Rank_passOn_79 : decode b_Rank_passOn 79 = .ok (.goto (-51), 3) := by decide +kernel
theorem d_Rank_passOn_82 : decode b_Rank_passOn 82 = .ok (.return_, 1) := by decide +kernel
theorem d_Rank_placeOf_0 : decode b_Rank_placeOf 0 = .ok (.iconst 0, 1) := by decide +kernel
theorem d_Rank_placeOf_1 : decode b_Rank_placeOf 1 = .ok (.istore_n 2, 1) := by decide +kernel
theorem d_Rank_placeOf_2 : decode b_Rank_placeOf 2 = .ok (.iconst 0, 1) := by decide +kernel
theorem d_Rank_placeOf_3 : decode b_Rank_placeOf 3 = .ok (.istore_n 3, 1) := by decide +kernel
theorem d_Rank_placeOf_4 : decode b_Rank_placeOf 4 = .ok (.iload_n 3, 1) := by decide +kernel
theorem d_Rank_placeOf_5 : decode b_Rank_placeOf 5 = .ok (.aload_n 0, 1) := by decide +kernel
theorem d_Rank_placeOf_6 : decode b_Rank_placeOf 6 = .ok (.getfield 24, 3) := by decide +kernel
theorem d_Rank_placeOf_9 : decode b_Rank_placeOf 9 = .ok (.getfield 67, 3) := by decide +kernel
theorem d_Rank_placeOf_12 : decode b_Rank_placeOf 12 = .ok (.if_icmp .ge 28, 3) := by decide +kernel
theorem d_Rank_placeOf_15 : decode b_Rank_placeOf 15 = .ok (.aload_n 0, 1) := by decide +kernel
theorem d_Rank_placeOf_16 : decode b_Rank_placeOf 16 = .ok (.aload_n 0, 1) := by decide +kernel
theorem d_Rank_placeOf_17 : decode b_Rank_placeOf 17 = .ok (.getfield 24, 3) := by decide +kernel
theorem d_Rank_placeOf_20 : decode b_Rank_placeOf 20 = .ok (.iload_n 3, 1) := by decide +kernel
theorem d_Rank_placeOf_21 : decode b_Rank_placeOf 21 = .ok (.invokevirtual 71, 3) := by decide +kernel
theorem d_Rank_placeOf_24 : decode b_Rank_placeOf 24 = .ok (.iload_n 1, 1) := by decide +kernel
theorem d_Rank_placeOf_25 : decode b_Rank_placeOf 25 = .ok (.invokevirtual 125, 3) := by decide +kernel
theorem d_Rank_placeOf_28 : decode b_Rank_placeOf 28 = .ok (.ifCond .eq 6, 3) := by decide +kernel
theorem d_Rank_placeOf_31 : decode b_Rank_placeOf 31 = .ok (.iinc 2 1, 3) := by decide +kernel
theorem d_Rank_placeOf_34 : decode b_Rank_placeOf 34 = .ok (.iinc 3 1, 3) := by decide +kernel
theorem d_Rank_placeOf_37 : decode b_Rank_placeOf 37 = .ok (.goto (-33), 3) := by decide +kernel
theorem d_Rank_placeOf_40 : decode b_Rank_placeOf 40 = .ok (.iload_n 2, 1) := by decide +kernel
theorem d_Rank_placeOf_41 : decode b_Rank_placeOf 41 = .ok (.ireturn, 1) := by decide +kernel
theorem d_Rank_standsBefore_0 : decode b_Rank_standsBefore 0 = .ok (.aload_n 0, 1) := by decide +kernel
theorem d_Rank_standsBefore_1 : decode b_Rank_standsBefore 1 = .ok (.getfield 44, 3) := by decide +kernel
theorem d_Rank_standsBefore_4 : decode b_Rank_standsBefore 4 = .ok (.iload_n 1, 1) := by decide +kernel
theorem d_Rank_standsBefore_5 : decode b_Rank_standsBefore 5 = .ok (.laload, 1) := by decide +kernel
theorem d_Rank_standsBefore_6 : decode b_Rank_standsBefore 6 = .ok (.aload_n 0, 1) := by decide +kernel
theorem d_Rank_standsBefore_7 : decode b_Rank_standsBefore 7 = .ok (.getfield 44, 3) := by decide +kernel
theorem d_Rank_standsBefore_10 : decode b_Rank_standsBefore 10 = .ok (.iload_n 2, 1) := by decide +kernel
theorem d_Rank_standsBefore_11 : decode b_Rank_standsBefore 11 = .ok (.laload, 1) := by decide +kernel
theorem d_Rank_standsBefore_12 : decode b_Rank_standsBefore 12 = .ok (.lcmp, 1) := by decide +kernel
theorem d_Rank_standsBefore_13 : decode b_Rank_standsBefore 13 = .ok (.ifCond .eq 25, 3) := by decide +kernel
theorem d_Rank_standsBefore_16 : decode b_Rank_standsBefore 16 = .ok (.aload_n 0, 1) := by decide +kernel
theorem d_Rank_standsBefore_17 : decode b_Rank_standsBefore 17 = .ok (.getfield 44, 3) := by decide +kernel
theorem d_Rank_standsBefore_20 : decode b_Rank_standsBefore 20 = .ok (.iload_n 1, 1) := by decide +kernel
theorem d_Rank_standsBefore_21 : decode b_Rank_standsBefore 21 = .ok (.laload, 1) := by decide +kernel
theorem d_Rank_standsBefore_22 : decode b_Rank_standsBefore 22 = .ok (.aload_n 0, 1) := by decide +kernel
theorem d_Rank_standsBefore_23 : decode b_Rank_standsBefore 23 = .ok (.getfield 44, 3) := by decide +kernel
theorem d_Rank_standsBefore_26 : decode b_Rank_standsBefore 26 = .ok (.iload_n 2, 1) := by decide +kernel
theorem d_Rank_standsBefore_27 : decode b_Rank_standsBefore 27 = .ok (.laload, 1) := by decide +kernel
theorem d_Rank_standsBefore_28 : decode b_Rank_standsBefore 28 = .ok (.lcmp, 1) := by decide +kernel
theorem d_Rank_standsBefore_29 : decode b_Rank_standsBefore 29 = .ok (.ifCond .le 7, 3) := by decide +kernel
theorem d_Rank_standsBefore_32 : decode b_Rank_standsBefore 32 = .ok (.iconst 1, 1) := by decide +kernel
theorem d_Rank_standsBefore_33 : decode b_Rank_standsBefore 33 = .ok (.goto 4, 3) := by decide +kernel
theorem d_Rank_standsBefore_36 : decode b_Rank_standsBefore 36 = .ok (.iconst 0, 1) := by decide +kernel
theorem d_Rank_standsBefore_37 : decode b_Rank_standsBefore 37 = .ok (.ireturn, 1) := by decide +kernel
theorem d_Rank_standsBefore_38 : decode b_Rank_standsBefore 38 = .ok (.aload_n 0, 1) := by decide +kernel
theorem d_Rank_standsBefore_39 : decode b_Rank_standsBefore 39 = .ok (.getfield 9, 3) := by decide +kernel
theorem d_Rank_standsBefore_42 : decode b_Rank_standsBefore 42 = .ok (.getfield 56, 3) := by decide +kernel
theorem d_Rank_standsBefore_45 : decode b_Rank_standsBefore 45 = .ok (.iload_n 1, 1) := by decide +kernel
theorem d_Rank_standsBefore_46 : decode b_Rank_standsBefore 46 = .ok (.aaload, 1) := by decide +kernel
theorem d_Rank_standsBefore_47 : decode b_Rank_standsBefore 47 = .ok (.aload_n 0, 1) := by decide +kernel
theorem d_Rank_standsBefore_48 : decode b_Rank_standsBefore 48 = .ok (.getfield 9, 3) := by decide +kernel
theorem d_Rank_standsBefore_51 : decode b_Rank_standsBefore 51 = .ok (.getfield 56, 3) := by decide +kernel
theorem d_Rank_standsBefore_54 : decode b_Rank_standsBefore 54 = .ok (.iload_n 2, 1) := by decide +kernel
theorem d_Rank_standsBefore_55 : decode b_Rank_standsBefore 55 = .ok (.aaload, 1) := by decide +kernel
theorem d_Rank_standsBefore_56 : decode b_Rank_standsBefore 56 = .ok (.invokevirtual 129, 3) := by decide +kernel
theorem d_Rank_standsBefore_59 : decode b_Rank_standsBefore 59 = .ok (.ireturn, 1) := by decide +kernel

/-! Decoded instructions of Mod. -/
theorem d_Mod_fetches_0 : decode b_Mod_fetches 0 = .ok (.aload_n 0, 1) := by decide +kernel
theorem d_Mod_fetches_1 : decode b_Mod_fetches 1 = .ok (.getfield 73, 3) := by decide +kernel
theorem d_Mod_fetches_4 : decode b_Mod_fetches 4 = .ok (.ifCond .eq 10, 3) := by decide +kernel
theorem d_Mod_fetches_7 : decode b_Mod_fetches 7 = .ok (.aload_n 0, 1) := by decide +kernel
theorem d_Mod_fetches_8 : decode b_Mod_fetches 8 = .ok (.getfield 101, 3) := by decide +kernel
theorem d_Mod_fetches_11 : decode b_Mod_fetches 11 = .ok (.goto 4, 3) := by decide +kernel
theorem d_Mod_fetches_14 : decode b_Mod_fetches 14 = .ok (.iconst 0, 1) := by decide +kernel
theorem d_Mod_fetches_15 : decode b_Mod_fetches 15 = .ok (.ireturn, 1) := by decide +kernel
theorem d_Mod_waiting_0 : decode b_Mod_waiting 0 = .ok (.aload_n 0, 1) := by decide +kernel
theorem d_Mod_waiting_1 : decode b_Mod_waiting 1 = .ok (.getfield 73, 3) := by decide +kernel
theorem d_Mod_waiting_4 : decode b_Mod_waiting 4 = .ok (.ifCond .eq 15, 3) := by decide +kernel
theorem d_Mod_waiting_7 : decode b_Mod_waiting 7 = .ok (.aload_n 0, 1) := by decide +kernel
theorem d_Mod_waiting_8 : decode b_Mod_waiting 8 = .ok (.getfield 117, 3) := by decide +kernel
theorem d_Mod_waiting_11 : decode b_Mod_waiting 11 = .ok (.aload_n 0, 1) := by decide +kernel
theorem d_Mod_waiting_12 : decode b_Mod_waiting 12 = .ok (.getfield 120, 3) := by decide +kernel
theorem d_Mod_waiting_15 : decode b_Mod_waiting 15 = .ok (.isub, 1) := by decide +kernel
theorem d_Mod_waiting_16 : decode b_Mod_waiting 16 = .ok (.goto 4, 3) := by decide +kernel
theorem d_Mod_waiting_19 : decode b_Mod_waiting 19 = .ok (.iconst 0, 1) := by decide +kernel
theorem d_Mod_waiting_20 : decode b_Mod_waiting 20 = .ok (.ireturn, 1) := by decide +kernel
theorem d_Mod_corpusAt_0 : decode b_Mod_corpusAt 0 = .ok (.aload_n 0, 1) := by decide +kernel
theorem d_Mod_corpusAt_1 : decode b_Mod_corpusAt 1 = .ok (.getfield 73, 3) := by decide +kernel
theorem d_Mod_corpusAt_4 : decode b_Mod_corpusAt 4 = .ok (.ifCond .eq 24, 3) := by decide +kernel
theorem d_Mod_corpusAt_7 : decode b_Mod_corpusAt 7 = .ok (.iload_n 1, 1) := by decide +kernel
theorem d_Mod_corpusAt_8 : decode b_Mod_corpusAt 8 = .ok (.ifCond .lt 20, 3) := by decide +kernel
theorem d_Mod_corpusAt_11 : decode b_Mod_corpusAt 11 = .ok (.iload_n 1, 1) := by decide +kernel
theorem d_Mod_corpusAt_12 : decode b_Mod_corpusAt 12 = .ok (.aload_n 0, 1) := by decide +kernel
theorem d_Mod_corpusAt_13 : decode b_Mod_corpusAt 13 = .ok (.getfield 114, 3) := by decide +kernel
theorem d_Mod_corpusAt_16 : decode b_Mod_corpusAt 16 = .ok (.if_icmp .ge 12, 3) := by decide +kernel
theorem d_Mod_corpusAt_19 : decode b_Mod_corpusAt 19 = .ok (.aload_n 0, 1) := by decide +kernel
theorem d_Mod_corpusAt_20 : decode b_Mod_corpusAt 20 = .ok (.getfield 53, 3) := by decide +kernel
theorem d_Mod_corpusAt_23 : decode b_Mod_corpusAt 23 = .ok (.iload_n 1, 1) := by decide +kernel
theorem d_Mod_corpusAt_24 : decode b_Mod_corpusAt 24 = .ok (.iaload, 1) := by decide +kernel
theorem d_Mod_corpusAt_25 : decode b_Mod_corpusAt 25 = .ok (.goto 4, 3) := by decide +kernel
theorem d_Mod_corpusAt_28 : decode b_Mod_corpusAt 28 = .ok (.iconst (-1), 1) := by decide +kernel
theorem d_Mod_corpusAt_29 : decode b_Mod_corpusAt 29 = .ok (.ireturn, 1) := by decide +kernel
theorem d_Mod_sameBody_0 : decode b_Mod_sameBody 0 = .ok (.aload_n 0, 1) := by decide +kernel
theorem d_Mod_sameBody_1 : decode b_Mod_sameBody 1 = .ok (.getfield 22, 3) := by decide +kernel
theorem d_Mod_sameBody_4 : decode b_Mod_sameBody 4 = .ok (.iload_n 1, 1) := by decide +kernel
theorem d_Mod_sameBody_5 : decode b_Mod_sameBody 5 = .ok (.iaload, 1) := by decide +kernel
theorem d_Mod_sameBody_6 : decode b_Mod_sameBody 6 = .ok (.aload_n 0, 1) := by decide +kernel
theorem d_Mod_sameBody_7 : decode b_Mod_sameBody 7 = .ok (.getfield 22, 3) := by decide +kernel
theorem d_Mod_sameBody_10 : decode b_Mod_sameBody 10 = .ok (.iload_n 2, 1) := by decide +kernel
theorem d_Mod_sameBody_11 : decode b_Mod_sameBody 11 = .ok (.iaload, 1) := by decide +kernel
theorem d_Mod_sameBody_12 : decode b_Mod_sameBody 12 = .ok (.if_icmp .ne 7, 3) := by decide +kernel
theorem d_Mod_sameBody_15 : decode b_Mod_sameBody 15 = .ok (.iconst 1, 1) := by decide +kernel
theorem d_Mod_sameBody_16 : decode b_Mod_sameBody 16 = .ok (.goto 4, 3) := by decide +kernel
theorem d_Mod_sameBody_19 : decode b_Mod_sameBody 19 = .ok (.iconst 0, 1) := by decide +kernel
theorem d_Mod_sameBody_20 : decode b_Mod_sameBody 20 = .ok (.istore_n 3, 1) := by decide +kernel
theorem d_Mod_sameBody_21 : decode b_Mod_sameBody 21 = .ok (.iconst 0, 1) := by decide +kernel
theorem d_Mod_sameBody_22 : decode b_Mod_sameBody 22 = .ok (.istore 4, 2) := by decide +kernel
theorem d_Mod_sameBody_24 : decode b_Mod_sameBody 24 = .ok (.iload 4, 2) := by decide +kernel
theorem d_Mod_sameBody_26 : decode b_Mod_sameBody 26 = .ok (.aload_n 0, 1) := by decide +kernel
theorem d_Mod_sameBody_27 : decode b_Mod_sameBody 27 = .ok (.getfield 22, 3) := by decide +kernel
theorem d_Mod_sameBody_30 : decode b_Mod_sameBody 30 = .ok (.iload_n 1, 1) := by decide +kernel
theorem d_Mod_sameBody_31 : decode b_Mod_sameBody 31 = .ok (.iaload, 1) := by decide +kernel
theorem d_Mod_sameBody_32 : decode b_Mod_sameBody 32 = .ok (.if_icmp .ge 46, 3) := by decide +kernel
theorem d_Mod_sameBody_35 : decode b_Mod_sameBody 35 = .ok (.iload_n 3, 1) := by decide +kernel
theorem d_Mod_sameBody_36 : decode b_Mod_sameBody 36 = .ok (.ifCond .eq 42, 3) := by decide +kernel
theorem d_Mod_sameBody_39 : decode b_Mod_sameBody 39 = .ok (.aload_n 0, 1) := by decide +kernel
theorem d_Mod_sameBody_40 : decode b_Mod_sameBody 40 = .ok (.getfield 19, 3) := by decide +kernel
theorem d_Mod_sameBody_43 : decode b_Mod_sameBody 43 = .ok (.bipush 8, 2) := by decide +kernel
theorem d_Mod_sameBody_45 : decode b_Mod_sameBody 45 = .ok (.iload_n 1, 1) := by decide +kernel
theorem d_Mod_sameBody_46 : decode b_Mod_sameBody 46 = .ok (.imul, 1) := by decide +kernel
theorem d_Mod_sameBody_47 : decode b_Mod_sameBody 47 = .ok (.iload 4, 2) := by decide +kernel
theorem d_Mod_sameBody_49 : decode b_Mod_sameBody 49 = .ok (.iadd, 1) := by decide +kernel
theorem d_Mod_sameBody_50 : decode b_Mod_sameBody 50 = .ok (.iaload, 1) := by decide +kernel
theorem d_Mod_sameBody_51 : decode b_Mod_sameBody 51 = .ok (.aload_n 0, 1) := by decide +kernel
theorem d_Mod_sameBody_52 : decode b_Mod_sameBody 52 = .ok (.getfield 19, 3) := by decide +kernel
theorem d_Mod_sameBody_55 : decode b_Mod_sameBody 55 = .ok (.bipush 8, 2) := by decide +kernel
theorem d_Mod_sameBody_57 : decode b_Mod_sameBody 57 = .ok (.iload_n 2, 1) := by decide +kernel
theorem d_Mod_sameBody_58 : decode b_Mod_sameBody 58 = .ok (.imul, 1) := by decide +kernel
theorem d_Mod_sameBody_59 : decode b_Mod_sameBody 59 = .ok (.iload 4, 2) := by decide +kernel
theorem d_Mod_sameBody_61 : decode b_Mod_sameBody 61 = .ok (.iadd, 1) := by decide +kernel
theorem d_Mod_sameBody_62 : decode b_Mod_sameBody 62 = .ok (.iaload, 1) := by decide +kernel
theorem d_Mod_sameBody_63 : decode b_Mod_sameBody 63 = .ok (.if_icmp .ne 7, 3) := by decide +kernel
theorem d_Mod_sameBody_66 : decode b_Mod_sameBody 66 = .ok (.iconst 1, 1) := by decide +kernel
theorem d_Mod_sameBody_67 : decode b_Mod_sameBody 67 = .ok (.goto 4, 3) := by decide +kernel
theorem d_Mod_sameBody_70 : decode b_Mod_sameBody 70 = .ok (.iconst 0, 1) := by decide +kernel
theorem d_Mod_sameBody_71 : decode b_Mod_sameBody 71 = .ok (.istore_n 3, 1) := by decide +kernel
theorem d_Mod_sameBody_72 : decode b_Mod_sameBody 72 = .ok (.iinc 4 1, 3) := by decide +kernel
theorem d_Mod_sameBody_75 : decode b_Mod_sameBody 75 = .ok (.goto (-51), 3) := by decide +kernel
theorem d_Mod_sameBody_78 : decode b_Mod_sameBody 78 = .ok (.iload_n 3, 1) := by decide +kernel
theorem d_Mod_sameBody_79 : decode b_Mod_sameBody 79 = .ok (.ireturn, 1) := by decide +kernel
theorem d_Mod_document_0 : decode b_Mod_document 0 = .ok (.aload_n 0, 1) := by decide +kernel
theorem d_Mod_document_1 : decode b_Mod_document 1 = .ok (.getfield 73, 3) := by decide +kernel
theorem d_Mod_document_4 : decode b_Mod_document 4 = .ok (.ifCond .eq 11, 3) := by decide +kernel
theorem d_Mod_document_7 : decode b_Mod_document 7 = .ok (.aload_n 0, 1) := by decide +kernel
theorem d_Mod_document_8 : decode b_Mod_document 8 = .ok (.iload_n 1, 1) := by decide +kernel
theorem d_Mod_document_9 : decode b_Mod_document 9 = .ok (.invokevirtual 127, 3) := by decide +kernel
theorem d_Mod_document_12 : decode b_Mod_document 12 = .ok (.ifCond .ge 5, 3) := by decide +kernel
theorem d_Mod_document_15 : decode b_Mod_document 15 = .ok (.iconst (-1), 1) := by decide +kernel
theorem d_Mod_document_16 : decode b_Mod_document 16 = .ok (.ireturn, 1) := by decide +kernel
theorem d_Mod_document_17 : decode b_Mod_document 17 = .ok (.iconst 0, 1) := by decide +kernel
theorem d_Mod_document_18 : decode b_Mod_document 18 = .ok (.istore_n 2, 1) := by decide +kernel
theorem d_Mod_document_19 : decode b_Mod_document 19 = .ok (.iload_n 2, 1) := by decide +kernel
theorem d_Mod_document_20 : decode b_Mod_document 20 = .ok (.aload_n 0, 1) := by decide +kernel
theorem d_Mod_document_21 : decode b_Mod_document 21 = .ok (.getfield 114, 3) := by decide +kernel
theorem d_Mod_document_24 : decode b_Mod_document 24 = .ok (.if_icmp .ge 30, 3) := by decide +kernel
theorem d_Mod_document_27 : decode b_Mod_document 27 = .ok (.aload_n 0, 1) := by decide +kernel
theorem d_Mod_document_28 : decode b_Mod_document 28 = .ok (.aload_n 0, 1) := by decide +kernel
theorem d_Mod_document_29 : decode b_Mod_document 29 = .ok (.getfield 53, 3) := by decide +kernel
theorem d_Mod_document_32 : decode b_Mod_document 32 = .ok (.iload_n 2, 1) := by decide +kernel
theorem d_Mod_document_33 : decode b_Mod_document 33 = .ok (.iaload, 1) := by decide +kernel
theorem d_Mod_document_34 : decode b_Mod_document 34 = .ok (.iload_n 1, 1) := by decide +kernel
theorem d_Mod_document_35 : decode b_Mod_document 35 = .ok (.invokevirtual 162, 3) := by decide +kernel
theorem d_Mod_document_38 : decode b_Mod_document 38 = .ok (.ifCond .eq 10, 3) := by decide +kernel
theorem d_Mod_document_41 : decode b_Mod_document 41 = .ok (.aload_n 0, 1) := by decide +kernel
theorem d_Mod_document_42 : decode b_Mod_document 42 = .ok (.getfield 53, 3) := by decide +kernel
theorem d_Mod_document_45 : decode b_Mod_document 45 = .ok (.iload_n 2, 1) := by decide +kernel
theorem d_Mod_document_46 : decode b_Mod_document 46 = .ok (.iaload, 1) := by decide +kernel
theorem d_Mod_document_47 : decode b_Mod_document 47 = .ok (.ireturn, 1) := by decide +kernel
theorem d_Mod_document_48 : decode b_Mod_document 48 = .ok (.iinc 2 1, 3) := by decide +kernel
theorem d_Mod_document_51 : decode b_Mod_document 51 = .ok (.goto (-32), 3) := by decide +kernel
theorem d_Mod_document_54 : decode b_Mod_document 54 = .ok (.iconst (-1), 1) := by decide +kernel
theorem d_Mod_document_55 : decode b_Mod_document 55 = .ok (.ireturn, 1) := by decide +kernel
theorem d_Mod_isDocument_0 : decode b_Mod_isDocument 0 = .ok (.iload_n 1, 1) := by decide +kernel
theorem d_Mod_isDocument_1 : decode b_Mod_isDocument 1 = .ok (.ifCond .lt 16, 3) := by decide +kernel
theorem d_Mod_isDocument_4 : decode b_Mod_isDocument 4 = .ok (.aload_n 0, 1) := by decide +kernel
theorem d_Mod_isDocument_5 : decode b_Mod_isDocument 5 = .ok (.iload_n 1, 1) := by decide +kernel
theorem d_Mod_isDocument_6 : decode b_Mod_isDocument 6 = .ok (.invokevirtual 166, 3) := by decide +kernel
theorem d_Mod_isDocument_9 : decode b_Mod_isDocument 9 = .ok (.iload_n 1, 1) := by decide +kernel
theorem d_Mod_isDocument_10 : decode b_Mod_isDocument 10 = .ok (.if_icmp .ne 7, 3) := by decide +kernel
theorem d_Mod_isDocument_13 : decode b_Mod_isDocument 13 = .ok (.iconst 1, 1) := by decide +kernel
theorem d_Mod_isDocument_14 : decode b_Mod_isDocument 14 = .ok (.goto 4, 3) := by decide +kernel
theorem d_Mod_isDocument_17 : decode b_Mod_isDocument 17 = .ok (.iconst 0, 1) := by decide +kernel
theorem d_Mod_isDocument_18 : decode b_Mod_isDocument 18 = .ok (.ireturn, 1) := by decide +kernel
theorem d_Mod_rankAll_0 : decode b_Mod_rankAll 0 = .ok (.iconst 0, 1) := by decide +kernel
theorem d_Mod_rankAll_1 : decode b_Mod_rankAll 1 = .ok (.istore_n 2, 1) := by decide +kernel
theorem d_Mod_rankAll_2 : decode b_Mod_rankAll 2 = .ok (.iload_n 2, 1) := by decide +kernel
theorem d_Mod_rankAll_3 : decode b_Mod_rankAll 3 = .ok (.aload_n 0, 1) := by decide +kernel
theorem d_Mod_rankAll_4 : decode b_Mod_rankAll 4 = .ok (.getfield 69, 3) := by decide +kernel
theorem d_Mod_rankAll_7 : decode b_Mod_rankAll 7 = .ok (.if_icmp .ge 78, 3) := by decide +kernel
theorem d_Mod_rankAll_10 : decode b_Mod_rankAll 10 = .ok (.aload_n 0, 1) := by decide +kernel
theorem d_Mod_rankAll_11 : decode b_Mod_rankAll 11 = .ok (.getfield 62, 3) := by decide +kernel
theorem d_Mod_rankAll_14 : decode b_Mod_rankAll 14 = .ok (.iload_n 2, 1) := by decide +kernel
theorem d_Mod_rankAll_15 : decode b_Mod_rankAll 15 = .ok (.ldc2_w 169, 3) := by decide +kernel
theorem d_Mod_rankAll_18 : decode b_Mod_rankAll 18 = .ok (.lastore, 1) := by decide +kernel
theorem d_Mod_rankAll_19 : decode b_Mod_rankAll 19 = .ok (.iconst 0, 1) := by decide +kernel
theorem d_Mod_rankAll_20 : decode b_Mod_rankAll 20 = .ok (.istore_n 3, 1) := by decide +kernel
theorem d_Mod_rankAll_21 : decode b_Mod_rankAll 21 = .ok (.iload_n 3, 1) := by decide +kernel
theorem d_Mod_rankAll_22 : decode b_Mod_rankAll 22 = .ok (.aload_n 0, 1) := by decide +kernel
theorem d_Mod_rankAll_23 : decode b_Mod_rankAll 23 = .ok (.getfield 28, 3) := by decide +kernel
theorem d_Mod_rankAll_26 : decode b_Mod_rankAll 26 = .ok (.iload_n 2, 1) := by decide +kernel
theorem d_Mod_rankAll_27 : decode b_Mod_rankAll 27 = .ok (.iaload, 1) := by decide +kernel
theorem d_Mod_rankAll_28 : decode b_Mod_rankAll 28 = .ok (.if_icmp .ge 51, 3) := by decide +kernel
theorem d_Mod_rankAll_31 : decode b_Mod_rankAll 31 = .ok (.aload_n 0, 1) := by decide +kernel
theorem d_Mod_rankAll_32 : decode b_Mod_rankAll 32 = .ok (.aload_n 0, 1) := by decide +kernel
theorem d_Mod_rankAll_33 : decode b_Mod_rankAll 33 = .ok (.getfield 25, 3) := by decide +kernel
theorem d_Mod_rankAll_36 : decode b_Mod_rankAll 36 = .ok (.iconst 5, 1) := by decide +kernel
theorem d_Mod_rankAll_37 : decode b_Mod_rankAll 37 = .ok (.iload_n 2, 1) := by decide +kernel
theorem d_Mod_rankAll_38 : decode b_Mod_rankAll 38 = .ok (.imul, 1) := by decide +kernel
theorem d_Mod_rankAll_39 : decode b_Mod_rankAll 39 = .ok (.iload_n 3, 1) := by decide +kernel
theorem d_Mod_rankAll_40 : decode b_Mod_rankAll 40 = .ok (.iadd, 1) := by decide +kernel
theorem d_Mod_rankAll_41 : decode b_Mod_rankAll 41 = .ok (.iaload, 1) := by decide +kernel
theorem d_Mod_rankAll_42 : decode b_Mod_rankAll 42 = .ok (.iconst 0, 1) := by decide +kernel
theorem d_Mod_rankAll_43 : decode b_Mod_rankAll 43 = .ok (.invokevirtual 123, 3) := by decide +kernel
theorem d_Mod_rankAll_46 : decode b_Mod_rankAll 46 = .ok (.istore 4, 2) := by decide +kernel
theorem d_Mod_rankAll_48 : decode b_Mod_rankAll 48 = .ok (.aload_n 0, 1) := by decide +kernel
theorem d_Mod_rankAll_49 : decode b_Mod_rankAll 49 = .ok (.getfield 59, 3) := by decide +kernel
theorem d_Mod_rankAll_52 : decode b_Mod_rankAll 52 = .ok (.iconst 5, 1) := by decide +kernel
theorem d_Mod_rankAll_53 : decode b_Mod_rankAll 53 = .ok (.iload_n 2, 1) := by decide +kernel
theorem d_Mod_rankAll_54 : decode b_Mod_rankAll 54 = .ok (.imul, 1) := by decide +kernel
theorem d_Mod_rankAll_55 : decode b_Mod_rankAll 55 = .ok (.iload_n 3, 1) := by decide +kernel
theorem d_Mod_rankAll_56 : decode b_Mod_rankAll 56 = .ok (.iadd, 1) := by decide +kernel
theorem d_Mod_rankAll_57 : decode b_Mod_rankAll 57 = .ok (.iload 4, 2) := by decide +kernel
theorem d_Mod_rankAll_59 : decode b_Mod_rankAll 59 = .ok (.ifCond .ge 7, 3) := by decide +kernel
theorem d_Mod_rankAll_62 : decode b_Mod_rankAll 62 = .ok (.iconst (-1), 1) := by decide +kernel
theorem d_Mod_rankAll_63 : decode b_Mod_rankAll 63 = .ok (.goto 9, 3) := by decide +kernel
theorem d_Mod_rankAll_66 : decode b_Mod_rankAll 66 = .ok (.aload_n 0, 1) := by decide +kernel
theorem d_Mod_rankAll_67 : decode b_Mod_rankAll 67 = .ok (.iload 4, 2) := by decide +kernel
theorem d_Mod_rankAll_69 : decode b_Mod_rankAll 69 = .ok (.invokevirtual 166, 3) := by decide +kernel
theorem d_Mod_rankAll_72 : decode b_Mod_rankAll 72 = .ok (.iastore, 1) := by decide +kernel
theorem d_Mod_rankAll_73 : decode b_Mod_rankAll 73 = .ok (.iinc 3 1, 3) := by decide +kernel
theorem d_Mod_rankAll_76 : decode b_Mod_rankAll 76 = .ok (.goto (-55), 3) := by decide +kernel
theorem d_Mod_rankAll_79 : decode b_Mod_rankAll 79 = .ok (.iinc 2 1, 3) := by decide +kernel
theorem d_Mod_rankAll_82 : decode b_Mod_rankAll 82 = .ok (.goto (-80), 3) := by decide +kernel
theorem d_Mod_rankAll_85 : decode b_Mod_rankAll 85 = .ok (.iconst 0, 1) := by decide +kernel
theorem d_Mod_rankAll_86 : decode b_Mod_rankAll 86 = .ok (.istore_n 2, 1) := by decide +kernel
theorem d_Mod_rankAll_87 : decode b_Mod_rankAll 87 = .ok (.iload_n 2, 1) := by decide +kernel
theorem d_Mod_rankAll_88 : decode b_Mod_rankAll 88 = .ok (.iload_n 1, 1) := by decide +kernel
theorem d_Mod_rankAll_89 : decode b_Mod_rankAll 89 = .ok (.if_icmp .ge 76, 3) := by decide +kernel
theorem d_Mod_rankAll_92 : decode b_Mod_rankAll 92 = .ok (.iconst 0, 1) := by decide +kernel
theorem d_Mod_rankAll_93 : decode b_Mod_rankAll 93 = .ok (.istore_n 3, 1) := by decide +kernel
theorem d_Mod_rankAll_94 : decode b_Mod_rankAll 94 = .ok (.iload_n 3, 1) := by decide +kernel
theorem d_Mod_rankAll_95 : decode b_Mod_rankAll 95 = .ok (.aload_n 0, 1) := by decide +kernel
theorem d_Mod_rankAll_96 : decode b_Mod_rankAll 96 = .ok (.getfield 69, 3) := by decide +kernel
theorem d_Mod_rankAll_99 : decode b_Mod_rankAll 99 = .ok (.if_icmp .ge 21, 3) := by decide +kernel
theorem d_Mod_rankAll_102 : decode b_Mod_rankAll 102 = .ok (.aload_n 0, 1) := by decide +kernel
theorem d_Mod_rankAll_103 : decode b_Mod_rankAll 103 = .ok (.getfield 66, 3) := by decide +kernel
theorem d_Mod_rankAll_106 : decode b_Mod_rankAll 106 = .ok (.iload_n 3, 1) := by decide +kernel
theorem d_Mod_rankAll_107 : decode b_Mod_rankAll 107 = .ok (.aload_n 0, 1) := by decide +kernel
theorem d_Mod_rankAll_108 : decode b_Mod_rankAll 108 = .ok (.getfield 62, 3) := by decide +kernel
theorem d_Mod_rankAll_111 : decode b_Mod_rankAll 111 = .ok (.iload_n 3, 1) := by decide +kernel
theorem d_Mod_rankAll_112 : decode b_Mod_rankAll 112 = .ok (.laload, 1) := by decide +kernel
theorem d_Mod_rankAll_113 : decode b_Mod_rankAll 113 = .ok (.lastore, 1) := by decide +kernel
theorem d_Mod_rankAll_114 : decode b_Mod_rankAll 114 = .ok (.iinc 3 1, 3) := by decide +kernel
theorem d_Mod_rankAll_117 : decode b_Mod_rankAll 117 = .ok (.goto (-23), 3) := by decide +kernel
theorem d_Mod_rankAll_120 : decode b_Mod_rankAll 120 = .ok (.iconst 0, 1) := by decide +kernel
theorem d_Mod_rankAll_121 : decode b_Mod_rankAll 121 = .ok (.istore_n 3, 1) := by decide +kernel
theorem d_Mod_rankAll_122 : decode b_Mod_rankAll 122 = .ok (.iload_n 3, 1) := by decide +kernel
theorem d_Mod_rankAll_123 : decode b_Mod_rankAll 123 = .ok (.aload_n 0, 1) := by decide +kernel
theorem d_Mod_rankAll_124 : decode b_Mod_rankAll 124 = .ok (.getfield 69, 3) := by decide +kernel
theorem d_Mod_rankAll_127 : decode b_Mod_rankAll 127 = .ok (.if_icmp .ge 32, 3) := by decide +kernel
theorem d_Mod_rankAll_130 : decode b_Mod_rankAll 130 = .ok (.aload_n 0, 1) := by decide +kernel
theorem d_Mod_rankAll_131 : decode b_Mod_rankAll 131 = .ok (.getfield 62, 3) := by decide +kernel
theorem d_Mod_rankAll_134 : decode b_Mod_rankAll 134 = .ok (.iload_n 3, 1) := by decide +kernel
theorem d_Mod_rankAll_135 : decode b_Mod_rankAll 135 = .ok (.ldc2_w 171, 3) := by decide +kernel
theorem d_Mod_rankAll_138 : decode b_Mod_rankAll 138 = .ok (.ldc2_w 173, 3) := by decide +kernel
theorem d_Mod_rankAll_141 : decode b_Mod_rankAll 141 = .ok (.aload_n 0, 1) := by decide +kernel
theorem d_Mod_rankAll_142 : decode b_Mod_rankAll 142 = .ok (.iload_n 3, 1) := by decide +kernel
theorem d_Mod_rankAll_143 : decode b_Mod_rankAll 143 = .ok (.invokevirtual 175, 3) := by decide +kernel
theorem d_Mod_rankAll_146 : decode b_Mod_rankAll 146 = .ok (.lmul, 1) := by decide +kernel
theorem d_Mod_rankAll_147 : decode b_Mod_rankAll 147 = .ok (.ldc2_w 179, 3) := by decide +kernel
theorem d_Mod_rankAll_150 : decode b_Mod_rankAll 150 = .ok (.ldiv, 1) := by decide +kernel
theorem d_Mod_rankAll_151 : decode b_Mod_rankAll 151 = .ok (.ladd, 1) := by decide +kernel
theorem d_Mod_rankAll_152 : decode b_Mod_rankAll 152 = .ok (.lastore, 1) := by decide +kernel
theorem d_Mod_rankAll_153 : decode b_Mod_rankAll 153 = .ok (.iinc 3 1, 3) := by decide +kernel
theorem d_Mod_rankAll_156 : decode b_Mod_rankAll 156 = .ok (.goto (-34), 3) := by decide +kernel
theorem d_Mod_rankAll_159 : decode b_Mod_rankAll 159 = .ok (.iinc 2 1, 3) := by decide +kernel
theorem d_Mod_rankAll_162 : decode b_Mod_rankAll 162 = .ok (.goto (-75), 3) := by decide +kernel
theorem d_Mod_rankAll_165 : decode b_Mod_rankAll 165 = .ok (.return_, 1) := by decide +kernel
theorem d_Mod_sum_0 : decode b_Mod_sum 0 = .ok (.lconst 0, 1) := by decide +kernel
theorem d_Mod_sum_1 : decode b_Mod_sum 1 = .ok (.lstore_n 2, 1) := by decide +kernel
theorem d_Mod_sum_2 : decode b_Mod_sum 2 = .ok (.iconst 0, 1) := by decide +kernel
theorem d_Mod_sum_3 : decode b_Mod_sum 3 = .ok (.istore 4, 2) := by decide +kernel
theorem d_Mod_sum_5 : decode b_Mod_sum 5 = .ok (.iload 4, 2) := by decide +kernel
theorem d_Mod_sum_7 : decode b_Mod_sum 7 = .ok (.aload_n 0, 1) := by decide +kernel
theorem d_Mod_sum_8 : decode b_Mod_sum 8 = .ok (.getfield 114, 3) := by decide +kernel
theorem d_Mod_sum_11 : decode b_Mod_sum 11 = .ok (.if_icmp .ge 130, 3) := by decide +kernel
theorem d_Mod_sum_14 : decode b_Mod_sum 14 = .ok (.aload_n 0, 1) := by decide +kernel
theorem d_Mod_sum_15 : decode b_Mod_sum 15 = .ok (.getfield 53, 3) := by decide +kernel
theorem d_Mod_sum_18 : decode b_Mod_sum 18 = .ok (.iload 4, 2) := by decide +kernel
theorem d_Mod_sum_20 : decode b_Mod_sum 20 = .ok (.iaload, 1) := by decide +kernel
theorem d_Mod_sum_21 : decode b_Mod_sum 21 = .ok (.istore 5, 2) := by decide +kernel
theorem d_Mod_sum_23 : decode b_Mod_sum 23 = .ok (.iconst 0, 1) := by decide +kernel
theorem d_Mod_sum_24 : decode b_Mod_sum 24 = .ok (.istore 6, 2) := by decide +kernel
theorem d_Mod_sum_26 : decode b_Mod_sum 26 = .ok (.iconst 0, 1) := by decide +kernel
theorem d_Mod_sum_27 : decode b_Mod_sum 27 = .ok (.istore 7, 2) := by decide +kernel
theorem d_Mod_sum_29 : decode b_Mod_sum 29 = .ok (.iconst 0, 1) := by decide +kernel
theorem d_Mod_sum_30 : decode b_Mod_sum 30 = .ok (.istore 8, 2) := by decide +kernel
theorem d_Mod_sum_32 : decode b_Mod_sum 32 = .ok (.iload 8, 2) := by decide +kernel
theorem d_Mod_sum_34 : decode b_Mod_sum 34 = .ok (.aload_n 0, 1) := by decide +kernel
theorem d_Mod_sum_35 : decode b_Mod_sum 35 = .ok (.getfield 28, 3) := by decide +kernel
theorem d_Mod_sum_38 : decode b_Mod_sum 38 = .ok (.iload 5, 2) := by decide +kernel
theorem d_Mod_sum_40 : decode b_Mod_sum 40 = .ok (.iaload, 1) := by decide +kernel
theorem d_Mod_sum_41 : decode b_Mod_sum 41 = .ok (.if_icmp .ge 62, 3) := by decide +kernel
theorem d_Mod_sum_44 : decode b_Mod_sum 44 = .ok (.aload_n 0, 1) := by decide +kernel
theorem d_Mod_sum_45 : decode b_Mod_sum 45 = .ok (.getfield 59, 3) := by decide +kernel
theorem d_Mod_sum_48 : decode b_Mod_sum 48 = .ok (.iconst 5, 1) := by decide +kernel
theorem d_Mod_sum_49 : decode b_Mod_sum 49 = .ok (.iload 5, 2) := by decide +kernel
theorem d_Mod_sum_51 : decode b_Mod_sum 51 = .ok (.imul, 1) := by decide +kernel
theorem d_Mod_sum_52 : decode b_Mod_sum 52 = .ok (.iload 8, 2) := by decide +kernel
theorem d_Mod_sum_54 : decode b_Mod_sum 54 = .ok (.iadd, 1) := by decide +kernel
theorem d_Mod_sum_55 : decode b_Mod_sum 55 = .ok (.iaload, 1) := by decide +kernel
theorem d_Mod_sum_56 : decode b_Mod_sum 56 = .ok (.ifCond .lt 10, 3) := by decide +kernel
theorem d_Mod_sum_59 : decode b_Mod_sum 59 = .ok (.iload 6, 2) := by decide +kernel
theorem d_Mod_sum_61 : decode b_Mod_sum 61 = .ok (.iconst 1, 1) := by decide +kernel
theorem d_Mod_sum_62 : decode b_Mod_sum 62 = .ok (.iadd, 1) := by decide +kernel
theorem d_Mod_sum_63 : decode b_Mod_sum 63 = .ok (.goto 5, 3) := by decide +kernel
theorem d_Mod_sum_66 : decode b_Mod_sum 66 = .ok (.iload 6, 2) := by decide +kernel
theorem d_Mod_sum_68 : decode b_Mod_sum 68 = .ok (.istore 6, 2) := by decide +kernel
theorem d_Mod_sum_70 : decode b_Mod_sum 70 = .ok (.aload_n 0, 1) := by decide +kernel
theorem d_Mod_sum_71 : decode b_Mod_sum 71 = .ok (.getfield 59, 3) := by decide +kernel
theorem d_Mod_sum_74 : decode b_Mod_sum 74 = .ok (.iconst 5, 1) := by decide +kernel
theorem d_Mod_sum_75 : decode b_Mod_sum 75 = .ok (.iload 5, 2) := by decide +kernel
theorem d_Mod_sum_77 : decode b_Mod_sum 77 = .ok (.imul, 1) := by decide +kernel
theorem d_Mod_sum_78 : decode b_Mod_sum 78 = .ok (.iload 8, 2) := by decide +kernel
theorem d_Mod_sum_80 : decode b_Mod_sum 80 = .ok (.iadd, 1) := by decide +kernel
theorem d_Mod_sum_81 : decode b_Mod_sum 81 = .ok (.iaload, 1) := by decide +kernel
theorem d_Mod_sum_82 : decode b_Mod_sum 82 = .ok (.iload_n 1, 1) := by decide +kernel
theorem d_Mod_sum_83 : decode b_Mod_sum 83 = .ok (.if_icmp .ne 10, 3) := by decide +kernel
theorem d_Mod_sum_86 : decode b_Mod_sum 86 = .ok (.iload 7, 2) := by decide +kernel
theorem d_Mod_sum_88 : decode b_Mod_sum 88 = .ok (.iconst 1, 1) := by decide +kernel
theorem d_Mod_sum_89 : decode b_Mod_sum 89 = .ok (.iadd, 1) := by decide +kernel
theorem d_Mod_sum_90 : decode b_Mod_sum 90 = .ok (.goto 5, 3) := by decide +kernel
theorem d_Mod_sum_93 : decode b_Mod_sum 93 = .ok (.iload 7, 2) := by decide +kernel
theorem d_Mod_sum_95 : decode b_Mod_sum 95 = .ok (.istore 7, 2) := by decide +kernel
theorem d_Mod_sum_97 : decode b_Mod_sum 97 = .ok (.iinc 8 1, 3) := by decide +kernel
theorem d_Mod_sum_100 : decode b_Mod_sum 100 = .ok (.goto (-68), 3) := by decide +kernel
theorem d_Mod_sum_103 : decode b_Mod_sum 103 = .ok (.iload 7, 2) := by decide +kernel
theorem d_Mod_sum_105 : decode b_Mod_sum 105 = .ok (.ifCond .le 30, 3) := by decide +kernel
theorem d_Mod_sum_108 : decode b_Mod_sum 108 = .ok (.aload_n 0, 1) := by decide +kernel
theorem d_Mod_sum_109 : decode b_Mod_sum 109 = .ok (.iload 5, 2) := by decide +kernel
theorem d_Mod_sum_111 : decode b_Mod_sum 111 = .ok (.invokevirtual 181, 3) := by decide +kernel
theorem d_Mod_sum_114 : decode b_Mod_sum 114 = .ok (.ifCond .eq 21, 3) := by decide +kernel
theorem d_Mod_sum_117 : decode b_Mod_sum 117 = .ok (.lload_n 2, 1) := by decide +kernel
theorem d_Mod_sum_118 : decode b_Mod_sum 118 = .ok (.iload 7, 2) := by decide +kernel
theorem d_Mod_sum_120 : decode b_Mod_sum 120 = .ok (.i2l, 1) := by decide +kernel
theorem d_Mod_sum_121 : decode b_Mod_sum 121 = .ok (.aload_n 0, 1) := by decide +kernel
theorem d_Mod_sum_122 : decode b_Mod_sum 122 = .ok (.getfield 66, 3) := by decide +kernel
theorem d_Mod_sum_125 : decode b_Mod_sum 125 = .ok (.iload 5, 2) := by decide +kernel
theorem d_Mod_sum_127 : decode b_Mod_sum 127 = .ok (.laload, 1) := by decide +kernel
theorem d_Mod_sum_128 : decode b_Mod_sum 128 = .ok (.iload 6, 2) := by decide +kernel
theorem d_Mod_sum_130 : decode b_Mod_sum 130 = .ok (.i2l, 1) := by decide +kernel
theorem d_Mod_sum_131 : decode b_Mod_sum 131 = .ok (.ldiv, 1) := by decide +kernel
theorem d_Mod_sum_132 : decode b_Mod_sum 132 = .ok (.lmul, 1) := by decide +kernel
theorem d_Mod_sum_133 : decode b_Mod_sum 133 = .ok (.ladd, 1) := by decide +kernel
theorem d_Mod_sum_134 : decode b_Mod_sum 134 = .ok (.lstore_n 2, 1) := by decide +kernel
theorem d_Mod_sum_135 : decode b_Mod_sum 135 = .ok (.iinc 4 1, 3) := by decide +kernel
theorem d_Mod_sum_138 : decode b_Mod_sum 138 = .ok (.goto (-133), 3) := by decide +kernel
theorem d_Mod_sum_141 : decode b_Mod_sum 141 = .ok (.lload_n 2, 1) := by decide +kernel
theorem d_Mod_sum_142 : decode b_Mod_sum 142 = .ok (.lreturn, 1) := by decide +kernel
theorem d_Mod_rank_0 : decode b_Mod_rank 0 = .ok (.aload_n 0, 1) := by decide +kernel
theorem d_Mod_rank_1 : decode b_Mod_rank 1 = .ok (.getfield 73, 3) := by decide +kernel
theorem d_Mod_rank_4 : decode b_Mod_rank 4 = .ok (.ifCond .eq 21, 3) := by decide +kernel
theorem d_Mod_rank_7 : decode b_Mod_rank 7 = .ok (.aload_n 0, 1) := by decide +kernel
theorem d_Mod_rank_8 : decode b_Mod_rank 8 = .ok (.iload_n 1, 1) := by decide +kernel
theorem d_Mod_rank_9 : decode b_Mod_rank 9 = .ok (.invokevirtual 181, 3) := by decide +kernel
theorem d_Mod_rank_12 : decode b_Mod_rank 12 = .ok (.ifCond .eq 13, 3) := by decide +kernel
theorem d_Mod_rank_15 : decode b_Mod_rank 15 = .ok (.iload_n 2, 1) := by decide +kernel
theorem d_Mod_rank_16 : decode b_Mod_rank 16 = .ok (.ifCond .lt 9, 3) := by decide +kernel
theorem d_Mod_rank_19 : decode b_Mod_rank 19 = .ok (.iload_n 2, 1) := by decide +kernel
theorem d_Mod_rank_20 : decode b_Mod_rank 20 = .ok (.bipush 12, 2) := by decide +kernel
theorem d_Mod_rank_22 : decode b_Mod_rank 22 = .ok (.if_icmp .le 5, 3) := by decide +kernel
theorem d_Mod_rank_25 : decode b_Mod_rank 25 = .ok (.lconst 0, 1) := by decide +kernel
theorem d_Mod_rank_26 : decode b_Mod_rank 26 = .ok (.lreturn, 1) := by decide +kernel
theorem d_Mod_rank_27 : decode b_Mod_rank 27 = .ok (.aload_n 0, 1) := by decide +kernel
theorem d_Mod_rank_28 : decode b_Mod_rank 28 = .ok (.iload_n 2, 1) := by decide +kernel
theorem d_Mod_rank_29 : decode b_Mod_rank 29 = .ok (.invokevirtual 184, 3) := by decide +kernel
theorem d_Mod_rank_32 : decode b_Mod_rank 32 = .ok (.aload_n 0, 1) := by decide +kernel
theorem d_Mod_rank_33 : decode b_Mod_rank 33 = .ok (.getfield 62, 3) := by decide +kernel
theorem d_Mod_rank_36 : decode b_Mod_rank 36 = .ok (.iload_n 1, 1) := by decide +kernel
theorem d_Mod_rank_37 : decode b_Mod_rank 37 = .ok (.laload, 1) := by decide +kernel
theorem d_Mod_rank_38 : decode b_Mod_rank 38 = .ok (.lreturn, 1) := by decide +kernel
theorem d_Mod_score_0 : decode b_Mod_score 0 = .ok (.iconst 0, 1) := by decide +kernel
theorem d_Mod_score_1 : decode b_Mod_score 1 = .ok (.istore 4, 2) := by decide +kernel
theorem d_Mod_score_3 : decode b_Mod_score 3 = .ok (.iconst 0, 1) := by decide +kernel
theorem d_Mod_score_4 : decode b_Mod_score 4 = .ok (.istore 5, 2) := by decide +kernel
theorem d_Mod_score_6 : decode b_Mod_score 6 = .ok (.iload 5, 2) := by decide +kernel
theorem d_Mod_score_8 : decode b_Mod_score 8 = .ok (.aload_n 0, 1) := by decide +kernel
theorem d_Mod_score_9 : decode b_Mod_score 9 = .ok (.getfield 22, 3) := by decide +kernel
theorem d_Mod_score_12 : decode b_Mod_score 12 = .ok (.iload_n 1, 1) := by decide +kernel
theorem d_Mod_score_13 : decode b_Mod_score 13 = .ok (.iaload, 1) := by decide +kernel
theorem d_Mod_score_14 : decode b_Mod_score 14 = .ok (.if_icmp .ge 46, 3) := by decide +kernel
theorem d_Mod_score_17 : decode b_Mod_score 17 = .ok (.aload_n 0, 1) := by decide +kernel
theorem d_Mod_score_18 : decode b_Mod_score 18 = .ok (.getfield 19, 3) := by decide +kernel
theorem d_Mod_score_21 : decode b_Mod_score 21 = .ok (.bipush 8, 2) := by decide +kernel
theorem d_Mod_score_23 : decode b_Mod_score 23 = .ok (.iload_n 1, 1) := by decide +kernel
theorem d_Mod_score_24 : decode b_Mod_score 24 = .ok (.imul, 1) := by decide +kernel
theorem d_Mod_score_25 : decode b_Mod_score 25 = .ok (.iload 5, 2) := by decide +kernel
theorem d_Mod_score_27 : decode b_Mod_score 27 = .ok (.iadd, 1) := by decide +kernel
theorem d_Mod_score_28 : decode b_Mod_score 28 = .ok (.iaload, 1) := by decide +kernel
theorem d_Mod_score_29 : decode b_Mod_score 29 = .ok (.istore 6, 2) := by decide +kernel
theorem d_Mod_score_31 : decode b_Mod_score 31 = .ok (.iload 6, 2) := by decide +kernel
theorem d_Mod_score_33 : decode b_Mod_score 33 = .ok (.iload_n 2, 1) := by decide +kernel
theorem d_Mod_score_34 : decode b_Mod_score 34 = .ok (.if_icmp .eq 9, 3) := by decide +kernel
theorem d_Mod_score_37 : decode b_Mod_score 37 = .ok (.iload 6, 2) := by decide +kernel
theorem d_Mod_score_39 : decode b_Mod_score 39 = .ok (.iload_n 3, 1) := by decide +kernel
theorem d_Mod_score_40 : decode b_Mod_score 40 = .ok (.if_icmp .ne 10, 3) := by decide +kernel
theorem d_Mod_score_43 : decode b_Mod_score 43 = .ok (.iload 4, 2) := by decide +kernel
theorem d_Mod_score_45 : decode b_Mod_score 45 = .ok (.iconst 1, 1) := by decide +kernel
theorem d_Mod_score_46 : decode b_Mod_score 46 = .ok (.iadd, 1) := by decide +kernel
theorem d_Mod_score_47 : decode b_Mod_score 47 = .ok (.goto 5, 3) := by decide +kernel
theorem d_Mod_score_50 : decode b_Mod_score 50 = .ok (.iload 4, 2) := by decide +kernel
theorem d_Mod_score_52 : decode b_Mod_score 52 = .ok (.istore 4, 2) := by decide +kernel
theorem d_Mod_score_54 : decode b_Mod_score 54 = .ok (.iinc 5 1, 3) := by decide +kernel
theorem d_Mod_score_57 : decode b_Mod_score 57 = .ok (.goto (-51), 3) := by decide +kernel
theorem d_Mod_score_60 : decode b_Mod_score 60 = .ok (.aload_n 0, 1) := by decide +kernel
theorem d_Mod_score_61 : decode b_Mod_score 61 = .ok (.iload_n 1, 1) := by decide +kernel
theorem d_Mod_score_62 : decode b_Mod_score 62 = .ok (.invokevirtual 181, 3) := by decide +kernel
theorem d_Mod_score_65 : decode b_Mod_score 65 = .ok (.ifCond .eq 16, 3) := by decide +kernel
theorem d_Mod_score_68 : decode b_Mod_score 68 = .ok (.iload 4, 2) := by decide +kernel
theorem d_Mod_score_70 : decode b_Mod_score 70 = .ok (.i2l, 1) := by decide +kernel
theorem d_Mod_score_71 : decode b_Mod_score 71 = .ok (.aload_n 0, 1) := by decide +kernel
theorem d_Mod_score_72 : decode b_Mod_score 72 = .ok (.getfield 62, 3) := by decide +kernel
theorem d_Mod_score_75 : decode b_Mod_score 75 = .ok (.iload_n 1, 1) := by decide +kernel
theorem d_Mod_score_76 : decode b_Mod_score 76 = .ok (.laload, 1) := by decide +kernel
theorem d_Mod_score_77 : decode b_Mod_score 77 = .ok (.lmul, 1) := by decide +kernel
theorem d_Mod_score_78 : decode b_Mod_score 78 = .ok (.goto 4, 3) := by decide +kernel
theorem d_Mod_score_81 : decode b_Mod_score 81 = .ok (.lconst 0, 1) := by decide +kernel
theorem d_Mod_score_82 : decode b_Mod_score 82 = .ok (.lreturn, 1) := by decide +kernel
theorem d_Mod_comesBefore_0 : decode b_Mod_comesBefore 0 = .ok (.aload_n 0, 1) := by decide +kernel
theorem d_Mod_comesBefore_1 : decode b_Mod_comesBefore 1 = .ok (.iload_n 1, 1) := by decide +kernel
theorem d_Mod_comesBefore_2 : decode b_Mod_comesBefore 2 = .ok (.iload_n 3, 1) := by decide +kernel
theorem d_Mod_comesBefore_3 : decode b_Mod_comesBefore 3 = .ok (.iload 4, 2) := by decide +kernel
theorem d_Mod_comesBefore_5 : decode b_Mod_comesBefore 5 = .ok (.invokevirtual 187, 3) := by decide +kernel
theorem d_Mod_comesBefore_8 : decode b_Mod_comesBefore 8 = .ok (.lstore 5, 2) := by decide +kernel
theorem d_Mod_comesBefore_10 : decode b_Mod_comesBefore 10 = .ok (.aload_n 0, 1) := by decide +kernel
theorem d_Mod_comesBefore_11 : decode b_Mod_comesBefore 11 = .ok (.iload_n 2, 1) := by decide +kernel
theorem d_Mod_comesBefore_12 : decode b_Mod_comesBefore 12 = .ok (.iload_n 3, 1) := by decide +kernel
theorem d_Mod_comesBefore_13 : decode b_Mod_comesBefore 13 = .ok (.iload 4, 2) := by decide +kernel
theorem d_Mod_comesBefore_15 : decode b_Mod_comesBefore 15 = .ok (.invokevirtual 187, 3) := by decide +kernel
theorem d_Mod_comesBefore_18 : decode b_Mod_comesBefore 18 = .ok (.lstore 7, 2) := by decide +kernel
theorem d_Mod_comesBefore_20 : decode b_Mod_comesBefore 20 = .ok (.lload 5, 2) := by decide +kernel
theorem d_Mod_comesBefore_22 : decode b_Mod_comesBefore 22 = .ok (.lload 7, 2) := by decide +kernel
theorem d_Mod_comesBefore_24 : decode b_Mod_comesBefore 24 = .ok (.lcmp, 1) := by decide +kernel
theorem d_Mod_comesBefore_25 : decode b_Mod_comesBefore 25 = .ok (.ifCond .eq 17, 3) := by decide +kernel
theorem d_Mod_comesBefore_28 : decode b_Mod_comesBefore 28 = .ok (.lload 5, 2) := by decide +kernel
theorem d_Mod_comesBefore_30 : decode b_Mod_comesBefore 30 = .ok (.lload 7, 2) := by decide +kernel
theorem d_Mod_comesBefore_32 : decode b_Mod_comesBefore 32 = .ok (.lcmp, 1) := by decide +kernel
theorem d_Mod_comesBefore_33 : decode b_Mod_comesBefore 33 = .ok (.ifCond .le 7, 3) := by decide +kernel
theorem d_Mod_comesBefore_36 : decode b_Mod_comesBefore 36 = .ok (.iconst 1, 1) := by decide +kernel
theorem d_Mod_comesBefore_37 : decode b_Mod_comesBefore 37 = .ok (.goto 4, 3) := by decide +kernel
theorem d_Mod_comesBefore_40 : decode b_Mod_comesBefore 40 = .ok (.iconst 0, 1) := by decide +kernel
theorem d_Mod_comesBefore_41 : decode b_Mod_comesBefore 41 = .ok (.ireturn, 1) := by decide +kernel
theorem d_Mod_comesBefore_42 : decode b_Mod_comesBefore 42 = .ok (.aload_n 0, 1) := by decide +kernel
theorem d_Mod_comesBefore_43 : decode b_Mod_comesBefore 43 = .ok (.getfield 7, 3) := by decide +kernel
theorem d_Mod_comesBefore_46 : decode b_Mod_comesBefore 46 = .ok (.iload_n 1, 1) := by decide +kernel
theorem d_Mod_comesBefore_47 : decode b_Mod_comesBefore 47 = .ok (.iaload, 1) := by decide +kernel
theorem d_Mod_comesBefore_48 : decode b_Mod_comesBefore 48 = .ok (.aload_n 0, 1) := by decide +kernel
theorem d_Mod_comesBefore_49 : decode b_Mod_comesBefore 49 = .ok (.getfield 7, 3) := by decide +kernel
theorem d_Mod_comesBefore_52 : decode b_Mod_comesBefore 52 = .ok (.iload_n 2, 1) := by decide +kernel
theorem d_Mod_comesBefore_53 : decode b_Mod_comesBefore 53 = .ok (.iaload, 1) := by decide +kernel
theorem d_Mod_comesBefore_54 : decode b_Mod_comesBefore 54 = .ok (.if_icmp .lt 33, 3) := by decide +kernel
theorem d_Mod_comesBefore_57 : decode b_Mod_comesBefore 57 = .ok (.aload_n 0, 1) := by decide +kernel
theorem d_Mod_comesBefore_58 : decode b_Mod_comesBefore 58 = .ok (.getfield 7, 3) := by decide +kernel
theorem d_Mod_comesBefore_61 : decode b_Mod_comesBefore 61 = .ok (.iload_n 1, 1) := by decide +kernel
theorem d_Mod_comesBefore_62 : decode b_Mod_comesBefore 62 = .ok (.iaload, 1) := by decide +kernel
theorem d_Mod_comesBefore_63 : decode b_Mod_comesBefore 63 = .ok (.aload_n 0, 1) := by decide +kernel
theorem d_Mod_comesBefore_64 : decode b_Mod_comesBefore 64 = .ok (.getfield 7, 3) := by decide +kernel
theorem d_Mod_comesBefore_67 : decode b_Mod_comesBefore 67 = .ok (.iload_n 2, 1) := by decide +kernel
theorem d_Mod_comesBefore_68 : decode b_Mod_comesBefore 68 = .ok (.iaload, 1) := by decide +kernel
theorem d_Mod_comesBefore_69 : decode b_Mod_comesBefore 69 = .ok (.if_icmp .ne 22, 3) := by decide +kernel
theorem d_Mod_comesBefore_72 : decode b_Mod_comesBefore 72 = .ok (.aload_n 0, 1) := by decide +kernel
theorem d_Mod_comesBefore_73 : decode b_Mod_comesBefore 73 = .ok (.getfield 13, 3) := by decide +kernel
theorem d_Mod_comesBefore_76 : decode b_Mod_comesBefore 76 = .ok (.iload_n 1, 1) := by decide +kernel
theorem d_Mod_comesBefore_77 : decode b_Mod_comesBefore 77 = .ok (.iaload, 1) := by decide +kernel
theorem d_Mod_comesBefore_78 : decode b_Mod_comesBefore 78 = .ok (.aload_n 0, 1) := by decide +kernel
theorem d_Mod_comesBefore_79 : decode b_Mod_comesBefore 79 = .ok (.getfield 13, 3) := by decide +kernel
theorem d_Mod_comesBefore_82 : decode b_Mod_comesBefore 82 = .ok (.iload_n 2, 1) := by decide +kernel
theorem d_Mod_comesBefore_83 : decode b_Mod_comesBefore 83 = .ok (.iaload, 1) := by decide +kernel
theorem d_Mod_comesBefore_84 : decode b_Mod_comesBefore 84 = .ok (.if_icmp .ge 7, 3) := by decide +kernel
theorem d_Mod_comesBefore_87 : decode b_Mod_comesBefore 87 = .ok (.iconst 1, 1) := by decide +kernel
theorem d_Mod_comesBefore_88 : decode b_Mod_comesBefore 88 = .ok (.goto 4, 3) := by decide +kernel
theorem d_Mod_comesBefore_91 : decode b_Mod_comesBefore 91 = .ok (.iconst 0, 1) := by decide +kernel
theorem d_Mod_comesBefore_92 : decode b_Mod_comesBefore 92 = .ok (.ireturn, 1) := by decide +kernel
theorem d_Mod_best_0 : decode b_Mod_best 0 = .ok (.aload_n 0, 1) := by decide +kernel
theorem d_Mod_best_1 : decode b_Mod_best 1 = .ok (.getfield 73, 3) := by decide +kernel
theorem d_Mod_best_4 : decode b_Mod_best 4 = .ok (.ifCond .ne 5, 3) := by decide +kernel
theorem d_Mod_best_7 : decode b_Mod_best 7 = .ok (.iconst (-1), 1) := by decide +kernel
theorem d_Mod_best_8 : decode b_Mod_best 8 = .ok (.ireturn, 1) := by decide +kernel
theorem d_Mod_best_9 : decode b_Mod_best 9 = .ok (.aload_n 0, 1) := by decide +kernel
theorem d_Mod_best_10 : decode b_Mod_best 10 = .ok (.bipush 8, 2) := by decide +kernel
theorem d_Mod_best_12 : decode b_Mod_best 12 = .ok (.invokevirtual 184, 3) := by decide +kernel
theorem d_Mod_best_15 : decode b_Mod_best 15 = .ok (.iconst 0, 1) := by decide +kernel
theorem d_Mod_best_16 : decode b_Mod_best 16 = .ok (.istore 4, 2) := by decide +kernel
theorem d_Mod_best_18 : decode b_Mod_best 18 = .ok (.iload 4, 2) := by decide +kernel
theorem d_Mod_best_20 : decode b_Mod_best 20 = .ok (.aload_n 0, 1) := by decide +kernel
theorem d_Mod_best_21 : decode b_Mod_best 21 = .ok (.getfield 114, 3) := by decide +kernel
theorem d_Mod_best_24 : decode b_Mod_best 24 = .ok (.if_icmp .ge 120, 3) := by decide +kernel
theorem d_Mod_best_27 : decode b_Mod_best 27 = .ok (.aload_n 0, 1) := by decide +kernel
theorem d_Mod_best_28 : decode b_Mod_best 28 = .ok (.getfield 53, 3) := by decide +kernel
theorem d_Mod_best_31 : decode b_Mod_best 31 = .ok (.iload 4, 2) := by decide +kernel
theorem d_Mod_best_33 : decode b_Mod_best 33 = .ok (.iaload, 1) := by decide +kernel
theorem d_Mod_best_34 : decode b_Mod_best 34 = .ok (.istore 5, 2) := by decide +kernel
theorem d_Mod_best_36 : decode b_Mod_best 36 = .ok (.aload_n 0, 1) := by decide +kernel
theorem d_Mod_best_37 : decode b_Mod_best 37 = .ok (.iload 5, 2) := by decide +kernel
theorem d_Mod_best_39 : decode b_Mod_best 39 = .ok (.iload_n 1, 1) := by decide +kernel
theorem d_Mod_best_40 : decode b_Mod_best 40 = .ok (.iload_n 2, 1) := by decide +kernel
theorem d_Mod_best_41 : decode b_Mod_best 41 = .ok (.invokevirtual 187, 3) := by decide +kernel
theorem d_Mod_best_44 : decode b_Mod_best 44 = .ok (.lconst 0, 1) := by decide +kernel
theorem d_Mod_best_45 : decode b_Mod_best 45 = .ok (.lcmp, 1) := by decide +kernel
theorem d_Mod_best_46 : decode b_Mod_best 46 = .ok (.ifCond .le 92, 3) := by decide +kernel
theorem d_Mod_best_49 : decode b_Mod_best 49 = .ok (.iconst 0, 1) := by decide +kernel
theorem d_Mod_best_50 : decode b_Mod_best 50 = .ok (.istore 6, 2) := by decide +kernel
theorem d_Mod_best_52 : decode b_Mod_best 52 = .ok (.iconst 0, 1) := by decide +kernel
theorem d_Mod_best_53 : decode b_Mod_best 53 = .ok (.istore 7, 2) := by decide +kernel
theorem d_Mod_best_55 : decode b_Mod_best 55 = .ok (.iload 7, 2) := by decide +kernel
theorem d_Mod_best_57 : decode b_Mod_best 57 = .ok (.aload_n 0, 1) := by decide +kernel
theorem d_Mod_best_58 : decode b_Mod_best 58 = .ok (.getfield 114, 3) := by decide +kernel
theorem d_Mod_best_61 : decode b_Mod_best 61 = .ok (.if_icmp .ge 68, 3) := by decide +kernel
theorem d_Mod_best_64 : decode b_Mod_best 64 = .ok (.aload_n 0, 1) := by decide +kernel
theorem d_Mod_best_65 : decode b_Mod_best 65 = .ok (.aload_n 0, 1) := by decide +kernel
theorem d_Mod_best_66 : decode b_Mod_best 66 = .ok (.getfield 53, 3) := by decide +kernel
theorem d_Mod_best_69 : decode b_Mod_best 69 = .ok (.iload 7, 2) := by decide +kernel
theorem d_Mod_best_71 : decode b_Mod_best 71 = .ok (.iaload, 1) := by decide +kernel
theorem d_Mod_best_72 : decode b_Mod_best 72 = .ok (.iload_n 1, 1) := by decide +kernel
theorem d_Mod_best_73 : decode b_Mod_best 73 = .ok (.iload_n 2, 1) := by decide +kernel
theorem d_Mod_best_74 : decode b_Mod_best 74 = .ok (.invokevirtual 187, 3) := by decide +kernel
theorem d_Mod_best_77 : decode b_Mod_best 77 = .ok (.lconst 0, 1) := by decide +kernel
theorem d_Mod_best_78 : decode b_Mod_best 78 = .ok (.lcmp, 1) := by decide +kernel
theorem d_Mod_best_79 : decode b_Mod_best 79 = .ok (.ifCond .le 7, 3) := by decide +kernel
theorem d_Mod_best_82 : decode b_Mod_best 82 = .ok (.iconst 1, 1) := by decide +kernel
theorem d_Mod_best_83 : decode b_Mod_best 83 = .ok (.goto 4, 3) := by decide +kernel
theorem d_Mod_best_86 : decode b_Mod_best 86 = .ok (.iconst 0, 1) := by decide +kernel
theorem d_Mod_best_87 : decode b_Mod_best 87 = .ok (.istore 8, 2) := by decide +kernel
theorem d_Mod_best_89 : decode b_Mod_best 89 = .ok (.iload 8, 2) := by decide +kernel
theorem d_Mod_best_91 : decode b_Mod_best 91 = .ok (.ifCond .eq 28, 3) := by decide +kernel
theorem d_Mod_best_94 : decode b_Mod_best 94 = .ok (.aload_n 0, 1) := by decide +kernel
theorem d_Mod_best_95 : decode b_Mod_best 95 = .ok (.aload_n 0, 1) := by decide +kernel
theorem d_Mod_best_96 : decode b_Mod_best 96 = .ok (.getfield 53, 3) := by decide +kernel
theorem d_Mod_best_99 : decode b_Mod_best 99 = .ok (.iload 7, 2) := by decide +kernel
theorem d_Mod_best_101 : decode b_Mod_best 101 = .ok (.iaload, 1) := by decide +kernel
theorem d_Mod_best_102 : decode b_Mod_best 102 = .ok (.iload 5, 2) := by decide +kernel
theorem d_Mod_best_104 : decode b_Mod_best 104 = .ok (.iload_n 1, 1) := by decide +kernel
theorem d_Mod_best_105 : decode b_Mod_best 105 = .ok (.iload_n 2, 1) := by decide +kernel
theorem d_Mod_best_106 : decode b_Mod_best 106 = .ok (.invokevirtual 191, 3) := by decide +kernel
theorem d_Mod_best_109 : decode b_Mod_best 109 = .ok (.ifCond .eq 10, 3) := by decide +kernel
theorem d_Mod_best_112 : decode b_Mod_best 112 = .ok (.iload 6, 2) := by decide +kernel
theorem d_Mod_best_114 : decode b_Mod_best 114 = .ok (.iconst 1, 1) := by decide +kernel
theorem d_Mod_best_115 : decode b_Mod_best 115 = .ok (.iadd, 1) := by decide +kernel
theorem d_Mod_best_116 : decode b_Mod_best 116 = .ok (.goto 5, 3) := by decide +kernel
theorem d_Mod_best_119 : decode b_Mod_best 119 = .ok (.iload 6, 2) := by decide +kernel
theorem d_Mod_best_121 : decode b_Mod_best 121 = .ok (.istore 6, 2) := by decide +kernel
theorem d_Mod_best_123 : decode b_Mod_best 123 = .ok (.iinc 7 1, 3) := by decide +kernel
theorem d_Mod_best_126 : decode b_Mod_best 126 = .ok (.goto (-71), 3) := by decide +kernel
theorem d_Mod_best_129 : decode b_Mod_best 129 = .ok (.iload 6, 2) := by decide +kernel
theorem d_Mod_best_131 : decode b_Mod_best 131 = .ok (.iload_n 3, 1) := by decide +kernel
theorem d_Mod_best_132 : decode b_Mod_best 132 = .ok (.if_icmp .ne 6, 3) := by decide +kernel
theorem d_Mod_best_135 : decode b_Mod_best 135 = .ok (.iload 5, 2) := by decide +kernel
theorem d_Mod_best_137 : decode b_Mod_best 137 = .ok (.ireturn, 1) := by decide +kernel
theorem d_Mod_best_138 : decode b_Mod_best 138 = .ok (.iinc 4 1, 3) := by decide +kernel
theorem d_Mod_best_141 : decode b_Mod_best 141 = .ok (.goto (-123), 3) := by decide +kernel
theorem d_Mod_best_144 : decode b_Mod_best 144 = .ok (.iconst (-1), 1) := by decide +kernel
theorem d_Mod_best_145 : decode b_Mod_best 145 = .ok (.ireturn, 1) := by decide +kernel

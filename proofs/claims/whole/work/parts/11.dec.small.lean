/-! Decoded instructions of Host. -/
theorem d_Host_init_0 : decode b_Host_init 0 = .ok (.aload_n 0, 1) := by decide +kernel
theorem d_Host_init_1 : decode b_Host_init 1 = .ok (.invokespecial 3, 3) := by decide +kernel
theorem d_Host_init_4 : decode b_Host_init 4 = .ok (.aload_n 0, 1) := by decide +kernel
theorem d_Host_init_5 : decode b_Host_init 5 = .ok (.iconst 4, 1) := by decide +kernel
theorem d_Host_init_6 : decode b_Host_init 6 = .ok (.newarray .int, 2) := by decide +kernel
theorem d_Host_init_8 : decode b_Host_init 8 = .ok (.putfield 9, 3) := by decide +kernel
theorem d_Host_init_11 : decode b_Host_init 11 = .ok (.aload_n 0, 1) := by decide +kernel
theorem d_Host_init_12 : decode b_Host_init 12 = .ok (.iconst 4, 1) := by decide +kernel
theorem d_Host_init_13 : decode b_Host_init 13 = .ok (.newarray .boolean, 2) := by decide +kernel
theorem d_Host_init_15 : decode b_Host_init 15 = .ok (.putfield 15, 3) := by decide +kernel
theorem d_Host_init_18 : decode b_Host_init 18 = .ok (.aload_n 0, 1) := by decide +kernel
theorem d_Host_init_19 : decode b_Host_init 19 = .ok (.iconst 0, 1) := by decide +kernel
theorem d_Host_init_20 : decode b_Host_init 20 = .ok (.putfield 19, 3) := by decide +kernel
theorem d_Host_init_23 : decode b_Host_init 23 = .ok (.return_, 1) := by decide +kernel
theorem d_Host_addRule_0 : decode b_Host_addRule 0 = .ok (.aload_n 0, 1) := by decide +kernel
theorem d_Host_addRule_1 : decode b_Host_addRule 1 = .ok (.getfield 19, 3) := by decide +kernel
theorem d_Host_addRule_4 : decode b_Host_addRule 4 = .ok (.iconst 4, 1) := by decide +kernel
theorem d_Host_addRule_5 : decode b_Host_addRule 5 = .ok (.if_icmp .lt 5, 3) := by decide +kernel
theorem d_Host_addRule_8 : decode b_Host_addRule 8 = .ok (.iconst 0, 1) := by decide +kernel
theorem d_Host_addRule_9 : decode b_Host_addRule 9 = .ok (.ireturn, 1) := by decide +kernel
theorem d_Host_addRule_10 : decode b_Host_addRule 10 = .ok (.aload_n 0, 1) := by decide +kernel
theorem d_Host_addRule_11 : decode b_Host_addRule 11 = .ok (.getfield 9, 3) := by decide +kernel
theorem d_Host_addRule_14 : decode b_Host_addRule 14 = .ok (.aload_n 0, 1) := by decide +kernel
theorem d_Host_addRule_15 : decode b_Host_addRule 15 = .ok (.getfield 19, 3) := by decide +kernel
theorem d_Host_addRule_18 : decode b_Host_addRule 18 = .ok (.iload_n 1, 1) := by decide +kernel
theorem d_Host_addRule_19 : decode b_Host_addRule 19 = .ok (.iastore, 1) := by decide +kernel
theorem d_Host_addRule_20 : decode b_Host_addRule 20 = .ok (.aload_n 0, 1) := by decide +kernel
theorem d_Host_addRule_21 : decode b_Host_addRule 21 = .ok (.getfield 15, 3) := by decide +kernel
theorem d_Host_addRule_24 : decode b_Host_addRule 24 = .ok (.aload_n 0, 1) := by decide +kernel
theorem d_Host_addRule_25 : decode b_Host_addRule 25 = .ok (.getfield 19, 3) := by decide +kernel
theorem d_Host_addRule_28 : decode b_Host_addRule 28 = .ok (.iload_n 2, 1) := by decide +kernel
theorem d_Host_addRule_29 : decode b_Host_addRule 29 = .ok (.bastore, 1) := by decide +kernel
theorem d_Host_addRule_30 : decode b_Host_addRule 30 = .ok (.aload_n 0, 1) := by decide +kernel
theorem d_Host_addRule_31 : decode b_Host_addRule 31 = .ok (.dup, 1) := by decide +kernel
theorem d_Host_addRule_32 : decode b_Host_addRule 32 = .ok (.getfield 19, 3) := by decide +kernel
theorem d_Host_addRule_35 : decode b_Host_addRule 35 = .ok (.iconst 1, 1) := by decide +kernel
theorem d_Host_addRule_36 : decode b_Host_addRule 36 = .ok (.iadd, 1) := by decide +kernel
theorem d_Host_addRule_37 : decode b_Host_addRule 37 = .ok (.putfield 19, 3) := by decide +kernel
theorem d_Host_addRule_40 : decode b_Host_addRule 40 = .ok (.iconst 1, 1) := by decide +kernel
theorem d_Host_addRule_41 : decode b_Host_addRule 41 = .ok (.ireturn, 1) := by decide +kernel
theorem d_Host_allowsPath_0 : decode b_Host_allowsPath 0 = .ok (.iconst (-1), 1) := by decide +kernel
theorem d_Host_allowsPath_1 : decode b_Host_allowsPath 1 = .ok (.istore_n 2, 1) := by decide +kernel
theorem d_Host_allowsPath_2 : decode b_Host_allowsPath 2 = .ok (.iconst 1, 1) := by decide +kernel
theorem d_Host_allowsPath_3 : decode b_Host_allowsPath 3 = .ok (.istore_n 3, 1) := by decide +kernel
theorem d_Host_allowsPath_4 : decode b_Host_allowsPath 4 = .ok (.iconst 0, 1) := by decide +kernel
theorem d_Host_allowsPath_5 : decode b_Host_allowsPath 5 = .ok (.istore 4, 2) := by decide +kernel
theorem d_Host_allowsPath_7 : decode b_Host_allowsPath 7 = .ok (.iload 4, 2) := by decide +kernel
theorem d_Host_allowsPath_9 : decode b_Host_allowsPath 9 = .ok (.aload_n 0, 1) := by decide +kernel
theorem d_Host_allowsPath_10 : decode b_Host_allowsPath 10 = .ok (.getfield 19, 3) := by decide +kernel
theorem d_Host_allowsPath_13 : decode b_Host_allowsPath 13 = .ok (.if_icmp .ge 65, 3) := by decide +kernel
theorem d_Host_allowsPath_16 : decode b_Host_allowsPath 16 = .ok (.aload_n 0, 1) := by decide +kernel
theorem d_Host_allowsPath_17 : decode b_Host_allowsPath 17 = .ok (.getfield 9, 3) := by decide +kernel
theorem d_Host_allowsPath_20 : decode b_Host_allowsPath 20 = .ok (.iload 4, 2) := by decide +kernel
theorem d_Host_allowsPath_22 : decode b_Host_allowsPath 22 = .ok (.iaload, 1) := by decide +kernel
theorem d_Host_allowsPath_23 : decode b_Host_allowsPath 23 = .ok (.istore 5, 2) := by decide +kernel
theorem d_Host_allowsPath_25 : decode b_Host_allowsPath 25 = .ok (.iload 5, 2) := by decide +kernel
theorem d_Host_allowsPath_27 : decode b_Host_allowsPath 27 = .ok (.iload_n 2, 1) := by decide +kernel
theorem d_Host_allowsPath_28 : decode b_Host_allowsPath 28 = .ok (.if_icmp .lt 44, 3) := by decide +kernel
theorem d_Host_allowsPath_31 : decode b_Host_allowsPath 31 = .ok (.iload 5, 2) := by decide +kernel
theorem d_Host_allowsPath_33 : decode b_Host_allowsPath 33 = .ok (.iload_n 1, 1) := by decide +kernel
theorem d_Host_allowsPath_34 : decode b_Host_allowsPath 34 = .ok (.invokestatic 23, 3) := by decide +kernel
theorem d_Host_allowsPath_37 : decode b_Host_allowsPath 37 = .ok (.ifCond .ne 6, 3) := by decide +kernel
theorem d_Host_allowsPath_40 : decode b_Host_allowsPath 40 = .ok (.goto 32, 3) := by decide +kernel
theorem d_Host_allowsPath_43 : decode b_Host_allowsPath 43 = .ok (.aload_n 0, 1) := by decide +kernel
theorem d_Host_allowsPath_44 : decode b_Host_allowsPath 44 = .ok (.getfield 15, 3) := by decide +kernel
theorem d_Host_allowsPath_47 : decode b_Host_allowsPath 47 = .ok (.iload 4, 2) := by decide +kernel
theorem d_Host_allowsPath_49 : decode b_Host_allowsPath 49 = .ok (.baload, 1) := by decide +kernel
theorem d_Host_allowsPath_50 : decode b_Host_allowsPath 50 = .ok (.ifCond .ne 13, 3) := by decide +kernel
theorem d_Host_allowsPath_53 : decode b_Host_allowsPath 53 = .ok (.iload 5, 2) := by decide +kernel
theorem d_Host_allowsPath_55 : decode b_Host_allowsPath 55 = .ok (.iload_n 2, 1) := by decide +kernel
theorem d_Host_allowsPath_56 : decode b_Host_allowsPath 56 = .ok (.if_icmp .ne 11, 3) := by decide +kernel
theorem d_Host_allowsPath_59 : decode b_Host_allowsPath 59 = .ok (.iload_n 3, 1) := by decide +kernel
theorem d_Host_allowsPath_60 : decode b_Host_allowsPath 60 = .ok (.ifCond .eq 7, 3) := by decide +kernel
theorem d_Host_allowsPath_63 : decode b_Host_allowsPath 63 = .ok (.iconst 1, 1) := by decide +kernel
theorem d_Host_allowsPath_64 : decode b_Host_allowsPath 64 = .ok (.goto 4, 3) := by decide +kernel
theorem d_Host_allowsPath_67 : decode b_Host_allowsPath 67 = .ok (.iconst 0, 1) := by decide +kernel
theorem d_Host_allowsPath_68 : decode b_Host_allowsPath 68 = .ok (.istore_n 3, 1) := by decide +kernel
theorem d_Host_allowsPath_69 : decode b_Host_allowsPath 69 = .ok (.iload 5, 2) := by decide +kernel
theorem d_Host_allowsPath_71 : decode b_Host_allowsPath 71 = .ok (.istore_n 2, 1) := by decide +kernel
theorem d_Host_allowsPath_72 : decode b_Host_allowsPath 72 = .ok (.iinc 4 1, 3) := by decide +kernel
theorem d_Host_allowsPath_75 : decode b_Host_allowsPath 75 = .ok (.goto (-68), 3) := by decide +kernel
theorem d_Host_allowsPath_78 : decode b_Host_allowsPath 78 = .ok (.iload_n 3, 1) := by decide +kernel
theorem d_Host_allowsPath_79 : decode b_Host_allowsPath 79 = .ok (.ireturn, 1) := by decide +kernel
theorem d_Host_isPrefix_0 : decode b_Host_isPrefix 0 = .ok (.iload_n 1, 1) := by decide +kernel
theorem d_Host_isPrefix_1 : decode b_Host_isPrefix 1 = .ok (.istore_n 2, 1) := by decide +kernel
theorem d_Host_isPrefix_2 : decode b_Host_isPrefix 2 = .ok (.iload_n 2, 1) := by decide +kernel
theorem d_Host_isPrefix_3 : decode b_Host_isPrefix 3 = .ok (.ifCond .le 18, 3) := by decide +kernel
theorem d_Host_isPrefix_6 : decode b_Host_isPrefix 6 = .ok (.iload_n 2, 1) := by decide +kernel
theorem d_Host_isPrefix_7 : decode b_Host_isPrefix 7 = .ok (.iload_n 0, 1) := by decide +kernel
theorem d_Host_isPrefix_8 : decode b_Host_isPrefix 8 = .ok (.if_icmp .ne 5, 3) := by decide +kernel
theorem d_Host_isPrefix_11 : decode b_Host_isPrefix 11 = .ok (.iconst 1, 1) := by decide +kernel
theorem d_Host_isPrefix_12 : decode b_Host_isPrefix 12 = .ok (.ireturn, 1) := by decide +kernel
theorem d_Host_isPrefix_13 : decode b_Host_isPrefix 13 = .ok (.iload_n 2, 1) := by decide +kernel
theorem d_Host_isPrefix_14 : decode b_Host_isPrefix 14 = .ok (.bipush 10, 2) := by decide +kernel
theorem d_Host_isPrefix_16 : decode b_Host_isPrefix 16 = .ok (.idiv, 1) := by decide +kernel
theorem d_Host_isPrefix_17 : decode b_Host_isPrefix 17 = .ok (.istore_n 2, 1) := by decide +kernel
theorem d_Host_isPrefix_18 : decode b_Host_isPrefix 18 = .ok (.goto (-16), 3) := by decide +kernel
theorem d_Host_isPrefix_21 : decode b_Host_isPrefix 21 = .ok (.iload_n 0, 1) := by decide +kernel
theorem d_Host_isPrefix_22 : decode b_Host_isPrefix 22 = .ok (.ifCond .ne 7, 3) := by decide +kernel
theorem d_Host_isPrefix_25 : decode b_Host_isPrefix 25 = .ok (.iconst 1, 1) := by decide +kernel
theorem d_Host_isPrefix_26 : decode b_Host_isPrefix 26 = .ok (.goto 4, 3) := by decide +kernel
theorem d_Host_isPrefix_29 : decode b_Host_isPrefix 29 = .ok (.iconst 0, 1) := by decide +kernel
theorem d_Host_isPrefix_30 : decode b_Host_isPrefix 30 = .ok (.ireturn, 1) := by decide +kernel
/-! Decoded instructions of Page. -/
theorem d_Page_init_0 : decode b_Page_init 0 = .ok (.aload_n 0, 1) := by decide +kernel
theorem d_Page_init_1 : decode b_Page_init 1 = .ok (.invokespecial 3, 3) := by decide +kernel
theorem d_Page_init_4 : decode b_Page_init 4 = .ok (.aload_n 0, 1) := by decide +kernel
theorem d_Page_init_5 : decode b_Page_init 5 = .ok (.iload_n 1, 1) := by decide +kernel
theorem d_Page_init_6 : decode b_Page_init 6 = .ok (.putfield 9, 3) := by decide +kernel
theorem d_Page_init_9 : decode b_Page_init 9 = .ok (.aload_n 0, 1) := by decide +kernel
theorem d_Page_init_10 : decode b_Page_init 10 = .ok (.iload_n 2, 1) := by decide +kernel
theorem d_Page_init_11 : decode b_Page_init 11 = .ok (.putfield 15, 3) := by decide +kernel
theorem d_Page_init_14 : decode b_Page_init 14 = .ok (.aload_n 0, 1) := by decide +kernel
theorem d_Page_init_15 : decode b_Page_init 15 = .ok (.new 18, 3) := by decide +kernel
theorem d_Page_init_18 : decode b_Page_init 18 = .ok (.dup, 1) := by decide +kernel
theorem d_Page_init_19 : decode b_Page_init 19 = .ok (.bipush 8, 2) := by decide +kernel
theorem d_Page_init_21 : decode b_Page_init 21 = .ok (.invokespecial 20, 3) := by decide +kernel
theorem d_Page_init_24 : decode b_Page_init 24 = .ok (.putfield 23, 3) := by decide +kernel
theorem d_Page_init_27 : decode b_Page_init 27 = .ok (.aload_n 0, 1) := by decide +kernel
theorem d_Page_init_28 : decode b_Page_init 28 = .ok (.new 18, 3) := by decide +kernel
theorem d_Page_init_31 : decode b_Page_init 31 = .ok (.dup, 1) := by decide +kernel
theorem d_Page_init_32 : decode b_Page_init 32 = .ok (.iconst 5, 1) := by decide +kernel
theorem d_Page_init_33 : decode b_Page_init 33 = .ok (.invokespecial 20, 3) := by decide +kernel
theorem d_Page_init_36 : decode b_Page_init 36 = .ok (.putfield 27, 3) := by decide +kernel
theorem d_Page_init_39 : decode b_Page_init 39 = .ok (.aload_n 0, 1) := by decide +kernel
theorem d_Page_init_40 : decode b_Page_init 40 = .ok (.getstatic 30, 3) := by decide +kernel
theorem d_Page_init_43 : decode b_Page_init 43 = .ok (.putfield 36, 3) := by decide +kernel
theorem d_Page_init_46 : decode b_Page_init 46 = .ok (.aload_n 0, 1) := by decide +kernel
theorem d_Page_init_47 : decode b_Page_init 47 = .ok (.iconst (-1), 1) := by decide +kernel
theorem d_Page_init_48 : decode b_Page_init 48 = .ok (.putfield 39, 3) := by decide +kernel
theorem d_Page_init_51 : decode b_Page_init 51 = .ok (.return_, 1) := by decide +kernel
theorem d_Page_comesBefore_0 : decode b_Page_comesBefore 0 = .ok (.aload_n 0, 1) := by decide +kernel
theorem d_Page_comesBefore_1 : decode b_Page_comesBefore 1 = .ok (.getfield 9, 3) := by decide +kernel
theorem d_Page_comesBefore_4 : decode b_Page_comesBefore 4 = .ok (.aload_n 1, 1) := by decide +kernel
theorem d_Page_comesBefore_5 : decode b_Page_comesBefore 5 = .ok (.getfield 9, 3) := by decide +kernel
theorem d_Page_comesBefore_8 : decode b_Page_comesBefore 8 = .ok (.if_icmp .eq 22, 3) := by decide +kernel
theorem d_Page_comesBefore_11 : decode b_Page_comesBefore 11 = .ok (.aload_n 0, 1) := by decide +kernel
theorem d_Page_comesBefore_12 : decode b_Page_comesBefore 12 = .ok (.getfield 9, 3) := by decide +kernel
theorem d_Page_comesBefore_15 : decode b_Page_comesBefore 15 = .ok (.aload_n 1, 1) := by decide +kernel
theorem d_Page_comesBefore_16 : decode b_Page_comesBefore 16 = .ok (.getfield 9, 3) := by decide +kernel
theorem d_Page_comesBefore_19 : decode b_Page_comesBefore 19 = .ok (.if_icmp .ge 7, 3) := by decide +kernel
theorem d_Page_comesBefore_22 : decode b_Page_comesBefore 22 = .ok (.iconst 1, 1) := by decide +kernel
theorem d_Page_comesBefore_23 : decode b_Page_comesBefore 23 = .ok (.goto 23, 3) := by decide +kernel
theorem d_Page_comesBefore_26 : decode b_Page_comesBefore 26 = .ok (.iconst 0, 1) := by decide +kernel
theorem d_Page_comesBefore_27 : decode b_Page_comesBefore 27 = .ok (.goto 19, 3) := by decide +kernel
theorem d_Page_comesBefore_30 : decode b_Page_comesBefore 30 = .ok (.aload_n 0, 1) := by decide +kernel
theorem d_Page_comesBefore_31 : decode b_Page_comesBefore 31 = .ok (.getfield 15, 3) := by decide +kernel
theorem d_Page_comesBefore_34 : decode b_Page_comesBefore 34 = .ok (.aload_n 1, 1) := by decide +kernel
theorem d_Page_comesBefore_35 : decode b_Page_comesBefore 35 = .ok (.getfield 15, 3) := by decide +kernel
theorem d_Page_comesBefore_38 : decode b_Page_comesBefore 38 = .ok (.if_icmp .ge 7, 3) := by decide +kernel
theorem d_Page_comesBefore_41 : decode b_Page_comesBefore 41 = .ok (.iconst 1, 1) := by decide +kernel
theorem d_Page_comesBefore_42 : decode b_Page_comesBefore 42 = .ok (.goto 4, 3) := by decide +kernel
theorem d_Page_comesBefore_45 : decode b_Page_comesBefore 45 = .ok (.iconst 0, 1) := by decide +kernel
theorem d_Page_comesBefore_46 : decode b_Page_comesBefore 46 = .ok (.ireturn, 1) := by decide +kernel
theorem d_Page_placesOf_0 : decode b_Page_placesOf 0 = .ok (.iconst 0, 1) := by decide +kernel
theorem d_Page_placesOf_1 : decode b_Page_placesOf 1 = .ok (.istore_n 3, 1) := by decide +kernel
theorem d_Page_placesOf_2 : decode b_Page_placesOf 2 = .ok (.iconst 0, 1) := by decide +kernel
theorem d_Page_placesOf_3 : decode b_Page_placesOf 3 = .ok (.istore 4, 2) := by decide +kernel
theorem d_Page_placesOf_5 : decode b_Page_placesOf 5 = .ok (.iload 4, 2) := by decide +kernel
theorem d_Page_placesOf_7 : decode b_Page_placesOf 7 = .ok (.aload_n 0, 1) := by decide +kernel
theorem d_Page_placesOf_8 : decode b_Page_placesOf 8 = .ok (.getfield 23, 3) := by decide +kernel
theorem d_Page_placesOf_11 : decode b_Page_placesOf 11 = .ok (.getfield 42, 3) := by decide +kernel
theorem d_Page_placesOf_14 : decode b_Page_placesOf 14 = .ok (.if_icmp .ge 35, 3) := by decide +kernel
theorem d_Page_placesOf_17 : decode b_Page_placesOf 17 = .ok (.aload_n 0, 1) := by decide +kernel
theorem d_Page_placesOf_18 : decode b_Page_placesOf 18 = .ok (.getfield 23, 3) := by decide +kernel
theorem d_Page_placesOf_21 : decode b_Page_placesOf 21 = .ok (.iload 4, 2) := by decide +kernel
theorem d_Page_placesOf_23 : decode b_Page_placesOf 23 = .ok (.invokevirtual 45, 3) := by decide +kernel
theorem d_Page_placesOf_26 : decode b_Page_placesOf 26 = .ok (.istore 5, 2) := by decide +kernel
theorem d_Page_placesOf_28 : decode b_Page_placesOf 28 = .ok (.iload 5, 2) := by decide +kernel
theorem d_Page_placesOf_30 : decode b_Page_placesOf 30 = .ok (.iload_n 1, 1) := by decide +kernel
theorem d_Page_placesOf_31 : decode b_Page_placesOf 31 = .ok (.if_icmp .eq 9, 3) := by decide +kernel
theorem d_Page_placesOf_34 : decode b_Page_placesOf 34 = .ok (.iload 5, 2) := by decide +kernel
theorem d_Page_placesOf_36 : decode b_Page_placesOf 36 = .ok (.iload_n 2, 1) := by decide +kernel
theorem d_Page_placesOf_37 : decode b_Page_placesOf 37 = .ok (.if_icmp .ne 6, 3) := by decide +kernel
theorem d_Page_placesOf_40 : decode b_Page_placesOf 40 = .ok (.iinc 3 1, 3) := by decide +kernel
theorem d_Page_placesOf_43 : decode b_Page_placesOf 43 = .ok (.iinc 4 1, 3) := by decide +kernel
theorem d_Page_placesOf_46 : decode b_Page_placesOf 46 = .ok (.goto (-41), 3) := by decide +kernel
theorem d_Page_placesOf_49 : decode b_Page_placesOf 49 = .ok (.iload_n 3, 1) := by decide +kernel
theorem d_Page_placesOf_50 : decode b_Page_placesOf 50 = .ok (.ireturn, 1) := by decide +kernel
/-! Decoded instructions of Web. -/
theorem d_Web_init_0 : decode b_Web_init 0 = .ok (.aload_n 0, 1) := by decide +kernel
theorem d_Web_init_1 : decode b_Web_init 1 = .ok (.invokespecial 3, 3) := by decide +kernel
theorem d_Web_init_4 : decode b_Web_init 4 = .ok (.aload_n 0, 1) := by decide +kernel
theorem d_Web_init_5 : decode b_Web_init 5 = .ok (.bipush 32, 2) := by decide +kernel
theorem d_Web_init_7 : decode b_Web_init 7 = .ok (.anewarray 9, 3) := by decide +kernel
theorem d_Web_init_10 : decode b_Web_init 10 = .ok (.putfield 11, 3) := by decide +kernel
theorem d_Web_init_13 : decode b_Web_init 13 = .ok (.aload_n 0, 1) := by decide +kernel
theorem d_Web_init_14 : decode b_Web_init 14 = .ok (.bipush 6, 2) := by decide +kernel
theorem d_Web_init_16 : decode b_Web_init 16 = .ok (.anewarray 17, 3) := by decide +kernel
theorem d_Web_init_19 : decode b_Web_init 19 = .ok (.putfield 19, 3) := by decide +kernel
theorem d_Web_init_22 : decode b_Web_init 22 = .ok (.iconst 0, 1) := by decide +kernel
theorem d_Web_init_23 : decode b_Web_init 23 = .ok (.istore_n 1, 1) := by decide +kernel
theorem d_Web_init_24 : decode b_Web_init 24 = .ok (.iload_n 1, 1) := by decide +kernel
theorem d_Web_init_25 : decode b_Web_init 25 = .ok (.bipush 6, 2) := by decide +kernel
theorem d_Web_init_27 : decode b_Web_init 27 = .ok (.if_icmp .ge 22, 3) := by decide +kernel
theorem d_Web_init_30 : decode b_Web_init 30 = .ok (.aload_n 0, 1) := by decide +kernel
theorem d_Web_init_31 : decode b_Web_init 31 = .ok (.getfield 19, 3) := by decide +kernel
theorem d_Web_init_34 : decode b_Web_init 34 = .ok (.iload_n 1, 1) := by decide +kernel
theorem d_Web_init_35 : decode b_Web_init 35 = .ok (.new 17, 3) := by decide +kernel
theorem d_Web_init_38 : decode b_Web_init 38 = .ok (.dup, 1) := by decide +kernel
theorem d_Web_init_39 : decode b_Web_init 39 = .ok (.invokespecial 23, 3) := by decide +kernel
theorem d_Web_init_42 : decode b_Web_init 42 = .ok (.aastore, 1) := by decide +kernel
theorem d_Web_init_43 : decode b_Web_init 43 = .ok (.iinc 1 1, 3) := by decide +kernel
theorem d_Web_init_46 : decode b_Web_init 46 = .ok (.goto (-22), 3) := by decide +kernel
theorem d_Web_init_49 : decode b_Web_init 49 = .ok (.aload_n 0, 1) := by decide +kernel
theorem d_Web_init_50 : decode b_Web_init 50 = .ok (.new 24, 3) := by decide +kernel
theorem d_Web_init_53 : decode b_Web_init 53 = .ok (.dup, 1) := by decide +kernel
theorem d_Web_init_54 : decode b_Web_init 54 = .ok (.bipush 6, 2) := by decide +kernel
theorem d_Web_init_56 : decode b_Web_init 56 = .ok (.invokespecial 26, 3) := by decide +kernel
theorem d_Web_init_59 : decode b_Web_init 59 = .ok (.putfield 29, 3) := by decide +kernel
theorem d_Web_init_62 : decode b_Web_init 62 = .ok (.aload_n 0, 1) := by decide +kernel
theorem d_Web_init_63 : decode b_Web_init 63 = .ok (.iconst 0, 1) := by decide +kernel
theorem d_Web_init_64 : decode b_Web_init 64 = .ok (.putfield 33, 3) := by decide +kernel
theorem d_Web_init_67 : decode b_Web_init 67 = .ok (.return_, 1) := by decide +kernel
theorem d_Web_isPage_0 : decode b_Web_isPage 0 = .ok (.iconst 0, 1) := by decide +kernel
theorem d_Web_isPage_1 : decode b_Web_isPage 1 = .ok (.iload_n 1, 1) := by decide +kernel
theorem d_Web_isPage_2 : decode b_Web_isPage 2 = .ok (.if_icmp .gt 15, 3) := by decide +kernel
theorem d_Web_isPage_5 : decode b_Web_isPage 5 = .ok (.iload_n 1, 1) := by decide +kernel
theorem d_Web_isPage_6 : decode b_Web_isPage 6 = .ok (.aload_n 0, 1) := by decide +kernel
theorem d_Web_isPage_7 : decode b_Web_isPage 7 = .ok (.getfield 33, 3) := by decide +kernel
theorem d_Web_isPage_10 : decode b_Web_isPage 10 = .ok (.if_icmp .ge 7, 3) := by decide +kernel
theorem d_Web_isPage_13 : decode b_Web_isPage 13 = .ok (.iconst 1, 1) := by decide +kernel
theorem d_Web_isPage_14 : decode b_Web_isPage 14 = .ok (.goto 4, 3) := by decide +kernel
theorem d_Web_isPage_17 : decode b_Web_isPage 17 = .ok (.iconst 0, 1) := by decide +kernel
theorem d_Web_isPage_18 : decode b_Web_isPage 18 = .ok (.ireturn, 1) := by decide +kernel
theorem d_Web_addPage_0 : decode b_Web_addPage 0 = .ok (.iload_n 1, 1) := by decide +kernel
theorem d_Web_addPage_1 : decode b_Web_addPage 1 = .ok (.invokestatic 37, 3) := by decide +kernel
theorem d_Web_addPage_4 : decode b_Web_addPage 4 = .ok (.ifCond .eq 31, 3) := by decide +kernel
theorem d_Web_addPage_7 : decode b_Web_addPage 7 = .ok (.iload_n 2, 1) := by decide +kernel
theorem d_Web_addPage_8 : decode b_Web_addPage 8 = .ok (.iconst 1, 1) := by decide +kernel
theorem d_Web_addPage_9 : decode b_Web_addPage 9 = .ok (.ldc 41, 2) := by decide +kernel
theorem d_Web_addPage_11 : decode b_Web_addPage 11 = .ok (.invokestatic 42, 3) := by decide +kernel
theorem d_Web_addPage_14 : decode b_Web_addPage 14 = .ok (.ifCond .eq 21, 3) := by decide +kernel
theorem d_Web_addPage_17 : decode b_Web_addPage 17 = .ok (.aload_n 0, 1) := by decide +kernel
theorem d_Web_addPage_18 : decode b_Web_addPage 18 = .ok (.getfield 33, 3) := by decide +kernel
theorem d_Web_addPage_21 : decode b_Web_addPage 21 = .ok (.bipush 32, 2) := by decide +kernel
theorem d_Web_addPage_23 : decode b_Web_addPage 23 = .ok (.if_icmp .ge 12, 3) := by decide +kernel
theorem d_Web_addPage_26 : decode b_Web_addPage 26 = .ok (.aload_n 0, 1) := by decide +kernel
theorem d_Web_addPage_27 : decode b_Web_addPage 27 = .ok (.iload_n 1, 1) := by decide +kernel
theorem d_Web_addPage_28 : decode b_Web_addPage 28 = .ok (.iload_n 2, 1) := by decide +kernel
theorem d_Web_addPage_29 : decode b_Web_addPage 29 = .ok (.invokevirtual 46, 3) := by decide +kernel
theorem d_Web_addPage_32 : decode b_Web_addPage 32 = .ok (.ifCond .eq 5, 3) := by decide +kernel
theorem d_Web_addPage_35 : decode b_Web_addPage 35 = .ok (.iconst (-1), 1) := by decide +kernel
theorem d_Web_addPage_36 : decode b_Web_addPage 36 = .ok (.ireturn, 1) := by decide +kernel
theorem d_Web_addPage_37 : decode b_Web_addPage 37 = .ok (.aload_n 0, 1) := by decide +kernel
theorem d_Web_addPage_38 : decode b_Web_addPage 38 = .ok (.getfield 11, 3) := by decide +kernel
theorem d_Web_addPage_41 : decode b_Web_addPage 41 = .ok (.aload_n 0, 1) := by decide +kernel
theorem d_Web_addPage_42 : decode b_Web_addPage 42 = .ok (.getfield 33, 3) := by decide +kernel
theorem d_Web_addPage_45 : decode b_Web_addPage 45 = .ok (.new 9, 3) := by decide +kernel
theorem d_Web_addPage_48 : decode b_Web_addPage 48 = .ok (.dup, 1) := by decide +kernel
theorem d_Web_addPage_49 : decode b_Web_addPage 49 = .ok (.iload_n 1, 1) := by decide +kernel
theorem d_Web_addPage_50 : decode b_Web_addPage 50 = .ok (.iload_n 2, 1) := by decide +kernel
theorem d_Web_addPage_51 : decode b_Web_addPage 51 = .ok (.invokespecial 50, 3) := by decide +kernel
theorem d_Web_addPage_54 : decode b_Web_addPage 54 = .ok (.aastore, 1) := by decide +kernel
theorem d_Web_addPage_55 : decode b_Web_addPage 55 = .ok (.aload_n 0, 1) := by decide +kernel
theorem d_Web_addPage_56 : decode b_Web_addPage 56 = .ok (.dup, 1) := by decide +kernel
theorem d_Web_addPage_57 : decode b_Web_addPage 57 = .ok (.getfield 33, 3) := by decide +kernel
theorem d_Web_addPage_60 : decode b_Web_addPage 60 = .ok (.iconst 1, 1) := by decide +kernel
theorem d_Web_addPage_61 : decode b_Web_addPage 61 = .ok (.iadd, 1) := by decide +kernel
theorem d_Web_addPage_62 : decode b_Web_addPage 62 = .ok (.putfield 33, 3) := by decide +kernel
theorem d_Web_addPage_65 : decode b_Web_addPage 65 = .ok (.aload_n 0, 1) := by decide +kernel
theorem d_Web_addPage_66 : decode b_Web_addPage 66 = .ok (.getfield 33, 3) := by decide +kernel
theorem d_Web_addPage_69 : decode b_Web_addPage 69 = .ok (.iconst 1, 1) := by decide +kernel
theorem d_Web_addPage_70 : decode b_Web_addPage 70 = .ok (.isub, 1) := by decide +kernel
theorem d_Web_addPage_71 : decode b_Web_addPage 71 = .ok (.ireturn, 1) := by decide +kernel
theorem d_Web_isTaken_0 : decode b_Web_isTaken 0 = .ok (.iconst 0, 1) := by decide +kernel
theorem d_Web_isTaken_1 : decode b_Web_isTaken 1 = .ok (.istore_n 3, 1) := by decide +kernel
theorem d_Web_isTaken_2 : decode b_Web_isTaken 2 = .ok (.iload_n 3, 1) := by decide +kernel
theorem d_Web_isTaken_3 : decode b_Web_isTaken 3 = .ok (.aload_n 0, 1) := by decide +kernel
theorem d_Web_isTaken_4 : decode b_Web_isTaken 4 = .ok (.getfield 33, 3) := by decide +kernel
theorem d_Web_isTaken_7 : decode b_Web_isTaken 7 = .ok (.if_icmp .ge 37, 3) := by decide +kernel
theorem d_Web_isTaken_10 : decode b_Web_isTaken 10 = .ok (.aload_n 0, 1) := by decide +kernel
theorem d_Web_isTaken_11 : decode b_Web_isTaken 11 = .ok (.getfield 11, 3) := by decide +kernel
theorem d_Web_isTaken_14 : decode b_Web_isTaken 14 = .ok (.iload_n 3, 1) := by decide +kernel
theorem d_Web_isTaken_15 : decode b_Web_isTaken 15 = .ok (.aaload, 1) := by decide +kernel
theorem d_Web_isTaken_16 : decode b_Web_isTaken 16 = .ok (.getfield 53, 3) := by decide +kernel
theorem d_Web_isTaken_19 : decode b_Web_isTaken 19 = .ok (.iload_n 1, 1) := by decide +kernel
theorem d_Web_isTaken_20 : decode b_Web_isTaken 20 = .ok (.if_icmp .ne 18, 3) := by decide +kernel
theorem d_Web_isTaken_23 : decode b_Web_isTaken 23 = .ok (.aload_n 0, 1) := by decide +kernel
theorem d_Web_isTaken_24 : decode b_Web_isTaken 24 = .ok (.getfield 11, 3) := by decide +kernel
theorem d_Web_isTaken_27 : decode b_Web_isTaken 27 = .ok (.iload_n 3, 1) := by decide +kernel
theorem d_Web_isTaken_28 : decode b_Web_isTaken 28 = .ok (.aaload, 1) := by decide +kernel
theorem d_Web_isTaken_29 : decode b_Web_isTaken 29 = .ok (.getfield 56, 3) := by decide +kernel
theorem d_Web_isTaken_32 : decode b_Web_isTaken 32 = .ok (.iload_n 2, 1) := by decide +kernel
theorem d_Web_isTaken_33 : decode b_Web_isTaken 33 = .ok (.if_icmp .ne 5, 3) := by decide +kernel
theorem d_Web_isTaken_36 : decode b_Web_isTaken 36 = .ok (.iconst 1, 1) := by decide +kernel
theorem d_Web_isTaken_37 : decode b_Web_isTaken 37 = .ok (.ireturn, 1) := by decide +kernel
theorem d_Web_isTaken_38 : decode b_Web_isTaken 38 = .ok (.iinc 3 1, 3) := by decide +kernel
theorem d_Web_isTaken_41 : decode b_Web_isTaken 41 = .ok (.goto (-39), 3) := by decide +kernel
theorem d_Web_isTaken_44 : decode b_Web_isTaken 44 = .ok (.iconst 0, 1) := by decide +kernel
theorem d_Web_isTaken_45 : decode b_Web_isTaken 45 = .ok (.ireturn, 1) := by decide +kernel
theorem d_Web_isAllowed_0 : decode b_Web_isAllowed 0 = .ok (.aload_n 0, 1) := by decide +kernel
theorem d_Web_isAllowed_1 : decode b_Web_isAllowed 1 = .ok (.getfield 19, 3) := by decide +kernel
theorem d_Web_isAllowed_4 : decode b_Web_isAllowed 4 = .ok (.aload_n 0, 1) := by decide +kernel
theorem d_Web_isAllowed_5 : decode b_Web_isAllowed 5 = .ok (.getfield 11, 3) := by decide +kernel
theorem d_Web_isAllowed_8 : decode b_Web_isAllowed 8 = .ok (.iload_n 1, 1) := by decide +kernel
theorem d_Web_isAllowed_9 : decode b_Web_isAllowed 9 = .ok (.aaload, 1) := by decide +kernel
theorem d_Web_isAllowed_10 : decode b_Web_isAllowed 10 = .ok (.getfield 53, 3) := by decide +kernel
theorem d_Web_isAllowed_13 : decode b_Web_isAllowed 13 = .ok (.aaload, 1) := by decide +kernel
theorem d_Web_isAllowed_14 : decode b_Web_isAllowed 14 = .ok (.aload_n 0, 1) := by decide +kernel
theorem d_Web_isAllowed_15 : decode b_Web_isAllowed 15 = .ok (.getfield 11, 3) := by decide +kernel
theorem d_Web_isAllowed_18 : decode b_Web_isAllowed 18 = .ok (.iload_n 1, 1) := by decide +kernel
theorem d_Web_isAllowed_19 : decode b_Web_isAllowed 19 = .ok (.aaload, 1) := by decide +kernel
theorem d_Web_isAllowed_20 : decode b_Web_isAllowed 20 = .ok (.getfield 56, 3) := by decide +kernel
theorem d_Web_isAllowed_23 : decode b_Web_isAllowed 23 = .ok (.invokevirtual 59, 3) := by decide +kernel
theorem d_Web_isAllowed_26 : decode b_Web_isAllowed 26 = .ok (.ireturn, 1) := by decide +kernel

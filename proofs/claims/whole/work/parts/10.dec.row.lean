/-! Decoded instructions of Row. -/
theorem d_Row_init_0 : decode b_Row_init 0 = .ok (.aload_n 0, 1) := by decide +kernel
theorem d_Row_init_1 : decode b_Row_init 1 = .ok (.invokespecial 3, 3) := by decide +kernel
theorem d_Row_init_4 : decode b_Row_init 4 = .ok (.aload_n 0, 1) := by decide +kernel
theorem d_Row_init_5 : decode b_Row_init 5 = .ok (.iload_n 1, 1) := by decide +kernel
theorem d_Row_init_6 : decode b_Row_init 6 = .ok (.newarray .int, 2) := by decide +kernel
theorem d_Row_init_8 : decode b_Row_init 8 = .ok (.putfield 9, 3) := by decide +kernel
theorem d_Row_init_11 : decode b_Row_init 11 = .ok (.aload_n 0, 1) := by decide +kernel
theorem d_Row_init_12 : decode b_Row_init 12 = .ok (.iconst 0, 1) := by decide +kernel
theorem d_Row_init_13 : decode b_Row_init 13 = .ok (.putfield 15, 3) := by decide +kernel
theorem d_Row_init_16 : decode b_Row_init 16 = .ok (.return_, 1) := by decide +kernel
theorem d_Row_add_0 : decode b_Row_add 0 = .ok (.aload_n 0, 1) := by decide +kernel
theorem d_Row_add_1 : decode b_Row_add 1 = .ok (.getfield 15, 3) := by decide +kernel
theorem d_Row_add_4 : decode b_Row_add 4 = .ok (.aload_n 0, 1) := by decide +kernel
theorem d_Row_add_5 : decode b_Row_add 5 = .ok (.getfield 9, 3) := by decide +kernel
theorem d_Row_add_8 : decode b_Row_add 8 = .ok (.arraylength, 1) := by decide +kernel
theorem d_Row_add_9 : decode b_Row_add 9 = .ok (.if_icmp .lt 5, 3) := by decide +kernel
theorem d_Row_add_12 : decode b_Row_add 12 = .ok (.iconst 0, 1) := by decide +kernel
theorem d_Row_add_13 : decode b_Row_add 13 = .ok (.ireturn, 1) := by decide +kernel
theorem d_Row_add_14 : decode b_Row_add 14 = .ok (.aload_n 0, 1) := by decide +kernel
theorem d_Row_add_15 : decode b_Row_add 15 = .ok (.getfield 9, 3) := by decide +kernel
theorem d_Row_add_18 : decode b_Row_add 18 = .ok (.aload_n 0, 1) := by decide +kernel
theorem d_Row_add_19 : decode b_Row_add 19 = .ok (.getfield 15, 3) := by decide +kernel
theorem d_Row_add_22 : decode b_Row_add 22 = .ok (.iload_n 1, 1) := by decide +kernel
theorem d_Row_add_23 : decode b_Row_add 23 = .ok (.iastore, 1) := by decide +kernel
theorem d_Row_add_24 : decode b_Row_add 24 = .ok (.aload_n 0, 1) := by decide +kernel
theorem d_Row_add_25 : decode b_Row_add 25 = .ok (.dup, 1) := by decide +kernel
theorem d_Row_add_26 : decode b_Row_add 26 = .ok (.getfield 15, 3) := by decide +kernel
theorem d_Row_add_29 : decode b_Row_add 29 = .ok (.iconst 1, 1) := by decide +kernel
theorem d_Row_add_30 : decode b_Row_add 30 = .ok (.iadd, 1) := by decide +kernel
theorem d_Row_add_31 : decode b_Row_add 31 = .ok (.putfield 15, 3) := by decide +kernel
theorem d_Row_add_34 : decode b_Row_add 34 = .ok (.iconst 1, 1) := by decide +kernel
theorem d_Row_add_35 : decode b_Row_add 35 = .ok (.ireturn, 1) := by decide +kernel
theorem d_Row_at_0 : decode b_Row_at 0 = .ok (.iconst 0, 1) := by decide +kernel
theorem d_Row_at_1 : decode b_Row_at 1 = .ok (.iload_n 1, 1) := by decide +kernel
theorem d_Row_at_2 : decode b_Row_at 2 = .ok (.if_icmp .gt 20, 3) := by decide +kernel
theorem d_Row_at_5 : decode b_Row_at 5 = .ok (.iload_n 1, 1) := by decide +kernel
theorem d_Row_at_6 : decode b_Row_at 6 = .ok (.aload_n 0, 1) := by decide +kernel
theorem d_Row_at_7 : decode b_Row_at 7 = .ok (.getfield 15, 3) := by decide +kernel
theorem d_Row_at_10 : decode b_Row_at 10 = .ok (.if_icmp .ge 12, 3) := by decide +kernel
theorem d_Row_at_13 : decode b_Row_at 13 = .ok (.aload_n 0, 1) := by decide +kernel
theorem d_Row_at_14 : decode b_Row_at 14 = .ok (.getfield 9, 3) := by decide +kernel
theorem d_Row_at_17 : decode b_Row_at 17 = .ok (.iload_n 1, 1) := by decide +kernel
theorem d_Row_at_18 : decode b_Row_at 18 = .ok (.iaload, 1) := by decide +kernel
theorem d_Row_at_19 : decode b_Row_at 19 = .ok (.goto 4, 3) := by decide +kernel
theorem d_Row_at_22 : decode b_Row_at 22 = .ok (.iconst (-1), 1) := by decide +kernel
theorem d_Row_at_23 : decode b_Row_at 23 = .ok (.ireturn, 1) := by decide +kernel
theorem d_Row_holds_0 : decode b_Row_holds 0 = .ok (.iconst 0, 1) := by decide +kernel
theorem d_Row_holds_1 : decode b_Row_holds 1 = .ok (.istore_n 2, 1) := by decide +kernel
theorem d_Row_holds_2 : decode b_Row_holds 2 = .ok (.iload_n 2, 1) := by decide +kernel
theorem d_Row_holds_3 : decode b_Row_holds 3 = .ok (.aload_n 0, 1) := by decide +kernel
theorem d_Row_holds_4 : decode b_Row_holds 4 = .ok (.getfield 15, 3) := by decide +kernel
theorem d_Row_holds_7 : decode b_Row_holds 7 = .ok (.if_icmp .ge 21, 3) := by decide +kernel
theorem d_Row_holds_10 : decode b_Row_holds 10 = .ok (.aload_n 0, 1) := by decide +kernel
theorem d_Row_holds_11 : decode b_Row_holds 11 = .ok (.getfield 9, 3) := by decide +kernel
theorem d_Row_holds_14 : decode b_Row_holds 14 = .ok (.iload_n 2, 1) := by decide +kernel
theorem d_Row_holds_15 : decode b_Row_holds 15 = .ok (.iaload, 1) := by decide +kernel
theorem d_Row_holds_16 : decode b_Row_holds 16 = .ok (.iload_n 1, 1) := by decide +kernel
theorem d_Row_holds_17 : decode b_Row_holds 17 = .ok (.if_icmp .ne 5, 3) := by decide +kernel
theorem d_Row_holds_20 : decode b_Row_holds 20 = .ok (.iconst 1, 1) := by decide +kernel
theorem d_Row_holds_21 : decode b_Row_holds 21 = .ok (.ireturn, 1) := by decide +kernel
theorem d_Row_holds_22 : decode b_Row_holds 22 = .ok (.iinc 2 1, 3) := by decide +kernel
theorem d_Row_holds_25 : decode b_Row_holds 25 = .ok (.goto (-23), 3) := by decide +kernel
theorem d_Row_holds_28 : decode b_Row_holds 28 = .ok (.iconst 0, 1) := by decide +kernel
theorem d_Row_holds_29 : decode b_Row_holds 29 = .ok (.ireturn, 1) := by decide +kernel
theorem d_Row_sameAs_0 : decode b_Row_sameAs 0 = .ok (.aload_n 0, 1) := by decide +kernel
theorem d_Row_sameAs_1 : decode b_Row_sameAs 1 = .ok (.getfield 15, 3) := by decide +kernel
theorem d_Row_sameAs_4 : decode b_Row_sameAs 4 = .ok (.aload_n 1, 1) := by decide +kernel
theorem d_Row_sameAs_5 : decode b_Row_sameAs 5 = .ok (.getfield 15, 3) := by decide +kernel
theorem d_Row_sameAs_8 : decode b_Row_sameAs 8 = .ok (.if_icmp .eq 5, 3) := by decide +kernel
theorem d_Row_sameAs_11 : decode b_Row_sameAs 11 = .ok (.iconst 0, 1) := by decide +kernel
theorem d_Row_sameAs_12 : decode b_Row_sameAs 12 = .ok (.ireturn, 1) := by decide +kernel
theorem d_Row_sameAs_13 : decode b_Row_sameAs 13 = .ok (.iconst 0, 1) := by decide +kernel
theorem d_Row_sameAs_14 : decode b_Row_sameAs 14 = .ok (.istore_n 2, 1) := by decide +kernel
theorem d_Row_sameAs_15 : decode b_Row_sameAs 15 = .ok (.iload_n 2, 1) := by decide +kernel
theorem d_Row_sameAs_16 : decode b_Row_sameAs 16 = .ok (.aload_n 0, 1) := by decide +kernel
theorem d_Row_sameAs_17 : decode b_Row_sameAs 17 = .ok (.getfield 15, 3) := by decide +kernel
theorem d_Row_sameAs_20 : decode b_Row_sameAs 20 = .ok (.if_icmp .ge 26, 3) := by decide +kernel
theorem d_Row_sameAs_23 : decode b_Row_sameAs 23 = .ok (.aload_n 0, 1) := by decide +kernel
theorem d_Row_sameAs_24 : decode b_Row_sameAs 24 = .ok (.getfield 9, 3) := by decide +kernel
theorem d_Row_sameAs_27 : decode b_Row_sameAs 27 = .ok (.iload_n 2, 1) := by decide +kernel
theorem d_Row_sameAs_28 : decode b_Row_sameAs 28 = .ok (.iaload, 1) := by decide +kernel
theorem d_Row_sameAs_29 : decode b_Row_sameAs 29 = .ok (.aload_n 1, 1) := by decide +kernel
theorem d_Row_sameAs_30 : decode b_Row_sameAs 30 = .ok (.getfield 9, 3) := by decide +kernel
theorem d_Row_sameAs_33 : decode b_Row_sameAs 33 = .ok (.iload_n 2, 1) := by decide +kernel
theorem d_Row_sameAs_34 : decode b_Row_sameAs 34 = .ok (.iaload, 1) := by decide +kernel
theorem d_Row_sameAs_35 : decode b_Row_sameAs 35 = .ok (.if_icmp .eq 5, 3) := by decide +kernel
theorem d_Row_sameAs_38 : decode b_Row_sameAs 38 = .ok (.iconst 0, 1) := by decide +kernel
theorem d_Row_sameAs_39 : decode b_Row_sameAs 39 = .ok (.ireturn, 1) := by decide +kernel
theorem d_Row_sameAs_40 : decode b_Row_sameAs 40 = .ok (.iinc 2 1, 3) := by decide +kernel
theorem d_Row_sameAs_43 : decode b_Row_sameAs 43 = .ok (.goto (-28), 3) := by decide +kernel
theorem d_Row_sameAs_46 : decode b_Row_sameAs 46 = .ok (.iconst 1, 1) := by decide +kernel
theorem d_Row_sameAs_47 : decode b_Row_sameAs 47 = .ok (.ireturn, 1) := by decide +kernel
theorem d_Row_cutTo_0 : decode b_Row_cutTo 0 = .ok (.aload_n 0, 1) := by decide +kernel
theorem d_Row_cutTo_1 : decode b_Row_cutTo 1 = .ok (.aload_n 0, 1) := by decide +kernel
theorem d_Row_cutTo_2 : decode b_Row_cutTo 2 = .ok (.getfield 15, 3) := by decide +kernel
theorem d_Row_cutTo_5 : decode b_Row_cutTo 5 = .ok (.iload_n 1, 1) := by decide +kernel
theorem d_Row_cutTo_6 : decode b_Row_cutTo 6 = .ok (.invokestatic 19, 3) := by decide +kernel
theorem d_Row_cutTo_9 : decode b_Row_cutTo 9 = .ok (.putfield 15, 3) := by decide +kernel
theorem d_Row_cutTo_12 : decode b_Row_cutTo 12 = .ok (.return_, 1) := by decide +kernel

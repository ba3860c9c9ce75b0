/-! Decoded instructions of PG. -/
theorem d_PG_init_0 : decode b_PG_init 0 = .ok (.aload_n 0, 1) := by decide +kernel
theorem d_PG_init_1 : decode b_PG_init 1 = .ok (.invokespecial 1, 3) := by decide +kernel
theorem d_PG_init_4 : decode b_PG_init 4 = .ok (.aload_n 0, 1) := by decide +kernel
theorem d_PG_init_5 : decode b_PG_init 5 = .ok (.new 7, 3) := by decide +kernel
theorem d_PG_init_8 : decode b_PG_init 8 = .ok (.dup, 1) := by decide +kernel
theorem d_PG_init_9 : decode b_PG_init 9 = .ok (.invokespecial 9, 3) := by decide +kernel
theorem d_PG_init_12 : decode b_PG_init 12 = .ok (.putfield 10, 3) := by decide +kernel
theorem d_PG_init_15 : decode b_PG_init 15 = .ok (.aload_n 0, 1) := by decide +kernel
theorem d_PG_init_16 : decode b_PG_init 16 = .ok (.new 16, 3) := by decide +kernel
theorem d_PG_init_19 : decode b_PG_init 19 = .ok (.dup, 1) := by decide +kernel
theorem d_PG_init_20 : decode b_PG_init 20 = .ok (.aload_n 0, 1) := by decide +kernel
theorem d_PG_init_21 : decode b_PG_init 21 = .ok (.getfield 10, 3) := by decide +kernel
theorem d_PG_init_24 : decode b_PG_init 24 = .ok (.invokespecial 18, 3) := by decide +kernel
theorem d_PG_init_27 : decode b_PG_init 27 = .ok (.putfield 21, 3) := by decide +kernel
theorem d_PG_init_30 : decode b_PG_init 30 = .ok (.aload_n 0, 1) := by decide +kernel
theorem d_PG_init_31 : decode b_PG_init 31 = .ok (.new 25, 3) := by decide +kernel
theorem d_PG_init_34 : decode b_PG_init 34 = .ok (.dup, 1) := by decide +kernel
theorem d_PG_init_35 : decode b_PG_init 35 = .ok (.aload_n 0, 1) := by decide +kernel
theorem d_PG_init_36 : decode b_PG_init 36 = .ok (.getfield 10, 3) := by decide +kernel
theorem d_PG_init_39 : decode b_PG_init 39 = .ok (.aload_n 0, 1) := by decide +kernel
theorem d_PG_init_40 : decode b_PG_init 40 = .ok (.getfield 21, 3) := by decide +kernel
theorem d_PG_init_43 : decode b_PG_init 43 = .ok (.invokespecial 27, 3) := by decide +kernel
theorem d_PG_init_46 : decode b_PG_init 46 = .ok (.putfield 30, 3) := by decide +kernel
theorem d_PG_init_49 : decode b_PG_init 49 = .ok (.aload_n 0, 1) := by decide +kernel
theorem d_PG_init_50 : decode b_PG_init 50 = .ok (.iconst 0, 1) := by decide +kernel
theorem d_PG_init_51 : decode b_PG_init 51 = .ok (.putfield 34, 3) := by decide +kernel
theorem d_PG_init_54 : decode b_PG_init 54 = .ok (.return_, 1) := by decide +kernel
theorem d_PG_page_0 : decode b_PG_page 0 = .ok (.aload_n 0, 1) := by decide +kernel
theorem d_PG_page_1 : decode b_PG_page 1 = .ok (.getfield 34, 3) := by decide +kernel
theorem d_PG_page_4 : decode b_PG_page 4 = .ok (.ifCond .eq 5, 3) := by decide +kernel
theorem d_PG_page_7 : decode b_PG_page 7 = .ok (.iconst (-1), 1) := by decide +kernel
theorem d_PG_page_8 : decode b_PG_page 8 = .ok (.ireturn, 1) := by decide +kernel
theorem d_PG_page_9 : decode b_PG_page 9 = .ok (.aload_n 0, 1) := by decide +kernel
theorem d_PG_page_10 : decode b_PG_page 10 = .ok (.getfield 10, 3) := by decide +kernel
theorem d_PG_page_13 : decode b_PG_page 13 = .ok (.iload_n 1, 1) := by decide +kernel
theorem d_PG_page_14 : decode b_PG_page 14 = .ok (.iload_n 2, 1) := by decide +kernel
theorem d_PG_page_15 : decode b_PG_page 15 = .ok (.invokevirtual 38, 3) := by decide +kernel
theorem d_PG_page_18 : decode b_PG_page 18 = .ok (.ireturn, 1) := by decide +kernel
theorem d_PG_write_0 : decode b_PG_write 0 = .ok (.aload_n 0, 1) := by decide +kernel
theorem d_PG_write_1 : decode b_PG_write 1 = .ok (.iload_n 1, 1) := by decide +kernel
theorem d_PG_write_2 : decode b_PG_write 2 = .ok (.invokevirtual 42, 3) := by decide +kernel
theorem d_PG_write_5 : decode b_PG_write 5 = .ok (.ifCond .eq 36, 3) := by decide +kernel
theorem d_PG_write_8 : decode b_PG_write 8 = .ok (.iload_n 2, 1) := by decide +kernel
theorem d_PG_write_9 : decode b_PG_write 9 = .ok (.iconst 0, 1) := by decide +kernel
theorem d_PG_write_10 : decode b_PG_write 10 = .ok (.bipush 25, 2) := by decide +kernel
theorem d_PG_write_12 : decode b_PG_write 12 = .ok (.invokestatic 46, 3) := by decide +kernel
theorem d_PG_write_15 : decode b_PG_write 15 = .ok (.ifCond .eq 26, 3) := by decide +kernel
theorem d_PG_write_18 : decode b_PG_write 18 = .ok (.aload_n 0, 1) := by decide +kernel
theorem d_PG_write_19 : decode b_PG_write 19 = .ok (.getfield 10, 3) := by decide +kernel
theorem d_PG_write_22 : decode b_PG_write 22 = .ok (.getfield 50, 3) := by decide +kernel
theorem d_PG_write_25 : decode b_PG_write 25 = .ok (.iload_n 1, 1) := by decide +kernel
theorem d_PG_write_26 : decode b_PG_write 26 = .ok (.aaload, 1) := by decide +kernel
theorem d_PG_write_27 : decode b_PG_write 27 = .ok (.getfield 54, 3) := by decide +kernel
theorem d_PG_write_30 : decode b_PG_write 30 = .ok (.iload_n 2, 1) := by decide +kernel
theorem d_PG_write_31 : decode b_PG_write 31 = .ok (.invokevirtual 60, 3) := by decide +kernel
theorem d_PG_write_34 : decode b_PG_write 34 = .ok (.ifCond .eq 7, 3) := by decide +kernel
theorem d_PG_write_37 : decode b_PG_write 37 = .ok (.iconst 1, 1) := by decide +kernel
theorem d_PG_write_38 : decode b_PG_write 38 = .ok (.goto 4, 3) := by decide +kernel
theorem d_PG_write_41 : decode b_PG_write 41 = .ok (.iconst 0, 1) := by decide +kernel
theorem d_PG_write_42 : decode b_PG_write 42 = .ok (.ireturn, 1) := by decide +kernel
theorem d_PG_link_0 : decode b_PG_link 0 = .ok (.aload_n 0, 1) := by decide +kernel
theorem d_PG_link_1 : decode b_PG_link 1 = .ok (.iload_n 1, 1) := by decide +kernel
theorem d_PG_link_2 : decode b_PG_link 2 = .ok (.invokevirtual 42, 3) := by decide +kernel
theorem d_PG_link_5 : decode b_PG_link 5 = .ok (.ifCond .eq 37, 3) := by decide +kernel
theorem d_PG_link_8 : decode b_PG_link 8 = .ok (.aload_n 0, 1) := by decide +kernel
theorem d_PG_link_9 : decode b_PG_link 9 = .ok (.getfield 10, 3) := by decide +kernel
theorem d_PG_link_12 : decode b_PG_link 12 = .ok (.iload_n 2, 1) := by decide +kernel
theorem d_PG_link_13 : decode b_PG_link 13 = .ok (.invokevirtual 65, 3) := by decide +kernel
theorem d_PG_link_16 : decode b_PG_link 16 = .ok (.ifCond .eq 26, 3) := by decide +kernel
theorem d_PG_link_19 : decode b_PG_link 19 = .ok (.aload_n 0, 1) := by decide +kernel
theorem d_PG_link_20 : decode b_PG_link 20 = .ok (.getfield 10, 3) := by decide +kernel
theorem d_PG_link_23 : decode b_PG_link 23 = .ok (.getfield 50, 3) := by decide +kernel
theorem d_PG_link_26 : decode b_PG_link 26 = .ok (.iload_n 1, 1) := by decide +kernel
theorem d_PG_link_27 : decode b_PG_link 27 = .ok (.aaload, 1) := by decide +kernel
theorem d_PG_link_28 : decode b_PG_link 28 = .ok (.getfield 68, 3) := by decide +kernel
theorem d_PG_link_31 : decode b_PG_link 31 = .ok (.iload_n 2, 1) := by decide +kernel
theorem d_PG_link_32 : decode b_PG_link 32 = .ok (.invokevirtual 60, 3) := by decide +kernel
theorem d_PG_link_35 : decode b_PG_link 35 = .ok (.ifCond .eq 7, 3) := by decide +kernel
theorem d_PG_link_38 : decode b_PG_link 38 = .ok (.iconst 1, 1) := by decide +kernel
theorem d_PG_link_39 : decode b_PG_link 39 = .ok (.goto 4, 3) := by decide +kernel
theorem d_PG_link_42 : decode b_PG_link 42 = .ok (.iconst 0, 1) := by decide +kernel
theorem d_PG_link_43 : decode b_PG_link 43 = .ok (.ireturn, 1) := by decide +kernel
theorem d_PG_move_0 : decode b_PG_move 0 = .ok (.aload_n 0, 1) := by decide +kernel
theorem d_PG_move_1 : decode b_PG_move 1 = .ok (.iload_n 1, 1) := by decide +kernel
theorem d_PG_move_2 : decode b_PG_move 2 = .ok (.invokevirtual 42, 3) := by decide +kernel
theorem d_PG_move_5 : decode b_PG_move 5 = .ok (.ifCond .eq 14, 3) := by decide +kernel
theorem d_PG_move_8 : decode b_PG_move 8 = .ok (.aload_n 0, 1) := by decide +kernel
theorem d_PG_move_9 : decode b_PG_move 9 = .ok (.getfield 10, 3) := by decide +kernel
theorem d_PG_move_12 : decode b_PG_move 12 = .ok (.iload_n 2, 1) := by decide +kernel
theorem d_PG_move_13 : decode b_PG_move 13 = .ok (.invokevirtual 65, 3) := by decide +kernel
theorem d_PG_move_16 : decode b_PG_move 16 = .ok (.ifCond .ne 5, 3) := by decide +kernel
theorem d_PG_move_19 : decode b_PG_move 19 = .ok (.iconst 0, 1) := by decide +kernel
theorem d_PG_move_20 : decode b_PG_move 20 = .ok (.ireturn, 1) := by decide +kernel
theorem d_PG_move_21 : decode b_PG_move 21 = .ok (.aload_n 0, 1) := by decide +kernel
theorem d_PG_move_22 : decode b_PG_move 22 = .ok (.getfield 10, 3) := by decide +kernel
theorem d_PG_move_25 : decode b_PG_move 25 = .ok (.getfield 50, 3) := by decide +kernel
theorem d_PG_move_28 : decode b_PG_move 28 = .ok (.iload_n 1, 1) := by decide +kernel
theorem d_PG_move_29 : decode b_PG_move 29 = .ok (.aaload, 1) := by decide +kernel
theorem d_PG_move_30 : decode b_PG_move 30 = .ok (.getstatic 71, 3) := by decide +kernel
theorem d_PG_move_33 : decode b_PG_move 33 = .ok (.putfield 77, 3) := by decide +kernel
theorem d_PG_move_36 : decode b_PG_move 36 = .ok (.aload_n 0, 1) := by decide +kernel
theorem d_PG_move_37 : decode b_PG_move 37 = .ok (.getfield 10, 3) := by decide +kernel
theorem d_PG_move_40 : decode b_PG_move 40 = .ok (.getfield 50, 3) := by decide +kernel
theorem d_PG_move_43 : decode b_PG_move 43 = .ok (.iload_n 1, 1) := by decide +kernel
theorem d_PG_move_44 : decode b_PG_move 44 = .ok (.aaload, 1) := by decide +kernel
theorem d_PG_move_45 : decode b_PG_move 45 = .ok (.iload_n 2, 1) := by decide +kernel
theorem d_PG_move_46 : decode b_PG_move 46 = .ok (.putfield 80, 3) := by decide +kernel
theorem d_PG_move_49 : decode b_PG_move 49 = .ok (.iconst 1, 1) := by decide +kernel
theorem d_PG_move_50 : decode b_PG_move 50 = .ok (.ireturn, 1) := by decide +kernel
theorem d_PG_drop_0 : decode b_PG_drop 0 = .ok (.aload_n 0, 1) := by decide +kernel
theorem d_PG_drop_1 : decode b_PG_drop 1 = .ok (.iload_n 1, 1) := by decide +kernel
theorem d_PG_drop_2 : decode b_PG_drop 2 = .ok (.invokevirtual 42, 3) := by decide +kernel
theorem d_PG_drop_5 : decode b_PG_drop 5 = .ok (.ifCond .ne 5, 3) := by decide +kernel
theorem d_PG_drop_8 : decode b_PG_drop 8 = .ok (.iconst 0, 1) := by decide +kernel
theorem d_PG_drop_9 : decode b_PG_drop 9 = .ok (.ireturn, 1) := by decide +kernel
theorem d_PG_drop_10 : decode b_PG_drop 10 = .ok (.aload_n 0, 1) := by decide +kernel
theorem d_PG_drop_11 : decode b_PG_drop 11 = .ok (.getfield 10, 3) := by decide +kernel
theorem d_PG_drop_14 : decode b_PG_drop 14 = .ok (.getfield 50, 3) := by decide +kernel
theorem d_PG_drop_17 : decode b_PG_drop 17 = .ok (.iload_n 1, 1) := by decide +kernel
theorem d_PG_drop_18 : decode b_PG_drop 18 = .ok (.aaload, 1) := by decide +kernel
theorem d_PG_drop_19 : decode b_PG_drop 19 = .ok (.getstatic 84, 3) := by decide +kernel
theorem d_PG_drop_22 : decode b_PG_drop 22 = .ok (.putfield 77, 3) := by decide +kernel
theorem d_PG_drop_25 : decode b_PG_drop 25 = .ok (.iconst 1, 1) := by decide +kernel
theorem d_PG_drop_26 : decode b_PG_drop 26 = .ok (.ireturn, 1) := by decide +kernel
theorem d_PG_rule_0 : decode b_PG_rule 0 = .ok (.aload_n 0, 1) := by decide +kernel
theorem d_PG_rule_1 : decode b_PG_rule 1 = .ok (.getfield 34, 3) := by decide +kernel
theorem d_PG_rule_4 : decode b_PG_rule 4 = .ok (.ifCond .ne 41, 3) := by decide +kernel
theorem d_PG_rule_7 : decode b_PG_rule 7 = .ok (.iload_n 1, 1) := by decide +kernel
theorem d_PG_rule_8 : decode b_PG_rule 8 = .ok (.invokestatic 87, 3) := by decide +kernel
theorem d_PG_rule_11 : decode b_PG_rule 11 = .ok (.ifCond .eq 34, 3) := by decide +kernel
theorem d_PG_rule_14 : decode b_PG_rule 14 = .ok (.iload_n 2, 1) := by decide +kernel
theorem d_PG_rule_15 : decode b_PG_rule 15 = .ok (.iconst 0, 1) := by decide +kernel
theorem d_PG_rule_16 : decode b_PG_rule 16 = .ok (.ldc 90, 2) := by decide +kernel
theorem d_PG_rule_18 : decode b_PG_rule 18 = .ok (.invokestatic 46, 3) := by decide +kernel
theorem d_PG_rule_21 : decode b_PG_rule 21 = .ok (.ifCond .eq 24, 3) := by decide +kernel
theorem d_PG_rule_24 : decode b_PG_rule 24 = .ok (.aload_n 0, 1) := by decide +kernel
theorem d_PG_rule_25 : decode b_PG_rule 25 = .ok (.getfield 10, 3) := by decide +kernel
theorem d_PG_rule_28 : decode b_PG_rule 28 = .ok (.getfield 91, 3) := by decide +kernel
theorem d_PG_rule_31 : decode b_PG_rule 31 = .ok (.iload_n 1, 1) := by decide +kernel
theorem d_PG_rule_32 : decode b_PG_rule 32 = .ok (.aaload, 1) := by decide +kernel
theorem d_PG_rule_33 : decode b_PG_rule 33 = .ok (.iload_n 2, 1) := by decide +kernel
theorem d_PG_rule_34 : decode b_PG_rule 34 = .ok (.iload_n 3, 1) := by decide +kernel
theorem d_PG_rule_35 : decode b_PG_rule 35 = .ok (.invokevirtual 95, 3) := by decide +kernel
theorem d_PG_rule_38 : decode b_PG_rule 38 = .ok (.ifCond .eq 7, 3) := by decide +kernel
theorem d_PG_rule_41 : decode b_PG_rule 41 = .ok (.iconst 1, 1) := by decide +kernel
theorem d_PG_rule_42 : decode b_PG_rule 42 = .ok (.goto 4, 3) := by decide +kernel
theorem d_PG_rule_45 : decode b_PG_rule 45 = .ok (.iconst 0, 1) := by decide +kernel
theorem d_PG_rule_46 : decode b_PG_rule 46 = .ok (.ireturn, 1) := by decide +kernel
theorem d_PG_first_0 : decode b_PG_first 0 = .ok (.aload_n 0, 1) := by decide +kernel
theorem d_PG_first_1 : decode b_PG_first 1 = .ok (.iload_n 1, 1) := by decide +kernel
theorem d_PG_first_2 : decode b_PG_first 2 = .ok (.invokevirtual 42, 3) := by decide +kernel
theorem d_PG_first_5 : decode b_PG_first 5 = .ok (.ifCond .eq 21, 3) := by decide +kernel
theorem d_PG_first_8 : decode b_PG_first 8 = .ok (.aload_n 0, 1) := by decide +kernel
theorem d_PG_first_9 : decode b_PG_first 9 = .ok (.getfield 10, 3) := by decide +kernel
theorem d_PG_first_12 : decode b_PG_first 12 = .ok (.getfield 101, 3) := by decide +kernel
theorem d_PG_first_15 : decode b_PG_first 15 = .ok (.iload_n 1, 1) := by decide +kernel
theorem d_PG_first_16 : decode b_PG_first 16 = .ok (.invokevirtual 60, 3) := by decide +kernel
theorem d_PG_first_19 : decode b_PG_first 19 = .ok (.ifCond .eq 7, 3) := by decide +kernel
theorem d_PG_first_22 : decode b_PG_first 22 = .ok (.iconst 1, 1) := by decide +kernel
theorem d_PG_first_23 : decode b_PG_first 23 = .ok (.goto 4, 3) := by decide +kernel
theorem d_PG_first_26 : decode b_PG_first 26 = .ok (.iconst 0, 1) := by decide +kernel
theorem d_PG_first_27 : decode b_PG_first 27 = .ok (.ireturn, 1) := by decide +kernel
theorem d_PG_begin_0 : decode b_PG_begin 0 = .ok (.aload_n 0, 1) := by decide +kernel
theorem d_PG_begin_1 : decode b_PG_begin 1 = .ok (.getfield 34, 3) := by decide +kernel
theorem d_PG_begin_4 : decode b_PG_begin 4 = .ok (.ifCond .ne 56, 3) := by decide +kernel
theorem d_PG_begin_7 : decode b_PG_begin 7 = .ok (.aload_n 0, 1) := by decide +kernel
theorem d_PG_begin_8 : decode b_PG_begin 8 = .ok (.getfield 10, 3) := by decide +kernel
theorem d_PG_begin_11 : decode b_PG_begin 11 = .ok (.getfield 101, 3) := by decide +kernel
theorem d_PG_begin_14 : decode b_PG_begin 14 = .ok (.getfield 104, 3) := by decide +kernel
theorem d_PG_begin_17 : decode b_PG_begin 17 = .ok (.ifCond .eq 43, 3) := by decide +kernel
theorem d_PG_begin_20 : decode b_PG_begin 20 = .ok (.iload_n 1, 1) := by decide +kernel
theorem d_PG_begin_21 : decode b_PG_begin 21 = .ok (.iconst 0, 1) := by decide +kernel
theorem d_PG_begin_22 : decode b_PG_begin 22 = .ok (.bipush 6, 2) := by decide +kernel
theorem d_PG_begin_24 : decode b_PG_begin 24 = .ok (.invokestatic 46, 3) := by decide +kernel
theorem d_PG_begin_27 : decode b_PG_begin 27 = .ok (.ifCond .eq 33, 3) := by decide +kernel
theorem d_PG_begin_30 : decode b_PG_begin 30 = .ok (.iload_n 2, 1) := by decide +kernel
theorem d_PG_begin_31 : decode b_PG_begin 31 = .ok (.iconst 0, 1) := by decide +kernel
theorem d_PG_begin_32 : decode b_PG_begin 32 = .ok (.iconst 4, 1) := by decide +kernel
theorem d_PG_begin_33 : decode b_PG_begin 33 = .ok (.invokestatic 46, 3) := by decide +kernel
theorem d_PG_begin_36 : decode b_PG_begin 36 = .ok (.ifCond .eq 24, 3) := by decide +kernel
theorem d_PG_begin_39 : decode b_PG_begin 39 = .ok (.iload_n 3, 1) := by decide +kernel
theorem d_PG_begin_40 : decode b_PG_begin 40 = .ok (.iconst 0, 1) := by decide +kernel
theorem d_PG_begin_41 : decode b_PG_begin 41 = .ok (.bipush 9, 2) := by decide +kernel
theorem d_PG_begin_43 : decode b_PG_begin 43 = .ok (.invokestatic 46, 3) := by decide +kernel
theorem d_PG_begin_46 : decode b_PG_begin 46 = .ok (.ifCond .eq 14, 3) := by decide +kernel
theorem d_PG_begin_49 : decode b_PG_begin 49 = .ok (.iload 4, 2) := by decide +kernel
theorem d_PG_begin_51 : decode b_PG_begin 51 = .ok (.iconst 1, 1) := by decide +kernel
theorem d_PG_begin_52 : decode b_PG_begin 52 = .ok (.bipush 8, 2) := by decide +kernel
theorem d_PG_begin_54 : decode b_PG_begin 54 = .ok (.invokestatic 46, 3) := by decide +kernel
theorem d_PG_begin_57 : decode b_PG_begin 57 = .ok (.ifCond .ne 5, 3) := by decide +kernel
theorem d_PG_begin_60 : decode b_PG_begin 60 = .ok (.iconst 0, 1) := by decide +kernel
theorem d_PG_begin_61 : decode b_PG_begin 61 = .ok (.ireturn, 1) := by decide +kernel
theorem d_PG_begin_62 : decode b_PG_begin 62 = .ok (.aload_n 0, 1) := by decide +kernel
theorem d_PG_begin_63 : decode b_PG_begin 63 = .ok (.getfield 21, 3) := by decide +kernel
theorem d_PG_begin_66 : decode b_PG_begin 66 = .ok (.iload_n 1, 1) := by decide +kernel
theorem d_PG_begin_67 : decode b_PG_begin 67 = .ok (.iload_n 2, 1) := by decide +kernel
theorem d_PG_begin_68 : decode b_PG_begin 68 = .ok (.iload_n 3, 1) := by decide +kernel
theorem d_PG_begin_69 : decode b_PG_begin 69 = .ok (.iload 4, 2) := by decide +kernel
theorem d_PG_begin_71 : decode b_PG_begin 71 = .ok (.invokevirtual 107, 3) := by decide +kernel
theorem d_PG_begin_74 : decode b_PG_begin 74 = .ok (.aload_n 0, 1) := by decide +kernel
theorem d_PG_begin_75 : decode b_PG_begin 75 = .ok (.iconst 1, 1) := by decide +kernel
theorem d_PG_begin_76 : decode b_PG_begin 76 = .ok (.putfield 34, 3) := by decide +kernel
theorem d_PG_begin_79 : decode b_PG_begin 79 = .ok (.iconst 1, 1) := by decide +kernel
theorem d_PG_begin_80 : decode b_PG_begin 80 = .ok (.ireturn, 1) := by decide +kernel
theorem d_PG_stop_0 : decode b_PG_stop 0 = .ok (.aload_n 0, 1) := by decide +kernel
theorem d_PG_stop_1 : decode b_PG_stop 1 = .ok (.getfield 34, 3) := by decide +kernel
theorem d_PG_stop_4 : decode b_PG_stop 4 = .ok (.ifCond .ne 5, 3) := by decide +kernel
theorem d_PG_stop_7 : decode b_PG_stop 7 = .ok (.iconst 0, 1) := by decide +kernel
theorem d_PG_stop_8 : decode b_PG_stop 8 = .ok (.ireturn, 1) := by decide +kernel
theorem d_PG_stop_9 : decode b_PG_stop 9 = .ok (.aload_n 0, 1) := by decide +kernel
theorem d_PG_stop_10 : decode b_PG_stop 10 = .ok (.iconst 0, 1) := by decide +kernel
theorem d_PG_stop_11 : decode b_PG_stop 11 = .ok (.putfield 34, 3) := by decide +kernel
theorem d_PG_stop_14 : decode b_PG_stop 14 = .ok (.iconst 1, 1) := by decide +kernel
theorem d_PG_stop_15 : decode b_PG_stop 15 = .ok (.ireturn, 1) := by decide +kernel
theorem d_PG_work_0 : decode b_PG_work 0 = .ok (.aload_n 0, 1) := by decide +kernel
theorem d_PG_work_1 : decode b_PG_work 1 = .ok (.getfield 34, 3) := by decide +kernel
theorem d_PG_work_4 : decode b_PG_work 4 = .ok (.ifCond .eq 13, 3) := by decide +kernel
theorem d_PG_work_7 : decode b_PG_work 7 = .ok (.iload_n 1, 1) := by decide +kernel
theorem d_PG_work_8 : decode b_PG_work 8 = .ok (.iconst 1, 1) := by decide +kernel
theorem d_PG_work_9 : decode b_PG_work 9 = .ok (.bipush 10, 2) := by decide +kernel
theorem d_PG_work_11 : decode b_PG_work 11 = .ok (.invokestatic 46, 3) := by decide +kernel
theorem d_PG_work_14 : decode b_PG_work 14 = .ok (.ifCond .ne 5, 3) := by decide +kernel
theorem d_PG_work_17 : decode b_PG_work 17 = .ok (.iconst (-1), 1) := by decide +kernel
theorem d_PG_work_18 : decode b_PG_work 18 = .ok (.ireturn, 1) := by decide +kernel
theorem d_PG_work_19 : decode b_PG_work 19 = .ok (.aload_n 0, 1) := by decide +kernel
theorem d_PG_work_20 : decode b_PG_work 20 = .ok (.getfield 21, 3) := by decide +kernel
theorem d_PG_work_23 : decode b_PG_work 23 = .ok (.getfield 111, 3) := by decide +kernel
theorem d_PG_work_26 : decode b_PG_work 26 = .ok (.istore_n 2, 1) := by decide +kernel
theorem d_PG_work_27 : decode b_PG_work 27 = .ok (.iconst 0, 1) := by decide +kernel
theorem d_PG_work_28 : decode b_PG_work 28 = .ok (.istore_n 3, 1) := by decide +kernel
theorem d_PG_work_29 : decode b_PG_work 29 = .ok (.iload_n 3, 1) := by decide +kernel
theorem d_PG_work_30 : decode b_PG_work 30 = .ok (.iload_n 1, 1) := by decide +kernel
theorem d_PG_work_31 : decode b_PG_work 31 = .ok (.if_icmp .ge 26, 3) := by decide +kernel
theorem d_PG_work_34 : decode b_PG_work 34 = .ok (.aload_n 0, 1) := by decide +kernel
theorem d_PG_work_35 : decode b_PG_work 35 = .ok (.getfield 21, 3) := by decide +kernel
theorem d_PG_work_38 : decode b_PG_work 38 = .ok (.invokevirtual 114, 3) := by decide +kernel
theorem d_PG_work_41 : decode b_PG_work 41 = .ok (.ifCond .le 16, 3) := by decide +kernel
theorem d_PG_work_44 : decode b_PG_work 44 = .ok (.aload_n 0, 1) := by decide +kernel
theorem d_PG_work_45 : decode b_PG_work 45 = .ok (.getfield 21, 3) := by decide +kernel
theorem d_PG_work_48 : decode b_PG_work 48 = .ok (.invokevirtual 118, 3) := by decide +kernel
theorem d_PG_work_51 : decode b_PG_work 51 = .ok (.iinc 3 1, 3) := by decide +kernel
theorem d_PG_work_54 : decode b_PG_work 54 = .ok (.goto (-25), 3) := by decide +kernel
theorem d_PG_work_57 : decode b_PG_work 57 = .ok (.aload_n 0, 1) := by decide +kernel
theorem d_PG_work_58 : decode b_PG_work 58 = .ok (.getfield 21, 3) := by decide +kernel
theorem d_PG_work_61 : decode b_PG_work 61 = .ok (.getfield 111, 3) := by decide +kernel
theorem d_PG_work_64 : decode b_PG_work 64 = .ok (.iload_n 2, 1) := by decide +kernel
theorem d_PG_work_65 : decode b_PG_work 65 = .ok (.isub, 1) := by decide +kernel
theorem d_PG_work_66 : decode b_PG_work 66 = .ok (.ireturn, 1) := by decide +kernel
theorem d_PG_crash_0 : decode b_PG_crash 0 = .ok (.aload_n 0, 1) := by decide +kernel
theorem d_PG_crash_1 : decode b_PG_crash 1 = .ok (.getfield 34, 3) := by decide +kernel
theorem d_PG_crash_4 : decode b_PG_crash 4 = .ok (.ifCond .ne 5, 3) := by decide +kernel
theorem d_PG_crash_7 : decode b_PG_crash 7 = .ok (.iconst (-1), 1) := by decide +kernel
theorem d_PG_crash_8 : decode b_PG_crash 8 = .ok (.ireturn, 1) := by decide +kernel
theorem d_PG_crash_9 : decode b_PG_crash 9 = .ok (.aload_n 0, 1) := by decide +kernel
theorem d_PG_crash_10 : decode b_PG_crash 10 = .ok (.getfield 21, 3) := by decide +kernel
theorem d_PG_crash_13 : decode b_PG_crash 13 = .ok (.invokevirtual 121, 3) := by decide +kernel
theorem d_PG_crash_16 : decode b_PG_crash 16 = .ok (.ireturn, 1) := by decide +kernel
theorem d_PG_allowed_0 : decode b_PG_allowed 0 = .ok (.aload_n 0, 1) := by decide +kernel
theorem d_PG_allowed_1 : decode b_PG_allowed 1 = .ok (.getfield 10, 3) := by decide +kernel
theorem d_PG_allowed_4 : decode b_PG_allowed 4 = .ok (.iload_n 1, 1) := by decide +kernel
theorem d_PG_allowed_5 : decode b_PG_allowed 5 = .ok (.invokevirtual 65, 3) := by decide +kernel
theorem d_PG_allowed_8 : decode b_PG_allowed 8 = .ok (.ifCond .eq 18, 3) := by decide +kernel
theorem d_PG_allowed_11 : decode b_PG_allowed 11 = .ok (.aload_n 0, 1) := by decide +kernel
theorem d_PG_allowed_12 : decode b_PG_allowed 12 = .ok (.getfield 10, 3) := by decide +kernel
theorem d_PG_allowed_15 : decode b_PG_allowed 15 = .ok (.iload_n 1, 1) := by decide +kernel
theorem d_PG_allowed_16 : decode b_PG_allowed 16 = .ok (.invokevirtual 124, 3) := by decide +kernel
theorem d_PG_allowed_19 : decode b_PG_allowed 19 = .ok (.ifCond .eq 7, 3) := by decide +kernel
theorem d_PG_allowed_22 : decode b_PG_allowed 22 = .ok (.iconst 1, 1) := by decide +kernel
theorem d_PG_allowed_23 : decode b_PG_allowed 23 = .ok (.goto 4, 3) := by decide +kernel
theorem d_PG_allowed_26 : decode b_PG_allowed 26 = .ok (.iconst 0, 1) := by decide +kernel
theorem d_PG_allowed_27 : decode b_PG_allowed 27 = .ok (.ireturn, 1) := by decide +kernel
theorem d_PG_found_0 : decode b_PG_found 0 = .ok (.aload_n 0, 1) := by decide +kernel
theorem d_PG_found_1 : decode b_PG_found 1 = .ok (.getfield 34, 3) := by decide +kernel
theorem d_PG_found_4 : decode b_PG_found 4 = .ok (.ifCond .eq 14, 3) := by decide +kernel
theorem d_PG_found_7 : decode b_PG_found 7 = .ok (.aload_n 0, 1) := by decide +kernel
theorem d_PG_found_8 : decode b_PG_found 8 = .ok (.getfield 10, 3) := by decide +kernel
theorem d_PG_found_11 : decode b_PG_found 11 = .ok (.iload_n 1, 1) := by decide +kernel
theorem d_PG_found_12 : decode b_PG_found 12 = .ok (.invokevirtual 65, 3) := by decide +kernel
theorem d_PG_found_15 : decode b_PG_found 15 = .ok (.ifCond .ne 5, 3) := by decide +kernel
theorem d_PG_found_18 : decode b_PG_found 18 = .ok (.iconst (-1), 1) := by decide +kernel
theorem d_PG_found_19 : decode b_PG_found 19 = .ok (.ireturn, 1) := by decide +kernel
theorem d_PG_found_20 : decode b_PG_found 20 = .ok (.aload_n 0, 1) := by decide +kernel
theorem d_PG_found_21 : decode b_PG_found 21 = .ok (.getfield 21, 3) := by decide +kernel
theorem d_PG_found_24 : decode b_PG_found 24 = .ok (.iload_n 1, 1) := by decide +kernel
theorem d_PG_found_25 : decode b_PG_found 25 = .ok (.iconst 0, 1) := by decide +kernel
theorem d_PG_found_26 : decode b_PG_found 26 = .ok (.invokevirtual 127, 3) := by decide +kernel
theorem d_PG_found_29 : decode b_PG_found 29 = .ok (.ireturn, 1) := by decide +kernel
theorem d_PG_clock_0 : decode b_PG_clock 0 = .ok (.aload_n 0, 1) := by decide +kernel
theorem d_PG_clock_1 : decode b_PG_clock 1 = .ok (.getfield 34, 3) := by decide +kernel
theorem d_PG_clock_4 : decode b_PG_clock 4 = .ok (.ifCond .eq 13, 3) := by decide +kernel
theorem d_PG_clock_7 : decode b_PG_clock 7 = .ok (.aload_n 0, 1) := by decide +kernel
theorem d_PG_clock_8 : decode b_PG_clock 8 = .ok (.getfield 21, 3) := by decide +kernel
theorem d_PG_clock_11 : decode b_PG_clock 11 = .ok (.getfield 131, 3) := by decide +kernel
theorem d_PG_clock_14 : decode b_PG_clock 14 = .ok (.goto 4, 3) := by decide +kernel
theorem d_PG_clock_17 : decode b_PG_clock 17 = .ok (.iconst 0, 1) := by decide +kernel
theorem d_PG_clock_18 : decode b_PG_clock 18 = .ok (.ireturn, 1) := by decide +kernel
theorem d_PG_fetches_0 : decode b_PG_fetches 0 = .ok (.aload_n 0, 1) := by decide +kernel
theorem d_PG_fetches_1 : decode b_PG_fetches 1 = .ok (.getfield 34, 3) := by decide +kernel
theorem d_PG_fetches_4 : decode b_PG_fetches 4 = .ok (.ifCond .eq 13, 3) := by decide +kernel
theorem d_PG_fetches_7 : decode b_PG_fetches 7 = .ok (.aload_n 0, 1) := by decide +kernel
theorem d_PG_fetches_8 : decode b_PG_fetches 8 = .ok (.getfield 21, 3) := by decide +kernel
theorem d_PG_fetches_11 : decode b_PG_fetches 11 = .ok (.getfield 111, 3) := by decide +kernel
theorem d_PG_fetches_14 : decode b_PG_fetches 14 = .ok (.goto 4, 3) := by decide +kernel
theorem d_PG_fetches_17 : decode b_PG_fetches 17 = .ok (.iconst 0, 1) := by decide +kernel
theorem d_PG_fetches_18 : decode b_PG_fetches 18 = .ok (.ireturn, 1) := by decide +kernel
theorem d_PG_waiting_0 : decode b_PG_waiting 0 = .ok (.aload_n 0, 1) := by decide +kernel
theorem d_PG_waiting_1 : decode b_PG_waiting 1 = .ok (.getfield 34, 3) := by decide +kernel
theorem d_PG_waiting_4 : decode b_PG_waiting 4 = .ok (.ifCond .eq 13, 3) := by decide +kernel
theorem d_PG_waiting_7 : decode b_PG_waiting 7 = .ok (.aload_n 0, 1) := by decide +kernel
theorem d_PG_waiting_8 : decode b_PG_waiting 8 = .ok (.getfield 21, 3) := by decide +kernel
theorem d_PG_waiting_11 : decode b_PG_waiting 11 = .ok (.invokevirtual 114, 3) := by decide +kernel
theorem d_PG_waiting_14 : decode b_PG_waiting 14 = .ok (.goto 4, 3) := by decide +kernel
theorem d_PG_waiting_17 : decode b_PG_waiting 17 = .ok (.iconst 0, 1) := by decide +kernel
theorem d_PG_waiting_18 : decode b_PG_waiting 18 = .ok (.ireturn, 1) := by decide +kernel
theorem d_PG_corpusAt_0 : decode b_PG_corpusAt 0 = .ok (.aload_n 0, 1) := by decide +kernel
theorem d_PG_corpusAt_1 : decode b_PG_corpusAt 1 = .ok (.getfield 34, 3) := by decide +kernel
theorem d_PG_corpusAt_4 : decode b_PG_corpusAt 4 = .ok (.ifCond .eq 17, 3) := by decide +kernel
theorem d_PG_corpusAt_7 : decode b_PG_corpusAt 7 = .ok (.aload_n 0, 1) := by decide +kernel
theorem d_PG_corpusAt_8 : decode b_PG_corpusAt 8 = .ok (.getfield 21, 3) := by decide +kernel
theorem d_PG_corpusAt_11 : decode b_PG_corpusAt 11 = .ok (.getfield 134, 3) := by decide +kernel
theorem d_PG_corpusAt_14 : decode b_PG_corpusAt 14 = .ok (.iload_n 1, 1) := by decide +kernel
theorem d_PG_corpusAt_15 : decode b_PG_corpusAt 15 = .ok (.invokevirtual 137, 3) := by decide +kernel
theorem d_PG_corpusAt_18 : decode b_PG_corpusAt 18 = .ok (.goto 4, 3) := by decide +kernel
theorem d_PG_corpusAt_21 : decode b_PG_corpusAt 21 = .ok (.iconst (-1), 1) := by decide +kernel
theorem d_PG_corpusAt_22 : decode b_PG_corpusAt 22 = .ok (.ireturn, 1) := by decide +kernel
theorem d_PG_document_0 : decode b_PG_document 0 = .ok (.aload_n 0, 1) := by decide +kernel
theorem d_PG_document_1 : decode b_PG_document 1 = .ok (.getfield 34, 3) := by decide +kernel
theorem d_PG_document_4 : decode b_PG_document 4 = .ok (.ifCond .eq 14, 3) := by decide +kernel
theorem d_PG_document_7 : decode b_PG_document 7 = .ok (.aload_n 0, 1) := by decide +kernel
theorem d_PG_document_8 : decode b_PG_document 8 = .ok (.getfield 30, 3) := by decide +kernel
theorem d_PG_document_11 : decode b_PG_document 11 = .ok (.iload_n 1, 1) := by decide +kernel
theorem d_PG_document_12 : decode b_PG_document 12 = .ok (.invokevirtual 141, 3) := by decide +kernel
theorem d_PG_document_15 : decode b_PG_document 15 = .ok (.goto 4, 3) := by decide +kernel
theorem d_PG_document_18 : decode b_PG_document 18 = .ok (.iconst (-1), 1) := by decide +kernel
theorem d_PG_document_19 : decode b_PG_document 19 = .ok (.ireturn, 1) := by decide +kernel
theorem d_PG_rank_0 : decode b_PG_rank 0 = .ok (.aload_n 0, 1) := by decide +kernel
theorem d_PG_rank_1 : decode b_PG_rank 1 = .ok (.getfield 34, 3) := by decide +kernel
theorem d_PG_rank_4 : decode b_PG_rank 4 = .ok (.ifCond .eq 24, 3) := by decide +kernel
theorem d_PG_rank_7 : decode b_PG_rank 7 = .ok (.iload_n 2, 1) := by decide +kernel
theorem d_PG_rank_8 : decode b_PG_rank 8 = .ok (.iconst 0, 1) := by decide +kernel
theorem d_PG_rank_9 : decode b_PG_rank 9 = .ok (.bipush 12, 2) := by decide +kernel
theorem d_PG_rank_11 : decode b_PG_rank 11 = .ok (.invokestatic 46, 3) := by decide +kernel
theorem d_PG_rank_14 : decode b_PG_rank 14 = .ok (.ifCond .eq 14, 3) := by decide +kernel
theorem d_PG_rank_17 : decode b_PG_rank 17 = .ok (.aload_n 0, 1) := by decide +kernel
theorem d_PG_rank_18 : decode b_PG_rank 18 = .ok (.getfield 30, 3) := by decide +kernel
theorem d_PG_rank_21 : decode b_PG_rank 21 = .ok (.iload_n 1, 1) := by decide +kernel
theorem d_PG_rank_22 : decode b_PG_rank 22 = .ok (.invokevirtual 144, 3) := by decide +kernel
theorem d_PG_rank_25 : decode b_PG_rank 25 = .ok (.ifCond .ne 5, 3) := by decide +kernel
theorem d_PG_rank_28 : decode b_PG_rank 28 = .ok (.lconst 0, 1) := by decide +kernel
theorem d_PG_rank_29 : decode b_PG_rank 29 = .ok (.lreturn, 1) := by decide +kernel
theorem d_PG_rank_30 : decode b_PG_rank 30 = .ok (.aload_n 0, 1) := by decide +kernel
theorem d_PG_rank_31 : decode b_PG_rank 31 = .ok (.getfield 30, 3) := by decide +kernel
theorem d_PG_rank_34 : decode b_PG_rank 34 = .ok (.iload_n 2, 1) := by decide +kernel
theorem d_PG_rank_35 : decode b_PG_rank 35 = .ok (.invokevirtual 147, 3) := by decide +kernel
theorem d_PG_rank_38 : decode b_PG_rank 38 = .ok (.aload_n 0, 1) := by decide +kernel
theorem d_PG_rank_39 : decode b_PG_rank 39 = .ok (.getfield 30, 3) := by decide +kernel
theorem d_PG_rank_42 : decode b_PG_rank 42 = .ok (.getfield 151, 3) := by decide +kernel
theorem d_PG_rank_45 : decode b_PG_rank 45 = .ok (.iload_n 1, 1) := by decide +kernel
theorem d_PG_rank_46 : decode b_PG_rank 46 = .ok (.laload, 1) := by decide +kernel
theorem d_PG_rank_47 : decode b_PG_rank 47 = .ok (.lreturn, 1) := by decide +kernel
theorem d_PG_best_0 : decode b_PG_best 0 = .ok (.aload_n 0, 1) := by decide +kernel
theorem d_PG_best_1 : decode b_PG_best 1 = .ok (.getfield 34, 3) := by decide +kernel
theorem d_PG_best_4 : decode b_PG_best 4 = .ok (.ifCond .ne 5, 3) := by decide +kernel
theorem d_PG_best_7 : decode b_PG_best 7 = .ok (.iconst (-1), 1) := by decide +kernel
theorem d_PG_best_8 : decode b_PG_best 8 = .ok (.ireturn, 1) := by decide +kernel
theorem d_PG_best_9 : decode b_PG_best 9 = .ok (.aload_n 0, 1) := by decide +kernel
theorem d_PG_best_10 : decode b_PG_best 10 = .ok (.getfield 30, 3) := by decide +kernel
theorem d_PG_best_13 : decode b_PG_best 13 = .ok (.bipush 8, 2) := by decide +kernel
theorem d_PG_best_15 : decode b_PG_best 15 = .ok (.invokevirtual 147, 3) := by decide +kernel
theorem d_PG_best_18 : decode b_PG_best 18 = .ok (.aload_n 0, 1) := by decide +kernel
theorem d_PG_best_19 : decode b_PG_best 19 = .ok (.getfield 30, 3) := by decide +kernel
theorem d_PG_best_22 : decode b_PG_best 22 = .ok (.iload_n 1, 1) := by decide +kernel
theorem d_PG_best_23 : decode b_PG_best 23 = .ok (.iload_n 2, 1) := by decide +kernel
theorem d_PG_best_24 : decode b_PG_best 24 = .ok (.invokevirtual 155, 3) := by decide +kernel
theorem d_PG_best_27 : decode b_PG_best 27 = .ok (.aload_n 0, 1) := by decide +kernel
theorem d_PG_best_28 : decode b_PG_best 28 = .ok (.getfield 30, 3) := by decide +kernel
theorem d_PG_best_31 : decode b_PG_best 31 = .ok (.iload_n 3, 1) := by decide +kernel
theorem d_PG_best_32 : decode b_PG_best 32 = .ok (.invokevirtual 159, 3) := by decide +kernel
theorem d_PG_best_35 : decode b_PG_best 35 = .ok (.ireturn, 1) := by decide +kernel
theorem d_PG_canChange_0 : decode b_PG_canChange 0 = .ok (.aload_n 0, 1) := by decide +kernel
theorem d_PG_canChange_1 : decode b_PG_canChange 1 = .ok (.getfield 34, 3) := by decide +kernel
theorem d_PG_canChange_4 : decode b_PG_canChange 4 = .ok (.ifCond .ne 18, 3) := by decide +kernel
theorem d_PG_canChange_7 : decode b_PG_canChange 7 = .ok (.aload_n 0, 1) := by decide +kernel
theorem d_PG_canChange_8 : decode b_PG_canChange 8 = .ok (.getfield 10, 3) := by decide +kernel
theorem d_PG_canChange_11 : decode b_PG_canChange 11 = .ok (.iload_n 1, 1) := by decide +kernel
theorem d_PG_canChange_12 : decode b_PG_canChange 12 = .ok (.invokevirtual 65, 3) := by decide +kernel
theorem d_PG_canChange_15 : decode b_PG_canChange 15 = .ok (.ifCond .eq 7, 3) := by decide +kernel
theorem d_PG_canChange_18 : decode b_PG_canChange 18 = .ok (.iconst 1, 1) := by decide +kernel
theorem d_PG_canChange_19 : decode b_PG_canChange 19 = .ok (.goto 4, 3) := by decide +kernel
theorem d_PG_canChange_22 : decode b_PG_canChange 22 = .ok (.iconst 0, 1) := by decide +kernel
theorem d_PG_canChange_23 : decode b_PG_canChange 23 = .ok (.ireturn, 1) := by decide +kernel
theorem d_PG_isWithin_0 : decode b_PG_isWithin 0 = .ok (.iload_n 1, 1) := by decide +kernel
theorem d_PG_isWithin_1 : decode b_PG_isWithin 1 = .ok (.iload_n 0, 1) := by decide +kernel
theorem d_PG_isWithin_2 : decode b_PG_isWithin 2 = .ok (.if_icmp .gt 12, 3) := by decide +kernel
theorem d_PG_isWithin_5 : decode b_PG_isWithin 5 = .ok (.iload_n 0, 1) := by decide +kernel
theorem d_PG_isWithin_6 : decode b_PG_isWithin 6 = .ok (.iload_n 2, 1) := by decide +kernel
theorem d_PG_isWithin_7 : decode b_PG_isWithin 7 = .ok (.if_icmp .gt 7, 3) := by decide +kernel
theorem d_PG_isWithin_10 : decode b_PG_isWithin 10 = .ok (.iconst 1, 1) := by decide +kernel
theorem d_PG_isWithin_11 : decode b_PG_isWithin 11 = .ok (.goto 4, 3) := by decide +kernel
theorem d_PG_isWithin_14 : decode b_PG_isWithin 14 = .ok (.iconst 0, 1) := by decide +kernel
theorem d_PG_isWithin_15 : decode b_PG_isWithin 15 = .ok (.ireturn, 1) := by decide +kernel
theorem d_PG_isHost_0 : decode b_PG_isHost 0 = .ok (.iload_n 0, 1) := by decide +kernel
theorem d_PG_isHost_1 : decode b_PG_isHost 1 = .ok (.iconst 0, 1) := by decide +kernel
theorem d_PG_isHost_2 : decode b_PG_isHost 2 = .ok (.iconst 5, 1) := by decide +kernel
theorem d_PG_isHost_3 : decode b_PG_isHost 3 = .ok (.invokestatic 46, 3) := by decide +kernel
theorem d_PG_isHost_6 : decode b_PG_isHost 6 = .ok (.ireturn, 1) := by decide +kernel

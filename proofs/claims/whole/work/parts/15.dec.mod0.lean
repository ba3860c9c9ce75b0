/-! Decoded instructions of Mod. -/
theorem d_Mod_init_0 : decode b_Mod_init 0 = .ok (.aload_n 0, 1) := by decide +kernel
theorem d_Mod_init_1 : decode b_Mod_init 1 = .ok (.invokespecial 1, 3) := by decide +kernel
theorem d_Mod_init_4 : decode b_Mod_init 4 = .ok (.aload_n 0, 1) := by decide +kernel
theorem d_Mod_init_5 : decode b_Mod_init 5 = .ok (.bipush 32, 2) := by decide +kernel
theorem d_Mod_init_7 : decode b_Mod_init 7 = .ok (.newarray .int, 2) := by decide +kernel
theorem d_Mod_init_9 : decode b_Mod_init 9 = .ok (.putfield 7, 3) := by decide +kernel
theorem d_Mod_init_12 : decode b_Mod_init 12 = .ok (.aload_n 0, 1) := by decide +kernel
theorem d_Mod_init_13 : decode b_Mod_init 13 = .ok (.bipush 32, 2) := by decide +kernel
theorem d_Mod_init_15 : decode b_Mod_init 15 = .ok (.newarray .int, 2) := by decide +kernel
theorem d_Mod_init_17 : decode b_Mod_init 17 = .ok (.putfield 13, 3) := by decide +kernel
theorem d_Mod_init_20 : decode b_Mod_init 20 = .ok (.aload_n 0, 1) := by decide +kernel
theorem d_Mod_init_21 : decode b_Mod_init 21 = .ok (.bipush 32, 2) := by decide +kernel
theorem d_Mod_init_23 : decode b_Mod_init 23 = .ok (.newarray .int, 2) := by decide +kernel
theorem d_Mod_init_25 : decode b_Mod_init 25 = .ok (.putfield 16, 3) := by decide +kernel
theorem d_Mod_init_28 : decode b_Mod_init 28 = .ok (.aload_n 0, 1) := by decide +kernel
theorem d_Mod_init_29 : decode b_Mod_init 29 = .ok (.sipush 256, 3) := by decide +kernel
theorem d_Mod_init_32 : decode b_Mod_init 32 = .ok (.newarray .int, 2) := by decide +kernel
theorem d_Mod_init_34 : decode b_Mod_init 34 = .ok (.putfield 19, 3) := by decide +kernel
theorem d_Mod_init_37 : decode b_Mod_init 37 = .ok (.aload_n 0, 1) := by decide +kernel
theorem d_Mod_init_38 : decode b_Mod_init 38 = .ok (.bipush 32, 2) := by decide +kernel
theorem d_Mod_init_40 : decode b_Mod_init 40 = .ok (.newarray .int, 2) := by decide +kernel
theorem d_Mod_init_42 : decode b_Mod_init 42 = .ok (.putfield 22, 3) := by decide +kernel
theorem d_Mod_init_45 : decode b_Mod_init 45 = .ok (.aload_n 0, 1) := by decide +kernel
theorem d_Mod_init_46 : decode b_Mod_init 46 = .ok (.sipush 160, 3) := by decide +kernel
theorem d_Mod_init_49 : decode b_Mod_init 49 = .ok (.newarray .int, 2) := by decide +kernel
theorem d_Mod_init_51 : decode b_Mod_init 51 = .ok (.putfield 25, 3) := by decide +kernel
theorem d_Mod_init_54 : decode b_Mod_init 54 = .ok (.aload_n 0, 1) := by decide +kernel
theorem d_Mod_init_55 : decode b_Mod_init 55 = .ok (.bipush 32, 2) := by decide +kernel
theorem d_Mod_init_57 : decode b_Mod_init 57 = .ok (.newarray .int, 2) := by decide +kernel
theorem d_Mod_init_59 : decode b_Mod_init 59 = .ok (.putfield 28, 3) := by decide +kernel
theorem d_Mod_init_62 : decode b_Mod_init 62 = .ok (.aload_n 0, 1) := by decide +kernel
theorem d_Mod_init_63 : decode b_Mod_init 63 = .ok (.bipush 24, 2) := by decide +kernel
theorem d_Mod_init_65 : decode b_Mod_init 65 = .ok (.newarray .int, 2) := by decide +kernel
theorem d_Mod_init_67 : decode b_Mod_init 67 = .ok (.putfield 31, 3) := by decide +kernel
theorem d_Mod_init_70 : decode b_Mod_init 70 = .ok (.aload_n 0, 1) := by decide +kernel
theorem d_Mod_init_71 : decode b_Mod_init 71 = .ok (.bipush 24, 2) := by decide +kernel
theorem d_Mod_init_73 : decode b_Mod_init 73 = .ok (.newarray .boolean, 2) := by decide +kernel
theorem d_Mod_init_75 : decode b_Mod_init 75 = .ok (.putfield 34, 3) := by decide +kernel
theorem d_Mod_init_78 : decode b_Mod_init 78 = .ok (.aload_n 0, 1) := by decide +kernel
theorem d_Mod_init_79 : decode b_Mod_init 79 = .ok (.bipush 6, 2) := by decide +kernel
theorem d_Mod_init_81 : decode b_Mod_init 81 = .ok (.newarray .int, 2) := by decide +kernel
theorem d_Mod_init_83 : decode b_Mod_init 83 = .ok (.putfield 38, 3) := by decide +kernel
theorem d_Mod_init_86 : decode b_Mod_init 86 = .ok (.aload_n 0, 1) := by decide +kernel
theorem d_Mod_init_87 : decode b_Mod_init 87 = .ok (.bipush 6, 2) := by decide +kernel
theorem d_Mod_init_89 : decode b_Mod_init 89 = .ok (.newarray .int, 2) := by decide +kernel
theorem d_Mod_init_91 : decode b_Mod_init 91 = .ok (.putfield 41, 3) := by decide +kernel
theorem d_Mod_init_94 : decode b_Mod_init 94 = .ok (.aload_n 0, 1) := by decide +kernel
theorem d_Mod_init_95 : decode b_Mod_init 95 = .ok (.bipush 32, 2) := by decide +kernel
theorem d_Mod_init_97 : decode b_Mod_init 97 = .ok (.newarray .int, 2) := by decide +kernel
theorem d_Mod_init_99 : decode b_Mod_init 99 = .ok (.putfield 44, 3) := by decide +kernel
theorem d_Mod_init_102 : decode b_Mod_init 102 = .ok (.aload_n 0, 1) := by decide +kernel
theorem d_Mod_init_103 : decode b_Mod_init 103 = .ok (.bipush 32, 2) := by decide +kernel
theorem d_Mod_init_105 : decode b_Mod_init 105 = .ok (.newarray .int, 2) := by decide +kernel
theorem d_Mod_init_107 : decode b_Mod_init 107 = .ok (.putfield 47, 3) := by decide +kernel
theorem d_Mod_init_110 : decode b_Mod_init 110 = .ok (.aload_n 0, 1) := by decide +kernel
theorem d_Mod_init_111 : decode b_Mod_init 111 = .ok (.bipush 32, 2) := by decide +kernel
theorem d_Mod_init_113 : decode b_Mod_init 113 = .ok (.newarray .int, 2) := by decide +kernel
theorem d_Mod_init_115 : decode b_Mod_init 115 = .ok (.putfield 50, 3) := by decide +kernel
theorem d_Mod_init_118 : decode b_Mod_init 118 = .ok (.aload_n 0, 1) := by decide +kernel
theorem d_Mod_init_119 : decode b_Mod_init 119 = .ok (.bipush 32, 2) := by decide +kernel
theorem d_Mod_init_121 : decode b_Mod_init 121 = .ok (.newarray .int, 2) := by decide +kernel
theorem d_Mod_init_123 : decode b_Mod_init 123 = .ok (.putfield 53, 3) := by decide +kernel
theorem d_Mod_init_126 : decode b_Mod_init 126 = .ok (.aload_n 0, 1) := by decide +kernel
theorem d_Mod_init_127 : decode b_Mod_init 127 = .ok (.bipush 6, 2) := by decide +kernel
theorem d_Mod_init_129 : decode b_Mod_init 129 = .ok (.newarray .int, 2) := by decide +kernel
theorem d_Mod_init_131 : decode b_Mod_init 131 = .ok (.putfield 56, 3) := by decide +kernel
theorem d_Mod_init_134 : decode b_Mod_init 134 = .ok (.aload_n 0, 1) := by decide +kernel
theorem d_Mod_init_135 : decode b_Mod_init 135 = .ok (.sipush 160, 3) := by decide +kernel
theorem d_Mod_init_138 : decode b_Mod_init 138 = .ok (.newarray .int, 2) := by decide +kernel
theorem d_Mod_init_140 : decode b_Mod_init 140 = .ok (.putfield 59, 3) := by decide +kernel
theorem d_Mod_init_143 : decode b_Mod_init 143 = .ok (.aload_n 0, 1) := by decide +kernel
theorem d_Mod_init_144 : decode b_Mod_init 144 = .ok (.bipush 32, 2) := by decide +kernel
theorem d_Mod_init_146 : decode b_Mod_init 146 = .ok (.newarray .long, 2) := by decide +kernel
theorem d_Mod_init_148 : decode b_Mod_init 148 = .ok (.putfield 62, 3) := by decide +kernel
theorem d_Mod_init_151 : decode b_Mod_init 151 = .ok (.aload_n 0, 1) := by decide +kernel
theorem d_Mod_init_152 : decode b_Mod_init 152 = .ok (.bipush 32, 2) := by decide +kernel
theorem d_Mod_init_154 : decode b_Mod_init 154 = .ok (.newarray .long, 2) := by decide +kernel
theorem d_Mod_init_156 : decode b_Mod_init 156 = .ok (.putfield 66, 3) := by decide +kernel
theorem d_Mod_init_159 : decode b_Mod_init 159 = .ok (.return_, 1) := by decide +kernel
theorem d_Mod_isPage_0 : decode b_Mod_isPage 0 = .ok (.iload_n 1, 1) := by decide +kernel
theorem d_Mod_isPage_1 : decode b_Mod_isPage 1 = .ok (.ifCond .lt 15, 3) := by decide +kernel
theorem d_Mod_isPage_4 : decode b_Mod_isPage 4 = .ok (.iload_n 1, 1) := by decide +kernel
theorem d_Mod_isPage_5 : decode b_Mod_isPage 5 = .ok (.aload_n 0, 1) := by decide +kernel
theorem d_Mod_isPage_6 : decode b_Mod_isPage 6 = .ok (.getfield 69, 3) := by decide +kernel
theorem d_Mod_isPage_9 : decode b_Mod_isPage 9 = .ok (.if_icmp .ge 7, 3) := by decide +kernel
theorem d_Mod_isPage_12 : decode b_Mod_isPage 12 = .ok (.iconst 1, 1) := by decide +kernel
theorem d_Mod_isPage_13 : decode b_Mod_isPage 13 = .ok (.goto 4, 3) := by decide +kernel
theorem d_Mod_isPage_16 : decode b_Mod_isPage 16 = .ok (.iconst 0, 1) := by decide +kernel
theorem d_Mod_isPage_17 : decode b_Mod_isPage 17 = .ok (.ireturn, 1) := by decide +kernel
theorem d_Mod_page_0 : decode b_Mod_page 0 = .ok (.aload_n 0, 1) := by decide +kernel
theorem d_Mod_page_1 : decode b_Mod_page 1 = .ok (.getfield 73, 3) := by decide +kernel
theorem d_Mod_page_4 : decode b_Mod_page 4 = .ok (.ifCond .ne 32, 3) := by decide +kernel
theorem d_Mod_page_7 : decode b_Mod_page 7 = .ok (.iload_n 1, 1) := by decide +kernel
theorem d_Mod_page_8 : decode b_Mod_page 8 = .ok (.ifCond .lt 28, 3) := by decide +kernel
theorem d_Mod_page_11 : decode b_Mod_page 11 = .ok (.iload_n 1, 1) := by decide +kernel
theorem d_Mod_page_12 : decode b_Mod_page 12 = .ok (.iconst 5, 1) := by decide +kernel
theorem d_Mod_page_13 : decode b_Mod_page 13 = .ok (.if_icmp .gt 23, 3) := by decide +kernel
theorem d_Mod_page_16 : decode b_Mod_page 16 = .ok (.iload_n 2, 1) := by decide +kernel
theorem d_Mod_page_17 : decode b_Mod_page 17 = .ok (.iconst 1, 1) := by decide +kernel
theorem d_Mod_page_18 : decode b_Mod_page 18 = .ok (.if_icmp .lt 18, 3) := by decide +kernel
theorem d_Mod_page_21 : decode b_Mod_page 21 = .ok (.iload_n 2, 1) := by decide +kernel
theorem d_Mod_page_22 : decode b_Mod_page 22 = .ok (.ldc 77, 2) := by decide +kernel
theorem d_Mod_page_24 : decode b_Mod_page 24 = .ok (.if_icmp .gt 12, 3) := by decide +kernel
theorem d_Mod_page_27 : decode b_Mod_page 27 = .ok (.aload_n 0, 1) := by decide +kernel
theorem d_Mod_page_28 : decode b_Mod_page 28 = .ok (.getfield 69, 3) := by decide +kernel
theorem d_Mod_page_31 : decode b_Mod_page 31 = .ok (.bipush 32, 2) := by decide +kernel
theorem d_Mod_page_33 : decode b_Mod_page 33 = .ok (.if_icmp .lt 5, 3) := by decide +kernel
theorem d_Mod_page_36 : decode b_Mod_page 36 = .ok (.iconst (-1), 1) := by decide +kernel
theorem d_Mod_page_37 : decode b_Mod_page 37 = .ok (.ireturn, 1) := by decide +kernel
theorem d_Mod_page_38 : decode b_Mod_page 38 = .ok (.iconst 0, 1) := by decide +kernel
theorem d_Mod_page_39 : decode b_Mod_page 39 = .ok (.istore_n 3, 1) := by decide +kernel
theorem d_Mod_page_40 : decode b_Mod_page 40 = .ok (.iload_n 3, 1) := by decide +kernel
theorem d_Mod_page_41 : decode b_Mod_page 41 = .ok (.aload_n 0, 1) := by decide +kernel
theorem d_Mod_page_42 : decode b_Mod_page 42 = .ok (.getfield 69, 3) := by decide +kernel
theorem d_Mod_page_45 : decode b_Mod_page 45 = .ok (.if_icmp .ge 31, 3) := by decide +kernel
theorem d_Mod_page_48 : decode b_Mod_page 48 = .ok (.aload_n 0, 1) := by decide +kernel
theorem d_Mod_page_49 : decode b_Mod_page 49 = .ok (.getfield 7, 3) := by decide +kernel
theorem d_Mod_page_52 : decode b_Mod_page 52 = .ok (.iload_n 3, 1) := by decide +kernel
theorem d_Mod_page_53 : decode b_Mod_page 53 = .ok (.iaload, 1) := by decide +kernel
theorem d_Mod_page_54 : decode b_Mod_page 54 = .ok (.iload_n 1, 1) := by decide +kernel
theorem d_Mod_page_55 : decode b_Mod_page 55 = .ok (.if_icmp .ne 15, 3) := by decide +kernel
theorem d_Mod_page_58 : decode b_Mod_page 58 = .ok (.aload_n 0, 1) := by decide +kernel
theorem d_Mod_page_59 : decode b_Mod_page 59 = .ok (.getfield 13, 3) := by decide +kernel
theorem d_Mod_page_62 : decode b_Mod_page 62 = .ok (.iload_n 3, 1) := by decide +kernel
theorem d_Mod_page_63 : decode b_Mod_page 63 = .ok (.iaload, 1) := by decide +kernel
theorem d_Mod_page_64 : decode b_Mod_page 64 = .ok (.iload_n 2, 1) := by decide +kernel
theorem d_Mod_page_65 : decode b_Mod_page 65 = .ok (.if_icmp .ne 5, 3) := by decide +kernel
theorem d_Mod_page_68 : decode b_Mod_page 68 = .ok (.iconst (-1), 1) := by decide +kernel
theorem d_Mod_page_69 : decode b_Mod_page 69 = .ok (.ireturn, 1) := by decide +kernel
theorem d_Mod_page_70 : decode b_Mod_page 70 = .ok (.iinc 3 1, 3) := by decide +kernel
theorem d_Mod_page_73 : decode b_Mod_page 73 = .ok (.goto (-33), 3) := by decide +kernel
theorem d_Mod_page_76 : decode b_Mod_page 76 = .ok (.aload_n 0, 1) := by decide +kernel
theorem d_Mod_page_77 : decode b_Mod_page 77 = .ok (.getfield 7, 3) := by decide +kernel
theorem d_Mod_page_80 : decode b_Mod_page 80 = .ok (.aload_n 0, 1) := by decide +kernel
theorem d_Mod_page_81 : decode b_Mod_page 81 = .ok (.getfield 69, 3) := by decide +kernel
theorem d_Mod_page_84 : decode b_Mod_page 84 = .ok (.iload_n 1, 1) := by decide +kernel
theorem d_Mod_page_85 : decode b_Mod_page 85 = .ok (.iastore, 1) := by decide +kernel
theorem d_Mod_page_86 : decode b_Mod_page 86 = .ok (.aload_n 0, 1) := by decide +kernel
theorem d_Mod_page_87 : decode b_Mod_page 87 = .ok (.getfield 13, 3) := by decide +kernel
theorem d_Mod_page_90 : decode b_Mod_page 90 = .ok (.aload_n 0, 1) := by decide +kernel
theorem d_Mod_page_91 : decode b_Mod_page 91 = .ok (.getfield 69, 3) := by decide +kernel
theorem d_Mod_page_94 : decode b_Mod_page 94 = .ok (.iload_n 2, 1) := by decide +kernel
theorem d_Mod_page_95 : decode b_Mod_page 95 = .ok (.iastore, 1) := by decide +kernel
theorem d_Mod_page_96 : decode b_Mod_page 96 = .ok (.aload_n 0, 1) := by decide +kernel
theorem d_Mod_page_97 : decode b_Mod_page 97 = .ok (.getfield 16, 3) := by decide +kernel
theorem d_Mod_page_100 : decode b_Mod_page 100 = .ok (.aload_n 0, 1) := by decide +kernel
theorem d_Mod_page_101 : decode b_Mod_page 101 = .ok (.getfield 69, 3) := by decide +kernel
theorem d_Mod_page_104 : decode b_Mod_page 104 = .ok (.bipush (-2), 2) := by decide +kernel
theorem d_Mod_page_106 : decode b_Mod_page 106 = .ok (.iastore, 1) := by decide +kernel
theorem d_Mod_page_107 : decode b_Mod_page 107 = .ok (.aload_n 0, 1) := by decide +kernel
theorem d_Mod_page_108 : decode b_Mod_page 108 = .ok (.aload_n 0, 1) := by decide +kernel
theorem d_Mod_page_109 : decode b_Mod_page 109 = .ok (.getfield 69, 3) := by decide +kernel
theorem d_Mod_page_112 : decode b_Mod_page 112 = .ok (.iconst 1, 1) := by decide +kernel
theorem d_Mod_page_113 : decode b_Mod_page 113 = .ok (.iadd, 1) := by decide +kernel
theorem d_Mod_page_114 : decode b_Mod_page 114 = .ok (.putfield 69, 3) := by decide +kernel
theorem d_Mod_page_117 : decode b_Mod_page 117 = .ok (.aload_n 0, 1) := by decide +kernel
theorem d_Mod_page_118 : decode b_Mod_page 118 = .ok (.getfield 69, 3) := by decide +kernel
theorem d_Mod_page_121 : decode b_Mod_page 121 = .ok (.iconst 1, 1) := by decide +kernel
theorem d_Mod_page_122 : decode b_Mod_page 122 = .ok (.isub, 1) := by decide +kernel
theorem d_Mod_page_123 : decode b_Mod_page 123 = .ok (.ireturn, 1) := by decide +kernel
theorem d_Mod_write_0 : decode b_Mod_write 0 = .ok (.aload_n 0, 1) := by decide +kernel
theorem d_Mod_write_1 : decode b_Mod_write 1 = .ok (.getfield 73, 3) := by decide +kernel
theorem d_Mod_write_4 : decode b_Mod_write 4 = .ok (.ifCond .ne 32, 3) := by decide +kernel
theorem d_Mod_write_7 : decode b_Mod_write 7 = .ok (.aload_n 0, 1) := by decide +kernel
theorem d_Mod_write_8 : decode b_Mod_write 8 = .ok (.iload_n 1, 1) := by decide +kernel
theorem d_Mod_write_9 : decode b_Mod_write 9 = .ok (.invokevirtual 78, 3) := by decide +kernel
theorem d_Mod_write_12 : decode b_Mod_write 12 = .ok (.ifCond .eq 24, 3) := by decide +kernel
theorem d_Mod_write_15 : decode b_Mod_write 15 = .ok (.iload_n 2, 1) := by decide +kernel
theorem d_Mod_write_16 : decode b_Mod_write 16 = .ok (.ifCond .lt 20, 3) := by decide +kernel
theorem d_Mod_write_19 : decode b_Mod_write 19 = .ok (.iload_n 2, 1) := by decide +kernel
theorem d_Mod_write_20 : decode b_Mod_write 20 = .ok (.bipush 25, 2) := by decide +kernel
theorem d_Mod_write_22 : decode b_Mod_write 22 = .ok (.if_icmp .gt 14, 3) := by decide +kernel
theorem d_Mod_write_25 : decode b_Mod_write 25 = .ok (.aload_n 0, 1) := by decide +kernel
theorem d_Mod_write_26 : decode b_Mod_write 26 = .ok (.getfield 22, 3) := by decide +kernel
theorem d_Mod_write_29 : decode b_Mod_write 29 = .ok (.iload_n 1, 1) := by decide +kernel
theorem d_Mod_write_30 : decode b_Mod_write 30 = .ok (.iaload, 1) := by decide +kernel
theorem d_Mod_write_31 : decode b_Mod_write 31 = .ok (.bipush 8, 2) := by decide +kernel
theorem d_Mod_write_33 : decode b_Mod_write 33 = .ok (.if_icmp .lt 5, 3) := by decide +kernel
theorem d_Mod_write_36 : decode b_Mod_write 36 = .ok (.iconst 0, 1) := by decide +kernel
theorem d_Mod_write_37 : decode b_Mod_write 37 = .ok (.ireturn, 1) := by decide +kernel
theorem d_Mod_write_38 : decode b_Mod_write 38 = .ok (.aload_n 0, 1) := by decide +kernel
theorem d_Mod_write_39 : decode b_Mod_write 39 = .ok (.getfield 19, 3) := by decide +kernel
theorem d_Mod_write_42 : decode b_Mod_write 42 = .ok (.bipush 8, 2) := by decide +kernel
theorem d_Mod_write_44 : decode b_Mod_write 44 = .ok (.iload_n 1, 1) := by decide +kernel
theorem d_Mod_write_45 : decode b_Mod_write 45 = .ok (.imul, 1) := by decide +kernel
theorem d_Mod_write_46 : decode b_Mod_write 46 = .ok (.aload_n 0, 1) := by decide +kernel
theorem d_Mod_write_47 : decode b_Mod_write 47 = .ok (.getfield 22, 3) := by decide +kernel
theorem d_Mod_write_50 : decode b_Mod_write 50 = .ok (.iload_n 1, 1) := by decide +kernel
theorem d_Mod_write_51 : decode b_Mod_write 51 = .ok (.iaload, 1) := by decide +kernel
theorem d_Mod_write_52 : decode b_Mod_write 52 = .ok (.iadd, 1) := by decide +kernel
theorem d_Mod_write_53 : decode b_Mod_write 53 = .ok (.iload_n 2, 1) := by decide +kernel
theorem d_Mod_write_54 : decode b_Mod_write 54 = .ok (.iastore, 1) := by decide +kernel
theorem d_Mod_write_55 : decode b_Mod_write 55 = .ok (.aload_n 0, 1) := by decide +kernel
theorem d_Mod_write_56 : decode b_Mod_write 56 = .ok (.getfield 22, 3) := by decide +kernel
theorem d_Mod_write_59 : decode b_Mod_write 59 = .ok (.iload_n 1, 1) := by decide +kernel
theorem d_Mod_write_60 : decode b_Mod_write 60 = .ok (.aload_n 0, 1) := by decide +kernel
theorem d_Mod_write_61 : decode b_Mod_write 61 = .ok (.getfield 22, 3) := by decide +kernel
theorem d_Mod_write_64 : decode b_Mod_write 64 = .ok (.iload_n 1, 1) := by decide +kernel
theorem d_Mod_write_65 : decode b_Mod_write 65 = .ok (.iaload, 1) := by decide +kernel
theorem d_Mod_write_66 : decode b_Mod_write 66 = .ok (.iconst 1, 1) := by decide +kernel
theorem d_Mod_write_67 : decode b_Mod_write 67 = .ok (.iadd, 1) := by decide +kernel
theorem d_Mod_write_68 : decode b_Mod_write 68 = .ok (.iastore, 1) := by decide +kernel
theorem d_Mod_write_69 : decode b_Mod_write 69 = .ok (.iconst 1, 1) := by decide +kernel
theorem d_Mod_write_70 : decode b_Mod_write 70 = .ok (.ireturn, 1) := by decide +kernel
theorem d_Mod_link_0 : decode b_Mod_link 0 = .ok (.aload_n 0, 1) := by decide +kernel
theorem d_Mod_link_1 : decode b_Mod_link 1 = .ok (.getfield 73, 3) := by decide +kernel
theorem d_Mod_link_4 : decode b_Mod_link 4 = .ok (.ifCond .ne 29, 3) := by decide +kernel
theorem d_Mod_link_7 : decode b_Mod_link 7 = .ok (.aload_n 0, 1) := by decide +kernel
theorem d_Mod_link_8 : decode b_Mod_link 8 = .ok (.iload_n 1, 1) := by decide +kernel
theorem d_Mod_link_9 : decode b_Mod_link 9 = .ok (.invokevirtual 78, 3) := by decide +kernel
theorem d_Mod_link_12 : decode b_Mod_link 12 = .ok (.ifCond .eq 21, 3) := by decide +kernel
theorem d_Mod_link_15 : decode b_Mod_link 15 = .ok (.aload_n 0, 1) := by decide +kernel
theorem d_Mod_link_16 : decode b_Mod_link 16 = .ok (.iload_n 2, 1) := by decide +kernel
theorem d_Mod_link_17 : decode b_Mod_link 17 = .ok (.invokevirtual 78, 3) := by decide +kernel
theorem d_Mod_link_20 : decode b_Mod_link 20 = .ok (.ifCond .eq 13, 3) := by decide +kernel
theorem d_Mod_link_23 : decode b_Mod_link 23 = .ok (.aload_n 0, 1) := by decide +kernel
theorem d_Mod_link_24 : decode b_Mod_link 24 = .ok (.getfield 28, 3) := by decide +kernel
theorem d_Mod_link_27 : decode b_Mod_link 27 = .ok (.iload_n 1, 1) := by decide +kernel
theorem d_Mod_link_28 : decode b_Mod_link 28 = .ok (.iaload, 1) := by decide +kernel
theorem d_Mod_link_29 : decode b_Mod_link 29 = .ok (.iconst 5, 1) := by decide +kernel
theorem d_Mod_link_30 : decode b_Mod_link 30 = .ok (.if_icmp .lt 5, 3) := by decide +kernel
theorem d_Mod_link_33 : decode b_Mod_link 33 = .ok (.iconst 0, 1) := by decide +kernel
theorem d_Mod_link_34 : decode b_Mod_link 34 = .ok (.ireturn, 1) := by decide +kernel
theorem d_Mod_link_35 : decode b_Mod_link 35 = .ok (.aload_n 0, 1) := by decide +kernel
theorem d_Mod_link_36 : decode b_Mod_link 36 = .ok (.getfield 25, 3) := by decide +kernel
theorem d_Mod_link_39 : decode b_Mod_link 39 = .ok (.iconst 5, 1) := by decide +kernel
theorem d_Mod_link_40 : decode b_Mod_link 40 = .ok (.iload_n 1, 1) := by decide +kernel
theorem d_Mod_link_41 : decode b_Mod_link 41 = .ok (.imul, 1) := by decide +kernel
theorem d_Mod_link_42 : decode b_Mod_link 42 = .ok (.aload_n 0, 1) := by decide +kernel
theorem d_Mod_link_43 : decode b_Mod_link 43 = .ok (.getfield 28, 3) := by decide +kernel
theorem d_Mod_link_46 : decode b_Mod_link 46 = .ok (.iload_n 1, 1) := by decide +kernel
theorem d_Mod_link_47 : decode b_Mod_link 47 = .ok (.iaload, 1) := by decide +kernel
theorem d_Mod_link_48 : decode b_Mod_link 48 = .ok (.iadd, 1) := by decide +kernel
theorem d_Mod_link_49 : decode b_Mod_link 49 = .ok (.iload_n 2, 1) := by decide +kernel
theorem d_Mod_link_50 : decode b_Mod_link 50 = .ok (.iastore, 1) := by decide +kernel
theorem d_Mod_link_51 : decode b_Mod_link 51 = .ok (.aload_n 0, 1) := by decide +kernel
theorem d_Mod_link_52 : decode b_Mod_link 52 = .ok (.getfield 28, 3) := by decide +kernel
theorem d_Mod_link_55 : decode b_Mod_link 55 = .ok (.iload_n 1, 1) := by decide +kernel
theorem d_Mod_link_56 : decode b_Mod_link 56 = .ok (.aload_n 0, 1) := by decide +kernel
theorem d_Mod_link_57 : decode b_Mod_link 57 = .ok (.getfield 28, 3) := by decide +kernel
theorem d_Mod_link_60 : decode b_Mod_link 60 = .ok (.iload_n 1, 1) := by decide +kernel
theorem d_Mod_link_61 : decode b_Mod_link 61 = .ok (.iaload, 1) := by decide +kernel
theorem d_Mod_link_62 : decode b_Mod_link 62 = .ok (.iconst 1, 1) := by decide +kernel
theorem d_Mod_link_63 : decode b_Mod_link 63 = .ok (.iadd, 1) := by decide +kernel
theorem d_Mod_link_64 : decode b_Mod_link 64 = .ok (.iastore, 1) := by decide +kernel
theorem d_Mod_link_65 : decode b_Mod_link 65 = .ok (.iconst 1, 1) := by decide +kernel
theorem d_Mod_link_66 : decode b_Mod_link 66 = .ok (.ireturn, 1) := by decide +kernel
theorem d_Mod_move_0 : decode b_Mod_move 0 = .ok (.aload_n 0, 1) := by decide +kernel
theorem d_Mod_move_1 : decode b_Mod_move 1 = .ok (.getfield 73, 3) := by decide +kernel
theorem d_Mod_move_4 : decode b_Mod_move 4 = .ok (.ifCond .ne 19, 3) := by decide +kernel
theorem d_Mod_move_7 : decode b_Mod_move 7 = .ok (.aload_n 0, 1) := by decide +kernel
theorem d_Mod_move_8 : decode b_Mod_move 8 = .ok (.iload_n 1, 1) := by decide +kernel
theorem d_Mod_move_9 : decode b_Mod_move 9 = .ok (.invokevirtual 78, 3) := by decide +kernel
theorem d_Mod_move_12 : decode b_Mod_move 12 = .ok (.ifCond .eq 11, 3) := by decide +kernel
theorem d_Mod_move_15 : decode b_Mod_move 15 = .ok (.aload_n 0, 1) := by decide +kernel
theorem d_Mod_move_16 : decode b_Mod_move 16 = .ok (.iload_n 2, 1) := by decide +kernel
theorem d_Mod_move_17 : decode b_Mod_move 17 = .ok (.invokevirtual 78, 3) := by decide +kernel
theorem d_Mod_move_20 : decode b_Mod_move 20 = .ok (.ifCond .ne 5, 3) := by decide +kernel
theorem d_Mod_move_23 : decode b_Mod_move 23 = .ok (.iconst 0, 1) := by decide +kernel
theorem d_Mod_move_24 : decode b_Mod_move 24 = .ok (.ireturn, 1) := by decide +kernel
theorem d_Mod_move_25 : decode b_Mod_move 25 = .ok (.aload_n 0, 1) := by decide +kernel
theorem d_Mod_move_26 : decode b_Mod_move 26 = .ok (.getfield 16, 3) := by decide +kernel
theorem d_Mod_move_29 : decode b_Mod_move 29 = .ok (.iload_n 1, 1) := by decide +kernel
theorem d_Mod_move_30 : decode b_Mod_move 30 = .ok (.iload_n 2, 1) := by decide +kernel
theorem d_Mod_move_31 : decode b_Mod_move 31 = .ok (.iastore, 1) := by decide +kernel
theorem d_Mod_move_32 : decode b_Mod_move 32 = .ok (.iconst 1, 1) := by decide +kernel
theorem d_Mod_move_33 : decode b_Mod_move 33 = .ok (.ireturn, 1) := by decide +kernel
theorem d_Mod_drop_0 : decode b_Mod_drop 0 = .ok (.aload_n 0, 1) := by decide +kernel
theorem d_Mod_drop_1 : decode b_Mod_drop 1 = .ok (.getfield 73, 3) := by decide +kernel
theorem d_Mod_drop_4 : decode b_Mod_drop 4 = .ok (.ifCond .ne 11, 3) := by decide +kernel
theorem d_Mod_drop_7 : decode b_Mod_drop 7 = .ok (.aload_n 0, 1) := by decide +kernel
theorem d_Mod_drop_8 : decode b_Mod_drop 8 = .ok (.iload_n 1, 1) := by decide +kernel
theorem d_Mod_drop_9 : decode b_Mod_drop 9 = .ok (.invokevirtual 78, 3) := by decide +kernel
theorem d_Mod_drop_12 : decode b_Mod_drop 12 = .ok (.ifCond .ne 5, 3) := by decide +kernel
theorem d_Mod_drop_15 : decode b_Mod_drop 15 = .ok (.iconst 0, 1) := by decide +kernel
theorem d_Mod_drop_16 : decode b_Mod_drop 16 = .ok (.ireturn, 1) := by decide +kernel
theorem d_Mod_drop_17 : decode b_Mod_drop 17 = .ok (.aload_n 0, 1) := by decide +kernel
theorem d_Mod_drop_18 : decode b_Mod_drop 18 = .ok (.getfield 16, 3) := by decide +kernel
theorem d_Mod_drop_21 : decode b_Mod_drop 21 = .ok (.iload_n 1, 1) := by decide +kernel
theorem d_Mod_drop_22 : decode b_Mod_drop 22 = .ok (.bipush (-3), 2) := by decide +kernel
theorem d_Mod_drop_24 : decode b_Mod_drop 24 = .ok (.iastore, 1) := by decide +kernel
theorem d_Mod_drop_25 : decode b_Mod_drop 25 = .ok (.iconst 1, 1) := by decide +kernel
theorem d_Mod_drop_26 : decode b_Mod_drop 26 = .ok (.ireturn, 1) := by decide +kernel
theorem d_Mod_rule_0 : decode b_Mod_rule 0 = .ok (.aload_n 0, 1) := by decide +kernel
theorem d_Mod_rule_1 : decode b_Mod_rule 1 = .ok (.getfield 73, 3) := by decide +kernel
theorem d_Mod_rule_4 : decode b_Mod_rule 4 = .ok (.ifCond .ne 32, 3) := by decide +kernel
theorem d_Mod_rule_7 : decode b_Mod_rule 7 = .ok (.iload_n 1, 1) := by decide +kernel
theorem d_Mod_rule_8 : decode b_Mod_rule 8 = .ok (.ifCond .lt 28, 3) := by decide +kernel
theorem d_Mod_rule_11 : decode b_Mod_rule 11 = .ok (.iload_n 1, 1) := by decide +kernel
theorem d_Mod_rule_12 : decode b_Mod_rule 12 = .ok (.iconst 5, 1) := by decide +kernel
theorem d_Mod_rule_13 : decode b_Mod_rule 13 = .ok (.if_icmp .gt 23, 3) := by decide +kernel
theorem d_Mod_rule_16 : decode b_Mod_rule 16 = .ok (.iload_n 2, 1) := by decide +kernel
theorem d_Mod_rule_17 : decode b_Mod_rule 17 = .ok (.ifCond .lt 19, 3) := by decide +kernel
theorem d_Mod_rule_20 : decode b_Mod_rule 20 = .ok (.iload_n 2, 1) := by decide +kernel
theorem d_Mod_rule_21 : decode b_Mod_rule 21 = .ok (.ldc 77, 2) := by decide +kernel
theorem d_Mod_rule_23 : decode b_Mod_rule 23 = .ok (.if_icmp .gt 13, 3) := by decide +kernel
theorem d_Mod_rule_26 : decode b_Mod_rule 26 = .ok (.aload_n 0, 1) := by decide +kernel
theorem d_Mod_rule_27 : decode b_Mod_rule 27 = .ok (.getfield 38, 3) := by decide +kernel
theorem d_Mod_rule_30 : decode b_Mod_rule 30 = .ok (.iload_n 1, 1) := by decide +kernel
theorem d_Mod_rule_31 : decode b_Mod_rule 31 = .ok (.iaload, 1) := by decide +kernel
theorem d_Mod_rule_32 : decode b_Mod_rule 32 = .ok (.iconst 4, 1) := by decide +kernel
theorem d_Mod_rule_33 : decode b_Mod_rule 33 = .ok (.if_icmp .lt 5, 3) := by decide +kernel
theorem d_Mod_rule_36 : decode b_Mod_rule 36 = .ok (.iconst 0, 1) := by decide +kernel
theorem d_Mod_rule_37 : decode b_Mod_rule 37 = .ok (.ireturn, 1) := by decide +kernel
theorem d_Mod_rule_38 : decode b_Mod_rule 38 = .ok (.aload_n 0, 1) := by decide +kernel
theorem d_Mod_rule_39 : decode b_Mod_rule 39 = .ok (.getfield 31, 3) := by decide +kernel
theorem d_Mod_rule_42 : decode b_Mod_rule 42 = .ok (.iconst 4, 1) := by decide +kernel
theorem d_Mod_rule_43 : decode b_Mod_rule 43 = .ok (.iload_n 1, 1) := by decide +kernel
theorem d_Mod_rule_44 : decode b_Mod_rule 44 = .ok (.imul, 1) := by decide +kernel
theorem d_Mod_rule_45 : decode b_Mod_rule 45 = .ok (.aload_n 0, 1) := by decide +kernel
theorem d_Mod_rule_46 : decode b_Mod_rule 46 = .ok (.getfield 38, 3) := by decide +kernel
theorem d_Mod_rule_49 : decode b_Mod_rule 49 = .ok (.iload_n 1, 1) := by decide +kernel
theorem d_Mod_rule_50 : decode b_Mod_rule 50 = .ok (.iaload, 1) := by decide +kernel
theorem d_Mod_rule_51 : decode b_Mod_rule 51 = .ok (.iadd, 1) := by decide +kernel
theorem d_Mod_rule_52 : decode b_Mod_rule 52 = .ok (.iload_n 2, 1) := by decide +kernel
theorem d_Mod_rule_53 : decode b_Mod_rule 53 = .ok (.iastore, 1) := by decide +kernel
theorem d_Mod_rule_54 : decode b_Mod_rule 54 = .ok (.aload_n 0, 1) := by decide +kernel
theorem d_Mod_rule_55 : decode b_Mod_rule 55 = .ok (.getfield 34, 3) := by decide +kernel
theorem d_Mod_rule_58 : decode b_Mod_rule 58 = .ok (.iconst 4, 1) := by decide +kernel
theorem d_Mod_rule_59 : decode b_Mod_rule 59 = .ok (.iload_n 1, 1) := by decide +kernel
theorem d_Mod_rule_60 : decode b_Mod_rule 60 = .ok (.imul, 1) := by decide +kernel
theorem d_Mod_rule_61 : decode b_Mod_rule 61 = .ok (.aload_n 0, 1) := by decide +kernel
theorem d_Mod_rule_62 : decode b_Mod_rule 62 = .ok (.getfield 38, 3) := by decide +kernel
theorem d_Mod_rule_65 : decode b_Mod_rule 65 = .ok (.iload_n 1, 1) := by decide +kernel
theorem d_Mod_rule_66 : decode b_Mod_rule 66 = .ok (.iaload, 1) := by decide +kernel
theorem d_Mod_rule_67 : decode b_Mod_rule 67 = .ok (.iadd, 1) := by decide +kernel
theorem d_Mod_rule_68 : decode b_Mod_rule 68 = .ok (.iload_n 3, 1) := by decide +kernel
theorem d_Mod_rule_69 : decode b_Mod_rule 69 = .ok (.bastore, 1) := by decide +kernel
theorem d_Mod_rule_70 : decode b_Mod_rule 70 = .ok (.aload_n 0, 1) := by decide +kernel
theorem d_Mod_rule_71 : decode b_Mod_rule 71 = .ok (.getfield 38, 3) := by decide +kernel
theorem d_Mod_rule_74 : decode b_Mod_rule 74 = .ok (.iload_n 1, 1) := by decide +kernel
theorem d_Mod_rule_75 : decode b_Mod_rule 75 = .ok (.aload_n 0, 1) := by decide +kernel
theorem d_Mod_rule_76 : decode b_Mod_rule 76 = .ok (.getfield 38, 3) := by decide +kernel
theorem d_Mod_rule_79 : decode b_Mod_rule 79 = .ok (.iload_n 1, 1) := by decide +kernel
theorem d_Mod_rule_80 : decode b_Mod_rule 80 = .ok (.iaload, 1) := by decide +kernel
theorem d_Mod_rule_81 : decode b_Mod_rule 81 = .ok (.iconst 1, 1) := by decide +kernel
theorem d_Mod_rule_82 : decode b_Mod_rule 82 = .ok (.iadd, 1) := by decide +kernel
theorem d_Mod_rule_83 : decode b_Mod_rule 83 = .ok (.iastore, 1) := by decide +kernel
theorem d_Mod_rule_84 : decode b_Mod_rule 84 = .ok (.iconst 1, 1) := by decide +kernel
theorem d_Mod_rule_85 : decode b_Mod_rule 85 = .ok (.ireturn, 1) := by decide +kernel
theorem d_Mod_first_0 : decode b_Mod_first 0 = .ok (.aload_n 0, 1) := by decide +kernel
theorem d_Mod_first_1 : decode b_Mod_first 1 = .ok (.getfield 73, 3) := by decide +kernel
theorem d_Mod_first_4 : decode b_Mod_first 4 = .ok (.ifCond .ne 20, 3) := by decide +kernel
theorem d_Mod_first_7 : decode b_Mod_first 7 = .ok (.aload_n 0, 1) := by decide +kernel
theorem d_Mod_first_8 : decode b_Mod_first 8 = .ok (.iload_n 1, 1) := by decide +kernel
theorem d_Mod_first_9 : decode b_Mod_first 9 = .ok (.invokevirtual 78, 3) := by decide +kernel
theorem d_Mod_first_12 : decode b_Mod_first 12 = .ok (.ifCond .eq 12, 3) := by decide +kernel
theorem d_Mod_first_15 : decode b_Mod_first 15 = .ok (.aload_n 0, 1) := by decide +kernel
theorem d_Mod_first_16 : decode b_Mod_first 16 = .ok (.getfield 82, 3) := by decide +kernel
theorem d_Mod_first_19 : decode b_Mod_first 19 = .ok (.bipush 6, 2) := by decide +kernel
theorem d_Mod_first_21 : decode b_Mod_first 21 = .ok (.if_icmp .lt 5, 3) := by decide +kernel
theorem d_Mod_first_24 : decode b_Mod_first 24 = .ok (.iconst 0, 1) := by decide +kernel
theorem d_Mod_first_25 : decode b_Mod_first 25 = .ok (.ireturn, 1) := by decide +kernel
theorem d_Mod_first_26 : decode b_Mod_first 26 = .ok (.aload_n 0, 1) := by decide +kernel
theorem d_Mod_first_27 : decode b_Mod_first 27 = .ok (.getfield 41, 3) := by decide +kernel
theorem d_Mod_first_30 : decode b_Mod_first 30 = .ok (.aload_n 0, 1) := by decide +kernel
theorem d_Mod_first_31 : decode b_Mod_first 31 = .ok (.getfield 82, 3) := by decide +kernel
theorem d_Mod_first_34 : decode b_Mod_first 34 = .ok (.iload_n 1, 1) := by decide +kernel
theorem d_Mod_first_35 : decode b_Mod_first 35 = .ok (.iastore, 1) := by decide +kernel
theorem d_Mod_first_36 : decode b_Mod_first 36 = .ok (.aload_n 0, 1) := by decide +kernel
theorem d_Mod_first_37 : decode b_Mod_first 37 = .ok (.aload_n 0, 1) := by decide +kernel
theorem d_Mod_first_38 : decode b_Mod_first 38 = .ok (.getfield 82, 3) := by decide +kernel
theorem d_Mod_first_41 : decode b_Mod_first 41 = .ok (.iconst 1, 1) := by decide +kernel
theorem d_Mod_first_42 : decode b_Mod_first 42 = .ok (.iadd, 1) := by decide +kernel
theorem d_Mod_first_43 : decode b_Mod_first 43 = .ok (.putfield 82, 3) := by decide +kernel
theorem d_Mod_first_46 : decode b_Mod_first 46 = .ok (.iconst 1, 1) := by decide +kernel
theorem d_Mod_first_47 : decode b_Mod_first 47 = .ok (.ireturn, 1) := by decide +kernel
theorem d_Mod_taken_0 : decode b_Mod_taken 0 = .ok (.iconst 0, 1) := by decide +kernel
theorem d_Mod_taken_1 : decode b_Mod_taken 1 = .ok (.istore_n 3, 1) := by decide +kernel
theorem d_Mod_taken_2 : decode b_Mod_taken 2 = .ok (.iload_n 1, 1) := by decide +kernel
theorem d_Mod_taken_3 : decode b_Mod_taken 3 = .ok (.istore 4, 2) := by decide +kernel
theorem d_Mod_taken_5 : decode b_Mod_taken 5 = .ok (.iload 4, 2) := by decide +kernel
theorem d_Mod_taken_7 : decode b_Mod_taken 7 = .ok (.ifCond .le 17, 3) := by decide +kernel
theorem d_Mod_taken_10 : decode b_Mod_taken 10 = .ok (.iload_n 3, 1) := by decide +kernel
theorem d_Mod_taken_11 : decode b_Mod_taken 11 = .ok (.iconst 1, 1) := by decide +kernel
theorem d_Mod_taken_12 : decode b_Mod_taken 12 = .ok (.iadd, 1) := by decide +kernel
theorem d_Mod_taken_13 : decode b_Mod_taken 13 = .ok (.istore_n 3, 1) := by decide +kernel
theorem d_Mod_taken_14 : decode b_Mod_taken 14 = .ok (.iload 4, 2) := by decide +kernel
theorem d_Mod_taken_16 : decode b_Mod_taken 16 = .ok (.bipush 10, 2) := by decide +kernel
theorem d_Mod_taken_18 : decode b_Mod_taken 18 = .ok (.idiv, 1) := by decide +kernel
theorem d_Mod_taken_19 : decode b_Mod_taken 19 = .ok (.istore 4, 2) := by decide +kernel
theorem d_Mod_taken_21 : decode b_Mod_taken 21 = .ok (.goto (-16), 3) := by decide +kernel
theorem d_Mod_taken_24 : decode b_Mod_taken 24 = .ok (.iload_n 2, 1) := by decide +kernel
theorem d_Mod_taken_25 : decode b_Mod_taken 25 = .ok (.istore 4, 2) := by decide +kernel
theorem d_Mod_taken_27 : decode b_Mod_taken 27 = .ok (.iload 4, 2) := by decide +kernel
theorem d_Mod_taken_29 : decode b_Mod_taken 29 = .ok (.ifCond .le 21, 3) := by decide +kernel
theorem d_Mod_taken_32 : decode b_Mod_taken 32 = .ok (.iload 4, 2) := by decide +kernel
theorem d_Mod_taken_34 : decode b_Mod_taken 34 = .ok (.iload_n 1, 1) := by decide +kernel
theorem d_Mod_taken_35 : decode b_Mod_taken 35 = .ok (.if_icmp .ne 5, 3) := by decide +kernel
theorem d_Mod_taken_38 : decode b_Mod_taken 38 = .ok (.iload_n 3, 1) := by decide +kernel
theorem d_Mod_taken_39 : decode b_Mod_taken 39 = .ok (.ireturn, 1) := by decide +kernel
theorem d_Mod_taken_40 : decode b_Mod_taken 40 = .ok (.iload 4, 2) := by decide +kernel
theorem d_Mod_taken_42 : decode b_Mod_taken 42 = .ok (.bipush 10, 2) := by decide +kernel
theorem d_Mod_taken_44 : decode b_Mod_taken 44 = .ok (.idiv, 1) := by decide +kernel
theorem d_Mod_taken_45 : decode b_Mod_taken 45 = .ok (.istore 4, 2) := by decide +kernel
theorem d_Mod_taken_47 : decode b_Mod_taken 47 = .ok (.goto (-20), 3) := by decide +kernel
theorem d_Mod_taken_50 : decode b_Mod_taken 50 = .ok (.iload_n 1, 1) := by decide +kernel
theorem d_Mod_taken_51 : decode b_Mod_taken 51 = .ok (.ifCond .ne 7, 3) := by decide +kernel
theorem d_Mod_taken_54 : decode b_Mod_taken 54 = .ok (.iconst 0, 1) := by decide +kernel
theorem d_Mod_taken_55 : decode b_Mod_taken 55 = .ok (.goto 4, 3) := by decide +kernel
theorem d_Mod_taken_58 : decode b_Mod_taken 58 = .ok (.iconst (-1), 1) := by decide +kernel
theorem d_Mod_taken_59 : decode b_Mod_taken 59 = .ok (.ireturn, 1) := by decide +kernel
theorem d_Mod_allowed_0 : decode b_Mod_allowed 0 = .ok (.aload_n 0, 1) := by decide +kernel
theorem d_Mod_allowed_1 : decode b_Mod_allowed 1 = .ok (.iload_n 1, 1) := by decide +kernel
theorem d_Mod_allowed_2 : decode b_Mod_allowed 2 = .ok (.invokevirtual 78, 3) := by decide +kernel
theorem d_Mod_allowed_5 : decode b_Mod_allowed 5 = .ok (.ifCond .ne 5, 3) := by decide +kernel
theorem d_Mod_allowed_8 : decode b_Mod_allowed 8 = .ok (.iconst 0, 1) := by decide +kernel
theorem d_Mod_allowed_9 : decode b_Mod_allowed 9 = .ok (.ireturn, 1) := by decide +kernel
theorem d_Mod_allowed_10 : decode b_Mod_allowed 10 = .ok (.iconst (-1), 1) := by decide +kernel
theorem d_Mod_allowed_11 : decode b_Mod_allowed 11 = .ok (.istore_n 2, 1) := by decide +kernel
theorem d_Mod_allowed_12 : decode b_Mod_allowed 12 = .ok (.iconst 1, 1) := by decide +kernel
theorem d_Mod_allowed_13 : decode b_Mod_allowed 13 = .ok (.istore_n 3, 1) := by decide +kernel
theorem d_Mod_allowed_14 : decode b_Mod_allowed 14 = .ok (.iconst 0, 1) := by decide +kernel
theorem d_Mod_allowed_15 : decode b_Mod_allowed 15 = .ok (.istore 4, 2) := by decide +kernel
theorem d_Mod_allowed_17 : decode b_Mod_allowed 17 = .ok (.iload 4, 2) := by decide +kernel
theorem d_Mod_allowed_19 : decode b_Mod_allowed 19 = .ok (.aload_n 0, 1) := by decide +kernel
theorem d_Mod_allowed_20 : decode b_Mod_allowed 20 = .ok (.getfield 38, 3) := by decide +kernel
theorem d_Mod_allowed_23 : decode b_Mod_allowed 23 = .ok (.aload_n 0, 1) := by decide +kernel
theorem d_Mod_allowed_24 : decode b_Mod_allowed 24 = .ok (.getfield 7, 3) := by decide +kernel
theorem d_Mod_allowed_27 : decode b_Mod_allowed 27 = .ok (.iload_n 1, 1) := by decide +kernel
theorem d_Mod_allowed_28 : decode b_Mod_allowed 28 = .ok (.iaload, 1) := by decide +kernel
theorem d_Mod_allowed_29 : decode b_Mod_allowed 29 = .ok (.iaload, 1) := by decide +kernel
theorem d_Mod_allowed_30 : decode b_Mod_allowed 30 = .ok (.if_icmp .ge 92, 3) := by decide +kernel
theorem d_Mod_allowed_33 : decode b_Mod_allowed 33 = .ok (.iconst 4, 1) := by decide +kernel
theorem d_Mod_allowed_34 : decode b_Mod_allowed 34 = .ok (.aload_n 0, 1) := by decide +kernel
theorem d_Mod_allowed_35 : decode b_Mod_allowed 35 = .ok (.getfield 7, 3) := by decide +kernel
theorem d_Mod_allowed_38 : decode b_Mod_allowed 38 = .ok (.iload_n 1, 1) := by decide +kernel
theorem d_Mod_allowed_39 : decode b_Mod_allowed 39 = .ok (.iaload, 1) := by decide +kernel
theorem d_Mod_allowed_40 : decode b_Mod_allowed 40 = .ok (.imul, 1) := by decide +kernel
theorem d_Mod_allowed_41 : decode b_Mod_allowed 41 = .ok (.iload 4, 2) := by decide +kernel
theorem d_Mod_allowed_43 : decode b_Mod_allowed 43 = .ok (.iadd, 1) := by decide +kernel
theorem d_Mod_allowed_44 : decode b_Mod_allowed 44 = .ok (.istore 5, 2) := by decide +kernel
theorem d_Mod_allowed_46 : decode b_Mod_allowed 46 = .ok (.aload_n 0, 1) := by decide +kernel
theorem d_Mod_allowed_47 : decode b_Mod_allowed 47 = .ok (.aload_n 0, 1) := by decide +kernel
theorem d_Mod_allowed_48 : decode b_Mod_allowed 48 = .ok (.getfield 31, 3) := by decide +kernel
theorem d_Mod_allowed_51 : decode b_Mod_allowed 51 = .ok (.iload 5, 2) := by decide +kernel
theorem d_Mod_allowed_53 : decode b_Mod_allowed 53 = .ok (.iaload, 1) := by decide +kernel
theorem d_Mod_allowed_54 : decode b_Mod_allowed 54 = .ok (.aload_n 0, 1) := by decide +kernel
theorem d_Mod_allowed_55 : decode b_Mod_allowed 55 = .ok (.getfield 13, 3) := by decide +kernel
theorem d_Mod_allowed_58 : decode b_Mod_allowed 58 = .ok (.iload_n 1, 1) := by decide +kernel
theorem d_Mod_allowed_59 : decode b_Mod_allowed 59 = .ok (.iaload, 1) := by decide +kernel
theorem d_Mod_allowed_60 : decode b_Mod_allowed 60 = .ok (.invokevirtual 85, 3) := by decide +kernel
theorem d_Mod_allowed_63 : decode b_Mod_allowed 63 = .ok (.istore 6, 2) := by decide +kernel
theorem d_Mod_allowed_65 : decode b_Mod_allowed 65 = .ok (.iload 6, 2) := by decide +kernel
theorem d_Mod_allowed_67 : decode b_Mod_allowed 67 = .ok (.iload_n 2, 1) := by decide +kernel
theorem d_Mod_allowed_68 : decode b_Mod_allowed 68 = .ok (.if_icmp .le 17, 3) := by decide +kernel
theorem d_Mod_allowed_71 : decode b_Mod_allowed 71 = .ok (.iload 6, 2) := by decide +kernel
theorem d_Mod_allowed_73 : decode b_Mod_allowed 73 = .ok (.istore_n 2, 1) := by decide +kernel
theorem d_Mod_allowed_74 : decode b_Mod_allowed 74 = .ok (.aload_n 0, 1) := by decide +kernel
theorem d_Mod_allowed_75 : decode b_Mod_allowed 75 = .ok (.getfield 34, 3) := by decide +kernel
theorem d_Mod_allowed_78 : decode b_Mod_allowed 78 = .ok (.iload 5, 2) := by decide +kernel
theorem d_Mod_allowed_80 : decode b_Mod_allowed 80 = .ok (.baload, 1) := by decide +kernel
theorem d_Mod_allowed_81 : decode b_Mod_allowed 81 = .ok (.istore_n 3, 1) := by decide +kernel
theorem d_Mod_allowed_82 : decode b_Mod_allowed 82 = .ok (.goto 34, 3) := by decide +kernel
theorem d_Mod_allowed_85 : decode b_Mod_allowed 85 = .ok (.iload 6, 2) := by decide +kernel
theorem d_Mod_allowed_87 : decode b_Mod_allowed 87 = .ok (.iload_n 2, 1) := by decide +kernel
theorem d_Mod_allowed_88 : decode b_Mod_allowed 88 = .ok (.if_icmp .ne 28, 3) := by decide +kernel
theorem d_Mod_allowed_91 : decode b_Mod_allowed 91 = .ok (.iload 6, 2) := by decide +kernel
theorem d_Mod_allowed_93 : decode b_Mod_allowed 93 = .ok (.ifCond .lt 23, 3) := by decide +kernel
theorem d_Mod_allowed_96 : decode b_Mod_allowed 96 = .ok (.iload_n 3, 1) := by decide +kernel
theorem d_Mod_allowed_97 : decode b_Mod_allowed 97 = .ok (.ifCond .ne 13, 3) := by decide +kernel
theorem d_Mod_allowed_100 : decode b_Mod_allowed 100 = .ok (.aload_n 0, 1) := by decide +kernel
theorem d_Mod_allowed_101 : decode b_Mod_allowed 101 = .ok (.getfield 34, 3) := by decide +kernel
theorem d_Mod_allowed_104 : decode b_Mod_allowed 104 = .ok (.iload 5, 2) := by decide +kernel
theorem d_Mod_allowed_106 : decode b_Mod_allowed 106 = .ok (.baload, 1) := by decide +kernel
theorem d_Mod_allowed_107 : decode b_Mod_allowed 107 = .ok (.ifCond .eq 7, 3) := by decide +kernel
theorem d_Mod_allowed_110 : decode b_Mod_allowed 110 = .ok (.iconst 1, 1) := by decide +kernel
theorem d_Mod_allowed_111 : decode b_Mod_allowed 111 = .ok (.goto 4, 3) := by decide +kernel
theorem d_Mod_allowed_114 : decode b_Mod_allowed 114 = .ok (.iconst 0, 1) := by decide +kernel
theorem d_Mod_allowed_115 : decode b_Mod_allowed 115 = .ok (.istore_n 3, 1) := by decide +kernel
theorem d_Mod_allowed_116 : decode b_Mod_allowed 116 = .ok (.iinc 4 1, 3) := by decide +kernel
theorem d_Mod_allowed_119 : decode b_Mod_allowed 119 = .ok (.goto (-102), 3) := by decide +kernel
theorem d_Mod_allowed_122 : decode b_Mod_allowed 122 = .ok (.iload_n 3, 1) := by decide +kernel
theorem d_Mod_allowed_123 : decode b_Mod_allowed 123 = .ok (.ireturn, 1) := by decide +kernel
theorem d_Mod_isFetched_0 : decode b_Mod_isFetched 0 = .ok (.iconst 0, 1) := by decide +kernel
theorem d_Mod_isFetched_1 : decode b_Mod_isFetched 1 = .ok (.istore_n 2, 1) := by decide +kernel
theorem d_Mod_isFetched_2 : decode b_Mod_isFetched 2 = .ok (.iconst 0, 1) := by decide +kernel
theorem d_Mod_isFetched_3 : decode b_Mod_isFetched 3 = .ok (.istore_n 3, 1) := by decide +kernel
theorem d_Mod_isFetched_4 : decode b_Mod_isFetched 4 = .ok (.iload_n 3, 1) := by decide +kernel
theorem d_Mod_isFetched_5 : decode b_Mod_isFetched 5 = .ok (.aload_n 0, 1) := by decide +kernel
theorem d_Mod_isFetched_6 : decode b_Mod_isFetched 6 = .ok (.getfield 89, 3) := by decide +kernel
theorem d_Mod_isFetched_9 : decode b_Mod_isFetched 9 = .ok (.if_icmp .ge 29, 3) := by decide +kernel
theorem d_Mod_isFetched_12 : decode b_Mod_isFetched 12 = .ok (.iload_n 2, 1) := by decide +kernel
theorem d_Mod_isFetched_13 : decode b_Mod_isFetched 13 = .ok (.ifCond .ne 13, 3) := by decide +kernel
theorem d_Mod_isFetched_16 : decode b_Mod_isFetched 16 = .ok (.aload_n 0, 1) := by decide +kernel
theorem d_Mod_isFetched_17 : decode b_Mod_isFetched 17 = .ok (.getfield 50, 3) := by decide +kernel
theorem d_Mod_isFetched_20 : decode b_Mod_isFetched 20 = .ok (.iload_n 3, 1) := by decide +kernel
theorem d_Mod_isFetched_21 : decode b_Mod_isFetched 21 = .ok (.iaload, 1) := by decide +kernel
theorem d_Mod_isFetched_22 : decode b_Mod_isFetched 22 = .ok (.iload_n 1, 1) := by decide +kernel
theorem d_Mod_isFetched_23 : decode b_Mod_isFetched 23 = .ok (.if_icmp .ne 7, 3) := by decide +kernel
theorem d_Mod_isFetched_26 : decode b_Mod_isFetched 26 = .ok (.iconst 1, 1) := by decide +kernel
theorem d_Mod_isFetched_27 : decode b_Mod_isFetched 27 = .ok (.goto 4, 3) := by decide +kernel
theorem d_Mod_isFetched_30 : decode b_Mod_isFetched 30 = .ok (.iconst 0, 1) := by decide +kernel
theorem d_Mod_isFetched_31 : decode b_Mod_isFetched 31 = .ok (.istore_n 2, 1) := by decide +kernel
theorem d_Mod_isFetched_32 : decode b_Mod_isFetched 32 = .ok (.iinc 3 1, 3) := by decide +kernel
theorem d_Mod_isFetched_35 : decode b_Mod_isFetched 35 = .ok (.goto (-31), 3) := by decide +kernel
theorem d_Mod_isFetched_38 : decode b_Mod_isFetched 38 = .ok (.iload_n 2, 1) := by decide +kernel
theorem d_Mod_isFetched_39 : decode b_Mod_isFetched 39 = .ok (.ireturn, 1) := by decide +kernel

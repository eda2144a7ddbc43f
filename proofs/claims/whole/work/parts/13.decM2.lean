/-! decode rows, printed by wip/gen/names.py -/
theorem d_M_ask_35 : decode c_M_ask 35 = .ok (.invokevirtual 63, 3) := by decide +kernel
theorem d_M_ask_38 : decode c_M_ask 38 = .ok (.ifCond .ne 5, 3) := by decide +kernel
theorem d_M_ask_41 : decode c_M_ask 41 = .ok (.iconst 0, 1) := by decide +kernel
theorem d_M_ask_42 : decode c_M_ask 42 = .ok (.ireturn, 1) := by decide +kernel
theorem d_M_ask_43 : decode c_M_ask 43 = .ok (.aload_n 0, 1) := by decide +kernel
theorem d_M_ask_44 : decode c_M_ask 44 = .ok (.iconst 1, 1) := by decide +kernel
theorem d_M_ask_45 : decode c_M_ask 45 = .ok (.putfield 92, 3) := by decide +kernel
theorem d_M_ask_48 : decode c_M_ask 48 = .ok (.aload_n 0, 1) := by decide +kernel
theorem d_M_ask_49 : decode c_M_ask 49 = .ok (.iload 5, 2) := by decide +kernel
theorem d_M_ask_51 : decode c_M_ask 51 = .ok (.putfield 96, 3) := by decide +kernel
theorem d_M_ask_54 : decode c_M_ask 54 = .ok (.aload_n 0, 1) := by decide +kernel
theorem d_M_ask_55 : decode c_M_ask 55 = .ok (.iconst 0, 1) := by decide +kernel
theorem d_M_ask_56 : decode c_M_ask 56 = .ok (.putfield 99, 3) := by decide +kernel
theorem d_M_ask_59 : decode c_M_ask 59 = .ok (.aload_n 0, 1) := by decide +kernel
theorem d_M_ask_60 : decode c_M_ask 60 = .ok (.iconst (-1), 1) := by decide +kernel
theorem d_M_ask_61 : decode c_M_ask 61 = .ok (.iconst 1, 1) := by decide +kernel
theorem d_M_ask_62 : decode c_M_ask 62 = .ok (.iload_n 3, 1) := by decide +kernel
theorem d_M_ask_63 : decode c_M_ask 63 = .ok (.iload 4, 2) := by decide +kernel
theorem d_M_ask_65 : decode c_M_ask 65 = .ok (.iload 5, 2) := by decide +kernel
theorem d_M_ask_67 : decode c_M_ask 67 = .ok (.invokevirtual 102, 3) := by decide +kernel
theorem d_M_ask_70 : decode c_M_ask 70 = .ok (.istore 6, 2) := by decide +kernel
theorem d_M_ask_72 : decode c_M_ask 72 = .ok (.iload 6, 2) := by decide +kernel
theorem d_M_ask_74 : decode c_M_ask 74 = .ok (.ifCond .lt 63, 3) := by decide +kernel
theorem d_M_ask_77 : decode c_M_ask 77 = .ok (.aload_n 0, 1) := by decide +kernel
theorem d_M_ask_78 : decode c_M_ask 78 = .ok (.getfield 19, 3) := by decide +kernel
theorem d_M_ask_81 : decode c_M_ask 81 = .ok (.iload 6, 2) := by decide +kernel
theorem d_M_ask_83 : decode c_M_ask 83 = .ok (.iaload, 1) := by decide +kernel
theorem d_M_ask_84 : decode c_M_ask 84 = .ok (.iload_n 1, 1) := by decide +kernel
theorem d_M_ask_85 : decode c_M_ask 85 = .ok (.if_icmp .lt 35, 3) := by decide +kernel
theorem d_M_ask_88 : decode c_M_ask 88 = .ok (.aload_n 0, 1) := by decide +kernel
theorem d_M_ask_89 : decode c_M_ask 89 = .ok (.getfield 19, 3) := by decide +kernel
theorem d_M_ask_92 : decode c_M_ask 92 = .ok (.iload 6, 2) := by decide +kernel
theorem d_M_ask_94 : decode c_M_ask 94 = .ok (.iaload, 1) := by decide +kernel
theorem d_M_ask_95 : decode c_M_ask 95 = .ok (.iload_n 2, 1) := by decide +kernel
theorem d_M_ask_96 : decode c_M_ask 96 = .ok (.if_icmp .ge 24, 3) := by decide +kernel
theorem d_M_ask_99 : decode c_M_ask 99 = .ok (.aload_n 0, 1) := by decide +kernel
theorem d_M_ask_100 : decode c_M_ask 100 = .ok (.getfield 40, 3) := by decide +kernel
theorem d_M_ask_103 : decode c_M_ask 103 = .ok (.aload_n 0, 1) := by decide +kernel
theorem d_M_ask_104 : decode c_M_ask 104 = .ok (.getfield 99, 3) := by decide +kernel
theorem d_M_ask_107 : decode c_M_ask 107 = .ok (.iload 6, 2) := by decide +kernel
theorem d_M_ask_109 : decode c_M_ask 109 = .ok (.iastore, 1) := by decide +kernel
theorem d_M_ask_110 : decode c_M_ask 110 = .ok (.aload_n 0, 1) := by decide +kernel
theorem d_M_ask_111 : decode c_M_ask 111 = .ok (.dup, 1) := by decide +kernel
theorem d_M_ask_112 : decode c_M_ask 112 = .ok (.getfield 99, 3) := by decide +kernel
theorem d_M_ask_115 : decode c_M_ask 115 = .ok (.iconst 1, 1) := by decide +kernel
theorem d_M_ask_116 : decode c_M_ask 116 = .ok (.iadd, 1) := by decide +kernel
theorem d_M_ask_117 : decode c_M_ask 117 = .ok (.putfield 99, 3) := by decide +kernel
theorem d_M_ask_120 : decode c_M_ask 120 = .ok (.aload_n 0, 1) := by decide +kernel
theorem d_M_ask_121 : decode c_M_ask 121 = .ok (.iload 6, 2) := by decide +kernel
theorem d_M_ask_123 : decode c_M_ask 123 = .ok (.iconst 1, 1) := by decide +kernel
theorem d_M_ask_124 : decode c_M_ask 124 = .ok (.iload_n 3, 1) := by decide +kernel
theorem d_M_ask_125 : decode c_M_ask 125 = .ok (.iload 4, 2) := by decide +kernel
theorem d_M_ask_127 : decode c_M_ask 127 = .ok (.iload 5, 2) := by decide +kernel
theorem d_M_ask_129 : decode c_M_ask 129 = .ok (.invokevirtual 102, 3) := by decide +kernel
theorem d_M_ask_132 : decode c_M_ask 132 = .ok (.istore 6, 2) := by decide +kernel
theorem d_M_ask_134 : decode c_M_ask 134 = .ok (.goto (-62), 3) := by decide +kernel
theorem d_M_ask_137 : decode c_M_ask 137 = .ok (.aload_n 0, 1) := by decide +kernel
theorem d_M_ask_138 : decode c_M_ask 138 = .ok (.getfield 99, 3) := by decide +kernel
theorem d_M_ask_141 : decode c_M_ask 141 = .ok (.ireturn, 1) := by decide +kernel
theorem d_M_following_0 : decode c_M_following 0 = .ok (.iconst (-1), 1) := by decide +kernel
theorem d_M_following_1 : decode c_M_following 1 = .ok (.istore 6, 2) := by decide +kernel
theorem d_M_following_3 : decode c_M_following 3 = .ok (.iconst 0, 1) := by decide +kernel
theorem d_M_following_4 : decode c_M_following 4 = .ok (.istore 7, 2) := by decide +kernel
theorem d_M_following_6 : decode c_M_following 6 = .ok (.iload 7, 2) := by decide +kernel
theorem d_M_following_8 : decode c_M_following 8 = .ok (.aload_n 0, 1) := by decide +kernel
theorem d_M_following_9 : decode c_M_following 9 = .ok (.getfield 50, 3) := by decide +kernel
theorem d_M_following_12 : decode c_M_following 12 = .ok (.if_icmp .ge 110, 3) := by decide +kernel
theorem d_M_following_15 : decode c_M_following 15 = .ok (.aload_n 0, 1) := by decide +kernel
theorem d_M_following_16 : decode c_M_following 16 = .ok (.getfield 25, 3) := by decide +kernel
theorem d_M_following_19 : decode c_M_following 19 = .ok (.iload 7, 2) := by decide +kernel
theorem d_M_following_21 : decode c_M_following 21 = .ok (.iaload, 1) := by decide +kernel
theorem d_M_following_22 : decode c_M_following 22 = .ok (.iload 5, 2) := by decide +kernel
theorem d_M_following_24 : decode c_M_following 24 = .ok (.if_icmp .gt 92, 3) := by decide +kernel
theorem d_M_following_27 : decode c_M_following 27 = .ok (.iload_n 1, 1) := by decide +kernel
theorem d_M_following_28 : decode c_M_following 28 = .ok (.ifCond .lt 13, 3) := by decide +kernel
theorem d_M_following_31 : decode c_M_following 31 = .ok (.aload_n 0, 1) := by decide +kernel
theorem d_M_following_32 : decode c_M_following 32 = .ok (.iload_n 1, 1) := by decide +kernel
theorem d_M_following_33 : decode c_M_following 33 = .ok (.iload 7, 2) := by decide +kernel
theorem d_M_following_35 : decode c_M_following 35 = .ok (.invokevirtual 89, 3) := by decide +kernel
theorem d_M_following_38 : decode c_M_following 38 = .ok (.ifCond .eq 78, 3) := by decide +kernel
theorem d_M_following_41 : decode c_M_following 41 = .ok (.iload_n 3, 1) := by decide +kernel
theorem d_M_following_42 : decode c_M_following 42 = .ok (.ifCond .lt 14, 3) := by decide +kernel
theorem d_M_following_45 : decode c_M_following 45 = .ok (.aload_n 0, 1) := by decide +kernel
theorem d_M_following_46 : decode c_M_following 46 = .ok (.getfield 13, 3) := by decide +kernel
theorem d_M_following_49 : decode c_M_following 49 = .ok (.iload 7, 2) := by decide +kernel
theorem d_M_following_51 : decode c_M_following 51 = .ok (.iaload, 1) := by decide +kernel
theorem d_M_following_52 : decode c_M_following 52 = .ok (.iload_n 3, 1) := by decide +kernel
theorem d_M_following_53 : decode c_M_following 53 = .ok (.if_icmp .ne 63, 3) := by decide +kernel
theorem d_M_following_56 : decode c_M_following 56 = .ok (.iload 4, 2) := by decide +kernel
theorem d_M_following_58 : decode c_M_following 58 = .ok (.ifCond .lt 18, 3) := by decide +kernel
theorem d_M_following_61 : decode c_M_following 61 = .ok (.aload_n 0, 1) := by decide +kernel
theorem d_M_following_62 : decode c_M_following 62 = .ok (.getfield 16, 3) := by decide +kernel
theorem d_M_following_65 : decode c_M_following 65 = .ok (.iload 7, 2) := by decide +kernel
theorem d_M_following_67 : decode c_M_following 67 = .ok (.iaload, 1) := by decide +kernel
theorem d_M_following_68 : decode c_M_following 68 = .ok (.iload 4, 2) := by decide +kernel
theorem d_M_following_70 : decode c_M_following 70 = .ok (.if_icmp .eq 6, 3) := by decide +kernel
theorem d_M_following_73 : decode c_M_following 73 = .ok (.goto 43, 3) := by decide +kernel
theorem d_M_following_76 : decode c_M_following 76 = .ok (.iload_n 2, 1) := by decide +kernel
theorem d_M_following_77 : decode c_M_following 77 = .ok (.ifCond .ne 19, 3) := by decide +kernel
theorem d_M_following_80 : decode c_M_following 80 = .ok (.aload_n 0, 1) := by decide +kernel
theorem d_M_following_81 : decode c_M_following 81 = .ok (.iload 7, 2) := by decide +kernel
theorem d_M_following_83 : decode c_M_following 83 = .ok (.aload_n 0, 1) := by decide +kernel
theorem d_M_following_84 : decode c_M_following 84 = .ok (.getfield 57, 3) := by decide +kernel
theorem d_M_following_87 : decode c_M_following 87 = .ok (.invokevirtual 77, 3) := by decide +kernel
theorem d_M_following_90 : decode c_M_following 90 = .ok (.ifCond .eq 6, 3) := by decide +kernel
theorem d_M_following_93 : decode c_M_following 93 = .ok (.goto 23, 3) := by decide +kernel
theorem d_M_following_96 : decode c_M_following 96 = .ok (.iload 6, 2) := by decide +kernel
theorem d_M_following_98 : decode c_M_following 98 = .ok (.ifCond .lt 14, 3) := by decide +kernel
theorem d_M_following_101 : decode c_M_following 101 = .ok (.aload_n 0, 1) := by decide +kernel
theorem d_M_following_102 : decode c_M_following 102 = .ok (.iload 7, 2) := by decide +kernel
theorem d_M_following_104 : decode c_M_following 104 = .ok (.iload 6, 2) := by decide +kernel
theorem d_M_following_106 : decode c_M_following 106 = .ok (.invokevirtual 89, 3) := by decide +kernel
theorem d_M_following_109 : decode c_M_following 109 = .ok (.ifCond .eq 7, 3) := by decide +kernel
theorem d_M_following_112 : decode c_M_following 112 = .ok (.iload 7, 2) := by decide +kernel
theorem d_M_following_114 : decode c_M_following 114 = .ok (.istore 6, 2) := by decide +kernel
theorem d_M_following_116 : decode c_M_following 116 = .ok (.iinc 7 1, 3) := by decide +kernel
theorem d_M_following_119 : decode c_M_following 119 = .ok (.goto (-113), 3) := by decide +kernel
theorem d_M_following_122 : decode c_M_following 122 = .ok (.iload 6, 2) := by decide +kernel
theorem d_M_following_124 : decode c_M_following 124 = .ok (.ireturn, 1) := by decide +kernel
theorem d_M_isBefore_0 : decode c_M_isBefore 0 = .ok (.aload_n 0, 1) := by decide +kernel
theorem d_M_isBefore_1 : decode c_M_isBefore 1 = .ok (.getfield 19, 3) := by decide +kernel
theorem d_M_isBefore_4 : decode c_M_isBefore 4 = .ok (.iload_n 1, 1) := by decide +kernel
theorem d_M_isBefore_5 : decode c_M_isBefore 5 = .ok (.iaload, 1) := by decide +kernel
theorem d_M_isBefore_6 : decode c_M_isBefore 6 = .ok (.aload_n 0, 1) := by decide +kernel
theorem d_M_isBefore_7 : decode c_M_isBefore 7 = .ok (.getfield 19, 3) := by decide +kernel
theorem d_M_isBefore_10 : decode c_M_isBefore 10 = .ok (.iload_n 2, 1) := by decide +kernel
theorem d_M_isBefore_11 : decode c_M_isBefore 11 = .ok (.iaload, 1) := by decide +kernel
theorem d_M_isBefore_12 : decode c_M_isBefore 12 = .ok (.if_icmp .eq 24, 3) := by decide +kernel
theorem d_M_isBefore_15 : decode c_M_isBefore 15 = .ok (.aload_n 0, 1) := by decide +kernel
theorem d_M_isBefore_16 : decode c_M_isBefore 16 = .ok (.getfield 19, 3) := by decide +kernel
theorem d_M_isBefore_19 : decode c_M_isBefore 19 = .ok (.iload_n 1, 1) := by decide +kernel
theorem d_M_isBefore_20 : decode c_M_isBefore 20 = .ok (.iaload, 1) := by decide +kernel
theorem d_M_isBefore_21 : decode c_M_isBefore 21 = .ok (.aload_n 0, 1) := by decide +kernel
theorem d_M_isBefore_22 : decode c_M_isBefore 22 = .ok (.getfield 19, 3) := by decide +kernel
theorem d_M_isBefore_25 : decode c_M_isBefore 25 = .ok (.iload_n 2, 1) := by decide +kernel
theorem d_M_isBefore_26 : decode c_M_isBefore 26 = .ok (.iaload, 1) := by decide +kernel
theorem d_M_isBefore_27 : decode c_M_isBefore 27 = .ok (.if_icmp .ge 7, 3) := by decide +kernel
theorem d_M_isBefore_30 : decode c_M_isBefore 30 = .ok (.iconst 1, 1) := by decide +kernel
theorem d_M_isBefore_31 : decode c_M_isBefore 31 = .ok (.goto 4, 3) := by decide +kernel
theorem d_M_isBefore_34 : decode c_M_isBefore 34 = .ok (.iconst 0, 1) := by decide +kernel
theorem d_M_isBefore_35 : decode c_M_isBefore 35 = .ok (.ireturn, 1) := by decide +kernel
theorem d_M_isBefore_36 : decode c_M_isBefore 36 = .ok (.aload_n 0, 1) := by decide +kernel
theorem d_M_isBefore_37 : decode c_M_isBefore 37 = .ok (.getfield 7, 3) := by decide +kernel
theorem d_M_isBefore_40 : decode c_M_isBefore 40 = .ok (.iload_n 1, 1) := by decide +kernel
theorem d_M_isBefore_41 : decode c_M_isBefore 41 = .ok (.iaload, 1) := by decide +kernel
theorem d_M_isBefore_42 : decode c_M_isBefore 42 = .ok (.aload_n 0, 1) := by decide +kernel
theorem d_M_isBefore_43 : decode c_M_isBefore 43 = .ok (.getfield 7, 3) := by decide +kernel
theorem d_M_isBefore_46 : decode c_M_isBefore 46 = .ok (.iload_n 2, 1) := by decide +kernel
theorem d_M_isBefore_47 : decode c_M_isBefore 47 = .ok (.iaload, 1) := by decide +kernel
theorem d_M_isBefore_48 : decode c_M_isBefore 48 = .ok (.if_icmp .eq 26, 3) := by decide +kernel
theorem d_M_isBefore_51 : decode c_M_isBefore 51 = .ok (.aload_n 0, 1) := by decide +kernel
theorem d_M_isBefore_52 : decode c_M_isBefore 52 = .ok (.getfield 7, 3) := by decide +kernel
theorem d_M_isBefore_55 : decode c_M_isBefore 55 = .ok (.iload_n 1, 1) := by decide +kernel
theorem d_M_isBefore_56 : decode c_M_isBefore 56 = .ok (.iaload, 1) := by decide +kernel
theorem d_M_isBefore_57 : decode c_M_isBefore 57 = .ok (.aload_n 0, 1) := by decide +kernel
theorem d_M_isBefore_58 : decode c_M_isBefore 58 = .ok (.getfield 7, 3) := by decide +kernel
theorem d_M_isBefore_61 : decode c_M_isBefore 61 = .ok (.iload_n 2, 1) := by decide +kernel
theorem d_M_isBefore_62 : decode c_M_isBefore 62 = .ok (.iaload, 1) := by decide +kernel
theorem d_M_isBefore_63 : decode c_M_isBefore 63 = .ok (.if_icmp .ge 7, 3) := by decide +kernel
theorem d_M_isBefore_66 : decode c_M_isBefore 66 = .ok (.iconst 1, 1) := by decide +kernel
theorem d_M_isBefore_67 : decode c_M_isBefore 67 = .ok (.goto 17, 3) := by decide +kernel
theorem d_M_isBefore_70 : decode c_M_isBefore 70 = .ok (.iconst 0, 1) := by decide +kernel
theorem d_M_isBefore_71 : decode c_M_isBefore 71 = .ok (.goto 13, 3) := by decide +kernel
theorem d_M_isBefore_74 : decode c_M_isBefore 74 = .ok (.iload_n 1, 1) := by decide +kernel
theorem d_M_isBefore_75 : decode c_M_isBefore 75 = .ok (.iload_n 2, 1) := by decide +kernel
theorem d_M_isBefore_76 : decode c_M_isBefore 76 = .ok (.if_icmp .ge 7, 3) := by decide +kernel
theorem d_M_isBefore_79 : decode c_M_isBefore 79 = .ok (.iconst 1, 1) := by decide +kernel
theorem d_M_isBefore_80 : decode c_M_isBefore 80 = .ok (.goto 4, 3) := by decide +kernel
theorem d_M_isBefore_83 : decode c_M_isBefore 83 = .ok (.iconst 0, 1) := by decide +kernel
theorem d_M_isBefore_84 : decode c_M_isBefore 84 = .ok (.ireturn, 1) := by decide +kernel
theorem d_M_row_0 : decode c_M_row 0 = .ok (.aload_n 0, 1) := by decide +kernel
theorem d_M_row_1 : decode c_M_row 1 = .ok (.iconst 1, 1) := by decide +kernel
theorem d_M_row_2 : decode c_M_row 2 = .ok (.iload_n 1, 1) := by decide +kernel
theorem d_M_row_3 : decode c_M_row 3 = .ok (.iconst 0, 1) := by decide +kernel
theorem d_M_row_4 : decode c_M_row 4 = .ok (.aload_n 0, 1) := by decide +kernel
theorem d_M_row_5 : decode c_M_row 5 = .ok (.getfield 99, 3) := by decide +kernel
theorem d_M_row_8 : decode c_M_row 8 = .ok (.iconst 1, 1) := by decide +kernel
theorem d_M_row_9 : decode c_M_row 9 = .ok (.isub, 1) := by decide +kernel
theorem d_M_row_10 : decode c_M_row 10 = .ok (.invokestatic 53, 3) := by decide +kernel
theorem d_M_row_13 : decode c_M_row 13 = .ok (.ifCond .eq 16, 3) := by decide +kernel
theorem d_M_row_16 : decode c_M_row 16 = .ok (.iload_n 2, 1) := by decide +kernel
theorem d_M_row_17 : decode c_M_row 17 = .ok (.iconst 0, 1) := by decide +kernel
theorem d_M_row_18 : decode c_M_row 18 = .ok (.iconst 4, 1) := by decide +kernel
theorem d_M_row_19 : decode c_M_row 19 = .ok (.invokestatic 53, 3) := by decide +kernel
theorem d_M_row_22 : decode c_M_row 22 = .ok (.ifCond .eq 7, 3) := by decide +kernel
theorem d_M_row_25 : decode c_M_row 25 = .ok (.iconst 1, 1) := by decide +kernel
theorem d_M_row_26 : decode c_M_row 26 = .ok (.goto 4, 3) := by decide +kernel
theorem d_M_row_29 : decode c_M_row 29 = .ok (.iconst 0, 1) := by decide +kernel
theorem d_M_row_30 : decode c_M_row 30 = .ok (.iconst 1, 1) := by decide +kernel
theorem d_M_row_31 : decode c_M_row 31 = .ok (.iconst 1, 1) := by decide +kernel
theorem d_M_row_32 : decode c_M_row 32 = .ok (.iconst 1, 1) := by decide +kernel
theorem d_M_row_33 : decode c_M_row 33 = .ok (.invokevirtual 63, 3) := by decide +kernel
theorem d_M_row_36 : decode c_M_row 36 = .ok (.ifCond .ne 5, 3) := by decide +kernel
theorem d_M_row_39 : decode c_M_row 39 = .ok (.iconst 0, 1) := by decide +kernel
theorem d_M_row_40 : decode c_M_row 40 = .ok (.ireturn, 1) := by decide +kernel
theorem d_M_row_41 : decode c_M_row 41 = .ok (.aload_n 0, 1) := by decide +kernel
theorem d_M_row_42 : decode c_M_row 42 = .ok (.getfield 40, 3) := by decide +kernel
theorem d_M_row_45 : decode c_M_row 45 = .ok (.iload_n 1, 1) := by decide +kernel
theorem d_M_row_46 : decode c_M_row 46 = .ok (.iaload, 1) := by decide +kernel
theorem d_M_row_47 : decode c_M_row 47 = .ok (.istore_n 3, 1) := by decide +kernel
theorem d_M_row_48 : decode c_M_row 48 = .ok (.iload_n 2, 1) := by decide +kernel
theorem d_M_row_49 : decode c_M_row 49 = .ok (.ifCond .ne 7, 3) := by decide +kernel
theorem d_M_row_52 : decode c_M_row 52 = .ok (.iload_n 3, 1) := by decide +kernel
theorem d_M_row_53 : decode c_M_row 53 = .ok (.goto 65, 3) := by decide +kernel
theorem d_M_row_56 : decode c_M_row 56 = .ok (.iload_n 2, 1) := by decide +kernel
theorem d_M_row_57 : decode c_M_row 57 = .ok (.iconst 1, 1) := by decide +kernel
theorem d_M_row_58 : decode c_M_row 58 = .ok (.if_icmp .ne 12, 3) := by decide +kernel
theorem d_M_row_61 : decode c_M_row 61 = .ok (.aload_n 0, 1) := by decide +kernel
theorem d_M_row_62 : decode c_M_row 62 = .ok (.getfield 19, 3) := by decide +kernel
theorem d_M_row_65 : decode c_M_row 65 = .ok (.iload_n 3, 1) := by decide +kernel
theorem d_M_row_66 : decode c_M_row 66 = .ok (.iaload, 1) := by decide +kernel
theorem d_M_row_67 : decode c_M_row 67 = .ok (.goto 51, 3) := by decide +kernel
theorem d_M_row_70 : decode c_M_row 70 = .ok (.iload_n 2, 1) := by decide +kernel
theorem d_M_row_71 : decode c_M_row 71 = .ok (.iconst 2, 1) := by decide +kernel
theorem d_M_row_72 : decode c_M_row 72 = .ok (.if_icmp .ne 15, 3) := by decide +kernel
theorem d_M_row_75 : decode c_M_row 75 = .ok (.aload_n 0, 1) := by decide +kernel
theorem d_M_row_76 : decode c_M_row 76 = .ok (.iload_n 3, 1) := by decide +kernel
theorem d_M_row_77 : decode c_M_row 77 = .ok (.aload_n 0, 1) := by decide +kernel
theorem d_M_row_78 : decode c_M_row 78 = .ok (.getfield 96, 3) := by decide +kernel
theorem d_M_row_81 : decode c_M_row 81 = .ok (.invokevirtual 106, 3) := by decide +kernel
theorem d_M_row_84 : decode c_M_row 84 = .ok (.goto 34, 3) := by decide +kernel
theorem d_M_row_87 : decode c_M_row 87 = .ok (.iload_n 2, 1) := by decide +kernel
theorem d_M_row_88 : decode c_M_row 88 = .ok (.iconst 3, 1) := by decide +kernel
theorem d_M_row_89 : decode c_M_row 89 = .ok (.if_icmp .ne 23, 3) := by decide +kernel
theorem d_M_row_92 : decode c_M_row 92 = .ok (.aload_n 0, 1) := by decide +kernel
theorem d_M_row_93 : decode c_M_row 93 = .ok (.iload_n 3, 1) := by decide +kernel
theorem d_M_row_94 : decode c_M_row 94 = .ok (.aload_n 0, 1) := by decide +kernel
theorem d_M_row_95 : decode c_M_row 95 = .ok (.getfield 96, 3) := by decide +kernel
theorem d_M_row_98 : decode c_M_row 98 = .ok (.invokevirtual 77, 3) := by decide +kernel
theorem d_M_row_101 : decode c_M_row 101 = .ok (.ifCond .eq 7, 3) := by decide +kernel
theorem d_M_row_104 : decode c_M_row 104 = .ok (.iconst 1, 1) := by decide +kernel
theorem d_M_row_105 : decode c_M_row 105 = .ok (.goto 13, 3) := by decide +kernel
theorem d_M_row_108 : decode c_M_row 108 = .ok (.iconst 0, 1) := by decide +kernel
theorem d_M_row_109 : decode c_M_row 109 = .ok (.goto 9, 3) := by decide +kernel
theorem d_M_row_112 : decode c_M_row 112 = .ok (.aload_n 0, 1) := by decide +kernel
theorem d_M_row_113 : decode c_M_row 113 = .ok (.getfield 7, 3) := by decide +kernel
theorem d_M_row_116 : decode c_M_row 116 = .ok (.iload_n 3, 1) := by decide +kernel
theorem d_M_row_117 : decode c_M_row 117 = .ok (.iaload, 1) := by decide +kernel
theorem d_M_row_118 : decode c_M_row 118 = .ok (.ireturn, 1) := by decide +kernel
theorem d_M_value_0 : decode c_M_value 0 = .ok (.aload_n 0, 1) := by decide +kernel
theorem d_M_value_1 : decode c_M_value 1 = .ok (.getfield 22, 3) := by decide +kernel
theorem d_M_value_4 : decode c_M_value 4 = .ok (.iload_n 1, 1) := by decide +kernel
theorem d_M_value_5 : decode c_M_value 5 = .ok (.iaload, 1) := by decide +kernel
theorem d_M_value_6 : decode c_M_value 6 = .ok (.istore_n 3, 1) := by decide +kernel
theorem d_M_value_7 : decode c_M_value 7 = .ok (.iconst 0, 1) := by decide +kernel
theorem d_M_value_8 : decode c_M_value 8 = .ok (.istore 4, 2) := by decide +kernel
theorem d_M_value_10 : decode c_M_value 10 = .ok (.iload 4, 2) := by decide +kernel
theorem d_M_value_12 : decode c_M_value 12 = .ok (.aload_n 0, 1) := by decide +kernel
theorem d_M_value_13 : decode c_M_value 13 = .ok (.getfield 71, 3) := by decide +kernel
theorem d_M_value_16 : decode c_M_value 16 = .ok (.if_icmp .ge 50, 3) := by decide +kernel
theorem d_M_value_19 : decode c_M_value 19 = .ok (.aload_n 0, 1) := by decide +kernel
theorem d_M_value_20 : decode c_M_value 20 = .ok (.getfield 28, 3) := by decide +kernel
theorem d_M_value_23 : decode c_M_value 23 = .ok (.iload 4, 2) := by decide +kernel
theorem d_M_value_25 : decode c_M_value 25 = .ok (.iaload, 1) := by decide +kernel
theorem d_M_value_26 : decode c_M_value 26 = .ok (.iload_n 1, 1) := by decide +kernel
theorem d_M_value_27 : decode c_M_value 27 = .ok (.if_icmp .ne 33, 3) := by decide +kernel
theorem d_M_value_30 : decode c_M_value 30 = .ok (.aload_n 0, 1) := by decide +kernel
theorem d_M_value_31 : decode c_M_value 31 = .ok (.getfield 31, 3) := by decide +kernel
theorem d_M_value_34 : decode c_M_value 34 = .ok (.iload 4, 2) := by decide +kernel
theorem d_M_value_36 : decode c_M_value 36 = .ok (.iaload, 1) := by decide +kernel
theorem d_M_value_37 : decode c_M_value 37 = .ok (.iconst 2, 1) := by decide +kernel
theorem d_M_value_38 : decode c_M_value 38 = .ok (.if_icmp .ne 22, 3) := by decide +kernel
theorem d_M_value_41 : decode c_M_value 41 = .ok (.aload_n 0, 1) := by decide +kernel
theorem d_M_value_42 : decode c_M_value 42 = .ok (.getfield 37, 3) := by decide +kernel
theorem d_M_value_45 : decode c_M_value 45 = .ok (.iload 4, 2) := by decide +kernel
theorem d_M_value_47 : decode c_M_value 47 = .ok (.iaload, 1) := by decide +kernel
theorem d_M_value_48 : decode c_M_value 48 = .ok (.iload_n 2, 1) := by decide +kernel
theorem d_M_value_49 : decode c_M_value 49 = .ok (.if_icmp .gt 11, 3) := by decide +kernel
theorem d_M_value_52 : decode c_M_value 52 = .ok (.aload_n 0, 1) := by decide +kernel
theorem d_M_value_53 : decode c_M_value 53 = .ok (.getfield 34, 3) := by decide +kernel
theorem d_M_value_56 : decode c_M_value 56 = .ok (.iload 4, 2) := by decide +kernel
theorem d_M_value_58 : decode c_M_value 58 = .ok (.iaload, 1) := by decide +kernel
theorem d_M_value_59 : decode c_M_value 59 = .ok (.istore_n 3, 1) := by decide +kernel
theorem d_M_value_60 : decode c_M_value 60 = .ok (.iinc 4 1, 3) := by decide +kernel
theorem d_M_value_63 : decode c_M_value 63 = .ok (.goto (-53), 3) := by decide +kernel
theorem d_M_value_66 : decode c_M_value 66 = .ok (.iload_n 3, 1) := by decide +kernel
theorem d_M_value_67 : decode c_M_value 67 = .ok (.ireturn, 1) := by decide +kernel
theorem d_M_reading_0 : decode c_M_reading 0 = .ok (.iload_n 1, 1) := by decide +kernel
theorem d_M_reading_1 : decode c_M_reading 1 = .ok (.iconst 0, 1) := by decide +kernel
theorem d_M_reading_2 : decode c_M_reading 2 = .ok (.bipush 9, 2) := by decide +kernel
theorem d_M_reading_4 : decode c_M_reading 4 = .ok (.invokestatic 53, 3) := by decide +kernel
theorem d_M_reading_7 : decode c_M_reading 7 = .ok (.istore_n 3, 1) := by decide +kernel
theorem d_M_reading_8 : decode c_M_reading 8 = .ok (.iconst (-1), 1) := by decide +kernel
theorem d_M_reading_9 : decode c_M_reading 9 = .ok (.istore 4, 2) := by decide +kernel
theorem d_M_reading_11 : decode c_M_reading 11 = .ok (.iconst (-1), 1) := by decide +kernel
theorem d_M_reading_12 : decode c_M_reading 12 = .ok (.istore 5, 2) := by decide +kernel
theorem d_M_reading_14 : decode c_M_reading 14 = .ok (.iload_n 3, 1) := by decide +kernel
theorem d_M_reading_15 : decode c_M_reading 15 = .ok (.ifCond .eq 18, 3) := by decide +kernel
theorem d_M_reading_18 : decode c_M_reading 18 = .ok (.aload_n 0, 1) := by decide +kernel
theorem d_M_reading_19 : decode c_M_reading 19 = .ok (.iconst (-1), 1) := by decide +kernel
theorem d_M_reading_20 : decode c_M_reading 20 = .ok (.iconst 0, 1) := by decide +kernel
theorem d_M_reading_21 : decode c_M_reading 21 = .ok (.iconst 2, 1) := by decide +kernel
theorem d_M_reading_22 : decode c_M_reading 22 = .ok (.iload_n 1, 1) := by decide +kernel
theorem d_M_reading_23 : decode c_M_reading 23 = .ok (.aload_n 0, 1) := by decide +kernel
theorem d_M_reading_24 : decode c_M_reading 24 = .ok (.getfield 57, 3) := by decide +kernel
theorem d_M_reading_27 : decode c_M_reading 27 = .ok (.invokevirtual 102, 3) := by decide +kernel
theorem d_M_reading_30 : decode c_M_reading 30 = .ok (.goto 4, 3) := by decide +kernel
theorem d_M_reading_33 : decode c_M_reading 33 = .ok (.iconst (-1), 1) := by decide +kernel
theorem d_M_reading_34 : decode c_M_reading 34 = .ok (.istore 6, 2) := by decide +kernel
theorem d_M_reading_36 : decode c_M_reading 36 = .ok (.iload 6, 2) := by decide +kernel
theorem d_M_reading_38 : decode c_M_reading 38 = .ok (.ifCond .lt 56, 3) := by decide +kernel
theorem d_M_reading_41 : decode c_M_reading 41 = .ok (.aload_n 0, 1) := by decide +kernel
theorem d_M_reading_42 : decode c_M_reading 42 = .ok (.getfield 19, 3) := by decide +kernel
theorem d_M_reading_45 : decode c_M_reading 45 = .ok (.iload 6, 2) := by decide +kernel
theorem d_M_reading_47 : decode c_M_reading 47 = .ok (.iaload, 1) := by decide +kernel
theorem d_M_reading_48 : decode c_M_reading 48 = .ok (.iload_n 2, 1) := by decide +kernel
theorem d_M_reading_49 : decode c_M_reading 49 = .ok (.if_icmp .gt 7, 3) := by decide +kernel
theorem d_M_reading_52 : decode c_M_reading 52 = .ok (.iload 6, 2) := by decide +kernel
theorem d_M_reading_54 : decode c_M_reading 54 = .ok (.istore 4, 2) := by decide +kernel
theorem d_M_reading_56 : decode c_M_reading 56 = .ok (.aload_n 0, 1) := by decide +kernel
theorem d_M_reading_57 : decode c_M_reading 57 = .ok (.getfield 19, 3) := by decide +kernel
theorem d_M_reading_60 : decode c_M_reading 60 = .ok (.iload 6, 2) := by decide +kernel
theorem d_M_reading_62 : decode c_M_reading 62 = .ok (.iaload, 1) := by decide +kernel
theorem d_M_reading_63 : decode c_M_reading 63 = .ok (.iload_n 2, 1) := by decide +kernel
theorem d_M_reading_64 : decode c_M_reading 64 = .ok (.if_icmp .lt 12, 3) := by decide +kernel
theorem d_M_reading_67 : decode c_M_reading 67 = .ok (.iload 5, 2) := by decide +kernel
theorem d_M_reading_69 : decode c_M_reading 69 = .ok (.ifCond .ge 7, 3) := by decide +kernel
theorem d_M_reading_72 : decode c_M_reading 72 = .ok (.iload 6, 2) := by decide +kernel
theorem d_M_reading_74 : decode c_M_reading 74 = .ok (.istore 5, 2) := by decide +kernel
theorem d_M_reading_76 : decode c_M_reading 76 = .ok (.aload_n 0, 1) := by decide +kernel
theorem d_M_reading_77 : decode c_M_reading 77 = .ok (.iload 6, 2) := by decide +kernel
theorem d_M_reading_79 : decode c_M_reading 79 = .ok (.iconst 0, 1) := by decide +kernel
theorem d_M_reading_80 : decode c_M_reading 80 = .ok (.iconst 2, 1) := by decide +kernel
theorem d_M_reading_81 : decode c_M_reading 81 = .ok (.iload_n 1, 1) := by decide +kernel
theorem d_M_reading_82 : decode c_M_reading 82 = .ok (.aload_n 0, 1) := by decide +kernel
theorem d_M_reading_83 : decode c_M_reading 83 = .ok (.getfield 57, 3) := by decide +kernel
theorem d_M_reading_86 : decode c_M_reading 86 = .ok (.invokevirtual 102, 3) := by decide +kernel
theorem d_M_reading_89 : decode c_M_reading 89 = .ok (.istore 6, 2) := by decide +kernel
theorem d_M_reading_91 : decode c_M_reading 91 = .ok (.goto (-55), 3) := by decide +kernel
theorem d_M_reading_94 : decode c_M_reading 94 = .ok (.aload_n 0, 1) := by decide +kernel
theorem d_M_reading_95 : decode c_M_reading 95 = .ok (.bipush 7, 2) := by decide +kernel
theorem d_M_reading_97 : decode c_M_reading 97 = .ok (.iload_n 3, 1) := by decide +kernel
theorem d_M_reading_98 : decode c_M_reading 98 = .ok (.aload_n 0, 1) := by decide +kernel
theorem d_M_reading_99 : decode c_M_reading 99 = .ok (.iload_n 2, 1) := by decide +kernel
theorem d_M_reading_100 : decode c_M_reading 100 = .ok (.invokevirtual 67, 3) := by decide +kernel
theorem d_M_reading_103 : decode c_M_reading 103 = .ok (.iload 4, 2) := by decide +kernel
theorem d_M_reading_105 : decode c_M_reading 105 = .ok (.ifCond .lt 12, 3) := by decide +kernel
theorem d_M_reading_108 : decode c_M_reading 108 = .ok (.iload 5, 2) := by decide +kernel
theorem d_M_reading_110 : decode c_M_reading 110 = .ok (.ifCond .lt 7, 3) := by decide +kernel
theorem d_M_reading_113 : decode c_M_reading 113 = .ok (.iconst 1, 1) := by decide +kernel
theorem d_M_reading_114 : decode c_M_reading 114 = .ok (.goto 4, 3) := by decide +kernel
theorem d_M_reading_117 : decode c_M_reading 117 = .ok (.iconst 0, 1) := by decide +kernel
theorem d_M_reading_118 : decode c_M_reading 118 = .ok (.iconst 1, 1) := by decide +kernel
theorem d_M_reading_119 : decode c_M_reading 119 = .ok (.invokevirtual 63, 3) := by decide +kernel
theorem d_M_reading_122 : decode c_M_reading 122 = .ok (.ifCond .ne 5, 3) := by decide +kernel
theorem d_M_reading_125 : decode c_M_reading 125 = .ok (.iconst 0, 1) := by decide +kernel
theorem d_M_reading_126 : decode c_M_reading 126 = .ok (.ireturn, 1) := by decide +kernel
theorem d_M_reading_127 : decode c_M_reading 127 = .ok (.aload_n 0, 1) := by decide +kernel
theorem d_M_reading_128 : decode c_M_reading 128 = .ok (.iload 4, 2) := by decide +kernel
theorem d_M_reading_130 : decode c_M_reading 130 = .ok (.aload_n 0, 1) := by decide +kernel
theorem d_M_reading_131 : decode c_M_reading 131 = .ok (.getfield 57, 3) := by decide +kernel
theorem d_M_reading_134 : decode c_M_reading 134 = .ok (.invokevirtual 106, 3) := by decide +kernel
theorem d_M_reading_137 : decode c_M_reading 137 = .ok (.istore 7, 2) := by decide +kernel
theorem d_M_reading_139 : decode c_M_reading 139 = .ok (.aload_n 0, 1) := by decide +kernel
theorem d_M_reading_140 : decode c_M_reading 140 = .ok (.getfield 19, 3) := by decide +kernel
theorem d_M_reading_143 : decode c_M_reading 143 = .ok (.iload 4, 2) := by decide +kernel
theorem d_M_reading_145 : decode c_M_reading 145 = .ok (.iaload, 1) := by decide +kernel
theorem d_M_reading_146 : decode c_M_reading 146 = .ok (.iload_n 2, 1) := by decide +kernel
theorem d_M_reading_147 : decode c_M_reading 147 = .ok (.if_icmp .ne 6, 3) := by decide +kernel
theorem d_M_reading_150 : decode c_M_reading 150 = .ok (.iload 7, 2) := by decide +kernel
theorem d_M_reading_152 : decode c_M_reading 152 = .ok (.ireturn, 1) := by decide +kernel
theorem d_M_reading_153 : decode c_M_reading 153 = .ok (.iload 7, 2) := by decide +kernel
theorem d_M_reading_155 : decode c_M_reading 155 = .ok (.aload_n 0, 1) := by decide +kernel
theorem d_M_reading_156 : decode c_M_reading 156 = .ok (.iload 5, 2) := by decide +kernel
theorem d_M_reading_158 : decode c_M_reading 158 = .ok (.aload_n 0, 1) := by decide +kernel
theorem d_M_reading_159 : decode c_M_reading 159 = .ok (.getfield 57, 3) := by decide +kernel
theorem d_M_reading_162 : decode c_M_reading 162 = .ok (.invokevirtual 106, 3) := by decide +kernel
theorem d_M_reading_165 : decode c_M_reading 165 = .ok (.iload 7, 2) := by decide +kernel
theorem d_M_reading_167 : decode c_M_reading 167 = .ok (.isub, 1) := by decide +kernel
theorem d_M_reading_168 : decode c_M_reading 168 = .ok (.iload_n 2, 1) := by decide +kernel
theorem d_M_reading_169 : decode c_M_reading 169 = .ok (.aload_n 0, 1) := by decide +kernel
theorem d_M_reading_170 : decode c_M_reading 170 = .ok (.getfield 19, 3) := by decide +kernel
theorem d_M_reading_173 : decode c_M_reading 173 = .ok (.iload 4, 2) := by decide +kernel
theorem d_M_reading_175 : decode c_M_reading 175 = .ok (.iaload, 1) := by decide +kernel
theorem d_M_reading_176 : decode c_M_reading 176 = .ok (.isub, 1) := by decide +kernel
theorem d_M_reading_177 : decode c_M_reading 177 = .ok (.imul, 1) := by decide +kernel
theorem d_M_reading_178 : decode c_M_reading 178 = .ok (.aload_n 0, 1) := by decide +kernel
theorem d_M_reading_179 : decode c_M_reading 179 = .ok (.getfield 19, 3) := by decide +kernel
theorem d_M_reading_182 : decode c_M_reading 182 = .ok (.iload 5, 2) := by decide +kernel
theorem d_M_reading_184 : decode c_M_reading 184 = .ok (.iaload, 1) := by decide +kernel
theorem d_M_reading_185 : decode c_M_reading 185 = .ok (.aload_n 0, 1) := by decide +kernel
theorem d_M_reading_186 : decode c_M_reading 186 = .ok (.getfield 19, 3) := by decide +kernel
theorem d_M_reading_189 : decode c_M_reading 189 = .ok (.iload 4, 2) := by decide +kernel
theorem d_M_reading_191 : decode c_M_reading 191 = .ok (.iaload, 1) := by decide +kernel
theorem d_M_reading_192 : decode c_M_reading 192 = .ok (.isub, 1) := by decide +kernel
theorem d_M_reading_193 : decode c_M_reading 193 = .ok (.invokestatic 110, 3) := by decide +kernel
theorem d_M_reading_196 : decode c_M_reading 196 = .ok (.iadd, 1) := by decide +kernel
theorem d_M_reading_197 : decode c_M_reading 197 = .ok (.ireturn, 1) := by decide +kernel
theorem d_M_floor_0 : decode c_M_floor 0 = .ok (.iload_n 0, 1) := by decide +kernel
theorem d_M_floor_1 : decode c_M_floor 1 = .ok (.iload_n 1, 1) := by decide +kernel
theorem d_M_floor_2 : decode c_M_floor 2 = .ok (.idiv, 1) := by decide +kernel
theorem d_M_floor_3 : decode c_M_floor 3 = .ok (.istore_n 2, 1) := by decide +kernel
theorem d_M_floor_4 : decode c_M_floor 4 = .ok (.iload_n 2, 1) := by decide +kernel
theorem d_M_floor_5 : decode c_M_floor 5 = .ok (.iload_n 1, 1) := by decide +kernel
theorem d_M_floor_6 : decode c_M_floor 6 = .ok (.imul, 1) := by decide +kernel
theorem d_M_floor_7 : decode c_M_floor 7 = .ok (.iload_n 0, 1) := by decide +kernel
theorem d_M_floor_8 : decode c_M_floor 8 = .ok (.if_icmp .le 9, 3) := by decide +kernel
theorem d_M_floor_11 : decode c_M_floor 11 = .ok (.iload_n 2, 1) := by decide +kernel
theorem d_M_floor_12 : decode c_M_floor 12 = .ok (.iconst 1, 1) := by decide +kernel
theorem d_M_floor_13 : decode c_M_floor 13 = .ok (.isub, 1) := by decide +kernel
theorem d_M_floor_14 : decode c_M_floor 14 = .ok (.goto 4, 3) := by decide +kernel
theorem d_M_floor_17 : decode c_M_floor 17 = .ok (.iload_n 2, 1) := by decide +kernel
theorem d_M_floor_18 : decode c_M_floor 18 = .ok (.ireturn, 1) := by decide +kernel
theorem d_M_gap_0 : decode c_M_gap 0 = .ok (.aload_n 0, 1) := by decide +kernel
theorem d_M_gap_1 : decode c_M_gap 1 = .ok (.iconst 2, 1) := by decide +kernel
theorem d_M_gap_2 : decode c_M_gap 2 = .ok (.iconst 1, 1) := by decide +kernel
theorem d_M_gap_3 : decode c_M_gap 3 = .ok (.iload_n 1, 1) := by decide +kernel
theorem d_M_gap_4 : decode c_M_gap 4 = .ok (.iconst 0, 1) := by decide +kernel
theorem d_M_gap_5 : decode c_M_gap 5 = .ok (.ldc 113, 2) := by decide +kernel
theorem d_M_gap_7 : decode c_M_gap 7 = .ok (.invokestatic 53, 3) := by decide +kernel
theorem d_M_gap_10 : decode c_M_gap 10 = .ok (.ifCond .eq 11, 3) := by decide +kernel
theorem d_M_gap_13 : decode c_M_gap 13 = .ok (.iload_n 2, 1) := by decide +kernel
theorem d_M_gap_14 : decode c_M_gap 14 = .ok (.ifCond .lt 7, 3) := by decide +kernel
theorem d_M_gap_17 : decode c_M_gap 17 = .ok (.iconst 1, 1) := by decide +kernel
theorem d_M_gap_18 : decode c_M_gap 18 = .ok (.goto 4, 3) := by decide +kernel
theorem d_M_gap_21 : decode c_M_gap 21 = .ok (.iconst 0, 1) := by decide +kernel
theorem d_M_gap_22 : decode c_M_gap 22 = .ok (.iconst 1, 1) := by decide +kernel
theorem d_M_gap_23 : decode c_M_gap 23 = .ok (.iconst 1, 1) := by decide +kernel
theorem d_M_gap_24 : decode c_M_gap 24 = .ok (.invokevirtual 63, 3) := by decide +kernel
theorem d_M_gap_27 : decode c_M_gap 27 = .ok (.ifCond .ne 5, 3) := by decide +kernel
theorem d_M_gap_30 : decode c_M_gap 30 = .ok (.iconst 0, 1) := by decide +kernel
theorem d_M_gap_31 : decode c_M_gap 31 = .ok (.ireturn, 1) := by decide +kernel
theorem d_M_gap_32 : decode c_M_gap 32 = .ok (.iload_n 2, 1) := by decide +kernel
theorem d_M_gap_33 : decode c_M_gap 33 = .ok (.istore_n 3, 1) := by decide +kernel
theorem d_M_gap_34 : decode c_M_gap 34 = .ok (.aload_n 0, 1) := by decide +kernel
theorem d_M_gap_35 : decode c_M_gap 35 = .ok (.iconst (-1), 1) := by decide +kernel
theorem d_M_gap_36 : decode c_M_gap 36 = .ok (.iconst 0, 1) := by decide +kernel
theorem d_M_gap_37 : decode c_M_gap 37 = .ok (.iconst (-1), 1) := by decide +kernel
theorem d_M_gap_38 : decode c_M_gap 38 = .ok (.iconst (-1), 1) := by decide +kernel
theorem d_M_gap_39 : decode c_M_gap 39 = .ok (.aload_n 0, 1) := by decide +kernel
theorem d_M_gap_40 : decode c_M_gap 40 = .ok (.getfield 57, 3) := by decide +kernel
theorem d_M_gap_43 : decode c_M_gap 43 = .ok (.invokevirtual 102, 3) := by decide +kernel
theorem d_M_gap_46 : decode c_M_gap 46 = .ok (.istore 4, 2) := by decide +kernel
theorem d_M_gap_48 : decode c_M_gap 48 = .ok (.iload 4, 2) := by decide +kernel
theorem d_M_gap_50 : decode c_M_gap 50 = .ok (.ifCond .lt 59, 3) := by decide +kernel
theorem d_M_gap_53 : decode c_M_gap 53 = .ok (.aload_n 0, 1) := by decide +kernel
theorem d_M_gap_54 : decode c_M_gap 54 = .ok (.iload 4, 2) := by decide +kernel
theorem d_M_gap_56 : decode c_M_gap 56 = .ok (.iconst 0, 1) := by decide +kernel
theorem d_M_gap_57 : decode c_M_gap 57 = .ok (.iconst (-1), 1) := by decide +kernel
theorem d_M_gap_58 : decode c_M_gap 58 = .ok (.iconst (-1), 1) := by decide +kernel
theorem d_M_gap_59 : decode c_M_gap 59 = .ok (.aload_n 0, 1) := by decide +kernel
theorem d_M_gap_60 : decode c_M_gap 60 = .ok (.getfield 57, 3) := by decide +kernel
theorem d_M_gap_63 : decode c_M_gap 63 = .ok (.invokevirtual 102, 3) := by decide +kernel
theorem d_M_gap_66 : decode c_M_gap 66 = .ok (.istore 5, 2) := by decide +kernel
theorem d_M_gap_68 : decode c_M_gap 68 = .ok (.iload 5, 2) := by decide +kernel
theorem d_M_gap_70 : decode c_M_gap 70 = .ok (.ifCond .lt 32, 3) := by decide +kernel
theorem d_M_gap_73 : decode c_M_gap 73 = .ok (.aload_n 0, 1) := by decide +kernel

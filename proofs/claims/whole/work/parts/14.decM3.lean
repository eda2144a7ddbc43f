/-! decode rows, printed by wip/gen/names.py -/
theorem d_M_gap_74 : decode c_M_gap 74 = .ok (.getfield 19, 3) := by decide +kernel
theorem d_M_gap_77 : decode c_M_gap 77 = .ok (.iload 5, 2) := by decide +kernel
theorem d_M_gap_79 : decode c_M_gap 79 = .ok (.iaload, 1) := by decide +kernel
theorem d_M_gap_80 : decode c_M_gap 80 = .ok (.aload_n 0, 1) := by decide +kernel
theorem d_M_gap_81 : decode c_M_gap 81 = .ok (.getfield 19, 3) := by decide +kernel
theorem d_M_gap_84 : decode c_M_gap 84 = .ok (.iload 4, 2) := by decide +kernel
theorem d_M_gap_86 : decode c_M_gap 86 = .ok (.iaload, 1) := by decide +kernel
theorem d_M_gap_87 : decode c_M_gap 87 = .ok (.isub, 1) := by decide +kernel
theorem d_M_gap_88 : decode c_M_gap 88 = .ok (.iload_n 1, 1) := by decide +kernel
theorem d_M_gap_89 : decode c_M_gap 89 = .ok (.if_icmp .le 13, 3) := by decide +kernel
theorem d_M_gap_92 : decode c_M_gap 92 = .ok (.iload_n 3, 1) := by decide +kernel
theorem d_M_gap_93 : decode c_M_gap 93 = .ok (.ifCond .ne 6, 3) := by decide +kernel
theorem d_M_gap_96 : decode c_M_gap 96 = .ok (.iload 4, 2) := by decide +kernel
theorem d_M_gap_98 : decode c_M_gap 98 = .ok (.ireturn, 1) := by decide +kernel
theorem d_M_gap_99 : decode c_M_gap 99 = .ok (.iinc 3 (-1), 3) := by decide +kernel
theorem d_M_gap_102 : decode c_M_gap 102 = .ok (.iload 5, 2) := by decide +kernel
theorem d_M_gap_104 : decode c_M_gap 104 = .ok (.istore 4, 2) := by decide +kernel
theorem d_M_gap_106 : decode c_M_gap 106 = .ok (.goto (-58), 3) := by decide +kernel
theorem d_M_gap_109 : decode c_M_gap 109 = .ok (.iconst (-1), 1) := by decide +kernel
theorem d_M_gap_110 : decode c_M_gap 110 = .ok (.ireturn, 1) := by decide +kernel
theorem d_M_digest_0 : decode c_M_digest 0 = .ok (.aload_n 0, 1) := by decide +kernel
theorem d_M_digest_1 : decode c_M_digest 1 = .ok (.iconst 1, 1) := by decide +kernel
theorem d_M_digest_2 : decode c_M_digest 2 = .ok (.aload_n 0, 1) := by decide +kernel
theorem d_M_digest_3 : decode c_M_digest 3 = .ok (.iload_n 1, 1) := by decide +kernel
theorem d_M_digest_4 : decode c_M_digest 4 = .ok (.invokevirtual 74, 3) := by decide +kernel
theorem d_M_digest_7 : decode c_M_digest 7 = .ok (.iconst 1, 1) := by decide +kernel
theorem d_M_digest_8 : decode c_M_digest 8 = .ok (.iconst 1, 1) := by decide +kernel
theorem d_M_digest_9 : decode c_M_digest 9 = .ok (.iconst 1, 1) := by decide +kernel
theorem d_M_digest_10 : decode c_M_digest 10 = .ok (.invokevirtual 63, 3) := by decide +kernel
theorem d_M_digest_13 : decode c_M_digest 13 = .ok (.ifCond .ne 5, 3) := by decide +kernel
theorem d_M_digest_16 : decode c_M_digest 16 = .ok (.iconst 0, 1) := by decide +kernel
theorem d_M_digest_17 : decode c_M_digest 17 = .ok (.ireturn, 1) := by decide +kernel
theorem d_M_digest_18 : decode c_M_digest 18 = .ok (.bipush 7, 2) := by decide +kernel
theorem d_M_digest_20 : decode c_M_digest 20 = .ok (.aload_n 0, 1) := by decide +kernel
theorem d_M_digest_21 : decode c_M_digest 21 = .ok (.getfield 7, 3) := by decide +kernel
theorem d_M_digest_24 : decode c_M_digest 24 = .ok (.iload_n 1, 1) := by decide +kernel
theorem d_M_digest_25 : decode c_M_digest 25 = .ok (.iaload, 1) := by decide +kernel
theorem d_M_digest_26 : decode c_M_digest 26 = .ok (.invokestatic 114, 3) := by decide +kernel
theorem d_M_digest_29 : decode c_M_digest 29 = .ok (.aload_n 0, 1) := by decide +kernel
theorem d_M_digest_30 : decode c_M_digest 30 = .ok (.getfield 13, 3) := by decide +kernel
theorem d_M_digest_33 : decode c_M_digest 33 = .ok (.iload_n 1, 1) := by decide +kernel
theorem d_M_digest_34 : decode c_M_digest 34 = .ok (.iaload, 1) := by decide +kernel
theorem d_M_digest_35 : decode c_M_digest 35 = .ok (.invokestatic 114, 3) := by decide +kernel
theorem d_M_digest_38 : decode c_M_digest 38 = .ok (.aload_n 0, 1) := by decide +kernel
theorem d_M_digest_39 : decode c_M_digest 39 = .ok (.getfield 16, 3) := by decide +kernel
theorem d_M_digest_42 : decode c_M_digest 42 = .ok (.iload_n 1, 1) := by decide +kernel
theorem d_M_digest_43 : decode c_M_digest 43 = .ok (.iaload, 1) := by decide +kernel
theorem d_M_digest_44 : decode c_M_digest 44 = .ok (.invokestatic 114, 3) := by decide +kernel
theorem d_M_digest_47 : decode c_M_digest 47 = .ok (.aload_n 0, 1) := by decide +kernel
theorem d_M_digest_48 : decode c_M_digest 48 = .ok (.getfield 19, 3) := by decide +kernel
theorem d_M_digest_51 : decode c_M_digest 51 = .ok (.iload_n 1, 1) := by decide +kernel
theorem d_M_digest_52 : decode c_M_digest 52 = .ok (.iaload, 1) := by decide +kernel
theorem d_M_digest_53 : decode c_M_digest 53 = .ok (.invokestatic 114, 3) := by decide +kernel
theorem d_M_digest_56 : decode c_M_digest 56 = .ok (.aload_n 0, 1) := by decide +kernel
theorem d_M_digest_57 : decode c_M_digest 57 = .ok (.getfield 22, 3) := by decide +kernel
theorem d_M_digest_60 : decode c_M_digest 60 = .ok (.iload_n 1, 1) := by decide +kernel
theorem d_M_digest_61 : decode c_M_digest 61 = .ok (.iaload, 1) := by decide +kernel
theorem d_M_digest_62 : decode c_M_digest 62 = .ok (.invokestatic 114, 3) := by decide +kernel
theorem d_M_digest_65 : decode c_M_digest 65 = .ok (.istore_n 2, 1) := by decide +kernel
theorem d_M_digest_66 : decode c_M_digest 66 = .ok (.iconst 0, 1) := by decide +kernel
theorem d_M_digest_67 : decode c_M_digest 67 = .ok (.istore_n 3, 1) := by decide +kernel
theorem d_M_digest_68 : decode c_M_digest 68 = .ok (.iload_n 3, 1) := by decide +kernel
theorem d_M_digest_69 : decode c_M_digest 69 = .ok (.aload_n 0, 1) := by decide +kernel
theorem d_M_digest_70 : decode c_M_digest 70 = .ok (.getfield 71, 3) := by decide +kernel
theorem d_M_digest_73 : decode c_M_digest 73 = .ok (.if_icmp .ge 40, 3) := by decide +kernel
theorem d_M_digest_76 : decode c_M_digest 76 = .ok (.aload_n 0, 1) := by decide +kernel
theorem d_M_digest_77 : decode c_M_digest 77 = .ok (.getfield 28, 3) := by decide +kernel
theorem d_M_digest_80 : decode c_M_digest 80 = .ok (.iload_n 3, 1) := by decide +kernel
theorem d_M_digest_81 : decode c_M_digest 81 = .ok (.iaload, 1) := by decide +kernel
theorem d_M_digest_82 : decode c_M_digest 82 = .ok (.iload_n 1, 1) := by decide +kernel
theorem d_M_digest_83 : decode c_M_digest 83 = .ok (.if_icmp .ne 24, 3) := by decide +kernel
theorem d_M_digest_86 : decode c_M_digest 86 = .ok (.aload_n 0, 1) := by decide +kernel
theorem d_M_digest_87 : decode c_M_digest 87 = .ok (.getfield 31, 3) := by decide +kernel
theorem d_M_digest_90 : decode c_M_digest 90 = .ok (.iload_n 3, 1) := by decide +kernel
theorem d_M_digest_91 : decode c_M_digest 91 = .ok (.iaload, 1) := by decide +kernel
theorem d_M_digest_92 : decode c_M_digest 92 = .ok (.iconst 2, 1) := by decide +kernel
theorem d_M_digest_93 : decode c_M_digest 93 = .ok (.if_icmp .ne 14, 3) := by decide +kernel
theorem d_M_digest_96 : decode c_M_digest 96 = .ok (.iload_n 2, 1) := by decide +kernel
theorem d_M_digest_97 : decode c_M_digest 97 = .ok (.aload_n 0, 1) := by decide +kernel
theorem d_M_digest_98 : decode c_M_digest 98 = .ok (.getfield 34, 3) := by decide +kernel
theorem d_M_digest_101 : decode c_M_digest 101 = .ok (.iload_n 3, 1) := by decide +kernel
theorem d_M_digest_102 : decode c_M_digest 102 = .ok (.iaload, 1) := by decide +kernel
theorem d_M_digest_103 : decode c_M_digest 103 = .ok (.invokestatic 114, 3) := by decide +kernel
theorem d_M_digest_106 : decode c_M_digest 106 = .ok (.istore_n 2, 1) := by decide +kernel
theorem d_M_digest_107 : decode c_M_digest 107 = .ok (.iinc 3 1, 3) := by decide +kernel
theorem d_M_digest_110 : decode c_M_digest 110 = .ok (.goto (-42), 3) := by decide +kernel
theorem d_M_digest_113 : decode c_M_digest 113 = .ok (.iload_n 2, 1) := by decide +kernel
theorem d_M_digest_114 : decode c_M_digest 114 = .ok (.ireturn, 1) := by decide +kernel
theorem d_M_mix_0 : decode c_M_mix 0 = .ok (.iload_n 0, 1) := by decide +kernel
theorem d_M_mix_1 : decode c_M_mix 1 = .ok (.iload_n 1, 1) := by decide +kernel
theorem d_M_mix_2 : decode c_M_mix 2 = .ok (.ixor, 1) := by decide +kernel
theorem d_M_mix_3 : decode c_M_mix 3 = .ok (.istore_n 2, 1) := by decide +kernel
theorem d_M_mix_4 : decode c_M_mix 4 = .ok (.iload_n 2, 1) := by decide +kernel
theorem d_M_mix_5 : decode c_M_mix 5 = .ok (.bipush 7, 2) := by decide +kernel
theorem d_M_mix_7 : decode c_M_mix 7 = .ok (.ishl, 1) := by decide +kernel
theorem d_M_mix_8 : decode c_M_mix 8 = .ok (.iload_n 2, 1) := by decide +kernel
theorem d_M_mix_9 : decode c_M_mix 9 = .ok (.bipush 25, 2) := by decide +kernel
theorem d_M_mix_11 : decode c_M_mix 11 = .ok (.iushr, 1) := by decide +kernel
theorem d_M_mix_12 : decode c_M_mix 12 = .ok (.ior, 1) := by decide +kernel
theorem d_M_mix_13 : decode c_M_mix 13 = .ok (.iload_n 1, 1) := by decide +kernel
theorem d_M_mix_14 : decode c_M_mix 14 = .ok (.iadd, 1) := by decide +kernel
theorem d_M_mix_15 : decode c_M_mix 15 = .ok (.ireturn, 1) := by decide +kernel
theorem d_M_noteAt_0 : decode c_M_noteAt 0 = .ok (.aload_n 0, 1) := by decide +kernel
theorem d_M_noteAt_1 : decode c_M_noteAt 1 = .ok (.iconst 1, 1) := by decide +kernel
theorem d_M_noteAt_2 : decode c_M_noteAt 2 = .ok (.aload_n 0, 1) := by decide +kernel
theorem d_M_noteAt_3 : decode c_M_noteAt 3 = .ok (.iload_n 1, 1) := by decide +kernel
theorem d_M_noteAt_4 : decode c_M_noteAt 4 = .ok (.invokevirtual 74, 3) := by decide +kernel
theorem d_M_noteAt_7 : decode c_M_noteAt 7 = .ok (.ifCond .eq 16, 3) := by decide +kernel
theorem d_M_noteAt_10 : decode c_M_noteAt 10 = .ok (.iload_n 2, 1) := by decide +kernel
theorem d_M_noteAt_11 : decode c_M_noteAt 11 = .ok (.iconst 0, 1) := by decide +kernel
theorem d_M_noteAt_12 : decode c_M_noteAt 12 = .ok (.iconst 4, 1) := by decide +kernel
theorem d_M_noteAt_13 : decode c_M_noteAt 13 = .ok (.invokestatic 53, 3) := by decide +kernel
theorem d_M_noteAt_16 : decode c_M_noteAt 16 = .ok (.ifCond .eq 7, 3) := by decide +kernel
theorem d_M_noteAt_19 : decode c_M_noteAt 19 = .ok (.iconst 1, 1) := by decide +kernel
theorem d_M_noteAt_20 : decode c_M_noteAt 20 = .ok (.goto 4, 3) := by decide +kernel
theorem d_M_noteAt_23 : decode c_M_noteAt 23 = .ok (.iconst 0, 1) := by decide +kernel
theorem d_M_noteAt_24 : decode c_M_noteAt 24 = .ok (.iconst 1, 1) := by decide +kernel
theorem d_M_noteAt_25 : decode c_M_noteAt 25 = .ok (.iconst 1, 1) := by decide +kernel
theorem d_M_noteAt_26 : decode c_M_noteAt 26 = .ok (.iconst 1, 1) := by decide +kernel
theorem d_M_noteAt_27 : decode c_M_noteAt 27 = .ok (.invokevirtual 63, 3) := by decide +kernel
theorem d_M_noteAt_30 : decode c_M_noteAt 30 = .ok (.ifCond .ne 5, 3) := by decide +kernel
theorem d_M_noteAt_33 : decode c_M_noteAt 33 = .ok (.iconst 0, 1) := by decide +kernel
theorem d_M_noteAt_34 : decode c_M_noteAt 34 = .ok (.ireturn, 1) := by decide +kernel
theorem d_M_noteAt_35 : decode c_M_noteAt 35 = .ok (.iload_n 2, 1) := by decide +kernel
theorem d_M_noteAt_36 : decode c_M_noteAt 36 = .ok (.ifCond .ne 12, 3) := by decide +kernel
theorem d_M_noteAt_39 : decode c_M_noteAt 39 = .ok (.aload_n 0, 1) := by decide +kernel
theorem d_M_noteAt_40 : decode c_M_noteAt 40 = .ok (.getfield 25, 3) := by decide +kernel
theorem d_M_noteAt_43 : decode c_M_noteAt 43 = .ok (.iload_n 1, 1) := by decide +kernel
theorem d_M_noteAt_44 : decode c_M_noteAt 44 = .ok (.iaload, 1) := by decide +kernel
theorem d_M_noteAt_45 : decode c_M_noteAt 45 = .ok (.goto 65, 3) := by decide +kernel
theorem d_M_noteAt_48 : decode c_M_noteAt 48 = .ok (.iload_n 2, 1) := by decide +kernel
theorem d_M_noteAt_49 : decode c_M_noteAt 49 = .ok (.iconst 1, 1) := by decide +kernel
theorem d_M_noteAt_50 : decode c_M_noteAt 50 = .ok (.if_icmp .ne 12, 3) := by decide +kernel
theorem d_M_noteAt_53 : decode c_M_noteAt 53 = .ok (.aload_n 0, 1) := by decide +kernel
theorem d_M_noteAt_54 : decode c_M_noteAt 54 = .ok (.iload_n 1, 1) := by decide +kernel
theorem d_M_noteAt_55 : decode c_M_noteAt 55 = .ok (.iconst 1, 1) := by decide +kernel
theorem d_M_noteAt_56 : decode c_M_noteAt 56 = .ok (.invokevirtual 85, 3) := by decide +kernel
theorem d_M_noteAt_59 : decode c_M_noteAt 59 = .ok (.goto 51, 3) := by decide +kernel
theorem d_M_noteAt_62 : decode c_M_noteAt 62 = .ok (.iload_n 2, 1) := by decide +kernel
theorem d_M_noteAt_63 : decode c_M_noteAt 63 = .ok (.iconst 2, 1) := by decide +kernel
theorem d_M_noteAt_64 : decode c_M_noteAt 64 = .ok (.if_icmp .ne 23, 3) := by decide +kernel
theorem d_M_noteAt_67 : decode c_M_noteAt 67 = .ok (.aload_n 0, 1) := by decide +kernel
theorem d_M_noteAt_68 : decode c_M_noteAt 68 = .ok (.iload_n 1, 1) := by decide +kernel
theorem d_M_noteAt_69 : decode c_M_noteAt 69 = .ok (.aload_n 0, 1) := by decide +kernel
theorem d_M_noteAt_70 : decode c_M_noteAt 70 = .ok (.getfield 57, 3) := by decide +kernel
theorem d_M_noteAt_73 : decode c_M_noteAt 73 = .ok (.invokevirtual 77, 3) := by decide +kernel
theorem d_M_noteAt_76 : decode c_M_noteAt 76 = .ok (.ifCond .eq 7, 3) := by decide +kernel
theorem d_M_noteAt_79 : decode c_M_noteAt 79 = .ok (.iconst 1, 1) := by decide +kernel
theorem d_M_noteAt_80 : decode c_M_noteAt 80 = .ok (.goto 30, 3) := by decide +kernel
theorem d_M_noteAt_83 : decode c_M_noteAt 83 = .ok (.iconst 0, 1) := by decide +kernel
theorem d_M_noteAt_84 : decode c_M_noteAt 84 = .ok (.goto 26, 3) := by decide +kernel
theorem d_M_noteAt_87 : decode c_M_noteAt 87 = .ok (.iload_n 2, 1) := by decide +kernel
theorem d_M_noteAt_88 : decode c_M_noteAt 88 = .ok (.iconst 3, 1) := by decide +kernel
theorem d_M_noteAt_89 : decode c_M_noteAt 89 = .ok (.if_icmp .ne 15, 3) := by decide +kernel
theorem d_M_noteAt_92 : decode c_M_noteAt 92 = .ok (.aload_n 0, 1) := by decide +kernel
theorem d_M_noteAt_93 : decode c_M_noteAt 93 = .ok (.iload_n 1, 1) := by decide +kernel
theorem d_M_noteAt_94 : decode c_M_noteAt 94 = .ok (.aload_n 0, 1) := by decide +kernel
theorem d_M_noteAt_95 : decode c_M_noteAt 95 = .ok (.getfield 57, 3) := by decide +kernel
theorem d_M_noteAt_98 : decode c_M_noteAt 98 = .ok (.invokevirtual 106, 3) := by decide +kernel
theorem d_M_noteAt_101 : decode c_M_noteAt 101 = .ok (.goto 9, 3) := by decide +kernel
theorem d_M_noteAt_104 : decode c_M_noteAt 104 = .ok (.aload_n 0, 1) := by decide +kernel
theorem d_M_noteAt_105 : decode c_M_noteAt 105 = .ok (.getfield 22, 3) := by decide +kernel
theorem d_M_noteAt_108 : decode c_M_noteAt 108 = .ok (.iload_n 1, 1) := by decide +kernel
theorem d_M_noteAt_109 : decode c_M_noteAt 109 = .ok (.iaload, 1) := by decide +kernel
theorem d_M_noteAt_110 : decode c_M_noteAt 110 = .ok (.ireturn, 1) := by decide +kernel
theorem d_M_print_0 : decode c_M_print 0 = .ok (.aload_n 0, 1) := by decide +kernel
theorem d_M_print_1 : decode c_M_print 1 = .ok (.iconst 4, 1) := by decide +kernel
theorem d_M_print_2 : decode c_M_print 2 = .ok (.iconst 1, 1) := by decide +kernel
theorem d_M_print_3 : decode c_M_print 3 = .ok (.iconst 1, 1) := by decide +kernel
theorem d_M_print_4 : decode c_M_print 4 = .ok (.aload_n 0, 1) := by decide +kernel
theorem d_M_print_5 : decode c_M_print 5 = .ok (.getfield 92, 3) := by decide +kernel
theorem d_M_print_8 : decode c_M_print 8 = .ok (.iconst 1, 1) := by decide +kernel
theorem d_M_print_9 : decode c_M_print 9 = .ok (.invokevirtual 63, 3) := by decide +kernel
theorem d_M_print_12 : decode c_M_print 12 = .ok (.ifCond .ne 5, 3) := by decide +kernel
theorem d_M_print_15 : decode c_M_print 15 = .ok (.iconst 0, 1) := by decide +kernel
theorem d_M_print_16 : decode c_M_print 16 = .ok (.ireturn, 1) := by decide +kernel
theorem d_M_print_17 : decode c_M_print 17 = .ok (.aload_n 0, 1) := by decide +kernel
theorem d_M_print_18 : decode c_M_print 18 = .ok (.iconst 0, 1) := by decide +kernel
theorem d_M_print_19 : decode c_M_print 19 = .ok (.putfield 117, 3) := by decide +kernel
theorem d_M_print_22 : decode c_M_print 22 = .ok (.aload_n 0, 1) := by decide +kernel
theorem d_M_print_23 : decode c_M_print 23 = .ok (.bipush 84, 2) := by decide +kernel
theorem d_M_print_25 : decode c_M_print 25 = .ok (.aload_n 0, 1) := by decide +kernel
theorem d_M_print_26 : decode c_M_print 26 = .ok (.getfield 99, 3) := by decide +kernel
theorem d_M_print_29 : decode c_M_print 29 = .ok (.invokevirtual 124, 3) := by decide +kernel
theorem d_M_print_32 : decode c_M_print 32 = .ok (.aload_n 0, 1) := by decide +kernel
theorem d_M_print_33 : decode c_M_print 33 = .ok (.bipush 59, 2) := by decide +kernel
theorem d_M_print_35 : decode c_M_print 35 = .ok (.invokevirtual 120, 3) := by decide +kernel
theorem d_M_print_38 : decode c_M_print 38 = .ok (.iconst 0, 1) := by decide +kernel
theorem d_M_print_39 : decode c_M_print 39 = .ok (.istore_n 1, 1) := by decide +kernel
theorem d_M_print_40 : decode c_M_print 40 = .ok (.iload_n 1, 1) := by decide +kernel
theorem d_M_print_41 : decode c_M_print 41 = .ok (.aload_n 0, 1) := by decide +kernel
theorem d_M_print_42 : decode c_M_print 42 = .ok (.getfield 99, 3) := by decide +kernel
theorem d_M_print_45 : decode c_M_print 45 = .ok (.if_icmp .ge 128, 3) := by decide +kernel
theorem d_M_print_48 : decode c_M_print 48 = .ok (.aload_n 0, 1) := by decide +kernel
theorem d_M_print_49 : decode c_M_print 49 = .ok (.getfield 40, 3) := by decide +kernel
theorem d_M_print_52 : decode c_M_print 52 = .ok (.iload_n 1, 1) := by decide +kernel
theorem d_M_print_53 : decode c_M_print 53 = .ok (.iaload, 1) := by decide +kernel
theorem d_M_print_54 : decode c_M_print 54 = .ok (.istore_n 2, 1) := by decide +kernel
theorem d_M_print_55 : decode c_M_print 55 = .ok (.aload_n 0, 1) := by decide +kernel
theorem d_M_print_56 : decode c_M_print 56 = .ok (.dup, 1) := by decide +kernel
theorem d_M_print_57 : decode c_M_print 57 = .ok (.getfield 117, 3) := by decide +kernel
theorem d_M_print_60 : decode c_M_print 60 = .ok (.iconst 1, 1) := by decide +kernel
theorem d_M_print_61 : decode c_M_print 61 = .ok (.isub, 1) := by decide +kernel
theorem d_M_print_62 : decode c_M_print 62 = .ok (.putfield 117, 3) := by decide +kernel
theorem d_M_print_65 : decode c_M_print 65 = .ok (.aload_n 0, 1) := by decide +kernel
theorem d_M_print_66 : decode c_M_print 66 = .ok (.getfield 43, 3) := by decide +kernel
theorem d_M_print_69 : decode c_M_print 69 = .ok (.aload_n 0, 1) := by decide +kernel
theorem d_M_print_70 : decode c_M_print 70 = .ok (.getfield 117, 3) := by decide +kernel
theorem d_M_print_73 : decode c_M_print 73 = .ok (.iaload, 1) := by decide +kernel
theorem d_M_print_74 : decode c_M_print 74 = .ok (.istore_n 3, 1) := by decide +kernel
theorem d_M_print_75 : decode c_M_print 75 = .ok (.aload_n 0, 1) := by decide +kernel
theorem d_M_print_76 : decode c_M_print 76 = .ok (.iload_n 3, 1) := by decide +kernel
theorem d_M_print_77 : decode c_M_print 77 = .ok (.aload_n 0, 1) := by decide +kernel
theorem d_M_print_78 : decode c_M_print 78 = .ok (.getfield 19, 3) := by decide +kernel
theorem d_M_print_81 : decode c_M_print 81 = .ok (.iload_n 2, 1) := by decide +kernel
theorem d_M_print_82 : decode c_M_print 82 = .ok (.iaload, 1) := by decide +kernel
theorem d_M_print_83 : decode c_M_print 83 = .ok (.invokevirtual 124, 3) := by decide +kernel
theorem d_M_print_86 : decode c_M_print 86 = .ok (.aload_n 0, 1) := by decide +kernel
theorem d_M_print_87 : decode c_M_print 87 = .ok (.bipush 58, 2) := by decide +kernel
theorem d_M_print_89 : decode c_M_print 89 = .ok (.invokevirtual 120, 3) := by decide +kernel
theorem d_M_print_92 : decode c_M_print 92 = .ok (.aload_n 0, 1) := by decide +kernel
theorem d_M_print_93 : decode c_M_print 93 = .ok (.bipush 119, 2) := by decide +kernel
theorem d_M_print_95 : decode c_M_print 95 = .ok (.aload_n 0, 1) := by decide +kernel
theorem d_M_print_96 : decode c_M_print 96 = .ok (.getfield 7, 3) := by decide +kernel
theorem d_M_print_99 : decode c_M_print 99 = .ok (.iload_n 2, 1) := by decide +kernel
theorem d_M_print_100 : decode c_M_print 100 = .ok (.iaload, 1) := by decide +kernel
theorem d_M_print_101 : decode c_M_print 101 = .ok (.invokevirtual 124, 3) := by decide +kernel
theorem d_M_print_104 : decode c_M_print 104 = .ok (.aload_n 0, 1) := by decide +kernel
theorem d_M_print_105 : decode c_M_print 105 = .ok (.bipush 107, 2) := by decide +kernel
theorem d_M_print_107 : decode c_M_print 107 = .ok (.aload_n 0, 1) := by decide +kernel
theorem d_M_print_108 : decode c_M_print 108 = .ok (.getfield 13, 3) := by decide +kernel
theorem d_M_print_111 : decode c_M_print 111 = .ok (.iload_n 2, 1) := by decide +kernel
theorem d_M_print_112 : decode c_M_print 112 = .ok (.iaload, 1) := by decide +kernel
theorem d_M_print_113 : decode c_M_print 113 = .ok (.invokevirtual 124, 3) := by decide +kernel
theorem d_M_print_116 : decode c_M_print 116 = .ok (.aload_n 0, 1) := by decide +kernel
theorem d_M_print_117 : decode c_M_print 117 = .ok (.bipush 115, 2) := by decide +kernel
theorem d_M_print_119 : decode c_M_print 119 = .ok (.aload_n 0, 1) := by decide +kernel
theorem d_M_print_120 : decode c_M_print 120 = .ok (.getfield 16, 3) := by decide +kernel
theorem d_M_print_123 : decode c_M_print 123 = .ok (.iload_n 2, 1) := by decide +kernel
theorem d_M_print_124 : decode c_M_print 124 = .ok (.iaload, 1) := by decide +kernel
theorem d_M_print_125 : decode c_M_print 125 = .ok (.invokevirtual 124, 3) := by decide +kernel
theorem d_M_print_128 : decode c_M_print 128 = .ok (.aload_n 0, 1) := by decide +kernel
theorem d_M_print_129 : decode c_M_print 129 = .ok (.bipush 61, 2) := by decide +kernel
theorem d_M_print_131 : decode c_M_print 131 = .ok (.aload_n 0, 1) := by decide +kernel
theorem d_M_print_132 : decode c_M_print 132 = .ok (.iload_n 2, 1) := by decide +kernel
theorem d_M_print_133 : decode c_M_print 133 = .ok (.aload_n 0, 1) := by decide +kernel
theorem d_M_print_134 : decode c_M_print 134 = .ok (.getfield 96, 3) := by decide +kernel
theorem d_M_print_137 : decode c_M_print 137 = .ok (.invokevirtual 106, 3) := by decide +kernel
theorem d_M_print_140 : decode c_M_print 140 = .ok (.invokevirtual 124, 3) := by decide +kernel
theorem d_M_print_143 : decode c_M_print 143 = .ok (.aload_n 0, 1) := by decide +kernel
theorem d_M_print_144 : decode c_M_print 144 = .ok (.iload_n 2, 1) := by decide +kernel
theorem d_M_print_145 : decode c_M_print 145 = .ok (.aload_n 0, 1) := by decide +kernel
theorem d_M_print_146 : decode c_M_print 146 = .ok (.getfield 96, 3) := by decide +kernel
theorem d_M_print_149 : decode c_M_print 149 = .ok (.invokevirtual 77, 3) := by decide +kernel
theorem d_M_print_152 : decode c_M_print 152 = .ok (.ifCond .eq 9, 3) := by decide +kernel
theorem d_M_print_155 : decode c_M_print 155 = .ok (.aload_n 0, 1) := by decide +kernel
theorem d_M_print_156 : decode c_M_print 156 = .ok (.bipush 120, 2) := by decide +kernel
theorem d_M_print_158 : decode c_M_print 158 = .ok (.invokevirtual 120, 3) := by decide +kernel
theorem d_M_print_161 : decode c_M_print 161 = .ok (.aload_n 0, 1) := by decide +kernel
theorem d_M_print_162 : decode c_M_print 162 = .ok (.bipush 59, 2) := by decide +kernel
theorem d_M_print_164 : decode c_M_print 164 = .ok (.invokevirtual 120, 3) := by decide +kernel
theorem d_M_print_167 : decode c_M_print 167 = .ok (.iinc 1 1, 3) := by decide +kernel
theorem d_M_print_170 : decode c_M_print 170 = .ok (.goto (-130), 3) := by decide +kernel
theorem d_M_print_173 : decode c_M_print 173 = .ok (.aload_n 0, 1) := by decide +kernel
theorem d_M_print_174 : decode c_M_print 174 = .ok (.getfield 117, 3) := by decide +kernel
theorem d_M_print_177 : decode c_M_print 177 = .ok (.ireturn, 1) := by decide +kernel
theorem d_M_number_0 : decode c_M_number 0 = .ok (.aload_n 0, 1) := by decide +kernel
theorem d_M_number_1 : decode c_M_number 1 = .ok (.iload_n 1, 1) := by decide +kernel
theorem d_M_number_2 : decode c_M_number 2 = .ok (.invokevirtual 120, 3) := by decide +kernel
theorem d_M_number_5 : decode c_M_number 5 = .ok (.iload_n 2, 1) := by decide +kernel
theorem d_M_number_6 : decode c_M_number 6 = .ok (.ifCond .ge 8, 3) := by decide +kernel
theorem d_M_number_9 : decode c_M_number 9 = .ok (.iload_n 2, 1) := by decide +kernel
theorem d_M_number_10 : decode c_M_number 10 = .ok (.ineg, 1) := by decide +kernel
theorem d_M_number_11 : decode c_M_number 11 = .ok (.goto 4, 3) := by decide +kernel
theorem d_M_number_14 : decode c_M_number 14 = .ok (.iload_n 2, 1) := by decide +kernel
theorem d_M_number_15 : decode c_M_number 15 = .ok (.istore_n 3, 1) := by decide +kernel
theorem d_M_number_16 : decode c_M_number 16 = .ok (.iload_n 2, 1) := by decide +kernel
theorem d_M_number_17 : decode c_M_number 17 = .ok (.ifCond .ge 9, 3) := by decide +kernel
theorem d_M_number_20 : decode c_M_number 20 = .ok (.aload_n 0, 1) := by decide +kernel
theorem d_M_number_21 : decode c_M_number 21 = .ok (.bipush 45, 2) := by decide +kernel
theorem d_M_number_23 : decode c_M_number 23 = .ok (.invokevirtual 120, 3) := by decide +kernel
theorem d_M_number_26 : decode c_M_number 26 = .ok (.iconst 1, 1) := by decide +kernel
theorem d_M_number_27 : decode c_M_number 27 = .ok (.istore 4, 2) := by decide +kernel
theorem d_M_number_29 : decode c_M_number 29 = .ok (.iload_n 3, 1) := by decide +kernel
theorem d_M_number_30 : decode c_M_number 30 = .ok (.iload 4, 2) := by decide +kernel
theorem d_M_number_32 : decode c_M_number 32 = .ok (.idiv, 1) := by decide +kernel
theorem d_M_number_33 : decode c_M_number 33 = .ok (.bipush 9, 2) := by decide +kernel
theorem d_M_number_35 : decode c_M_number 35 = .ok (.if_icmp .le 13, 3) := by decide +kernel
theorem d_M_number_38 : decode c_M_number 38 = .ok (.bipush 10, 2) := by decide +kernel
theorem d_M_number_40 : decode c_M_number 40 = .ok (.iload 4, 2) := by decide +kernel
theorem d_M_number_42 : decode c_M_number 42 = .ok (.imul, 1) := by decide +kernel
theorem d_M_number_43 : decode c_M_number 43 = .ok (.istore 4, 2) := by decide +kernel
theorem d_M_number_45 : decode c_M_number 45 = .ok (.goto (-16), 3) := by decide +kernel
theorem d_M_number_48 : decode c_M_number 48 = .ok (.iload 4, 2) := by decide +kernel
theorem d_M_number_50 : decode c_M_number 50 = .ok (.ifCond .le 27, 3) := by decide +kernel
theorem d_M_number_53 : decode c_M_number 53 = .ok (.aload_n 0, 1) := by decide +kernel
theorem d_M_number_54 : decode c_M_number 54 = .ok (.bipush 48, 2) := by decide +kernel
theorem d_M_number_56 : decode c_M_number 56 = .ok (.iload_n 3, 1) := by decide +kernel
theorem d_M_number_57 : decode c_M_number 57 = .ok (.iload 4, 2) := by decide +kernel
theorem d_M_number_59 : decode c_M_number 59 = .ok (.idiv, 1) := by decide +kernel
theorem d_M_number_60 : decode c_M_number 60 = .ok (.bipush 10, 2) := by decide +kernel
theorem d_M_number_62 : decode c_M_number 62 = .ok (.irem, 1) := by decide +kernel
theorem d_M_number_63 : decode c_M_number 63 = .ok (.iadd, 1) := by decide +kernel
theorem d_M_number_64 : decode c_M_number 64 = .ok (.invokevirtual 120, 3) := by decide +kernel
theorem d_M_number_67 : decode c_M_number 67 = .ok (.iload 4, 2) := by decide +kernel
theorem d_M_number_69 : decode c_M_number 69 = .ok (.bipush 10, 2) := by decide +kernel
theorem d_M_number_71 : decode c_M_number 71 = .ok (.idiv, 1) := by decide +kernel
theorem d_M_number_72 : decode c_M_number 72 = .ok (.istore 4, 2) := by decide +kernel
theorem d_M_number_74 : decode c_M_number 74 = .ok (.goto (-26), 3) := by decide +kernel
theorem d_M_number_77 : decode c_M_number 77 = .ok (.return_, 1) := by decide +kernel
theorem d_M_put_0 : decode c_M_put 0 = .ok (.aload_n 0, 1) := by decide +kernel
theorem d_M_put_1 : decode c_M_put 1 = .ok (.getfield 43, 3) := by decide +kernel
theorem d_M_put_4 : decode c_M_put 4 = .ok (.aload_n 0, 1) := by decide +kernel
theorem d_M_put_5 : decode c_M_put 5 = .ok (.getfield 117, 3) := by decide +kernel
theorem d_M_put_8 : decode c_M_put 8 = .ok (.iload_n 1, 1) := by decide +kernel
theorem d_M_put_9 : decode c_M_put 9 = .ok (.iastore, 1) := by decide +kernel
theorem d_M_put_10 : decode c_M_put 10 = .ok (.aload_n 0, 1) := by decide +kernel
theorem d_M_put_11 : decode c_M_put 11 = .ok (.dup, 1) := by decide +kernel
theorem d_M_put_12 : decode c_M_put 12 = .ok (.getfield 117, 3) := by decide +kernel
theorem d_M_put_15 : decode c_M_put 15 = .ok (.iconst 1, 1) := by decide +kernel
theorem d_M_put_16 : decode c_M_put 16 = .ok (.iadd, 1) := by decide +kernel
theorem d_M_put_17 : decode c_M_put 17 = .ok (.putfield 117, 3) := by decide +kernel
theorem d_M_put_20 : decode c_M_put 20 = .ok (.return_, 1) := by decide +kernel
theorem d_M_at_0 : decode c_M_at 0 = .ok (.aload_n 0, 1) := by decide +kernel
theorem d_M_at_1 : decode c_M_at 1 = .ok (.iconst 2, 1) := by decide +kernel
theorem d_M_at_2 : decode c_M_at 2 = .ok (.iconst 1, 1) := by decide +kernel
theorem d_M_at_3 : decode c_M_at 3 = .ok (.iload_n 1, 1) := by decide +kernel
theorem d_M_at_4 : decode c_M_at 4 = .ok (.ifCond .lt 7, 3) := by decide +kernel
theorem d_M_at_7 : decode c_M_at 7 = .ok (.iconst 1, 1) := by decide +kernel
theorem d_M_at_8 : decode c_M_at 8 = .ok (.goto 4, 3) := by decide +kernel
theorem d_M_at_11 : decode c_M_at 11 = .ok (.iconst 0, 1) := by decide +kernel
theorem d_M_at_12 : decode c_M_at 12 = .ok (.iconst 1, 1) := by decide +kernel
theorem d_M_at_13 : decode c_M_at 13 = .ok (.iconst 1, 1) := by decide +kernel
theorem d_M_at_14 : decode c_M_at 14 = .ok (.invokevirtual 63, 3) := by decide +kernel
theorem d_M_at_17 : decode c_M_at 17 = .ok (.ifCond .ne 5, 3) := by decide +kernel
theorem d_M_at_20 : decode c_M_at 20 = .ok (.iconst 0, 1) := by decide +kernel
theorem d_M_at_21 : decode c_M_at 21 = .ok (.ireturn, 1) := by decide +kernel
theorem d_M_at_22 : decode c_M_at 22 = .ok (.iload_n 1, 1) := by decide +kernel
theorem d_M_at_23 : decode c_M_at 23 = .ok (.aload_n 0, 1) := by decide +kernel
theorem d_M_at_24 : decode c_M_at 24 = .ok (.getfield 117, 3) := by decide +kernel
theorem d_M_at_27 : decode c_M_at 27 = .ok (.if_icmp .ge 12, 3) := by decide +kernel
theorem d_M_at_30 : decode c_M_at 30 = .ok (.aload_n 0, 1) := by decide +kernel
theorem d_M_at_31 : decode c_M_at 31 = .ok (.getfield 43, 3) := by decide +kernel
theorem d_M_at_34 : decode c_M_at 34 = .ok (.iload_n 1, 1) := by decide +kernel
theorem d_M_at_35 : decode c_M_at 35 = .ok (.iaload, 1) := by decide +kernel
theorem d_M_at_36 : decode c_M_at 36 = .ok (.goto 4, 3) := by decide +kernel
theorem d_M_at_39 : decode c_M_at 39 = .ok (.iconst (-1), 1) := by decide +kernel
theorem d_M_at_40 : decode c_M_at 40 = .ok (.ireturn, 1) := by decide +kernel
theorem d_M_tick_0 : decode c_M_tick 0 = .ok (.aload_n 0, 1) := by decide +kernel
theorem d_M_tick_1 : decode c_M_tick 1 = .ok (.iconst 2, 1) := by decide +kernel
theorem d_M_tick_2 : decode c_M_tick 2 = .ok (.iconst 1, 1) := by decide +kernel
theorem d_M_tick_3 : decode c_M_tick 3 = .ok (.iload_n 1, 1) := by decide +kernel
theorem d_M_tick_4 : decode c_M_tick 4 = .ok (.iconst 1, 1) := by decide +kernel
theorem d_M_tick_5 : decode c_M_tick 5 = .ok (.sipush 5000, 3) := by decide +kernel
theorem d_M_tick_8 : decode c_M_tick 8 = .ok (.invokestatic 53, 3) := by decide +kernel
theorem d_M_tick_11 : decode c_M_tick 11 = .ok (.ifCond .eq 18, 3) := by decide +kernel
theorem d_M_tick_14 : decode c_M_tick 14 = .ok (.iload_n 1, 1) := by decide +kernel
theorem d_M_tick_15 : decode c_M_tick 15 = .ok (.ldc 113, 2) := by decide +kernel
theorem d_M_tick_17 : decode c_M_tick 17 = .ok (.aload_n 0, 1) := by decide +kernel
theorem d_M_tick_18 : decode c_M_tick 18 = .ok (.getfield 57, 3) := by decide +kernel
theorem d_M_tick_21 : decode c_M_tick 21 = .ok (.isub, 1) := by decide +kernel
theorem d_M_tick_22 : decode c_M_tick 22 = .ok (.if_icmp .gt 7, 3) := by decide +kernel
theorem d_M_tick_25 : decode c_M_tick 25 = .ok (.iconst 1, 1) := by decide +kernel
theorem d_M_tick_26 : decode c_M_tick 26 = .ok (.goto 4, 3) := by decide +kernel
theorem d_M_tick_29 : decode c_M_tick 29 = .ok (.iconst 0, 1) := by decide +kernel
theorem d_M_tick_30 : decode c_M_tick 30 = .ok (.iconst 1, 1) := by decide +kernel
theorem d_M_tick_31 : decode c_M_tick 31 = .ok (.iconst 1, 1) := by decide +kernel
theorem d_M_tick_32 : decode c_M_tick 32 = .ok (.invokevirtual 63, 3) := by decide +kernel
theorem d_M_tick_35 : decode c_M_tick 35 = .ok (.ifCond .ne 5, 3) := by decide +kernel
theorem d_M_tick_38 : decode c_M_tick 38 = .ok (.iconst 0, 1) := by decide +kernel
theorem d_M_tick_39 : decode c_M_tick 39 = .ok (.ireturn, 1) := by decide +kernel
theorem d_M_tick_40 : decode c_M_tick 40 = .ok (.aload_n 0, 1) := by decide +kernel
theorem d_M_tick_41 : decode c_M_tick 41 = .ok (.aload_n 0, 1) := by decide +kernel
theorem d_M_tick_42 : decode c_M_tick 42 = .ok (.getfield 57, 3) := by decide +kernel
theorem d_M_tick_45 : decode c_M_tick 45 = .ok (.iload_n 1, 1) := by decide +kernel
theorem d_M_tick_46 : decode c_M_tick 46 = .ok (.iadd, 1) := by decide +kernel
theorem d_M_tick_47 : decode c_M_tick 47 = .ok (.putfield 57, 3) := by decide +kernel
theorem d_M_tick_50 : decode c_M_tick 50 = .ok (.aload_n 0, 1) := by decide +kernel
theorem d_M_tick_51 : decode c_M_tick 51 = .ok (.getfield 57, 3) := by decide +kernel
theorem d_M_tick_54 : decode c_M_tick 54 = .ok (.ireturn, 1) := by decide +kernel
theorem d_M_count_0 : decode c_M_count 0 = .ok (.aload_n 0, 1) := by decide +kernel
theorem d_M_count_1 : decode c_M_count 1 = .ok (.iconst 1, 1) := by decide +kernel
theorem d_M_count_2 : decode c_M_count 2 = .ok (.iload_n 1, 1) := by decide +kernel
theorem d_M_count_3 : decode c_M_count 3 = .ok (.iconst 0, 1) := by decide +kernel
theorem d_M_count_4 : decode c_M_count 4 = .ok (.iconst 4, 1) := by decide +kernel
theorem d_M_count_5 : decode c_M_count 5 = .ok (.invokestatic 53, 3) := by decide +kernel
theorem d_M_count_8 : decode c_M_count 8 = .ok (.iconst 1, 1) := by decide +kernel
theorem d_M_count_9 : decode c_M_count 9 = .ok (.iconst 1, 1) := by decide +kernel
theorem d_M_count_10 : decode c_M_count 10 = .ok (.iconst 1, 1) := by decide +kernel
theorem d_M_count_11 : decode c_M_count 11 = .ok (.invokevirtual 63, 3) := by decide +kernel
theorem d_M_count_14 : decode c_M_count 14 = .ok (.ifCond .ne 5, 3) := by decide +kernel
theorem d_M_count_17 : decode c_M_count 17 = .ok (.iconst 0, 1) := by decide +kernel
theorem d_M_count_18 : decode c_M_count 18 = .ok (.ireturn, 1) := by decide +kernel
theorem d_M_count_19 : decode c_M_count 19 = .ok (.iconst 0, 1) := by decide +kernel
theorem d_M_count_20 : decode c_M_count 20 = .ok (.istore_n 2, 1) := by decide +kernel
theorem d_M_count_21 : decode c_M_count 21 = .ok (.iconst 0, 1) := by decide +kernel
theorem d_M_count_22 : decode c_M_count 22 = .ok (.istore_n 3, 1) := by decide +kernel
theorem d_M_count_23 : decode c_M_count 23 = .ok (.iconst 0, 1) := by decide +kernel
theorem d_M_count_24 : decode c_M_count 24 = .ok (.istore 4, 2) := by decide +kernel
theorem d_M_count_26 : decode c_M_count 26 = .ok (.iload 4, 2) := by decide +kernel
theorem d_M_count_28 : decode c_M_count 28 = .ok (.aload_n 0, 1) := by decide +kernel
theorem d_M_count_29 : decode c_M_count 29 = .ok (.getfield 50, 3) := by decide +kernel
theorem d_M_count_32 : decode c_M_count 32 = .ok (.if_icmp .ge 45, 3) := by decide +kernel
theorem d_M_count_35 : decode c_M_count 35 = .ok (.aload_n 0, 1) := by decide +kernel
theorem d_M_count_36 : decode c_M_count 36 = .ok (.iload 4, 2) := by decide +kernel
theorem d_M_count_38 : decode c_M_count 38 = .ok (.aload_n 0, 1) := by decide +kernel
theorem d_M_count_39 : decode c_M_count 39 = .ok (.getfield 57, 3) := by decide +kernel
theorem d_M_count_42 : decode c_M_count 42 = .ok (.invokevirtual 77, 3) := by decide +kernel
theorem d_M_count_45 : decode c_M_count 45 = .ok (.ifCond .eq 6, 3) := by decide +kernel
theorem d_M_count_48 : decode c_M_count 48 = .ok (.iinc 2 1, 3) := by decide +kernel
theorem d_M_count_51 : decode c_M_count 51 = .ok (.aload_n 0, 1) := by decide +kernel
theorem d_M_count_52 : decode c_M_count 52 = .ok (.getfield 25, 3) := by decide +kernel
theorem d_M_count_55 : decode c_M_count 55 = .ok (.iload 4, 2) := by decide +kernel
theorem d_M_count_57 : decode c_M_count 57 = .ok (.iaload, 1) := by decide +kernel
theorem d_M_count_58 : decode c_M_count 58 = .ok (.aload_n 0, 1) := by decide +kernel
theorem d_M_count_59 : decode c_M_count 59 = .ok (.getfield 19, 3) := by decide +kernel
theorem d_M_count_62 : decode c_M_count 62 = .ok (.iload 4, 2) := by decide +kernel
theorem d_M_count_64 : decode c_M_count 64 = .ok (.iaload, 1) := by decide +kernel
theorem d_M_count_65 : decode c_M_count 65 = .ok (.if_icmp .le 6, 3) := by decide +kernel
theorem d_M_count_68 : decode c_M_count 68 = .ok (.iinc 3 1, 3) := by decide +kernel
theorem d_M_count_71 : decode c_M_count 71 = .ok (.iinc 4 1, 3) := by decide +kernel
theorem d_M_count_74 : decode c_M_count 74 = .ok (.goto (-48), 3) := by decide +kernel
theorem d_M_count_77 : decode c_M_count 77 = .ok (.iload_n 1, 1) := by decide +kernel
theorem d_M_count_78 : decode c_M_count 78 = .ok (.ifCond .ne 10, 3) := by decide +kernel
theorem d_M_count_81 : decode c_M_count 81 = .ok (.aload_n 0, 1) := by decide +kernel
theorem d_M_count_82 : decode c_M_count 82 = .ok (.getfield 60, 3) := by decide +kernel
theorem d_M_count_85 : decode c_M_count 85 = .ok (.goto 37, 3) := by decide +kernel
theorem d_M_count_88 : decode c_M_count 88 = .ok (.iload_n 1, 1) := by decide +kernel
theorem d_M_count_89 : decode c_M_count 89 = .ok (.iconst 1, 1) := by decide +kernel
theorem d_M_count_90 : decode c_M_count 90 = .ok (.if_icmp .ne 10, 3) := by decide +kernel
theorem d_M_count_93 : decode c_M_count 93 = .ok (.aload_n 0, 1) := by decide +kernel
theorem d_M_count_94 : decode c_M_count 94 = .ok (.getfield 50, 3) := by decide +kernel
theorem d_M_count_97 : decode c_M_count 97 = .ok (.goto 25, 3) := by decide +kernel
theorem d_M_count_100 : decode c_M_count 100 = .ok (.iload_n 1, 1) := by decide +kernel
theorem d_M_count_101 : decode c_M_count 101 = .ok (.iconst 2, 1) := by decide +kernel
theorem d_M_count_102 : decode c_M_count 102 = .ok (.if_icmp .ne 10, 3) := by decide +kernel
theorem d_M_count_105 : decode c_M_count 105 = .ok (.aload_n 0, 1) := by decide +kernel
theorem d_M_count_106 : decode c_M_count 106 = .ok (.getfield 71, 3) := by decide +kernel
theorem d_M_count_109 : decode c_M_count 109 = .ok (.goto 13, 3) := by decide +kernel
theorem d_M_count_112 : decode c_M_count 112 = .ok (.iload_n 1, 1) := by decide +kernel
theorem d_M_count_113 : decode c_M_count 113 = .ok (.iconst 3, 1) := by decide +kernel
theorem d_M_count_114 : decode c_M_count 114 = .ok (.if_icmp .ne 7, 3) := by decide +kernel
theorem d_M_count_117 : decode c_M_count 117 = .ok (.iload_n 2, 1) := by decide +kernel
theorem d_M_count_118 : decode c_M_count 118 = .ok (.goto 4, 3) := by decide +kernel
theorem d_M_count_121 : decode c_M_count 121 = .ok (.iload_n 3, 1) := by decide +kernel
theorem d_M_count_122 : decode c_M_count 122 = .ok (.ireturn, 1) := by decide +kernel

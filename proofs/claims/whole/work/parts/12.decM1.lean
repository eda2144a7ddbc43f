/-! decode rows, printed by wip/gen/names.py -/
theorem d_M_init_0 : decode c_M_init 0 = .ok (.aload_n 0, 1) := by decide +kernel
theorem d_M_init_1 : decode c_M_init 1 = .ok (.invokespecial 1, 3) := by decide +kernel
theorem d_M_init_4 : decode c_M_init 4 = .ok (.aload_n 0, 1) := by decide +kernel
theorem d_M_init_5 : decode c_M_init 5 = .ok (.bipush 100, 2) := by decide +kernel
theorem d_M_init_7 : decode c_M_init 7 = .ok (.newarray .int, 2) := by decide +kernel
theorem d_M_init_9 : decode c_M_init 9 = .ok (.putfield 7, 3) := by decide +kernel
theorem d_M_init_12 : decode c_M_init 12 = .ok (.aload_n 0, 1) := by decide +kernel
theorem d_M_init_13 : decode c_M_init 13 = .ok (.bipush 100, 2) := by decide +kernel
theorem d_M_init_15 : decode c_M_init 15 = .ok (.newarray .int, 2) := by decide +kernel
theorem d_M_init_17 : decode c_M_init 17 = .ok (.putfield 13, 3) := by decide +kernel
theorem d_M_init_20 : decode c_M_init 20 = .ok (.aload_n 0, 1) := by decide +kernel
theorem d_M_init_21 : decode c_M_init 21 = .ok (.bipush 100, 2) := by decide +kernel
theorem d_M_init_23 : decode c_M_init 23 = .ok (.newarray .int, 2) := by decide +kernel
theorem d_M_init_25 : decode c_M_init 25 = .ok (.putfield 16, 3) := by decide +kernel
theorem d_M_init_28 : decode c_M_init 28 = .ok (.aload_n 0, 1) := by decide +kernel
theorem d_M_init_29 : decode c_M_init 29 = .ok (.bipush 100, 2) := by decide +kernel
theorem d_M_init_31 : decode c_M_init 31 = .ok (.newarray .int, 2) := by decide +kernel
theorem d_M_init_33 : decode c_M_init 33 = .ok (.putfield 19, 3) := by decide +kernel
theorem d_M_init_36 : decode c_M_init 36 = .ok (.aload_n 0, 1) := by decide +kernel
theorem d_M_init_37 : decode c_M_init 37 = .ok (.bipush 100, 2) := by decide +kernel
theorem d_M_init_39 : decode c_M_init 39 = .ok (.newarray .int, 2) := by decide +kernel
theorem d_M_init_41 : decode c_M_init 41 = .ok (.putfield 22, 3) := by decide +kernel
theorem d_M_init_44 : decode c_M_init 44 = .ok (.aload_n 0, 1) := by decide +kernel
theorem d_M_init_45 : decode c_M_init 45 = .ok (.bipush 100, 2) := by decide +kernel
theorem d_M_init_47 : decode c_M_init 47 = .ok (.newarray .int, 2) := by decide +kernel
theorem d_M_init_49 : decode c_M_init 49 = .ok (.putfield 25, 3) := by decide +kernel
theorem d_M_init_52 : decode c_M_init 52 = .ok (.aload_n 0, 1) := by decide +kernel
theorem d_M_init_53 : decode c_M_init 53 = .ok (.sipush 200, 3) := by decide +kernel
theorem d_M_init_56 : decode c_M_init 56 = .ok (.newarray .int, 2) := by decide +kernel
theorem d_M_init_58 : decode c_M_init 58 = .ok (.putfield 28, 3) := by decide +kernel
theorem d_M_init_61 : decode c_M_init 61 = .ok (.aload_n 0, 1) := by decide +kernel
theorem d_M_init_62 : decode c_M_init 62 = .ok (.sipush 200, 3) := by decide +kernel
theorem d_M_init_65 : decode c_M_init 65 = .ok (.newarray .int, 2) := by decide +kernel
theorem d_M_init_67 : decode c_M_init 67 = .ok (.putfield 31, 3) := by decide +kernel
theorem d_M_init_70 : decode c_M_init 70 = .ok (.aload_n 0, 1) := by decide +kernel
theorem d_M_init_71 : decode c_M_init 71 = .ok (.sipush 200, 3) := by decide +kernel
theorem d_M_init_74 : decode c_M_init 74 = .ok (.newarray .int, 2) := by decide +kernel
theorem d_M_init_76 : decode c_M_init 76 = .ok (.putfield 34, 3) := by decide +kernel
theorem d_M_init_79 : decode c_M_init 79 = .ok (.aload_n 0, 1) := by decide +kernel
theorem d_M_init_80 : decode c_M_init 80 = .ok (.sipush 200, 3) := by decide +kernel
theorem d_M_init_83 : decode c_M_init 83 = .ok (.newarray .int, 2) := by decide +kernel
theorem d_M_init_85 : decode c_M_init 85 = .ok (.putfield 37, 3) := by decide +kernel
theorem d_M_init_88 : decode c_M_init 88 = .ok (.aload_n 0, 1) := by decide +kernel
theorem d_M_init_89 : decode c_M_init 89 = .ok (.bipush 100, 2) := by decide +kernel
theorem d_M_init_91 : decode c_M_init 91 = .ok (.newarray .int, 2) := by decide +kernel
theorem d_M_init_93 : decode c_M_init 93 = .ok (.putfield 40, 3) := by decide +kernel
theorem d_M_init_96 : decode c_M_init 96 = .ok (.aload_n 0, 1) := by decide +kernel
theorem d_M_init_97 : decode c_M_init 97 = .ok (.sipush 2400, 3) := by decide +kernel
theorem d_M_init_100 : decode c_M_init 100 = .ok (.newarray .int, 2) := by decide +kernel
theorem d_M_init_102 : decode c_M_init 102 = .ok (.putfield 43, 3) := by decide +kernel
theorem d_M_init_105 : decode c_M_init 105 = .ok (.return_, 1) := by decide +kernel
theorem d_M_thrown_0 : decode c_M_thrown 0 = .ok (.aload_n 0, 1) := by decide +kernel
theorem d_M_thrown_1 : decode c_M_thrown 1 = .ok (.getfield 46, 3) := by decide +kernel
theorem d_M_thrown_4 : decode c_M_thrown 4 = .ok (.ireturn, 1) := by decide +kernel
theorem d_M_writer_0 : decode c_M_writer 0 = .ok (.aload_n 0, 1) := by decide +kernel
theorem d_M_writer_1 : decode c_M_writer 1 = .ok (.bipush 8, 2) := by decide +kernel
theorem d_M_writer_3 : decode c_M_writer 3 = .ok (.iconst 1, 1) := by decide +kernel
theorem d_M_writer_4 : decode c_M_writer 4 = .ok (.iconst 1, 1) := by decide +kernel
theorem d_M_writer_5 : decode c_M_writer 5 = .ok (.iconst 1, 1) := by decide +kernel
theorem d_M_writer_6 : decode c_M_writer 6 = .ok (.aload_n 0, 1) := by decide +kernel
theorem d_M_writer_7 : decode c_M_writer 7 = .ok (.getfield 60, 3) := by decide +kernel
theorem d_M_writer_10 : decode c_M_writer 10 = .ok (.bipush 10, 2) := by decide +kernel
theorem d_M_writer_12 : decode c_M_writer 12 = .ok (.if_icmp .ge 7, 3) := by decide +kernel
theorem d_M_writer_15 : decode c_M_writer 15 = .ok (.iconst 1, 1) := by decide +kernel
theorem d_M_writer_16 : decode c_M_writer 16 = .ok (.goto 4, 3) := by decide +kernel
theorem d_M_writer_19 : decode c_M_writer 19 = .ok (.iconst 0, 1) := by decide +kernel
theorem d_M_writer_20 : decode c_M_writer 20 = .ok (.invokevirtual 63, 3) := by decide +kernel
theorem d_M_writer_23 : decode c_M_writer 23 = .ok (.ifCond .ne 5, 3) := by decide +kernel
theorem d_M_writer_26 : decode c_M_writer 26 = .ok (.iconst 0, 1) := by decide +kernel
theorem d_M_writer_27 : decode c_M_writer 27 = .ok (.ireturn, 1) := by decide +kernel
theorem d_M_writer_28 : decode c_M_writer 28 = .ok (.aload_n 0, 1) := by decide +kernel
theorem d_M_writer_29 : decode c_M_writer 29 = .ok (.dup, 1) := by decide +kernel
theorem d_M_writer_30 : decode c_M_writer 30 = .ok (.getfield 60, 3) := by decide +kernel
theorem d_M_writer_33 : decode c_M_writer 33 = .ok (.iconst 1, 1) := by decide +kernel
theorem d_M_writer_34 : decode c_M_writer 34 = .ok (.iadd, 1) := by decide +kernel
theorem d_M_writer_35 : decode c_M_writer 35 = .ok (.putfield 60, 3) := by decide +kernel
theorem d_M_writer_38 : decode c_M_writer 38 = .ok (.aload_n 0, 1) := by decide +kernel
theorem d_M_writer_39 : decode c_M_writer 39 = .ok (.getfield 60, 3) := by decide +kernel
theorem d_M_writer_42 : decode c_M_writer 42 = .ok (.iconst 1, 1) := by decide +kernel
theorem d_M_writer_43 : decode c_M_writer 43 = .ok (.isub, 1) := by decide +kernel
theorem d_M_writer_44 : decode c_M_writer 44 = .ok (.ireturn, 1) := by decide +kernel
theorem d_M_goes_0 : decode c_M_goes 0 = .ok (.iload_n 2, 1) := by decide +kernel
theorem d_M_goes_1 : decode c_M_goes 1 = .ok (.ifCond .ne 7, 3) := by decide +kernel
theorem d_M_goes_4 : decode c_M_goes 4 = .ok (.iconst 1, 1) := by decide +kernel
theorem d_M_goes_5 : decode c_M_goes 5 = .ok (.goto 31, 3) := by decide +kernel
theorem d_M_goes_8 : decode c_M_goes 8 = .ok (.iload_n 3, 1) := by decide +kernel
theorem d_M_goes_9 : decode c_M_goes 9 = .ok (.ifCond .ne 7, 3) := by decide +kernel
theorem d_M_goes_12 : decode c_M_goes 12 = .ok (.iconst 2, 1) := by decide +kernel
theorem d_M_goes_13 : decode c_M_goes 13 = .ok (.goto 23, 3) := by decide +kernel
theorem d_M_goes_16 : decode c_M_goes 16 = .ok (.iload 4, 2) := by decide +kernel
theorem d_M_goes_18 : decode c_M_goes 18 = .ok (.ifCond .ne 7, 3) := by decide +kernel
theorem d_M_goes_21 : decode c_M_goes 21 = .ok (.iconst 4, 1) := by decide +kernel
theorem d_M_goes_22 : decode c_M_goes 22 = .ok (.goto 14, 3) := by decide +kernel
theorem d_M_goes_25 : decode c_M_goes 25 = .ok (.iload 5, 2) := by decide +kernel
theorem d_M_goes_27 : decode c_M_goes 27 = .ok (.ifCond .ne 8, 3) := by decide +kernel
theorem d_M_goes_30 : decode c_M_goes 30 = .ok (.bipush 8, 2) := by decide +kernel
theorem d_M_goes_32 : decode c_M_goes 32 = .ok (.goto 4, 3) := by decide +kernel
theorem d_M_goes_35 : decode c_M_goes 35 = .ok (.iconst 0, 1) := by decide +kernel
theorem d_M_goes_36 : decode c_M_goes 36 = .ok (.istore 6, 2) := by decide +kernel
theorem d_M_goes_38 : decode c_M_goes 38 = .ok (.aload_n 0, 1) := by decide +kernel
theorem d_M_goes_39 : decode c_M_goes 39 = .ok (.iconst 0, 1) := by decide +kernel
theorem d_M_goes_40 : decode c_M_goes 40 = .ok (.putfield 46, 3) := by decide +kernel
theorem d_M_goes_43 : decode c_M_goes 43 = .ok (.iconst 1, 1) := by decide +kernel
theorem d_M_goes_44 : decode c_M_goes 44 = .ok (.istore 7, 2) := by decide +kernel
theorem d_M_goes_46 : decode c_M_goes 46 = .ok (.iload 7, 2) := by decide +kernel
theorem d_M_goes_48 : decode c_M_goes 48 = .ok (.iload 6, 2) := by decide +kernel
theorem d_M_goes_50 : decode c_M_goes 50 = .ok (.if_icmp .gt 29, 3) := by decide +kernel
theorem d_M_goes_53 : decode c_M_goes 53 = .ok (.iload_n 1, 1) := by decide +kernel
theorem d_M_goes_54 : decode c_M_goes 54 = .ok (.iload 7, 2) := by decide +kernel
theorem d_M_goes_56 : decode c_M_goes 56 = .ok (.iand, 1) := by decide +kernel
theorem d_M_goes_57 : decode c_M_goes 57 = .ok (.ifCond .le 13, 3) := by decide +kernel
theorem d_M_goes_60 : decode c_M_goes 60 = .ok (.aload_n 0, 1) := by decide +kernel
theorem d_M_goes_61 : decode c_M_goes 61 = .ok (.dup, 1) := by decide +kernel
theorem d_M_goes_62 : decode c_M_goes 62 = .ok (.getfield 46, 3) := by decide +kernel
theorem d_M_goes_65 : decode c_M_goes 65 = .ok (.iconst 1, 1) := by decide +kernel
theorem d_M_goes_66 : decode c_M_goes 66 = .ok (.iadd, 1) := by decide +kernel
theorem d_M_goes_67 : decode c_M_goes 67 = .ok (.putfield 46, 3) := by decide +kernel
theorem d_M_goes_70 : decode c_M_goes 70 = .ok (.iconst 2, 1) := by decide +kernel
theorem d_M_goes_71 : decode c_M_goes 71 = .ok (.iload 7, 2) := by decide +kernel
theorem d_M_goes_73 : decode c_M_goes 73 = .ok (.imul, 1) := by decide +kernel
theorem d_M_goes_74 : decode c_M_goes 74 = .ok (.istore 7, 2) := by decide +kernel
theorem d_M_goes_76 : decode c_M_goes 76 = .ok (.goto (-30), 3) := by decide +kernel
theorem d_M_goes_79 : decode c_M_goes 79 = .ok (.iload 6, 2) := by decide +kernel
theorem d_M_goes_81 : decode c_M_goes 81 = .ok (.ifCond .ne 7, 3) := by decide +kernel
theorem d_M_goes_84 : decode c_M_goes 84 = .ok (.iconst 1, 1) := by decide +kernel
theorem d_M_goes_85 : decode c_M_goes 85 = .ok (.goto 4, 3) := by decide +kernel
theorem d_M_goes_88 : decode c_M_goes 88 = .ok (.iconst 0, 1) := by decide +kernel
theorem d_M_goes_89 : decode c_M_goes 89 = .ok (.ireturn, 1) := by decide +kernel
theorem d_M_note_0 : decode c_M_note 0 = .ok (.aload_n 0, 1) := by decide +kernel
theorem d_M_note_1 : decode c_M_note 1 = .ok (.bipush 11, 2) := by decide +kernel
theorem d_M_note_3 : decode c_M_note 3 = .ok (.iload_n 1, 1) := by decide +kernel
theorem d_M_note_4 : decode c_M_note 4 = .ok (.iconst 0, 1) := by decide +kernel
theorem d_M_note_5 : decode c_M_note 5 = .ok (.aload_n 0, 1) := by decide +kernel
theorem d_M_note_6 : decode c_M_note 6 = .ok (.getfield 60, 3) := by decide +kernel
theorem d_M_note_9 : decode c_M_note 9 = .ok (.iconst 1, 1) := by decide +kernel
theorem d_M_note_10 : decode c_M_note 10 = .ok (.isub, 1) := by decide +kernel
theorem d_M_note_11 : decode c_M_note 11 = .ok (.invokestatic 53, 3) := by decide +kernel
theorem d_M_note_14 : decode c_M_note 14 = .ok (.ifCond .eq 26, 3) := by decide +kernel
theorem d_M_note_17 : decode c_M_note 17 = .ok (.iload_n 2, 1) := by decide +kernel
theorem d_M_note_18 : decode c_M_note 18 = .ok (.iconst 0, 1) := by decide +kernel
theorem d_M_note_19 : decode c_M_note 19 = .ok (.iconst 5, 1) := by decide +kernel
theorem d_M_note_20 : decode c_M_note 20 = .ok (.invokestatic 53, 3) := by decide +kernel
theorem d_M_note_23 : decode c_M_note 23 = .ok (.ifCond .eq 17, 3) := by decide +kernel
theorem d_M_note_26 : decode c_M_note 26 = .ok (.iload_n 3, 1) := by decide +kernel
theorem d_M_note_27 : decode c_M_note 27 = .ok (.iconst 0, 1) := by decide +kernel
theorem d_M_note_28 : decode c_M_note 28 = .ok (.bipush 9, 2) := by decide +kernel
theorem d_M_note_30 : decode c_M_note 30 = .ok (.invokestatic 53, 3) := by decide +kernel
theorem d_M_note_33 : decode c_M_note 33 = .ok (.ifCond .eq 7, 3) := by decide +kernel
theorem d_M_note_36 : decode c_M_note 36 = .ok (.iconst 1, 1) := by decide +kernel
theorem d_M_note_37 : decode c_M_note 37 = .ok (.goto 4, 3) := by decide +kernel
theorem d_M_note_40 : decode c_M_note 40 = .ok (.iconst 0, 1) := by decide +kernel
theorem d_M_note_41 : decode c_M_note 41 = .ok (.aload_n 0, 1) := by decide +kernel
theorem d_M_note_42 : decode c_M_note 42 = .ok (.iload 4, 2) := by decide +kernel
theorem d_M_note_44 : decode c_M_note 44 = .ok (.invokevirtual 67, 3) := by decide +kernel
theorem d_M_note_47 : decode c_M_note 47 = .ok (.ifCond .eq 21, 3) := by decide +kernel
theorem d_M_note_50 : decode c_M_note 50 = .ok (.iload 5, 2) := by decide +kernel
theorem d_M_note_52 : decode c_M_note 52 = .ok (.sipush (-9999), 3) := by decide +kernel
theorem d_M_note_55 : decode c_M_note 55 = .ok (.sipush 9999, 3) := by decide +kernel
theorem d_M_note_58 : decode c_M_note 58 = .ok (.invokestatic 53, 3) := by decide +kernel
theorem d_M_note_61 : decode c_M_note 61 = .ok (.ifCond .eq 7, 3) := by decide +kernel
theorem d_M_note_64 : decode c_M_note 64 = .ok (.iconst 1, 1) := by decide +kernel
theorem d_M_note_65 : decode c_M_note 65 = .ok (.goto 4, 3) := by decide +kernel
theorem d_M_note_68 : decode c_M_note 68 = .ok (.iconst 0, 1) := by decide +kernel
theorem d_M_note_69 : decode c_M_note 69 = .ok (.iconst 1, 1) := by decide +kernel
theorem d_M_note_70 : decode c_M_note 70 = .ok (.aload_n 0, 1) := by decide +kernel
theorem d_M_note_71 : decode c_M_note 71 = .ok (.getfield 50, 3) := by decide +kernel
theorem d_M_note_74 : decode c_M_note 74 = .ok (.bipush 100, 2) := by decide +kernel
theorem d_M_note_76 : decode c_M_note 76 = .ok (.if_icmp .ge 7, 3) := by decide +kernel
theorem d_M_note_79 : decode c_M_note 79 = .ok (.iconst 1, 1) := by decide +kernel
theorem d_M_note_80 : decode c_M_note 80 = .ok (.goto 4, 3) := by decide +kernel
theorem d_M_note_83 : decode c_M_note 83 = .ok (.iconst 0, 1) := by decide +kernel
theorem d_M_note_84 : decode c_M_note 84 = .ok (.invokevirtual 63, 3) := by decide +kernel
theorem d_M_note_87 : decode c_M_note 87 = .ok (.ifCond .ne 5, 3) := by decide +kernel
theorem d_M_note_90 : decode c_M_note 90 = .ok (.iconst 0, 1) := by decide +kernel
theorem d_M_note_91 : decode c_M_note 91 = .ok (.ireturn, 1) := by decide +kernel
theorem d_M_note_92 : decode c_M_note 92 = .ok (.aload_n 0, 1) := by decide +kernel
theorem d_M_note_93 : decode c_M_note 93 = .ok (.getfield 7, 3) := by decide +kernel
theorem d_M_note_96 : decode c_M_note 96 = .ok (.aload_n 0, 1) := by decide +kernel
theorem d_M_note_97 : decode c_M_note 97 = .ok (.getfield 50, 3) := by decide +kernel
theorem d_M_note_100 : decode c_M_note 100 = .ok (.iload_n 1, 1) := by decide +kernel
theorem d_M_note_101 : decode c_M_note 101 = .ok (.iastore, 1) := by decide +kernel
theorem d_M_note_102 : decode c_M_note 102 = .ok (.aload_n 0, 1) := by decide +kernel
theorem d_M_note_103 : decode c_M_note 103 = .ok (.getfield 13, 3) := by decide +kernel
theorem d_M_note_106 : decode c_M_note 106 = .ok (.aload_n 0, 1) := by decide +kernel
theorem d_M_note_107 : decode c_M_note 107 = .ok (.getfield 50, 3) := by decide +kernel
theorem d_M_note_110 : decode c_M_note 110 = .ok (.iload_n 2, 1) := by decide +kernel
theorem d_M_note_111 : decode c_M_note 111 = .ok (.iastore, 1) := by decide +kernel
theorem d_M_note_112 : decode c_M_note 112 = .ok (.aload_n 0, 1) := by decide +kernel
theorem d_M_note_113 : decode c_M_note 113 = .ok (.getfield 16, 3) := by decide +kernel
theorem d_M_note_116 : decode c_M_note 116 = .ok (.aload_n 0, 1) := by decide +kernel
theorem d_M_note_117 : decode c_M_note 117 = .ok (.getfield 50, 3) := by decide +kernel
theorem d_M_note_120 : decode c_M_note 120 = .ok (.iload_n 3, 1) := by decide +kernel
theorem d_M_note_121 : decode c_M_note 121 = .ok (.iastore, 1) := by decide +kernel
theorem d_M_note_122 : decode c_M_note 122 = .ok (.aload_n 0, 1) := by decide +kernel
theorem d_M_note_123 : decode c_M_note 123 = .ok (.getfield 19, 3) := by decide +kernel
theorem d_M_note_126 : decode c_M_note 126 = .ok (.aload_n 0, 1) := by decide +kernel
theorem d_M_note_127 : decode c_M_note 127 = .ok (.getfield 50, 3) := by decide +kernel
theorem d_M_note_130 : decode c_M_note 130 = .ok (.iload 4, 2) := by decide +kernel
theorem d_M_note_132 : decode c_M_note 132 = .ok (.iastore, 1) := by decide +kernel
theorem d_M_note_133 : decode c_M_note 133 = .ok (.aload_n 0, 1) := by decide +kernel
theorem d_M_note_134 : decode c_M_note 134 = .ok (.getfield 22, 3) := by decide +kernel
theorem d_M_note_137 : decode c_M_note 137 = .ok (.aload_n 0, 1) := by decide +kernel
theorem d_M_note_138 : decode c_M_note 138 = .ok (.getfield 50, 3) := by decide +kernel
theorem d_M_note_141 : decode c_M_note 141 = .ok (.iload 5, 2) := by decide +kernel
theorem d_M_note_143 : decode c_M_note 143 = .ok (.iastore, 1) := by decide +kernel
theorem d_M_note_144 : decode c_M_note 144 = .ok (.aload_n 0, 1) := by decide +kernel
theorem d_M_note_145 : decode c_M_note 145 = .ok (.getfield 25, 3) := by decide +kernel
theorem d_M_note_148 : decode c_M_note 148 = .ok (.aload_n 0, 1) := by decide +kernel
theorem d_M_note_149 : decode c_M_note 149 = .ok (.getfield 50, 3) := by decide +kernel
theorem d_M_note_152 : decode c_M_note 152 = .ok (.aload_n 0, 1) := by decide +kernel
theorem d_M_note_153 : decode c_M_note 153 = .ok (.getfield 57, 3) := by decide +kernel
theorem d_M_note_156 : decode c_M_note 156 = .ok (.iastore, 1) := by decide +kernel
theorem d_M_note_157 : decode c_M_note 157 = .ok (.aload_n 0, 1) := by decide +kernel
theorem d_M_note_158 : decode c_M_note 158 = .ok (.dup, 1) := by decide +kernel
theorem d_M_note_159 : decode c_M_note 159 = .ok (.getfield 50, 3) := by decide +kernel
theorem d_M_note_162 : decode c_M_note 162 = .ok (.iconst 1, 1) := by decide +kernel
theorem d_M_note_163 : decode c_M_note 163 = .ok (.iadd, 1) := by decide +kernel
theorem d_M_note_164 : decode c_M_note 164 = .ok (.putfield 50, 3) := by decide +kernel
theorem d_M_note_167 : decode c_M_note 167 = .ok (.aload_n 0, 1) := by decide +kernel
theorem d_M_note_168 : decode c_M_note 168 = .ok (.getfield 50, 3) := by decide +kernel
theorem d_M_note_171 : decode c_M_note 171 = .ok (.iconst 1, 1) := by decide +kernel
theorem d_M_note_172 : decode c_M_note 172 = .ok (.isub, 1) := by decide +kernel
theorem d_M_note_173 : decode c_M_note 173 = .ok (.ireturn, 1) := by decide +kernel
theorem d_M_in_0 : decode c_M_in 0 = .ok (.iload_n 0, 1) := by decide +kernel
theorem d_M_in_1 : decode c_M_in 1 = .ok (.iload_n 1, 1) := by decide +kernel
theorem d_M_in_2 : decode c_M_in 2 = .ok (.if_icmp .lt 12, 3) := by decide +kernel
theorem d_M_in_5 : decode c_M_in 5 = .ok (.iload_n 0, 1) := by decide +kernel
theorem d_M_in_6 : decode c_M_in 6 = .ok (.iload_n 2, 1) := by decide +kernel
theorem d_M_in_7 : decode c_M_in 7 = .ok (.if_icmp .gt 7, 3) := by decide +kernel
theorem d_M_in_10 : decode c_M_in 10 = .ok (.iconst 1, 1) := by decide +kernel
theorem d_M_in_11 : decode c_M_in 11 = .ok (.goto 4, 3) := by decide +kernel
theorem d_M_in_14 : decode c_M_in 14 = .ok (.iconst 0, 1) := by decide +kernel
theorem d_M_in_15 : decode c_M_in 15 = .ok (.ireturn, 1) := by decide +kernel
theorem d_M_isGone_0 : decode c_M_isGone 0 = .ok (.iload_n 1, 1) := by decide +kernel
theorem d_M_isGone_1 : decode c_M_isGone 1 = .ok (.iconst 0, 1) := by decide +kernel
theorem d_M_isGone_2 : decode c_M_isGone 2 = .ok (.aload_n 0, 1) := by decide +kernel
theorem d_M_isGone_3 : decode c_M_isGone 3 = .ok (.getfield 57, 3) := by decide +kernel
theorem d_M_isGone_6 : decode c_M_isGone 6 = .ok (.invokestatic 53, 3) := by decide +kernel
theorem d_M_isGone_9 : decode c_M_isGone 9 = .ok (.ireturn, 1) := by decide +kernel
theorem d_M_correct_0 : decode c_M_correct 0 = .ok (.aload_n 0, 1) := by decide +kernel
theorem d_M_correct_1 : decode c_M_correct 1 = .ok (.bipush 15, 2) := by decide +kernel
theorem d_M_correct_3 : decode c_M_correct 3 = .ok (.aload_n 0, 1) := by decide +kernel
theorem d_M_correct_4 : decode c_M_correct 4 = .ok (.iload_n 1, 1) := by decide +kernel
theorem d_M_correct_5 : decode c_M_correct 5 = .ok (.invokevirtual 74, 3) := by decide +kernel
theorem d_M_correct_8 : decode c_M_correct 8 = .ok (.iload_n 2, 1) := by decide +kernel
theorem d_M_correct_9 : decode c_M_correct 9 = .ok (.sipush (-9999), 3) := by decide +kernel
theorem d_M_correct_12 : decode c_M_correct 12 = .ok (.sipush 9999, 3) := by decide +kernel
theorem d_M_correct_15 : decode c_M_correct 15 = .ok (.invokestatic 53, 3) := by decide +kernel
theorem d_M_correct_18 : decode c_M_correct 18 = .ok (.aload_n 0, 1) := by decide +kernel
theorem d_M_correct_19 : decode c_M_correct 19 = .ok (.iload_n 1, 1) := by decide +kernel
theorem d_M_correct_20 : decode c_M_correct 20 = .ok (.invokevirtual 74, 3) := by decide +kernel
theorem d_M_correct_23 : decode c_M_correct 23 = .ok (.ifCond .eq 19, 3) := by decide +kernel
theorem d_M_correct_26 : decode c_M_correct 26 = .ok (.aload_n 0, 1) := by decide +kernel
theorem d_M_correct_27 : decode c_M_correct 27 = .ok (.iload_n 1, 1) := by decide +kernel
theorem d_M_correct_28 : decode c_M_correct 28 = .ok (.aload_n 0, 1) := by decide +kernel
theorem d_M_correct_29 : decode c_M_correct 29 = .ok (.getfield 57, 3) := by decide +kernel
theorem d_M_correct_32 : decode c_M_correct 32 = .ok (.invokevirtual 77, 3) := by decide +kernel
theorem d_M_correct_35 : decode c_M_correct 35 = .ok (.ifCond .ne 7, 3) := by decide +kernel
theorem d_M_correct_38 : decode c_M_correct 38 = .ok (.iconst 1, 1) := by decide +kernel
theorem d_M_correct_39 : decode c_M_correct 39 = .ok (.goto 4, 3) := by decide +kernel
theorem d_M_correct_42 : decode c_M_correct 42 = .ok (.iconst 0, 1) := by decide +kernel
theorem d_M_correct_43 : decode c_M_correct 43 = .ok (.aload_n 0, 1) := by decide +kernel
theorem d_M_correct_44 : decode c_M_correct 44 = .ok (.getfield 71, 3) := by decide +kernel
theorem d_M_correct_47 : decode c_M_correct 47 = .ok (.sipush 200, 3) := by decide +kernel
theorem d_M_correct_50 : decode c_M_correct 50 = .ok (.if_icmp .ge 7, 3) := by decide +kernel
theorem d_M_correct_53 : decode c_M_correct 53 = .ok (.iconst 1, 1) := by decide +kernel
theorem d_M_correct_54 : decode c_M_correct 54 = .ok (.goto 4, 3) := by decide +kernel
theorem d_M_correct_57 : decode c_M_correct 57 = .ok (.iconst 0, 1) := by decide +kernel
theorem d_M_correct_58 : decode c_M_correct 58 = .ok (.invokevirtual 63, 3) := by decide +kernel
theorem d_M_correct_61 : decode c_M_correct 61 = .ok (.ifCond .ne 5, 3) := by decide +kernel
theorem d_M_correct_64 : decode c_M_correct 64 = .ok (.iconst 0, 1) := by decide +kernel
theorem d_M_correct_65 : decode c_M_correct 65 = .ok (.ireturn, 1) := by decide +kernel
theorem d_M_correct_66 : decode c_M_correct 66 = .ok (.aload_n 0, 1) := by decide +kernel
theorem d_M_correct_67 : decode c_M_correct 67 = .ok (.iload_n 1, 1) := by decide +kernel
theorem d_M_correct_68 : decode c_M_correct 68 = .ok (.iconst 2, 1) := by decide +kernel
theorem d_M_correct_69 : decode c_M_correct 69 = .ok (.iload_n 2, 1) := by decide +kernel
theorem d_M_correct_70 : decode c_M_correct 70 = .ok (.invokevirtual 81, 3) := by decide +kernel
theorem d_M_correct_73 : decode c_M_correct 73 = .ok (.aload_n 0, 1) := by decide +kernel
theorem d_M_correct_74 : decode c_M_correct 74 = .ok (.iload_n 1, 1) := by decide +kernel
theorem d_M_correct_75 : decode c_M_correct 75 = .ok (.iconst 0, 1) := by decide +kernel
theorem d_M_correct_76 : decode c_M_correct 76 = .ok (.invokevirtual 85, 3) := by decide +kernel
theorem d_M_correct_79 : decode c_M_correct 79 = .ok (.ireturn, 1) := by decide +kernel
theorem d_M_isNote_0 : decode c_M_isNote 0 = .ok (.iload_n 1, 1) := by decide +kernel
theorem d_M_isNote_1 : decode c_M_isNote 1 = .ok (.iconst 0, 1) := by decide +kernel
theorem d_M_isNote_2 : decode c_M_isNote 2 = .ok (.aload_n 0, 1) := by decide +kernel
theorem d_M_isNote_3 : decode c_M_isNote 3 = .ok (.getfield 50, 3) := by decide +kernel
theorem d_M_isNote_6 : decode c_M_isNote 6 = .ok (.iconst 1, 1) := by decide +kernel
theorem d_M_isNote_7 : decode c_M_isNote 7 = .ok (.isub, 1) := by decide +kernel
theorem d_M_isNote_8 : decode c_M_isNote 8 = .ok (.invokestatic 53, 3) := by decide +kernel
theorem d_M_isNote_11 : decode c_M_isNote 11 = .ok (.ireturn, 1) := by decide +kernel
theorem d_M_isStruck_0 : decode c_M_isStruck 0 = .ok (.iconst 0, 1) := by decide +kernel
theorem d_M_isStruck_1 : decode c_M_isStruck 1 = .ok (.istore_n 3, 1) := by decide +kernel
theorem d_M_isStruck_2 : decode c_M_isStruck 2 = .ok (.iconst 0, 1) := by decide +kernel
theorem d_M_isStruck_3 : decode c_M_isStruck 3 = .ok (.istore 4, 2) := by decide +kernel
theorem d_M_isStruck_5 : decode c_M_isStruck 5 = .ok (.iload 4, 2) := by decide +kernel
theorem d_M_isStruck_7 : decode c_M_isStruck 7 = .ok (.aload_n 0, 1) := by decide +kernel
theorem d_M_isStruck_8 : decode c_M_isStruck 8 = .ok (.getfield 71, 3) := by decide +kernel
theorem d_M_isStruck_11 : decode c_M_isStruck 11 = .ok (.if_icmp .ge 58, 3) := by decide +kernel
theorem d_M_isStruck_14 : decode c_M_isStruck 14 = .ok (.aload_n 0, 1) := by decide +kernel
theorem d_M_isStruck_15 : decode c_M_isStruck 15 = .ok (.getfield 28, 3) := by decide +kernel
theorem d_M_isStruck_18 : decode c_M_isStruck 18 = .ok (.iload 4, 2) := by decide +kernel
theorem d_M_isStruck_20 : decode c_M_isStruck 20 = .ok (.iaload, 1) := by decide +kernel
theorem d_M_isStruck_21 : decode c_M_isStruck 21 = .ok (.iload_n 1, 1) := by decide +kernel
theorem d_M_isStruck_22 : decode c_M_isStruck 22 = .ok (.if_icmp .ne 41, 3) := by decide +kernel
theorem d_M_isStruck_25 : decode c_M_isStruck 25 = .ok (.aload_n 0, 1) := by decide +kernel
theorem d_M_isStruck_26 : decode c_M_isStruck 26 = .ok (.getfield 31, 3) := by decide +kernel
theorem d_M_isStruck_29 : decode c_M_isStruck 29 = .ok (.iload 4, 2) := by decide +kernel
theorem d_M_isStruck_31 : decode c_M_isStruck 31 = .ok (.iaload, 1) := by decide +kernel
theorem d_M_isStruck_32 : decode c_M_isStruck 32 = .ok (.iconst 2, 1) := by decide +kernel
theorem d_M_isStruck_33 : decode c_M_isStruck 33 = .ok (.if_icmp .eq 30, 3) := by decide +kernel
theorem d_M_isStruck_36 : decode c_M_isStruck 36 = .ok (.aload_n 0, 1) := by decide +kernel
theorem d_M_isStruck_37 : decode c_M_isStruck 37 = .ok (.getfield 37, 3) := by decide +kernel
theorem d_M_isStruck_40 : decode c_M_isStruck 40 = .ok (.iload 4, 2) := by decide +kernel
theorem d_M_isStruck_42 : decode c_M_isStruck 42 = .ok (.iaload, 1) := by decide +kernel
theorem d_M_isStruck_43 : decode c_M_isStruck 43 = .ok (.iload_n 2, 1) := by decide +kernel
theorem d_M_isStruck_44 : decode c_M_isStruck 44 = .ok (.if_icmp .gt 19, 3) := by decide +kernel
theorem d_M_isStruck_47 : decode c_M_isStruck 47 = .ok (.aload_n 0, 1) := by decide +kernel
theorem d_M_isStruck_48 : decode c_M_isStruck 48 = .ok (.getfield 31, 3) := by decide +kernel
theorem d_M_isStruck_51 : decode c_M_isStruck 51 = .ok (.iload 4, 2) := by decide +kernel
theorem d_M_isStruck_53 : decode c_M_isStruck 53 = .ok (.iaload, 1) := by decide +kernel
theorem d_M_isStruck_54 : decode c_M_isStruck 54 = .ok (.ifCond .ne 7, 3) := by decide +kernel
theorem d_M_isStruck_57 : decode c_M_isStruck 57 = .ok (.iconst 1, 1) := by decide +kernel
theorem d_M_isStruck_58 : decode c_M_isStruck 58 = .ok (.goto 4, 3) := by decide +kernel
theorem d_M_isStruck_61 : decode c_M_isStruck 61 = .ok (.iconst 0, 1) := by decide +kernel
theorem d_M_isStruck_62 : decode c_M_isStruck 62 = .ok (.istore_n 3, 1) := by decide +kernel
theorem d_M_isStruck_63 : decode c_M_isStruck 63 = .ok (.iinc 4 1, 3) := by decide +kernel
theorem d_M_isStruck_66 : decode c_M_isStruck 66 = .ok (.goto (-61), 3) := by decide +kernel
theorem d_M_isStruck_69 : decode c_M_isStruck 69 = .ok (.iload_n 3, 1) := by decide +kernel
theorem d_M_isStruck_70 : decode c_M_isStruck 70 = .ok (.ireturn, 1) := by decide +kernel
theorem d_M_does_0 : decode c_M_does 0 = .ok (.aload_n 0, 1) := by decide +kernel
theorem d_M_does_1 : decode c_M_does 1 = .ok (.getfield 28, 3) := by decide +kernel
theorem d_M_does_4 : decode c_M_does 4 = .ok (.aload_n 0, 1) := by decide +kernel
theorem d_M_does_5 : decode c_M_does 5 = .ok (.getfield 71, 3) := by decide +kernel
theorem d_M_does_8 : decode c_M_does 8 = .ok (.iload_n 1, 1) := by decide +kernel
theorem d_M_does_9 : decode c_M_does 9 = .ok (.iastore, 1) := by decide +kernel
theorem d_M_does_10 : decode c_M_does 10 = .ok (.aload_n 0, 1) := by decide +kernel
theorem d_M_does_11 : decode c_M_does 11 = .ok (.getfield 31, 3) := by decide +kernel
theorem d_M_does_14 : decode c_M_does 14 = .ok (.aload_n 0, 1) := by decide +kernel
theorem d_M_does_15 : decode c_M_does 15 = .ok (.getfield 71, 3) := by decide +kernel
theorem d_M_does_18 : decode c_M_does 18 = .ok (.iload_n 2, 1) := by decide +kernel
theorem d_M_does_19 : decode c_M_does 19 = .ok (.iastore, 1) := by decide +kernel
theorem d_M_does_20 : decode c_M_does 20 = .ok (.aload_n 0, 1) := by decide +kernel
theorem d_M_does_21 : decode c_M_does 21 = .ok (.getfield 34, 3) := by decide +kernel
theorem d_M_does_24 : decode c_M_does 24 = .ok (.aload_n 0, 1) := by decide +kernel
theorem d_M_does_25 : decode c_M_does 25 = .ok (.getfield 71, 3) := by decide +kernel
theorem d_M_does_28 : decode c_M_does 28 = .ok (.iload_n 3, 1) := by decide +kernel
theorem d_M_does_29 : decode c_M_does 29 = .ok (.iastore, 1) := by decide +kernel
theorem d_M_does_30 : decode c_M_does 30 = .ok (.aload_n 0, 1) := by decide +kernel
theorem d_M_does_31 : decode c_M_does 31 = .ok (.getfield 37, 3) := by decide +kernel
theorem d_M_does_34 : decode c_M_does 34 = .ok (.aload_n 0, 1) := by decide +kernel
theorem d_M_does_35 : decode c_M_does 35 = .ok (.getfield 71, 3) := by decide +kernel
theorem d_M_does_38 : decode c_M_does 38 = .ok (.aload_n 0, 1) := by decide +kernel
theorem d_M_does_39 : decode c_M_does 39 = .ok (.getfield 57, 3) := by decide +kernel
theorem d_M_does_42 : decode c_M_does 42 = .ok (.iastore, 1) := by decide +kernel
theorem d_M_does_43 : decode c_M_does 43 = .ok (.aload_n 0, 1) := by decide +kernel
theorem d_M_does_44 : decode c_M_does 44 = .ok (.dup, 1) := by decide +kernel
theorem d_M_does_45 : decode c_M_does 45 = .ok (.getfield 71, 3) := by decide +kernel
theorem d_M_does_48 : decode c_M_does 48 = .ok (.iconst 1, 1) := by decide +kernel
theorem d_M_does_49 : decode c_M_does 49 = .ok (.iadd, 1) := by decide +kernel
theorem d_M_does_50 : decode c_M_does 50 = .ok (.putfield 71, 3) := by decide +kernel
theorem d_M_does_53 : decode c_M_does 53 = .ok (.return_, 1) := by decide +kernel
theorem d_M_many_0 : decode c_M_many 0 = .ok (.iconst 0, 1) := by decide +kernel
theorem d_M_many_1 : decode c_M_many 1 = .ok (.istore_n 3, 1) := by decide +kernel
theorem d_M_many_2 : decode c_M_many 2 = .ok (.iconst 0, 1) := by decide +kernel
theorem d_M_many_3 : decode c_M_many 3 = .ok (.istore 4, 2) := by decide +kernel
theorem d_M_many_5 : decode c_M_many 5 = .ok (.iload 4, 2) := by decide +kernel
theorem d_M_many_7 : decode c_M_many 7 = .ok (.aload_n 0, 1) := by decide +kernel
theorem d_M_many_8 : decode c_M_many 8 = .ok (.getfield 71, 3) := by decide +kernel
theorem d_M_many_11 : decode c_M_many 11 = .ok (.if_icmp .ge 38, 3) := by decide +kernel
theorem d_M_many_14 : decode c_M_many 14 = .ok (.aload_n 0, 1) := by decide +kernel
theorem d_M_many_15 : decode c_M_many 15 = .ok (.getfield 28, 3) := by decide +kernel
theorem d_M_many_18 : decode c_M_many 18 = .ok (.iload 4, 2) := by decide +kernel
theorem d_M_many_20 : decode c_M_many 20 = .ok (.iaload, 1) := by decide +kernel
theorem d_M_many_21 : decode c_M_many 21 = .ok (.iload_n 1, 1) := by decide +kernel
theorem d_M_many_22 : decode c_M_many 22 = .ok (.if_icmp .ne 21, 3) := by decide +kernel
theorem d_M_many_25 : decode c_M_many 25 = .ok (.iload_n 2, 1) := by decide +kernel
theorem d_M_many_26 : decode c_M_many 26 = .ok (.ifCond .ne 14, 3) := by decide +kernel
theorem d_M_many_29 : decode c_M_many 29 = .ok (.aload_n 0, 1) := by decide +kernel
theorem d_M_many_30 : decode c_M_many 30 = .ok (.getfield 31, 3) := by decide +kernel
theorem d_M_many_33 : decode c_M_many 33 = .ok (.iload 4, 2) := by decide +kernel
theorem d_M_many_35 : decode c_M_many 35 = .ok (.iaload, 1) := by decide +kernel
theorem d_M_many_36 : decode c_M_many 36 = .ok (.iconst 2, 1) := by decide +kernel
theorem d_M_many_37 : decode c_M_many 37 = .ok (.if_icmp .ne 6, 3) := by decide +kernel
theorem d_M_many_40 : decode c_M_many 40 = .ok (.iinc 3 1, 3) := by decide +kernel
theorem d_M_many_43 : decode c_M_many 43 = .ok (.iinc 4 1, 3) := by decide +kernel
theorem d_M_many_46 : decode c_M_many 46 = .ok (.goto (-41), 3) := by decide +kernel
theorem d_M_many_49 : decode c_M_many 49 = .ok (.iload_n 3, 1) := by decide +kernel
theorem d_M_many_50 : decode c_M_many 50 = .ok (.ireturn, 1) := by decide +kernel
theorem d_M_strike_0 : decode c_M_strike 0 = .ok (.aload_n 0, 1) := by decide +kernel
theorem d_M_strike_1 : decode c_M_strike 1 = .ok (.bipush 13, 2) := by decide +kernel
theorem d_M_strike_3 : decode c_M_strike 3 = .ok (.aload_n 0, 1) := by decide +kernel
theorem d_M_strike_4 : decode c_M_strike 4 = .ok (.iload_n 1, 1) := by decide +kernel
theorem d_M_strike_5 : decode c_M_strike 5 = .ok (.invokevirtual 74, 3) := by decide +kernel
theorem d_M_strike_8 : decode c_M_strike 8 = .ok (.iconst 1, 1) := by decide +kernel
theorem d_M_strike_9 : decode c_M_strike 9 = .ok (.aload_n 0, 1) := by decide +kernel
theorem d_M_strike_10 : decode c_M_strike 10 = .ok (.iload_n 1, 1) := by decide +kernel
theorem d_M_strike_11 : decode c_M_strike 11 = .ok (.invokevirtual 74, 3) := by decide +kernel
theorem d_M_strike_14 : decode c_M_strike 14 = .ok (.ifCond .eq 20, 3) := by decide +kernel
theorem d_M_strike_17 : decode c_M_strike 17 = .ok (.aload_n 0, 1) := by decide +kernel
theorem d_M_strike_18 : decode c_M_strike 18 = .ok (.iload_n 1, 1) := by decide +kernel
theorem d_M_strike_19 : decode c_M_strike 19 = .ok (.aload_n 0, 1) := by decide +kernel
theorem d_M_strike_20 : decode c_M_strike 20 = .ok (.getfield 57, 3) := by decide +kernel
theorem d_M_strike_23 : decode c_M_strike 23 = .ok (.invokevirtual 77, 3) := by decide +kernel
theorem d_M_strike_26 : decode c_M_strike 26 = .ok (.iload_n 2, 1) := by decide +kernel
theorem d_M_strike_27 : decode c_M_strike 27 = .ok (.if_icmp .eq 7, 3) := by decide +kernel
theorem d_M_strike_30 : decode c_M_strike 30 = .ok (.iconst 1, 1) := by decide +kernel
theorem d_M_strike_31 : decode c_M_strike 31 = .ok (.goto 4, 3) := by decide +kernel
theorem d_M_strike_34 : decode c_M_strike 34 = .ok (.iconst 0, 1) := by decide +kernel
theorem d_M_strike_35 : decode c_M_strike 35 = .ok (.aload_n 0, 1) := by decide +kernel
theorem d_M_strike_36 : decode c_M_strike 36 = .ok (.getfield 71, 3) := by decide +kernel
theorem d_M_strike_39 : decode c_M_strike 39 = .ok (.sipush 200, 3) := by decide +kernel
theorem d_M_strike_42 : decode c_M_strike 42 = .ok (.if_icmp .ge 7, 3) := by decide +kernel
theorem d_M_strike_45 : decode c_M_strike 45 = .ok (.iconst 1, 1) := by decide +kernel
theorem d_M_strike_46 : decode c_M_strike 46 = .ok (.goto 4, 3) := by decide +kernel
theorem d_M_strike_49 : decode c_M_strike 49 = .ok (.iconst 0, 1) := by decide +kernel
theorem d_M_strike_50 : decode c_M_strike 50 = .ok (.invokevirtual 63, 3) := by decide +kernel
theorem d_M_strike_53 : decode c_M_strike 53 = .ok (.ifCond .eq 18, 3) := by decide +kernel
theorem d_M_strike_56 : decode c_M_strike 56 = .ok (.aload_n 0, 1) := by decide +kernel
theorem d_M_strike_57 : decode c_M_strike 57 = .ok (.iload_n 1, 1) := by decide +kernel
theorem d_M_strike_58 : decode c_M_strike 58 = .ok (.iload_n 2, 1) := by decide +kernel
theorem d_M_strike_59 : decode c_M_strike 59 = .ok (.ifCond .eq 7, 3) := by decide +kernel
theorem d_M_strike_62 : decode c_M_strike 62 = .ok (.iconst 0, 1) := by decide +kernel
theorem d_M_strike_63 : decode c_M_strike 63 = .ok (.goto 4, 3) := by decide +kernel
theorem d_M_strike_66 : decode c_M_strike 66 = .ok (.iconst 1, 1) := by decide +kernel
theorem d_M_strike_67 : decode c_M_strike 67 = .ok (.iconst 0, 1) := by decide +kernel
theorem d_M_strike_68 : decode c_M_strike 68 = .ok (.invokevirtual 81, 3) := by decide +kernel
theorem d_M_strike_71 : decode c_M_strike 71 = .ok (.return_, 1) := by decide +kernel
theorem d_M_ask_0 : decode c_M_ask 0 = .ok (.aload_n 0, 1) := by decide +kernel
theorem d_M_ask_1 : decode c_M_ask 1 = .ok (.iconst 3, 1) := by decide +kernel
theorem d_M_ask_2 : decode c_M_ask 2 = .ok (.iload_n 3, 1) := by decide +kernel
theorem d_M_ask_3 : decode c_M_ask 3 = .ok (.iconst (-1), 1) := by decide +kernel
theorem d_M_ask_4 : decode c_M_ask 4 = .ok (.iconst 5, 1) := by decide +kernel
theorem d_M_ask_5 : decode c_M_ask 5 = .ok (.invokestatic 53, 3) := by decide +kernel
theorem d_M_ask_8 : decode c_M_ask 8 = .ok (.ifCond .eq 18, 3) := by decide +kernel
theorem d_M_ask_11 : decode c_M_ask 11 = .ok (.iload 4, 2) := by decide +kernel
theorem d_M_ask_13 : decode c_M_ask 13 = .ok (.iconst (-1), 1) := by decide +kernel
theorem d_M_ask_14 : decode c_M_ask 14 = .ok (.bipush 9, 2) := by decide +kernel
theorem d_M_ask_16 : decode c_M_ask 16 = .ok (.invokestatic 53, 3) := by decide +kernel
theorem d_M_ask_19 : decode c_M_ask 19 = .ok (.ifCond .eq 7, 3) := by decide +kernel
theorem d_M_ask_22 : decode c_M_ask 22 = .ok (.iconst 1, 1) := by decide +kernel
theorem d_M_ask_23 : decode c_M_ask 23 = .ok (.goto 4, 3) := by decide +kernel
theorem d_M_ask_26 : decode c_M_ask 26 = .ok (.iconst 0, 1) := by decide +kernel
theorem d_M_ask_27 : decode c_M_ask 27 = .ok (.aload_n 0, 1) := by decide +kernel
theorem d_M_ask_28 : decode c_M_ask 28 = .ok (.iload 5, 2) := by decide +kernel
theorem d_M_ask_30 : decode c_M_ask 30 = .ok (.invokevirtual 67, 3) := by decide +kernel
theorem d_M_ask_33 : decode c_M_ask 33 = .ok (.iconst 1, 1) := by decide +kernel
theorem d_M_ask_34 : decode c_M_ask 34 = .ok (.iconst 1, 1) := by decide +kernel

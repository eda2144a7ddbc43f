/-! decode rows, printed by wip/gen/names.py -/
theorem d_X_init_0 : decode c_X_init 0 = .ok (.aload_n 0, 1) := by decide +kernel
theorem d_X_init_1 : decode c_X_init 1 = .ok (.invokespecial 1, 3) := by decide +kernel
theorem d_X_init_4 : decode c_X_init 4 = .ok (.aload_n 0, 1) := by decide +kernel
theorem d_X_init_5 : decode c_X_init 5 = .ok (.new 7, 3) := by decide +kernel
theorem d_X_init_8 : decode c_X_init 8 = .ok (.dup, 1) := by decide +kernel
theorem d_X_init_9 : decode c_X_init 9 = .ok (.invokespecial 9, 3) := by decide +kernel
theorem d_X_init_12 : decode c_X_init 12 = .ok (.putfield 10, 3) := by decide +kernel
theorem d_X_init_15 : decode c_X_init 15 = .ok (.aload_n 0, 1) := by decide +kernel
theorem d_X_init_16 : decode c_X_init 16 = .ok (.new 16, 3) := by decide +kernel
theorem d_X_init_19 : decode c_X_init 19 = .ok (.dup, 1) := by decide +kernel
theorem d_X_init_20 : decode c_X_init 20 = .ok (.invokespecial 18, 3) := by decide +kernel
theorem d_X_init_23 : decode c_X_init 23 = .ok (.putfield 19, 3) := by decide +kernel
theorem d_X_init_26 : decode c_X_init 26 = .ok (.aload_n 0, 1) := by decide +kernel
theorem d_X_init_27 : decode c_X_init 27 = .ok (.new 23, 3) := by decide +kernel
theorem d_X_init_30 : decode c_X_init 30 = .ok (.dup, 1) := by decide +kernel
theorem d_X_init_31 : decode c_X_init 31 = .ok (.invokespecial 25, 3) := by decide +kernel
theorem d_X_init_34 : decode c_X_init 34 = .ok (.putfield 26, 3) := by decide +kernel
theorem d_X_init_37 : decode c_X_init 37 = .ok (.return_, 1) := by decide +kernel
theorem d_X_writer_0 : decode c_X_writer 0 = .ok (.aload_n 0, 1) := by decide +kernel
theorem d_X_writer_1 : decode c_X_writer 1 = .ok (.getfield 30, 3) := by decide +kernel
theorem d_X_writer_4 : decode c_X_writer 4 = .ok (.bipush 10, 2) := by decide +kernel
theorem d_X_writer_6 : decode c_X_writer 6 = .ok (.if_icmp .lt 13, 3) := by decide +kernel
theorem d_X_writer_9 : decode c_X_writer 9 = .ok (.new 34, 3) := by decide +kernel
theorem d_X_writer_12 : decode c_X_writer 12 = .ok (.dup, 1) := by decide +kernel
theorem d_X_writer_13 : decode c_X_writer 13 = .ok (.ldc 36, 2) := by decide +kernel
theorem d_X_writer_15 : decode c_X_writer 15 = .ok (.invokespecial 38, 3) := by decide +kernel
theorem d_X_writer_18 : decode c_X_writer 18 = .ok (.athrow, 1) := by decide +kernel
theorem d_X_writer_19 : decode c_X_writer 19 = .ok (.aload_n 0, 1) := by decide +kernel
theorem d_X_writer_20 : decode c_X_writer 20 = .ok (.dup, 1) := by decide +kernel
theorem d_X_writer_21 : decode c_X_writer 21 = .ok (.getfield 30, 3) := by decide +kernel
theorem d_X_writer_24 : decode c_X_writer 24 = .ok (.iconst 1, 1) := by decide +kernel
theorem d_X_writer_25 : decode c_X_writer 25 = .ok (.iadd, 1) := by decide +kernel
theorem d_X_writer_26 : decode c_X_writer 26 = .ok (.putfield 30, 3) := by decide +kernel
theorem d_X_writer_29 : decode c_X_writer 29 = .ok (.aload_n 0, 1) := by decide +kernel
theorem d_X_writer_30 : decode c_X_writer 30 = .ok (.getfield 30, 3) := by decide +kernel
theorem d_X_writer_33 : decode c_X_writer 33 = .ok (.iconst 1, 1) := by decide +kernel
theorem d_X_writer_34 : decode c_X_writer 34 = .ok (.isub, 1) := by decide +kernel
theorem d_X_writer_35 : decode c_X_writer 35 = .ok (.ireturn, 1) := by decide +kernel
theorem d_X_note_0 : decode c_X_note 0 = .ok (.aload_n 0, 1) := by decide +kernel
theorem d_X_note_1 : decode c_X_note 1 = .ok (.iload_n 1, 1) := by decide +kernel
theorem d_X_note_2 : decode c_X_note 2 = .ok (.invokevirtual 41, 3) := by decide +kernel
theorem d_X_note_5 : decode c_X_note 5 = .ok (.ifCond .eq 17, 3) := by decide +kernel
theorem d_X_note_8 : decode c_X_note 8 = .ok (.iload_n 2, 1) := by decide +kernel
theorem d_X_note_9 : decode c_X_note 9 = .ok (.invokestatic 45, 3) := by decide +kernel
theorem d_X_note_12 : decode c_X_note 12 = .ok (.ifCond .eq 10, 3) := by decide +kernel
theorem d_X_note_15 : decode c_X_note 15 = .ok (.iload_n 3, 1) := by decide +kernel
theorem d_X_note_16 : decode c_X_note 16 = .ok (.invokestatic 48, 3) := by decide +kernel
theorem d_X_note_19 : decode c_X_note 19 = .ok (.ifCond .ne 13, 3) := by decide +kernel
theorem d_X_note_22 : decode c_X_note 22 = .ok (.new 51, 3) := by decide +kernel
theorem d_X_note_25 : decode c_X_note 25 = .ok (.dup, 1) := by decide +kernel
theorem d_X_note_26 : decode c_X_note 26 = .ok (.ldc 53, 2) := by decide +kernel
theorem d_X_note_28 : decode c_X_note 28 = .ok (.invokespecial 55, 3) := by decide +kernel
theorem d_X_note_31 : decode c_X_note 31 = .ok (.athrow, 1) := by decide +kernel
theorem d_X_note_32 : decode c_X_note 32 = .ok (.aload_n 0, 1) := by decide +kernel
theorem d_X_note_33 : decode c_X_note 33 = .ok (.iload 4, 2) := by decide +kernel
theorem d_X_note_35 : decode c_X_note 35 = .ok (.invokevirtual 56, 3) := by decide +kernel
theorem d_X_note_38 : decode c_X_note 38 = .ok (.ifCond .eq 11, 3) := by decide +kernel
theorem d_X_note_41 : decode c_X_note 41 = .ok (.iload 5, 2) := by decide +kernel
theorem d_X_note_43 : decode c_X_note 43 = .ok (.invokestatic 59, 3) := by decide +kernel
theorem d_X_note_46 : decode c_X_note 46 = .ok (.ifCond .ne 13, 3) := by decide +kernel
theorem d_X_note_49 : decode c_X_note 49 = .ok (.new 62, 3) := by decide +kernel
theorem d_X_note_52 : decode c_X_note 52 = .ok (.dup, 1) := by decide +kernel
theorem d_X_note_53 : decode c_X_note 53 = .ok (.ldc 64, 2) := by decide +kernel
theorem d_X_note_55 : decode c_X_note 55 = .ok (.invokespecial 66, 3) := by decide +kernel
theorem d_X_note_58 : decode c_X_note 58 = .ok (.athrow, 1) := by decide +kernel
theorem d_X_note_59 : decode c_X_note 59 = .ok (.aload_n 0, 1) := by decide +kernel
theorem d_X_note_60 : decode c_X_note 60 = .ok (.getfield 10, 3) := by decide +kernel
theorem d_X_note_63 : decode c_X_note 63 = .ok (.getfield 67, 3) := by decide +kernel
theorem d_X_note_66 : decode c_X_note 66 = .ok (.bipush 100, 2) := by decide +kernel
theorem d_X_note_68 : decode c_X_note 68 = .ok (.if_icmp .lt 13, 3) := by decide +kernel
theorem d_X_note_71 : decode c_X_note 71 = .ok (.new 34, 3) := by decide +kernel
theorem d_X_note_74 : decode c_X_note 74 = .ok (.dup, 1) := by decide +kernel
theorem d_X_note_75 : decode c_X_note 75 = .ok (.ldc 70, 2) := by decide +kernel
theorem d_X_note_77 : decode c_X_note 77 = .ok (.invokespecial 38, 3) := by decide +kernel
theorem d_X_note_80 : decode c_X_note 80 = .ok (.athrow, 1) := by decide +kernel
theorem d_X_note_81 : decode c_X_note 81 = .ok (.new 72, 3) := by decide +kernel
theorem d_X_note_84 : decode c_X_note 84 = .ok (.dup, 1) := by decide +kernel
theorem d_X_note_85 : decode c_X_note 85 = .ok (.aload_n 0, 1) := by decide +kernel
theorem d_X_note_86 : decode c_X_note 86 = .ok (.getfield 10, 3) := by decide +kernel
theorem d_X_note_89 : decode c_X_note 89 = .ok (.getfield 67, 3) := by decide +kernel
theorem d_X_note_92 : decode c_X_note 92 = .ok (.iload_n 1, 1) := by decide +kernel
theorem d_X_note_93 : decode c_X_note 93 = .ok (.iload_n 2, 1) := by decide +kernel
theorem d_X_note_94 : decode c_X_note 94 = .ok (.iload_n 3, 1) := by decide +kernel
theorem d_X_note_95 : decode c_X_note 95 = .ok (.iload 4, 2) := by decide +kernel
theorem d_X_note_97 : decode c_X_note 97 = .ok (.iload 5, 2) := by decide +kernel
theorem d_X_note_99 : decode c_X_note 99 = .ok (.aload_n 0, 1) := by decide +kernel
theorem d_X_note_100 : decode c_X_note 100 = .ok (.getfield 74, 3) := by decide +kernel
theorem d_X_note_103 : decode c_X_note 103 = .ok (.invokespecial 77, 3) := by decide +kernel
theorem d_X_note_106 : decode c_X_note 106 = .ok (.astore 6, 2) := by decide +kernel
theorem d_X_note_108 : decode c_X_note 108 = .ok (.aload_n 0, 1) := by decide +kernel
theorem d_X_note_109 : decode c_X_note 109 = .ok (.getfield 10, 3) := by decide +kernel
theorem d_X_note_112 : decode c_X_note 112 = .ok (.aload 6, 2) := by decide +kernel
theorem d_X_note_114 : decode c_X_note 114 = .ok (.invokevirtual 80, 3) := by decide +kernel
theorem d_X_note_117 : decode c_X_note 117 = .ok (.aload 6, 2) := by decide +kernel
theorem d_X_note_119 : decode c_X_note 119 = .ok (.getfield 84, 3) := by decide +kernel
theorem d_X_note_122 : decode c_X_note 122 = .ok (.ireturn, 1) := by decide +kernel
theorem d_X_isWriter_0 : decode c_X_isWriter 0 = .ok (.iload_n 1, 1) := by decide +kernel
theorem d_X_isWriter_1 : decode c_X_isWriter 1 = .ok (.ifCond .lt 15, 3) := by decide +kernel
theorem d_X_isWriter_4 : decode c_X_isWriter 4 = .ok (.iload_n 1, 1) := by decide +kernel
theorem d_X_isWriter_5 : decode c_X_isWriter 5 = .ok (.aload_n 0, 1) := by decide +kernel
theorem d_X_isWriter_6 : decode c_X_isWriter 6 = .ok (.getfield 30, 3) := by decide +kernel
theorem d_X_isWriter_9 : decode c_X_isWriter 9 = .ok (.if_icmp .ge 7, 3) := by decide +kernel
theorem d_X_isWriter_12 : decode c_X_isWriter 12 = .ok (.iconst 1, 1) := by decide +kernel
theorem d_X_isWriter_13 : decode c_X_isWriter 13 = .ok (.goto 4, 3) := by decide +kernel
theorem d_X_isWriter_16 : decode c_X_isWriter 16 = .ok (.iconst 0, 1) := by decide +kernel
theorem d_X_isWriter_17 : decode c_X_isWriter 17 = .ok (.ireturn, 1) := by decide +kernel
theorem d_X_isKind_0 : decode c_X_isKind 0 = .ok (.iload_n 0, 1) := by decide +kernel
theorem d_X_isKind_1 : decode c_X_isKind 1 = .ok (.ifCond .lt 13, 3) := by decide +kernel
theorem d_X_isKind_4 : decode c_X_isKind 4 = .ok (.iload_n 0, 1) := by decide +kernel
theorem d_X_isKind_5 : decode c_X_isKind 5 = .ok (.bipush 6, 2) := by decide +kernel
theorem d_X_isKind_7 : decode c_X_isKind 7 = .ok (.if_icmp .ge 7, 3) := by decide +kernel
theorem d_X_isKind_10 : decode c_X_isKind 10 = .ok (.iconst 1, 1) := by decide +kernel
theorem d_X_isKind_11 : decode c_X_isKind 11 = .ok (.goto 4, 3) := by decide +kernel
theorem d_X_isKind_14 : decode c_X_isKind 14 = .ok (.iconst 0, 1) := by decide +kernel
theorem d_X_isKind_15 : decode c_X_isKind 15 = .ok (.ireturn, 1) := by decide +kernel
theorem d_X_isSector_0 : decode c_X_isSector 0 = .ok (.iload_n 0, 1) := by decide +kernel
theorem d_X_isSector_1 : decode c_X_isSector 1 = .ok (.ifCond .lt 13, 3) := by decide +kernel
theorem d_X_isSector_4 : decode c_X_isSector 4 = .ok (.iload_n 0, 1) := by decide +kernel
theorem d_X_isSector_5 : decode c_X_isSector 5 = .ok (.bipush 10, 2) := by decide +kernel
theorem d_X_isSector_7 : decode c_X_isSector 7 = .ok (.if_icmp .ge 7, 3) := by decide +kernel
theorem d_X_isSector_10 : decode c_X_isSector 10 = .ok (.iconst 1, 1) := by decide +kernel
theorem d_X_isSector_11 : decode c_X_isSector 11 = .ok (.goto 4, 3) := by decide +kernel
theorem d_X_isSector_14 : decode c_X_isSector 14 = .ok (.iconst 0, 1) := by decide +kernel
theorem d_X_isSector_15 : decode c_X_isSector 15 = .ok (.ireturn, 1) := by decide +kernel
theorem d_X_hasCome_0 : decode c_X_hasCome 0 = .ok (.iload_n 1, 1) := by decide +kernel
theorem d_X_hasCome_1 : decode c_X_hasCome 1 = .ok (.ifCond .lt 15, 3) := by decide +kernel
theorem d_X_hasCome_4 : decode c_X_hasCome 4 = .ok (.iload_n 1, 1) := by decide +kernel
theorem d_X_hasCome_5 : decode c_X_hasCome 5 = .ok (.aload_n 0, 1) := by decide +kernel
theorem d_X_hasCome_6 : decode c_X_hasCome 6 = .ok (.getfield 74, 3) := by decide +kernel
theorem d_X_hasCome_9 : decode c_X_hasCome 9 = .ok (.if_icmp .gt 7, 3) := by decide +kernel
theorem d_X_hasCome_12 : decode c_X_hasCome 12 = .ok (.iconst 1, 1) := by decide +kernel
theorem d_X_hasCome_13 : decode c_X_hasCome 13 = .ok (.goto 4, 3) := by decide +kernel
theorem d_X_hasCome_16 : decode c_X_hasCome 16 = .ok (.iconst 0, 1) := by decide +kernel
theorem d_X_hasCome_17 : decode c_X_hasCome 17 = .ok (.ireturn, 1) := by decide +kernel
theorem d_X_isValue_0 : decode c_X_isValue 0 = .ok (.iload_n 0, 1) := by decide +kernel
theorem d_X_isValue_1 : decode c_X_isValue 1 = .ok (.sipush (-9999), 3) := by decide +kernel
theorem d_X_isValue_4 : decode c_X_isValue 4 = .ok (.if_icmp .lt 14, 3) := by decide +kernel
theorem d_X_isValue_7 : decode c_X_isValue 7 = .ok (.iload_n 0, 1) := by decide +kernel
theorem d_X_isValue_8 : decode c_X_isValue 8 = .ok (.sipush 9999, 3) := by decide +kernel
theorem d_X_isValue_11 : decode c_X_isValue 11 = .ok (.if_icmp .gt 7, 3) := by decide +kernel
theorem d_X_isValue_14 : decode c_X_isValue 14 = .ok (.iconst 1, 1) := by decide +kernel
theorem d_X_isValue_15 : decode c_X_isValue 15 = .ok (.goto 4, 3) := by decide +kernel
theorem d_X_isValue_18 : decode c_X_isValue 18 = .ok (.iconst 0, 1) := by decide +kernel
theorem d_X_isValue_19 : decode c_X_isValue 19 = .ok (.ireturn, 1) := by decide +kernel
theorem d_X_correct_0 : decode c_X_correct 0 = .ok (.aload_n 0, 1) := by decide +kernel
theorem d_X_correct_1 : decode c_X_correct 1 = .ok (.iload_n 1, 1) := by decide +kernel
theorem d_X_correct_2 : decode c_X_correct 2 = .ok (.invokevirtual 87, 3) := by decide +kernel
theorem d_X_correct_5 : decode c_X_correct 5 = .ok (.astore_n 3, 1) := by decide +kernel
theorem d_X_correct_6 : decode c_X_correct 6 = .ok (.iload_n 2, 1) := by decide +kernel
theorem d_X_correct_7 : decode c_X_correct 7 = .ok (.invokestatic 59, 3) := by decide +kernel
theorem d_X_correct_10 : decode c_X_correct 10 = .ok (.ifCond .ne 13, 3) := by decide +kernel
theorem d_X_correct_13 : decode c_X_correct 13 = .ok (.new 62, 3) := by decide +kernel
theorem d_X_correct_16 : decode c_X_correct 16 = .ok (.dup, 1) := by decide +kernel
theorem d_X_correct_17 : decode c_X_correct 17 = .ok (.ldc 91, 2) := by decide +kernel
theorem d_X_correct_19 : decode c_X_correct 19 = .ok (.invokespecial 66, 3) := by decide +kernel
theorem d_X_correct_22 : decode c_X_correct 22 = .ok (.athrow, 1) := by decide +kernel
theorem d_X_correct_23 : decode c_X_correct 23 = .ok (.aload_n 3, 1) := by decide +kernel
theorem d_X_correct_24 : decode c_X_correct 24 = .ok (.getfield 93, 3) := by decide +kernel
theorem d_X_correct_27 : decode c_X_correct 27 = .ok (.getfield 97, 3) := by decide +kernel
theorem d_X_correct_30 : decode c_X_correct 30 = .ok (.ifCond .eq 13, 3) := by decide +kernel
theorem d_X_correct_33 : decode c_X_correct 33 = .ok (.new 103, 3) := by decide +kernel
theorem d_X_correct_36 : decode c_X_correct 36 = .ok (.dup, 1) := by decide +kernel
theorem d_X_correct_37 : decode c_X_correct 37 = .ok (.ldc 105, 2) := by decide +kernel
theorem d_X_correct_39 : decode c_X_correct 39 = .ok (.invokespecial 107, 3) := by decide +kernel
theorem d_X_correct_42 : decode c_X_correct 42 = .ok (.athrow, 1) := by decide +kernel
theorem d_X_correct_43 : decode c_X_correct 43 = .ok (.aload_n 0, 1) := by decide +kernel
theorem d_X_correct_44 : decode c_X_correct 44 = .ok (.invokevirtual 108, 3) := by decide +kernel
theorem d_X_correct_47 : decode c_X_correct 47 = .ok (.aload_n 3, 1) := by decide +kernel
theorem d_X_correct_48 : decode c_X_correct 48 = .ok (.aload_n 0, 1) := by decide +kernel
theorem d_X_correct_49 : decode c_X_correct 49 = .ok (.getfield 74, 3) := by decide +kernel
theorem d_X_correct_52 : decode c_X_correct 52 = .ok (.iload_n 2, 1) := by decide +kernel
theorem d_X_correct_53 : decode c_X_correct 53 = .ok (.invokevirtual 111, 3) := by decide +kernel
theorem d_X_correct_56 : decode c_X_correct 56 = .ok (.aload_n 0, 1) := by decide +kernel
theorem d_X_correct_57 : decode c_X_correct 57 = .ok (.dup, 1) := by decide +kernel
theorem d_X_correct_58 : decode c_X_correct 58 = .ok (.getfield 115, 3) := by decide +kernel
theorem d_X_correct_61 : decode c_X_correct 61 = .ok (.iconst 1, 1) := by decide +kernel
theorem d_X_correct_62 : decode c_X_correct 62 = .ok (.iadd, 1) := by decide +kernel
theorem d_X_correct_63 : decode c_X_correct 63 = .ok (.putfield 115, 3) := by decide +kernel
theorem d_X_correct_66 : decode c_X_correct 66 = .ok (.aload_n 3, 1) := by decide +kernel
theorem d_X_correct_67 : decode c_X_correct 67 = .ok (.getfield 118, 3) := by decide +kernel
theorem d_X_correct_70 : decode c_X_correct 70 = .ok (.ireturn, 1) := by decide +kernel
theorem d_X_noteOf_0 : decode c_X_noteOf 0 = .ok (.iload_n 1, 1) := by decide +kernel
theorem d_X_noteOf_1 : decode c_X_noteOf 1 = .ok (.ifCond .lt 14, 3) := by decide +kernel
theorem d_X_noteOf_4 : decode c_X_noteOf 4 = .ok (.iload_n 1, 1) := by decide +kernel
theorem d_X_noteOf_5 : decode c_X_noteOf 5 = .ok (.aload_n 0, 1) := by decide +kernel
theorem d_X_noteOf_6 : decode c_X_noteOf 6 = .ok (.getfield 10, 3) := by decide +kernel
theorem d_X_noteOf_9 : decode c_X_noteOf 9 = .ok (.getfield 67, 3) := by decide +kernel
theorem d_X_noteOf_12 : decode c_X_noteOf 12 = .ok (.if_icmp .lt 13, 3) := by decide +kernel
theorem d_X_noteOf_15 : decode c_X_noteOf 15 = .ok (.new 51, 3) := by decide +kernel
theorem d_X_noteOf_18 : decode c_X_noteOf 18 = .ok (.dup, 1) := by decide +kernel
theorem d_X_noteOf_19 : decode c_X_noteOf 19 = .ok (.ldc 229, 2) := by decide +kernel
theorem d_X_noteOf_21 : decode c_X_noteOf 21 = .ok (.invokespecial 55, 3) := by decide +kernel
theorem d_X_noteOf_24 : decode c_X_noteOf 24 = .ok (.athrow, 1) := by decide +kernel
theorem d_X_noteOf_25 : decode c_X_noteOf 25 = .ok (.aload_n 0, 1) := by decide +kernel
theorem d_X_noteOf_26 : decode c_X_noteOf 26 = .ok (.getfield 10, 3) := by decide +kernel
theorem d_X_noteOf_29 : decode c_X_noteOf 29 = .ok (.getfield 231, 3) := by decide +kernel
theorem d_X_noteOf_32 : decode c_X_noteOf 32 = .ok (.iload_n 1, 1) := by decide +kernel
theorem d_X_noteOf_33 : decode c_X_noteOf 33 = .ok (.aaload, 1) := by decide +kernel
theorem d_X_noteOf_34 : decode c_X_noteOf 34 = .ok (.areturn, 1) := by decide +kernel
theorem d_X_refuseActWithoutRoom_0 : decode c_X_refuseActWithoutRoom 0 = .ok (.aload_n 0, 1) := by decide +kernel
theorem d_X_refuseActWithoutRoom_1 : decode c_X_refuseActWithoutRoom 1 = .ok (.getfield 115, 3) := by decide +kernel
theorem d_X_refuseActWithoutRoom_4 : decode c_X_refuseActWithoutRoom 4 = .ok (.sipush 200, 3) := by decide +kernel
theorem d_X_refuseActWithoutRoom_7 : decode c_X_refuseActWithoutRoom 7 = .ok (.if_icmp .lt 13, 3) := by decide +kernel
theorem d_X_refuseActWithoutRoom_10 : decode c_X_refuseActWithoutRoom 10 = .ok (.new 34, 3) := by decide +kernel
theorem d_X_refuseActWithoutRoom_13 : decode c_X_refuseActWithoutRoom 13 = .ok (.dup, 1) := by decide +kernel
theorem d_X_refuseActWithoutRoom_14 : decode c_X_refuseActWithoutRoom 14 = .ok (.ldc 234, 2) := by decide +kernel
theorem d_X_refuseActWithoutRoom_16 : decode c_X_refuseActWithoutRoom 16 = .ok (.invokespecial 38, 3) := by decide +kernel
theorem d_X_refuseActWithoutRoom_19 : decode c_X_refuseActWithoutRoom 19 = .ok (.athrow, 1) := by decide +kernel
theorem d_X_refuseActWithoutRoom_20 : decode c_X_refuseActWithoutRoom 20 = .ok (.return_, 1) := by decide +kernel
theorem d_X_strike_0 : decode c_X_strike 0 = .ok (.aload_n 0, 1) := by decide +kernel
theorem d_X_strike_1 : decode c_X_strike 1 = .ok (.iload_n 1, 1) := by decide +kernel
theorem d_X_strike_2 : decode c_X_strike 2 = .ok (.invokevirtual 87, 3) := by decide +kernel
theorem d_X_strike_5 : decode c_X_strike 5 = .ok (.astore_n 3, 1) := by decide +kernel
theorem d_X_strike_6 : decode c_X_strike 6 = .ok (.aload_n 3, 1) := by decide +kernel
theorem d_X_strike_7 : decode c_X_strike 7 = .ok (.getfield 93, 3) := by decide +kernel
theorem d_X_strike_10 : decode c_X_strike 10 = .ok (.getfield 97, 3) := by decide +kernel
theorem d_X_strike_13 : decode c_X_strike 13 = .ok (.iload_n 2, 1) := by decide +kernel
theorem d_X_strike_14 : decode c_X_strike 14 = .ok (.if_icmp .ne 13, 3) := by decide +kernel
theorem d_X_strike_17 : decode c_X_strike 17 = .ok (.new 103, 3) := by decide +kernel
theorem d_X_strike_20 : decode c_X_strike 20 = .ok (.dup, 1) := by decide +kernel
theorem d_X_strike_21 : decode c_X_strike 21 = .ok (.ldc 121, 2) := by decide +kernel
theorem d_X_strike_23 : decode c_X_strike 23 = .ok (.invokespecial 107, 3) := by decide +kernel
theorem d_X_strike_26 : decode c_X_strike 26 = .ok (.athrow, 1) := by decide +kernel
theorem d_X_strike_27 : decode c_X_strike 27 = .ok (.aload_n 0, 1) := by decide +kernel
theorem d_X_strike_28 : decode c_X_strike 28 = .ok (.invokevirtual 108, 3) := by decide +kernel
theorem d_X_strike_31 : decode c_X_strike 31 = .ok (.aload_n 3, 1) := by decide +kernel
theorem d_X_strike_32 : decode c_X_strike 32 = .ok (.aload_n 0, 1) := by decide +kernel
theorem d_X_strike_33 : decode c_X_strike 33 = .ok (.getfield 74, 3) := by decide +kernel
theorem d_X_strike_36 : decode c_X_strike 36 = .ok (.iload_n 2, 1) := by decide +kernel
theorem d_X_strike_37 : decode c_X_strike 37 = .ok (.invokevirtual 123, 3) := by decide +kernel
theorem d_X_strike_40 : decode c_X_strike 40 = .ok (.aload_n 0, 1) := by decide +kernel
theorem d_X_strike_41 : decode c_X_strike 41 = .ok (.dup, 1) := by decide +kernel
theorem d_X_strike_42 : decode c_X_strike 42 = .ok (.getfield 115, 3) := by decide +kernel
theorem d_X_strike_45 : decode c_X_strike 45 = .ok (.iconst 1, 1) := by decide +kernel
theorem d_X_strike_46 : decode c_X_strike 46 = .ok (.iadd, 1) := by decide +kernel
theorem d_X_strike_47 : decode c_X_strike 47 = .ok (.putfield 115, 3) := by decide +kernel
theorem d_X_strike_50 : decode c_X_strike 50 = .ok (.return_, 1) := by decide +kernel
theorem d_X_ask_0 : decode c_X_ask 0 = .ok (.iload_n 3, 1) := by decide +kernel
theorem d_X_ask_1 : decode c_X_ask 1 = .ok (.iconst (-1), 1) := by decide +kernel
theorem d_X_ask_2 : decode c_X_ask 2 = .ok (.if_icmp .eq 10, 3) := by decide +kernel
theorem d_X_ask_5 : decode c_X_ask 5 = .ok (.iload_n 3, 1) := by decide +kernel
theorem d_X_ask_6 : decode c_X_ask 6 = .ok (.invokestatic 45, 3) := by decide +kernel
theorem d_X_ask_9 : decode c_X_ask 9 = .ok (.ifCond .eq 17, 3) := by decide +kernel
theorem d_X_ask_12 : decode c_X_ask 12 = .ok (.iload 4, 2) := by decide +kernel
theorem d_X_ask_14 : decode c_X_ask 14 = .ok (.iconst (-1), 1) := by decide +kernel
theorem d_X_ask_15 : decode c_X_ask 15 = .ok (.if_icmp .eq 21, 3) := by decide +kernel
theorem d_X_ask_18 : decode c_X_ask 18 = .ok (.iload 4, 2) := by decide +kernel
theorem d_X_ask_20 : decode c_X_ask 20 = .ok (.invokestatic 48, 3) := by decide +kernel
theorem d_X_ask_23 : decode c_X_ask 23 = .ok (.ifCond .ne 13, 3) := by decide +kernel
theorem d_X_ask_26 : decode c_X_ask 26 = .ok (.new 51, 3) := by decide +kernel
theorem d_X_ask_29 : decode c_X_ask 29 = .ok (.dup, 1) := by decide +kernel
theorem d_X_ask_30 : decode c_X_ask 30 = .ok (.ldc 127, 2) := by decide +kernel
theorem d_X_ask_32 : decode c_X_ask 32 = .ok (.invokespecial 55, 3) := by decide +kernel
theorem d_X_ask_35 : decode c_X_ask 35 = .ok (.athrow, 1) := by decide +kernel
theorem d_X_ask_36 : decode c_X_ask 36 = .ok (.aload_n 0, 1) := by decide +kernel
theorem d_X_ask_37 : decode c_X_ask 37 = .ok (.iload 5, 2) := by decide +kernel
theorem d_X_ask_39 : decode c_X_ask 39 = .ok (.invokevirtual 56, 3) := by decide +kernel
theorem d_X_ask_42 : decode c_X_ask 42 = .ok (.ifCond .ne 13, 3) := by decide +kernel
theorem d_X_ask_45 : decode c_X_ask 45 = .ok (.new 62, 3) := by decide +kernel
theorem d_X_ask_48 : decode c_X_ask 48 = .ok (.dup, 1) := by decide +kernel
theorem d_X_ask_49 : decode c_X_ask 49 = .ok (.ldc 129, 2) := by decide +kernel
theorem d_X_ask_51 : decode c_X_ask 51 = .ok (.invokespecial 66, 3) := by decide +kernel
theorem d_X_ask_54 : decode c_X_ask 54 = .ok (.athrow, 1) := by decide +kernel
theorem d_X_ask_55 : decode c_X_ask 55 = .ok (.aload_n 0, 1) := by decide +kernel
theorem d_X_ask_56 : decode c_X_ask 56 = .ok (.getfield 19, 3) := by decide +kernel
theorem d_X_ask_59 : decode c_X_ask 59 = .ok (.iload 5, 2) := by decide +kernel
theorem d_X_ask_61 : decode c_X_ask 61 = .ok (.invokevirtual 131, 3) := by decide +kernel
theorem d_X_ask_64 : decode c_X_ask 64 = .ok (.iconst 0, 1) := by decide +kernel
theorem d_X_ask_65 : decode c_X_ask 65 = .ok (.istore 6, 2) := by decide +kernel
theorem d_X_ask_67 : decode c_X_ask 67 = .ok (.iload 6, 2) := by decide +kernel
theorem d_X_ask_69 : decode c_X_ask 69 = .ok (.aload_n 0, 1) := by decide +kernel
theorem d_X_ask_70 : decode c_X_ask 70 = .ok (.getfield 10, 3) := by decide +kernel
theorem d_X_ask_73 : decode c_X_ask 73 = .ok (.getfield 67, 3) := by decide +kernel
theorem d_X_ask_76 : decode c_X_ask 76 = .ok (.if_icmp .ge 64, 3) := by decide +kernel
theorem d_X_ask_79 : decode c_X_ask 79 = .ok (.aload_n 0, 1) := by decide +kernel
theorem d_X_ask_80 : decode c_X_ask 80 = .ok (.getfield 10, 3) := by decide +kernel
theorem d_X_ask_83 : decode c_X_ask 83 = .ok (.getfield 135, 3) := by decide +kernel
theorem d_X_ask_86 : decode c_X_ask 86 = .ok (.iload 6, 2) := by decide +kernel
theorem d_X_ask_88 : decode c_X_ask 88 = .ok (.aaload, 1) := by decide +kernel
theorem d_X_ask_89 : decode c_X_ask 89 = .ok (.astore 7, 2) := by decide +kernel
theorem d_X_ask_91 : decode c_X_ask 91 = .ok (.aload 7, 2) := by decide +kernel
theorem d_X_ask_93 : decode c_X_ask 93 = .ok (.getfield 139, 3) := by decide +kernel
theorem d_X_ask_96 : decode c_X_ask 96 = .ok (.getfield 142, 3) := by decide +kernel
theorem d_X_ask_99 : decode c_X_ask 99 = .ok (.iload 5, 2) := by decide +kernel
theorem d_X_ask_101 : decode c_X_ask 101 = .ok (.if_icmp .gt 33, 3) := by decide +kernel
theorem d_X_ask_104 : decode c_X_ask 104 = .ok (.aload 7, 2) := by decide +kernel
theorem d_X_ask_106 : decode c_X_ask 106 = .ok (.iload_n 1, 1) := by decide +kernel
theorem d_X_ask_107 : decode c_X_ask 107 = .ok (.iload_n 2, 1) := by decide +kernel
theorem d_X_ask_108 : decode c_X_ask 108 = .ok (.invokevirtual 145, 3) := by decide +kernel
theorem d_X_ask_111 : decode c_X_ask 111 = .ok (.ifCond .eq 23, 3) := by decide +kernel
theorem d_X_ask_114 : decode c_X_ask 114 = .ok (.aload 7, 2) := by decide +kernel
theorem d_X_ask_116 : decode c_X_ask 116 = .ok (.iload_n 3, 1) := by decide +kernel
theorem d_X_ask_117 : decode c_X_ask 117 = .ok (.iload 4, 2) := by decide +kernel
theorem d_X_ask_119 : decode c_X_ask 119 = .ok (.invokevirtual 149, 3) := by decide +kernel
theorem d_X_ask_122 : decode c_X_ask 122 = .ok (.ifCond .eq 12, 3) := by decide +kernel
theorem d_X_ask_125 : decode c_X_ask 125 = .ok (.aload_n 0, 1) := by decide +kernel
theorem d_X_ask_126 : decode c_X_ask 126 = .ok (.getfield 19, 3) := by decide +kernel
theorem d_X_ask_129 : decode c_X_ask 129 = .ok (.aload 7, 2) := by decide +kernel
theorem d_X_ask_131 : decode c_X_ask 131 = .ok (.invokevirtual 152, 3) := by decide +kernel
theorem d_X_ask_134 : decode c_X_ask 134 = .ok (.iinc 6 1, 3) := by decide +kernel
theorem d_X_ask_137 : decode c_X_ask 137 = .ok (.goto (-70), 3) := by decide +kernel
theorem d_X_ask_140 : decode c_X_ask 140 = .ok (.aload_n 0, 1) := by decide +kernel
theorem d_X_ask_141 : decode c_X_ask 141 = .ok (.getfield 19, 3) := by decide +kernel
theorem d_X_ask_144 : decode c_X_ask 144 = .ok (.getfield 153, 3) := by decide +kernel
theorem d_X_ask_147 : decode c_X_ask 147 = .ok (.ireturn, 1) := by decide +kernel
theorem d_X_row_0 : decode c_X_row 0 = .ok (.iload_n 1, 1) := by decide +kernel
theorem d_X_row_1 : decode c_X_row 1 = .ok (.ifCond .lt 14, 3) := by decide +kernel
theorem d_X_row_4 : decode c_X_row 4 = .ok (.iload_n 1, 1) := by decide +kernel
theorem d_X_row_5 : decode c_X_row 5 = .ok (.aload_n 0, 1) := by decide +kernel
theorem d_X_row_6 : decode c_X_row 6 = .ok (.getfield 19, 3) := by decide +kernel
theorem d_X_row_9 : decode c_X_row 9 = .ok (.getfield 153, 3) := by decide +kernel
theorem d_X_row_12 : decode c_X_row 12 = .ok (.if_icmp .lt 13, 3) := by decide +kernel
theorem d_X_row_15 : decode c_X_row 15 = .ok (.new 51, 3) := by decide +kernel
theorem d_X_row_18 : decode c_X_row 18 = .ok (.dup, 1) := by decide +kernel
theorem d_X_row_19 : decode c_X_row 19 = .ok (.ldc 154, 2) := by decide +kernel
theorem d_X_row_21 : decode c_X_row 21 = .ok (.invokespecial 55, 3) := by decide +kernel
theorem d_X_row_24 : decode c_X_row 24 = .ok (.athrow, 1) := by decide +kernel
theorem d_X_row_25 : decode c_X_row 25 = .ok (.aload_n 0, 1) := by decide +kernel
theorem d_X_row_26 : decode c_X_row 26 = .ok (.getfield 19, 3) := by decide +kernel
theorem d_X_row_29 : decode c_X_row 29 = .ok (.getfield 156, 3) := by decide +kernel
theorem d_X_row_32 : decode c_X_row 32 = .ok (.iload_n 1, 1) := by decide +kernel
theorem d_X_row_33 : decode c_X_row 33 = .ok (.aaload, 1) := by decide +kernel
theorem d_X_row_34 : decode c_X_row 34 = .ok (.astore_n 3, 1) := by decide +kernel
theorem d_X_row_35 : decode c_X_row 35 = .ok (.iload_n 2, 1) := by decide +kernel
theorem d_X_row_36 : decode c_X_row 36 = .ok (.tableswitch 84 0 4 #[36, 41, 46, 61, 79], 36) := by decide +kernel
theorem d_X_row_72 : decode c_X_row 72 = .ok (.aload_n 3, 1) := by decide +kernel
theorem d_X_row_73 : decode c_X_row 73 = .ok (.getfield 84, 3) := by decide +kernel
theorem d_X_row_76 : decode c_X_row 76 = .ok (.ireturn, 1) := by decide +kernel
theorem d_X_row_77 : decode c_X_row 77 = .ok (.aload_n 3, 1) := by decide +kernel
theorem d_X_row_78 : decode c_X_row 78 = .ok (.getfield 159, 3) := by decide +kernel
theorem d_X_row_81 : decode c_X_row 81 = .ok (.ireturn, 1) := by decide +kernel
theorem d_X_row_82 : decode c_X_row 82 = .ok (.aload_n 3, 1) := by decide +kernel
theorem d_X_row_83 : decode c_X_row 83 = .ok (.aload_n 0, 1) := by decide +kernel
theorem d_X_row_84 : decode c_X_row 84 = .ok (.getfield 19, 3) := by decide +kernel
theorem d_X_row_87 : decode c_X_row 87 = .ok (.getfield 160, 3) := by decide +kernel
theorem d_X_row_90 : decode c_X_row 90 = .ok (.invokevirtual 163, 3) := by decide +kernel
theorem d_X_row_93 : decode c_X_row 93 = .ok (.getfield 167, 3) := by decide +kernel
theorem d_X_row_96 : decode c_X_row 96 = .ok (.ireturn, 1) := by decide +kernel
theorem d_X_row_97 : decode c_X_row 97 = .ok (.aload_n 3, 1) := by decide +kernel
theorem d_X_row_98 : decode c_X_row 98 = .ok (.aload_n 0, 1) := by decide +kernel
theorem d_X_row_99 : decode c_X_row 99 = .ok (.getfield 19, 3) := by decide +kernel
theorem d_X_row_102 : decode c_X_row 102 = .ok (.getfield 160, 3) := by decide +kernel
theorem d_X_row_105 : decode c_X_row 105 = .ok (.invokevirtual 163, 3) := by decide +kernel
theorem d_X_row_108 : decode c_X_row 108 = .ok (.getfield 97, 3) := by decide +kernel
theorem d_X_row_111 : decode c_X_row 111 = .ok (.invokestatic 170, 3) := by decide +kernel
theorem d_X_row_114 : decode c_X_row 114 = .ok (.ireturn, 1) := by decide +kernel
theorem d_X_row_115 : decode c_X_row 115 = .ok (.aload_n 3, 1) := by decide +kernel
theorem d_X_row_116 : decode c_X_row 116 = .ok (.getfield 174, 3) := by decide +kernel
theorem d_X_row_119 : decode c_X_row 119 = .ok (.ireturn, 1) := by decide +kernel
theorem d_X_row_120 : decode c_X_row 120 = .ok (.new 51, 3) := by decide +kernel
theorem d_X_row_123 : decode c_X_row 123 = .ok (.dup, 1) := by decide +kernel
theorem d_X_row_124 : decode c_X_row 124 = .ok (.ldc 177, 2) := by decide +kernel
theorem d_X_row_126 : decode c_X_row 126 = .ok (.invokespecial 55, 3) := by decide +kernel
theorem d_X_row_129 : decode c_X_row 129 = .ok (.athrow, 1) := by decide +kernel
theorem d_X_oneIf_0 : decode c_X_oneIf 0 = .ok (.iload_n 0, 1) := by decide +kernel
theorem d_X_oneIf_1 : decode c_X_oneIf 1 = .ok (.ifCond .eq 7, 3) := by decide +kernel
theorem d_X_oneIf_4 : decode c_X_oneIf 4 = .ok (.iconst 1, 1) := by decide +kernel
theorem d_X_oneIf_5 : decode c_X_oneIf 5 = .ok (.goto 4, 3) := by decide +kernel
theorem d_X_oneIf_8 : decode c_X_oneIf 8 = .ok (.iconst 0, 1) := by decide +kernel
theorem d_X_oneIf_9 : decode c_X_oneIf 9 = .ok (.ireturn, 1) := by decide +kernel
theorem d_X_reading_0 : decode c_X_reading 0 = .ok (.iload_n 1, 1) := by decide +kernel
theorem d_X_reading_1 : decode c_X_reading 1 = .ok (.invokestatic 48, 3) := by decide +kernel
theorem d_X_reading_4 : decode c_X_reading 4 = .ok (.ifCond .ne 13, 3) := by decide +kernel
theorem d_X_reading_7 : decode c_X_reading 7 = .ok (.new 51, 3) := by decide +kernel
theorem d_X_reading_10 : decode c_X_reading 10 = .ok (.dup, 1) := by decide +kernel
theorem d_X_reading_11 : decode c_X_reading 11 = .ok (.ldc 179, 2) := by decide +kernel
theorem d_X_reading_13 : decode c_X_reading 13 = .ok (.invokespecial 55, 3) := by decide +kernel
theorem d_X_reading_16 : decode c_X_reading 16 = .ok (.athrow, 1) := by decide +kernel
theorem d_X_reading_17 : decode c_X_reading 17 = .ok (.aload_n 0, 1) := by decide +kernel
theorem d_X_reading_18 : decode c_X_reading 18 = .ok (.iload_n 2, 1) := by decide +kernel
theorem d_X_reading_19 : decode c_X_reading 19 = .ok (.invokevirtual 56, 3) := by decide +kernel
theorem d_X_reading_22 : decode c_X_reading 22 = .ok (.ifCond .ne 13, 3) := by decide +kernel
theorem d_X_reading_25 : decode c_X_reading 25 = .ok (.new 62, 3) := by decide +kernel
theorem d_X_reading_28 : decode c_X_reading 28 = .ok (.dup, 1) := by decide +kernel
theorem d_X_reading_29 : decode c_X_reading 29 = .ok (.ldc 181, 2) := by decide +kernel
theorem d_X_reading_31 : decode c_X_reading 31 = .ok (.invokespecial 66, 3) := by decide +kernel
theorem d_X_reading_34 : decode c_X_reading 34 = .ok (.athrow, 1) := by decide +kernel
theorem d_X_reading_35 : decode c_X_reading 35 = .ok (.aload_n 0, 1) := by decide +kernel
theorem d_X_reading_36 : decode c_X_reading 36 = .ok (.getfield 10, 3) := by decide +kernel
theorem d_X_reading_39 : decode c_X_reading 39 = .ok (.iload_n 1, 1) := by decide +kernel
theorem d_X_reading_40 : decode c_X_reading 40 = .ok (.iload_n 2, 1) := by decide +kernel
theorem d_X_reading_41 : decode c_X_reading 41 = .ok (.invokevirtual 183, 3) := by decide +kernel
theorem d_X_reading_44 : decode c_X_reading 44 = .ok (.astore_n 3, 1) := by decide +kernel
theorem d_X_reading_45 : decode c_X_reading 45 = .ok (.aload_n 0, 1) := by decide +kernel
theorem d_X_reading_46 : decode c_X_reading 46 = .ok (.getfield 10, 3) := by decide +kernel
theorem d_X_reading_49 : decode c_X_reading 49 = .ok (.iload_n 1, 1) := by decide +kernel
theorem d_X_reading_50 : decode c_X_reading 50 = .ok (.iload_n 2, 1) := by decide +kernel
theorem d_X_reading_51 : decode c_X_reading 51 = .ok (.invokevirtual 187, 3) := by decide +kernel
theorem d_X_reading_54 : decode c_X_reading 54 = .ok (.astore 4, 2) := by decide +kernel
theorem d_X_reading_56 : decode c_X_reading 56 = .ok (.aload_n 3, 1) := by decide +kernel
theorem d_X_reading_57 : decode c_X_reading 57 = .ok (.ifnull 8, 3) := by decide +kernel
theorem d_X_reading_60 : decode c_X_reading 60 = .ok (.aload 4, 2) := by decide +kernel
theorem d_X_reading_62 : decode c_X_reading 62 = .ok (.ifnonnull 13, 3) := by decide +kernel
theorem d_X_reading_65 : decode c_X_reading 65 = .ok (.new 103, 3) := by decide +kernel
theorem d_X_reading_68 : decode c_X_reading 68 = .ok (.dup, 1) := by decide +kernel
theorem d_X_reading_69 : decode c_X_reading 69 = .ok (.ldc 190, 2) := by decide +kernel
theorem d_X_reading_71 : decode c_X_reading 71 = .ok (.invokespecial 107, 3) := by decide +kernel
theorem d_X_reading_74 : decode c_X_reading 74 = .ok (.athrow, 1) := by decide +kernel
theorem d_X_reading_75 : decode c_X_reading 75 = .ok (.aload_n 3, 1) := by decide +kernel
theorem d_X_reading_76 : decode c_X_reading 76 = .ok (.aload 4, 2) := by decide +kernel
theorem d_X_reading_78 : decode c_X_reading 78 = .ok (.iload_n 2, 1) := by decide +kernel
theorem d_X_reading_79 : decode c_X_reading 79 = .ok (.invokestatic 192, 3) := by decide +kernel
theorem d_X_reading_82 : decode c_X_reading 82 = .ok (.ireturn, 1) := by decide +kernel
theorem d_X_valueBetween_0 : decode c_X_valueBetween 0 = .ok (.aload_n 1, 1) := by decide +kernel
theorem d_X_valueBetween_1 : decode c_X_valueBetween 1 = .ok (.getfield 159, 3) := by decide +kernel
theorem d_X_valueBetween_4 : decode c_X_valueBetween 4 = .ok (.aload_n 0, 1) := by decide +kernel
theorem d_X_valueBetween_5 : decode c_X_valueBetween 5 = .ok (.getfield 159, 3) := by decide +kernel
theorem d_X_valueBetween_8 : decode c_X_valueBetween 8 = .ok (.isub, 1) := by decide +kernel
theorem d_X_valueBetween_9 : decode c_X_valueBetween 9 = .ok (.istore_n 3, 1) := by decide +kernel
theorem d_X_valueBetween_10 : decode c_X_valueBetween 10 = .ok (.iload_n 3, 1) := by decide +kernel
theorem d_X_valueBetween_11 : decode c_X_valueBetween 11 = .ok (.ifCond .gt 11, 3) := by decide +kernel
theorem d_X_valueBetween_14 : decode c_X_valueBetween 14 = .ok (.aload_n 0, 1) := by decide +kernel
theorem d_X_valueBetween_15 : decode c_X_valueBetween 15 = .ok (.getfield 93, 3) := by decide +kernel
theorem d_X_valueBetween_18 : decode c_X_valueBetween 18 = .ok (.getfield 167, 3) := by decide +kernel
theorem d_X_valueBetween_21 : decode c_X_valueBetween 21 = .ok (.ireturn, 1) := by decide +kernel
theorem d_X_valueBetween_22 : decode c_X_valueBetween 22 = .ok (.aload_n 1, 1) := by decide +kernel
theorem d_X_valueBetween_23 : decode c_X_valueBetween 23 = .ok (.getfield 93, 3) := by decide +kernel
theorem d_X_valueBetween_26 : decode c_X_valueBetween 26 = .ok (.getfield 167, 3) := by decide +kernel
theorem d_X_valueBetween_29 : decode c_X_valueBetween 29 = .ok (.aload_n 0, 1) := by decide +kernel
theorem d_X_valueBetween_30 : decode c_X_valueBetween 30 = .ok (.getfield 93, 3) := by decide +kernel
theorem d_X_valueBetween_33 : decode c_X_valueBetween 33 = .ok (.getfield 167, 3) := by decide +kernel
theorem d_X_valueBetween_36 : decode c_X_valueBetween 36 = .ok (.isub, 1) := by decide +kernel
theorem d_X_valueBetween_37 : decode c_X_valueBetween 37 = .ok (.iload_n 2, 1) := by decide +kernel
theorem d_X_valueBetween_38 : decode c_X_valueBetween 38 = .ok (.aload_n 0, 1) := by decide +kernel
theorem d_X_valueBetween_39 : decode c_X_valueBetween 39 = .ok (.getfield 159, 3) := by decide +kernel
theorem d_X_valueBetween_42 : decode c_X_valueBetween 42 = .ok (.isub, 1) := by decide +kernel
theorem d_X_valueBetween_43 : decode c_X_valueBetween 43 = .ok (.imul, 1) := by decide +kernel
theorem d_X_valueBetween_44 : decode c_X_valueBetween 44 = .ok (.istore 4, 2) := by decide +kernel
theorem d_X_valueBetween_46 : decode c_X_valueBetween 46 = .ok (.aload_n 0, 1) := by decide +kernel
theorem d_X_valueBetween_47 : decode c_X_valueBetween 47 = .ok (.getfield 93, 3) := by decide +kernel
theorem d_X_valueBetween_50 : decode c_X_valueBetween 50 = .ok (.getfield 167, 3) := by decide +kernel
theorem d_X_valueBetween_53 : decode c_X_valueBetween 53 = .ok (.iload 4, 2) := by decide +kernel
theorem d_X_valueBetween_55 : decode c_X_valueBetween 55 = .ok (.iload_n 3, 1) := by decide +kernel
theorem d_X_valueBetween_56 : decode c_X_valueBetween 56 = .ok (.invokestatic 236, 3) := by decide +kernel
theorem d_X_valueBetween_59 : decode c_X_valueBetween 59 = .ok (.iadd, 1) := by decide +kernel
theorem d_X_valueBetween_60 : decode c_X_valueBetween 60 = .ok (.ireturn, 1) := by decide +kernel
theorem d_X_gap_0 : decode c_X_gap 0 = .ok (.iload_n 1, 1) := by decide +kernel
theorem d_X_gap_1 : decode c_X_gap 1 = .ok (.ifCond .lt 13, 3) := by decide +kernel
theorem d_X_gap_4 : decode c_X_gap 4 = .ok (.iload_n 1, 1) := by decide +kernel
theorem d_X_gap_5 : decode c_X_gap 5 = .ok (.ldc 196, 2) := by decide +kernel
theorem d_X_gap_7 : decode c_X_gap 7 = .ok (.if_icmp .gt 7, 3) := by decide +kernel
theorem d_X_gap_10 : decode c_X_gap 10 = .ok (.iload_n 2, 1) := by decide +kernel
theorem d_X_gap_11 : decode c_X_gap 11 = .ok (.ifCond .ge 13, 3) := by decide +kernel
theorem d_X_gap_14 : decode c_X_gap 14 = .ok (.new 62, 3) := by decide +kernel
theorem d_X_gap_17 : decode c_X_gap 17 = .ok (.dup, 1) := by decide +kernel
theorem d_X_gap_18 : decode c_X_gap 18 = .ok (.ldc 197, 2) := by decide +kernel
theorem d_X_gap_20 : decode c_X_gap 20 = .ok (.invokespecial 66, 3) := by decide +kernel
theorem d_X_gap_23 : decode c_X_gap 23 = .ok (.athrow, 1) := by decide +kernel
theorem d_X_gap_24 : decode c_X_gap 24 = .ok (.aconst_null, 1) := by decide +kernel
theorem d_X_gap_25 : decode c_X_gap 25 = .ok (.astore_n 3, 1) := by decide +kernel
theorem d_X_gap_26 : decode c_X_gap 26 = .ok (.iload_n 2, 1) := by decide +kernel
theorem d_X_gap_27 : decode c_X_gap 27 = .ok (.istore 4, 2) := by decide +kernel
theorem d_X_gap_29 : decode c_X_gap 29 = .ok (.iconst 0, 1) := by decide +kernel
theorem d_X_gap_30 : decode c_X_gap 30 = .ok (.istore 5, 2) := by decide +kernel
theorem d_X_gap_32 : decode c_X_gap 32 = .ok (.iload 5, 2) := by decide +kernel
theorem d_X_gap_34 : decode c_X_gap 34 = .ok (.aload_n 0, 1) := by decide +kernel
theorem d_X_gap_35 : decode c_X_gap 35 = .ok (.getfield 10, 3) := by decide +kernel
theorem d_X_gap_38 : decode c_X_gap 38 = .ok (.getfield 67, 3) := by decide +kernel
theorem d_X_gap_41 : decode c_X_gap 41 = .ok (.if_icmp .ge 69, 3) := by decide +kernel
theorem d_X_gap_44 : decode c_X_gap 44 = .ok (.aload_n 0, 1) := by decide +kernel
theorem d_X_gap_45 : decode c_X_gap 45 = .ok (.getfield 10, 3) := by decide +kernel
theorem d_X_gap_48 : decode c_X_gap 48 = .ok (.getfield 135, 3) := by decide +kernel
theorem d_X_gap_51 : decode c_X_gap 51 = .ok (.iload 5, 2) := by decide +kernel
theorem d_X_gap_53 : decode c_X_gap 53 = .ok (.aaload, 1) := by decide +kernel
theorem d_X_gap_54 : decode c_X_gap 54 = .ok (.astore 6, 2) := by decide +kernel
theorem d_X_gap_56 : decode c_X_gap 56 = .ok (.aload 6, 2) := by decide +kernel
theorem d_X_gap_58 : decode c_X_gap 58 = .ok (.getfield 93, 3) := by decide +kernel
theorem d_X_gap_61 : decode c_X_gap 61 = .ok (.getfield 97, 3) := by decide +kernel
theorem d_X_gap_64 : decode c_X_gap 64 = .ok (.ifCond .eq 6, 3) := by decide +kernel
theorem d_X_gap_67 : decode c_X_gap 67 = .ok (.goto 37, 3) := by decide +kernel
theorem d_X_gap_70 : decode c_X_gap 70 = .ok (.aload_n 3, 1) := by decide +kernel
theorem d_X_gap_71 : decode c_X_gap 71 = .ok (.ifnull 30, 3) := by decide +kernel
theorem d_X_gap_74 : decode c_X_gap 74 = .ok (.aload 6, 2) := by decide +kernel
theorem d_X_gap_76 : decode c_X_gap 76 = .ok (.getfield 159, 3) := by decide +kernel
theorem d_X_gap_79 : decode c_X_gap 79 = .ok (.aload_n 3, 1) := by decide +kernel
theorem d_X_gap_80 : decode c_X_gap 80 = .ok (.getfield 159, 3) := by decide +kernel
theorem d_X_gap_83 : decode c_X_gap 83 = .ok (.isub, 1) := by decide +kernel
theorem d_X_gap_84 : decode c_X_gap 84 = .ok (.iload_n 1, 1) := by decide +kernel
theorem d_X_gap_85 : decode c_X_gap 85 = .ok (.if_icmp .le 16, 3) := by decide +kernel
theorem d_X_gap_88 : decode c_X_gap 88 = .ok (.iload 4, 2) := by decide +kernel
theorem d_X_gap_90 : decode c_X_gap 90 = .ok (.ifCond .ne 8, 3) := by decide +kernel
theorem d_X_gap_93 : decode c_X_gap 93 = .ok (.aload_n 3, 1) := by decide +kernel
theorem d_X_gap_94 : decode c_X_gap 94 = .ok (.getfield 84, 3) := by decide +kernel
theorem d_X_gap_97 : decode c_X_gap 97 = .ok (.ireturn, 1) := by decide +kernel
theorem d_X_gap_98 : decode c_X_gap 98 = .ok (.iinc 4 (-1), 3) := by decide +kernel
theorem d_X_gap_101 : decode c_X_gap 101 = .ok (.aload 6, 2) := by decide +kernel
theorem d_X_gap_103 : decode c_X_gap 103 = .ok (.astore_n 3, 1) := by decide +kernel
theorem d_X_gap_104 : decode c_X_gap 104 = .ok (.iinc 5 1, 3) := by decide +kernel
theorem d_X_gap_107 : decode c_X_gap 107 = .ok (.goto (-75), 3) := by decide +kernel
theorem d_X_gap_110 : decode c_X_gap 110 = .ok (.iconst (-1), 1) := by decide +kernel
theorem d_X_gap_111 : decode c_X_gap 111 = .ok (.ireturn, 1) := by decide +kernel
theorem d_X_digest_0 : decode c_X_digest 0 = .ok (.aload_n 0, 1) := by decide +kernel
theorem d_X_digest_1 : decode c_X_digest 1 = .ok (.iload_n 1, 1) := by decide +kernel
theorem d_X_digest_2 : decode c_X_digest 2 = .ok (.invokevirtual 87, 3) := by decide +kernel
theorem d_X_digest_5 : decode c_X_digest 5 = .ok (.getfield 199, 3) := by decide +kernel
theorem d_X_digest_8 : decode c_X_digest 8 = .ok (.ireturn, 1) := by decide +kernel
theorem d_X_noteAt_0 : decode c_X_noteAt 0 = .ok (.aload_n 0, 1) := by decide +kernel
theorem d_X_noteAt_1 : decode c_X_noteAt 1 = .ok (.iload_n 1, 1) := by decide +kernel
theorem d_X_noteAt_2 : decode c_X_noteAt 2 = .ok (.invokevirtual 87, 3) := by decide +kernel
theorem d_X_noteAt_5 : decode c_X_noteAt 5 = .ok (.astore_n 3, 1) := by decide +kernel
theorem d_X_noteAt_6 : decode c_X_noteAt 6 = .ok (.iload_n 2, 1) := by decide +kernel
theorem d_X_noteAt_7 : decode c_X_noteAt 7 = .ok (.tableswitch 73 0 4 #[33, 41, 46, 57, 65], 33) := by decide +kernel
theorem d_X_noteAt_40 : decode c_X_noteAt 40 = .ok (.aload_n 3, 1) := by decide +kernel
theorem d_X_noteAt_41 : decode c_X_noteAt 41 = .ok (.getfield 139, 3) := by decide +kernel
theorem d_X_noteAt_44 : decode c_X_noteAt 44 = .ok (.getfield 142, 3) := by decide +kernel
theorem d_X_noteAt_47 : decode c_X_noteAt 47 = .ok (.ireturn, 1) := by decide +kernel
theorem d_X_noteAt_48 : decode c_X_noteAt 48 = .ok (.aload_n 3, 1) := by decide +kernel
theorem d_X_noteAt_49 : decode c_X_noteAt 49 = .ok (.getfield 202, 3) := by decide +kernel
theorem d_X_noteAt_52 : decode c_X_noteAt 52 = .ok (.ireturn, 1) := by decide +kernel
theorem d_X_noteAt_53 : decode c_X_noteAt 53 = .ok (.aload_n 3, 1) := by decide +kernel
theorem d_X_noteAt_54 : decode c_X_noteAt 54 = .ok (.getfield 93, 3) := by decide +kernel
theorem d_X_noteAt_57 : decode c_X_noteAt 57 = .ok (.getfield 97, 3) := by decide +kernel
theorem d_X_noteAt_60 : decode c_X_noteAt 60 = .ok (.invokestatic 170, 3) := by decide +kernel
theorem d_X_noteAt_63 : decode c_X_noteAt 63 = .ok (.ireturn, 1) := by decide +kernel
theorem d_X_noteAt_64 : decode c_X_noteAt 64 = .ok (.aload_n 3, 1) := by decide +kernel
theorem d_X_noteAt_65 : decode c_X_noteAt 65 = .ok (.getfield 93, 3) := by decide +kernel
theorem d_X_noteAt_68 : decode c_X_noteAt 68 = .ok (.getfield 167, 3) := by decide +kernel
theorem d_X_noteAt_71 : decode c_X_noteAt 71 = .ok (.ireturn, 1) := by decide +kernel
theorem d_X_noteAt_72 : decode c_X_noteAt 72 = .ok (.aload_n 3, 1) := by decide +kernel
theorem d_X_noteAt_73 : decode c_X_noteAt 73 = .ok (.getfield 139, 3) := by decide +kernel
theorem d_X_noteAt_76 : decode c_X_noteAt 76 = .ok (.getfield 167, 3) := by decide +kernel
theorem d_X_noteAt_79 : decode c_X_noteAt 79 = .ok (.ireturn, 1) := by decide +kernel
theorem d_X_noteAt_80 : decode c_X_noteAt 80 = .ok (.new 51, 3) := by decide +kernel
theorem d_X_noteAt_83 : decode c_X_noteAt 83 = .ok (.dup, 1) := by decide +kernel
theorem d_X_noteAt_84 : decode c_X_noteAt 84 = .ok (.ldc 177, 2) := by decide +kernel
theorem d_X_noteAt_86 : decode c_X_noteAt 86 = .ok (.invokespecial 55, 3) := by decide +kernel
theorem d_X_noteAt_89 : decode c_X_noteAt 89 = .ok (.athrow, 1) := by decide +kernel
theorem d_X_print_0 : decode c_X_print 0 = .ok (.aload_n 0, 1) := by decide +kernel
theorem d_X_print_1 : decode c_X_print 1 = .ok (.getfield 19, 3) := by decide +kernel
theorem d_X_print_4 : decode c_X_print 4 = .ok (.getfield 203, 3) := by decide +kernel
theorem d_X_print_7 : decode c_X_print 7 = .ok (.ifCond .ne 13, 3) := by decide +kernel
theorem d_X_print_10 : decode c_X_print 10 = .ok (.new 103, 3) := by decide +kernel
theorem d_X_print_13 : decode c_X_print 13 = .ok (.dup, 1) := by decide +kernel
theorem d_X_print_14 : decode c_X_print 14 = .ok (.ldc 206, 2) := by decide +kernel
theorem d_X_print_16 : decode c_X_print 16 = .ok (.invokespecial 107, 3) := by decide +kernel
theorem d_X_print_19 : decode c_X_print 19 = .ok (.athrow, 1) := by decide +kernel
theorem d_X_print_20 : decode c_X_print 20 = .ok (.aload_n 0, 1) := by decide +kernel
theorem d_X_print_21 : decode c_X_print 21 = .ok (.getfield 26, 3) := by decide +kernel
theorem d_X_print_24 : decode c_X_print 24 = .ok (.aload_n 0, 1) := by decide +kernel
theorem d_X_print_25 : decode c_X_print 25 = .ok (.getfield 19, 3) := by decide +kernel
theorem d_X_print_28 : decode c_X_print 28 = .ok (.getfield 153, 3) := by decide +kernel
theorem d_X_print_31 : decode c_X_print 31 = .ok (.invokevirtual 208, 3) := by decide +kernel
theorem d_X_print_34 : decode c_X_print 34 = .ok (.iconst 0, 1) := by decide +kernel
theorem d_X_print_35 : decode c_X_print 35 = .ok (.istore_n 1, 1) := by decide +kernel
theorem d_X_print_36 : decode c_X_print 36 = .ok (.iload_n 1, 1) := by decide +kernel
theorem d_X_print_37 : decode c_X_print 37 = .ok (.aload_n 0, 1) := by decide +kernel
theorem d_X_print_38 : decode c_X_print 38 = .ok (.getfield 19, 3) := by decide +kernel
theorem d_X_print_41 : decode c_X_print 41 = .ok (.getfield 153, 3) := by decide +kernel
theorem d_X_print_44 : decode c_X_print 44 = .ok (.if_icmp .ge 38, 3) := by decide +kernel
theorem d_X_print_47 : decode c_X_print 47 = .ok (.aload_n 0, 1) := by decide +kernel
theorem d_X_print_48 : decode c_X_print 48 = .ok (.getfield 19, 3) := by decide +kernel
theorem d_X_print_51 : decode c_X_print 51 = .ok (.getfield 156, 3) := by decide +kernel
theorem d_X_print_54 : decode c_X_print 54 = .ok (.iload_n 1, 1) := by decide +kernel
theorem d_X_print_55 : decode c_X_print 55 = .ok (.aaload, 1) := by decide +kernel
theorem d_X_print_56 : decode c_X_print 56 = .ok (.astore_n 2, 1) := by decide +kernel
theorem d_X_print_57 : decode c_X_print 57 = .ok (.aload_n 0, 1) := by decide +kernel
theorem d_X_print_58 : decode c_X_print 58 = .ok (.getfield 26, 3) := by decide +kernel
theorem d_X_print_61 : decode c_X_print 61 = .ok (.aload_n 2, 1) := by decide +kernel
theorem d_X_print_62 : decode c_X_print 62 = .ok (.aload_n 2, 1) := by decide +kernel
theorem d_X_print_63 : decode c_X_print 63 = .ok (.aload_n 0, 1) := by decide +kernel
theorem d_X_print_64 : decode c_X_print 64 = .ok (.getfield 19, 3) := by decide +kernel
theorem d_X_print_67 : decode c_X_print 67 = .ok (.getfield 160, 3) := by decide +kernel
theorem d_X_print_70 : decode c_X_print 70 = .ok (.invokevirtual 163, 3) := by decide +kernel
theorem d_X_print_73 : decode c_X_print 73 = .ok (.invokevirtual 209, 3) := by decide +kernel
theorem d_X_print_76 : decode c_X_print 76 = .ok (.iinc 1 1, 3) := by decide +kernel
theorem d_X_print_79 : decode c_X_print 79 = .ok (.goto (-43), 3) := by decide +kernel
theorem d_X_print_82 : decode c_X_print 82 = .ok (.aload_n 0, 1) := by decide +kernel
theorem d_X_print_83 : decode c_X_print 83 = .ok (.getfield 26, 3) := by decide +kernel
theorem d_X_print_86 : decode c_X_print 86 = .ok (.getfield 213, 3) := by decide +kernel
theorem d_X_print_89 : decode c_X_print 89 = .ok (.ireturn, 1) := by decide +kernel
theorem d_X_at_0 : decode c_X_at 0 = .ok (.iload_n 1, 1) := by decide +kernel
theorem d_X_at_1 : decode c_X_at 1 = .ok (.ifCond .ge 13, 3) := by decide +kernel
theorem d_X_at_4 : decode c_X_at 4 = .ok (.new 62, 3) := by decide +kernel
theorem d_X_at_7 : decode c_X_at 7 = .ok (.dup, 1) := by decide +kernel
theorem d_X_at_8 : decode c_X_at 8 = .ok (.ldc 214, 2) := by decide +kernel
theorem d_X_at_10 : decode c_X_at 10 = .ok (.invokespecial 66, 3) := by decide +kernel
theorem d_X_at_13 : decode c_X_at 13 = .ok (.athrow, 1) := by decide +kernel
theorem d_X_at_14 : decode c_X_at 14 = .ok (.iload_n 1, 1) := by decide +kernel
theorem d_X_at_15 : decode c_X_at 15 = .ok (.aload_n 0, 1) := by decide +kernel
theorem d_X_at_16 : decode c_X_at 16 = .ok (.getfield 26, 3) := by decide +kernel
theorem d_X_at_19 : decode c_X_at 19 = .ok (.getfield 213, 3) := by decide +kernel
theorem d_X_at_22 : decode c_X_at 22 = .ok (.if_icmp .ge 15, 3) := by decide +kernel
theorem d_X_at_25 : decode c_X_at 25 = .ok (.aload_n 0, 1) := by decide +kernel
theorem d_X_at_26 : decode c_X_at 26 = .ok (.getfield 26, 3) := by decide +kernel
theorem d_X_at_29 : decode c_X_at 29 = .ok (.getfield 216, 3) := by decide +kernel
theorem d_X_at_32 : decode c_X_at 32 = .ok (.iload_n 1, 1) := by decide +kernel
theorem d_X_at_33 : decode c_X_at 33 = .ok (.baload, 1) := by decide +kernel
theorem d_X_at_34 : decode c_X_at 34 = .ok (.goto 4, 3) := by decide +kernel
theorem d_X_at_37 : decode c_X_at 37 = .ok (.iconst (-1), 1) := by decide +kernel
theorem d_X_at_38 : decode c_X_at 38 = .ok (.ireturn, 1) := by decide +kernel
theorem d_X_tick_0 : decode c_X_tick 0 = .ok (.iload_n 1, 1) := by decide +kernel
theorem d_X_tick_1 : decode c_X_tick 1 = .ok (.iconst 1, 1) := by decide +kernel
theorem d_X_tick_2 : decode c_X_tick 2 = .ok (.if_icmp .lt 21, 3) := by decide +kernel
theorem d_X_tick_5 : decode c_X_tick 5 = .ok (.iload_n 1, 1) := by decide +kernel
theorem d_X_tick_6 : decode c_X_tick 6 = .ok (.sipush 5000, 3) := by decide +kernel
theorem d_X_tick_9 : decode c_X_tick 9 = .ok (.if_icmp .gt 14, 3) := by decide +kernel
theorem d_X_tick_12 : decode c_X_tick 12 = .ok (.iload_n 1, 1) := by decide +kernel
theorem d_X_tick_13 : decode c_X_tick 13 = .ok (.ldc 196, 2) := by decide +kernel
theorem d_X_tick_15 : decode c_X_tick 15 = .ok (.aload_n 0, 1) := by decide +kernel
theorem d_X_tick_16 : decode c_X_tick 16 = .ok (.getfield 74, 3) := by decide +kernel
theorem d_X_tick_19 : decode c_X_tick 19 = .ok (.isub, 1) := by decide +kernel
theorem d_X_tick_20 : decode c_X_tick 20 = .ok (.if_icmp .le 13, 3) := by decide +kernel
theorem d_X_tick_23 : decode c_X_tick 23 = .ok (.new 62, 3) := by decide +kernel
theorem d_X_tick_26 : decode c_X_tick 26 = .ok (.dup, 1) := by decide +kernel
theorem d_X_tick_27 : decode c_X_tick 27 = .ok (.ldc 220, 2) := by decide +kernel
theorem d_X_tick_29 : decode c_X_tick 29 = .ok (.invokespecial 66, 3) := by decide +kernel
theorem d_X_tick_32 : decode c_X_tick 32 = .ok (.athrow, 1) := by decide +kernel
theorem d_X_tick_33 : decode c_X_tick 33 = .ok (.aload_n 0, 1) := by decide +kernel
theorem d_X_tick_34 : decode c_X_tick 34 = .ok (.dup, 1) := by decide +kernel
theorem d_X_tick_35 : decode c_X_tick 35 = .ok (.getfield 74, 3) := by decide +kernel
theorem d_X_tick_38 : decode c_X_tick 38 = .ok (.iload_n 1, 1) := by decide +kernel
theorem d_X_tick_39 : decode c_X_tick 39 = .ok (.iadd, 1) := by decide +kernel
theorem d_X_tick_40 : decode c_X_tick 40 = .ok (.putfield 74, 3) := by decide +kernel
theorem d_X_tick_43 : decode c_X_tick 43 = .ok (.aload_n 0, 1) := by decide +kernel
theorem d_X_tick_44 : decode c_X_tick 44 = .ok (.getfield 74, 3) := by decide +kernel
theorem d_X_tick_47 : decode c_X_tick 47 = .ok (.ireturn, 1) := by decide +kernel
theorem d_X_count_0 : decode c_X_count 0 = .ok (.iload_n 1, 1) := by decide +kernel
theorem d_X_count_1 : decode c_X_count 1 = .ok (.tableswitch 69 0 4 #[35, 40, 48, 53, 61], 35) := by decide +kernel
theorem d_X_count_36 : decode c_X_count 36 = .ok (.aload_n 0, 1) := by decide +kernel
theorem d_X_count_37 : decode c_X_count 37 = .ok (.getfield 30, 3) := by decide +kernel
theorem d_X_count_40 : decode c_X_count 40 = .ok (.ireturn, 1) := by decide +kernel
theorem d_X_count_41 : decode c_X_count 41 = .ok (.aload_n 0, 1) := by decide +kernel
theorem d_X_count_42 : decode c_X_count 42 = .ok (.getfield 10, 3) := by decide +kernel
theorem d_X_count_45 : decode c_X_count 45 = .ok (.getfield 67, 3) := by decide +kernel
theorem d_X_count_48 : decode c_X_count 48 = .ok (.ireturn, 1) := by decide +kernel
theorem d_X_count_49 : decode c_X_count 49 = .ok (.aload_n 0, 1) := by decide +kernel
theorem d_X_count_50 : decode c_X_count 50 = .ok (.getfield 115, 3) := by decide +kernel
theorem d_X_count_53 : decode c_X_count 53 = .ok (.ireturn, 1) := by decide +kernel
theorem d_X_count_54 : decode c_X_count 54 = .ok (.aload_n 0, 1) := by decide +kernel
theorem d_X_count_55 : decode c_X_count 55 = .ok (.getfield 10, 3) := by decide +kernel
theorem d_X_count_58 : decode c_X_count 58 = .ok (.invokevirtual 222, 3) := by decide +kernel
theorem d_X_count_61 : decode c_X_count 61 = .ok (.ireturn, 1) := by decide +kernel
theorem d_X_count_62 : decode c_X_count 62 = .ok (.aload_n 0, 1) := by decide +kernel
theorem d_X_count_63 : decode c_X_count 63 = .ok (.getfield 10, 3) := by decide +kernel
theorem d_X_count_66 : decode c_X_count 66 = .ok (.invokevirtual 226, 3) := by decide +kernel
theorem d_X_count_69 : decode c_X_count 69 = .ok (.ireturn, 1) := by decide +kernel
theorem d_X_count_70 : decode c_X_count 70 = .ok (.new 51, 3) := by decide +kernel
theorem d_X_count_73 : decode c_X_count 73 = .ok (.dup, 1) := by decide +kernel
theorem d_X_count_74 : decode c_X_count 74 = .ok (.ldc 177, 2) := by decide +kernel
theorem d_X_count_76 : decode c_X_count 76 = .ok (.invokespecial 55, 3) := by decide +kernel
theorem d_X_count_79 : decode c_X_count 79 = .ok (.athrow, 1) := by decide +kernel

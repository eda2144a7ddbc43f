/-! decode rows, printed by wip/gen/names.py -/
theorem d_W_writer_0 : decode c_W_writer 0 = .ok (.aload_n 1, 1) := by decide +kernel
theorem d_W_writer_1 : decode c_W_writer 1 = .ok (.iconst 0, 1) := by decide +kernel
theorem d_W_writer_2 : decode c_W_writer 2 = .ok (.aload_n 0, 1) := by decide +kernel
theorem d_W_writer_3 : decode c_W_writer 3 = .ok (.invokevirtual 7, 3) := by decide +kernel
theorem d_W_writer_6 : decode c_W_writer 6 = .ok (.i2l, 1) := by decide +kernel
theorem d_W_writer_7 : decode c_W_writer 7 = .ok (.lastore, 1) := by decide +kernel
theorem d_W_writer_8 : decode c_W_writer 8 = .ok (.goto 6, 3) := by decide +kernel
theorem d_W_writer_11 : decode c_W_writer 11 = .ok (.astore_n 2, 1) := by decide +kernel
theorem d_W_writer_12 : decode c_W_writer 12 = .ok (.iconst 1, 1) := by decide +kernel
theorem d_W_writer_13 : decode c_W_writer 13 = .ok (.ireturn, 1) := by decide +kernel
theorem d_W_writer_14 : decode c_W_writer 14 = .ok (.iconst 0, 1) := by decide +kernel
theorem d_W_writer_15 : decode c_W_writer 15 = .ok (.ireturn, 1) := by decide +kernel
theorem d_W_note_0 : decode c_W_note 0 = .ok (.aload 6, 2) := by decide +kernel
theorem d_W_note_2 : decode c_W_note 2 = .ok (.iconst 0, 1) := by decide +kernel
theorem d_W_note_3 : decode c_W_note 3 = .ok (.aload_n 0, 1) := by decide +kernel
theorem d_W_note_4 : decode c_W_note 4 = .ok (.iload_n 1, 1) := by decide +kernel
theorem d_W_note_5 : decode c_W_note 5 = .ok (.iload_n 2, 1) := by decide +kernel
theorem d_W_note_6 : decode c_W_note 6 = .ok (.iload_n 3, 1) := by decide +kernel
theorem d_W_note_7 : decode c_W_note 7 = .ok (.iload 4, 2) := by decide +kernel
theorem d_W_note_9 : decode c_W_note 9 = .ok (.iload 5, 2) := by decide +kernel
theorem d_W_note_11 : decode c_W_note 11 = .ok (.invokevirtual 15, 3) := by decide +kernel
theorem d_W_note_14 : decode c_W_note 14 = .ok (.i2l, 1) := by decide +kernel
theorem d_W_note_15 : decode c_W_note 15 = .ok (.lastore, 1) := by decide +kernel
theorem d_W_note_16 : decode c_W_note 16 = .ok (.goto 15, 3) := by decide +kernel
theorem d_W_note_19 : decode c_W_note 19 = .ok (.astore 7, 2) := by decide +kernel
theorem d_W_note_21 : decode c_W_note 21 = .ok (.iconst 1, 1) := by decide +kernel
theorem d_W_note_22 : decode c_W_note 22 = .ok (.ireturn, 1) := by decide +kernel
theorem d_W_note_23 : decode c_W_note 23 = .ok (.astore 7, 2) := by decide +kernel
theorem d_W_note_25 : decode c_W_note 25 = .ok (.iconst 2, 1) := by decide +kernel
theorem d_W_note_26 : decode c_W_note 26 = .ok (.ireturn, 1) := by decide +kernel
theorem d_W_note_27 : decode c_W_note 27 = .ok (.astore 7, 2) := by decide +kernel
theorem d_W_note_29 : decode c_W_note 29 = .ok (.iconst 3, 1) := by decide +kernel
theorem d_W_note_30 : decode c_W_note 30 = .ok (.ireturn, 1) := by decide +kernel
theorem d_W_note_31 : decode c_W_note 31 = .ok (.iconst 0, 1) := by decide +kernel
theorem d_W_note_32 : decode c_W_note 32 = .ok (.ireturn, 1) := by decide +kernel
theorem d_W_correct_0 : decode c_W_correct 0 = .ok (.aload_n 3, 1) := by decide +kernel
theorem d_W_correct_1 : decode c_W_correct 1 = .ok (.iconst 0, 1) := by decide +kernel
theorem d_W_correct_2 : decode c_W_correct 2 = .ok (.aload_n 0, 1) := by decide +kernel
theorem d_W_correct_3 : decode c_W_correct 3 = .ok (.iload_n 1, 1) := by decide +kernel
theorem d_W_correct_4 : decode c_W_correct 4 = .ok (.iload_n 2, 1) := by decide +kernel
theorem d_W_correct_5 : decode c_W_correct 5 = .ok (.invokevirtual 23, 3) := by decide +kernel
theorem d_W_correct_8 : decode c_W_correct 8 = .ok (.i2l, 1) := by decide +kernel
theorem d_W_correct_9 : decode c_W_correct 9 = .ok (.lastore, 1) := by decide +kernel
theorem d_W_correct_10 : decode c_W_correct 10 = .ok (.goto 19, 3) := by decide +kernel
theorem d_W_correct_13 : decode c_W_correct 13 = .ok (.astore 4, 2) := by decide +kernel
theorem d_W_correct_15 : decode c_W_correct 15 = .ok (.iconst 1, 1) := by decide +kernel
theorem d_W_correct_16 : decode c_W_correct 16 = .ok (.ireturn, 1) := by decide +kernel
theorem d_W_correct_17 : decode c_W_correct 17 = .ok (.astore 4, 2) := by decide +kernel
theorem d_W_correct_19 : decode c_W_correct 19 = .ok (.iconst 2, 1) := by decide +kernel
theorem d_W_correct_20 : decode c_W_correct 20 = .ok (.ireturn, 1) := by decide +kernel
theorem d_W_correct_21 : decode c_W_correct 21 = .ok (.astore 4, 2) := by decide +kernel
theorem d_W_correct_23 : decode c_W_correct 23 = .ok (.iconst 3, 1) := by decide +kernel
theorem d_W_correct_24 : decode c_W_correct 24 = .ok (.ireturn, 1) := by decide +kernel
theorem d_W_correct_25 : decode c_W_correct 25 = .ok (.astore 4, 2) := by decide +kernel
theorem d_W_correct_27 : decode c_W_correct 27 = .ok (.iconst 4, 1) := by decide +kernel
theorem d_W_correct_28 : decode c_W_correct 28 = .ok (.ireturn, 1) := by decide +kernel
theorem d_W_correct_29 : decode c_W_correct 29 = .ok (.iconst 0, 1) := by decide +kernel
theorem d_W_correct_30 : decode c_W_correct 30 = .ok (.ireturn, 1) := by decide +kernel
theorem d_W_strike_0 : decode c_W_strike 0 = .ok (.aload_n 0, 1) := by decide +kernel
theorem d_W_strike_1 : decode c_W_strike 1 = .ok (.iload_n 1, 1) := by decide +kernel
theorem d_W_strike_2 : decode c_W_strike 2 = .ok (.iload_n 2, 1) := by decide +kernel
theorem d_W_strike_3 : decode c_W_strike 3 = .ok (.invokevirtual 29, 3) := by decide +kernel
theorem d_W_strike_6 : decode c_W_strike 6 = .ok (.goto 12, 3) := by decide +kernel
theorem d_W_strike_9 : decode c_W_strike 9 = .ok (.astore_n 3, 1) := by decide +kernel
theorem d_W_strike_10 : decode c_W_strike 10 = .ok (.iconst 1, 1) := by decide +kernel
theorem d_W_strike_11 : decode c_W_strike 11 = .ok (.ireturn, 1) := by decide +kernel
theorem d_W_strike_12 : decode c_W_strike 12 = .ok (.astore_n 3, 1) := by decide +kernel
theorem d_W_strike_13 : decode c_W_strike 13 = .ok (.iconst 2, 1) := by decide +kernel
theorem d_W_strike_14 : decode c_W_strike 14 = .ok (.ireturn, 1) := by decide +kernel
theorem d_W_strike_15 : decode c_W_strike 15 = .ok (.astore_n 3, 1) := by decide +kernel
theorem d_W_strike_16 : decode c_W_strike 16 = .ok (.iconst 3, 1) := by decide +kernel
theorem d_W_strike_17 : decode c_W_strike 17 = .ok (.ireturn, 1) := by decide +kernel
theorem d_W_strike_18 : decode c_W_strike 18 = .ok (.iconst 0, 1) := by decide +kernel
theorem d_W_strike_19 : decode c_W_strike 19 = .ok (.ireturn, 1) := by decide +kernel
theorem d_W_ask_0 : decode c_W_ask 0 = .ok (.aload 6, 2) := by decide +kernel
theorem d_W_ask_2 : decode c_W_ask 2 = .ok (.iconst 0, 1) := by decide +kernel
theorem d_W_ask_3 : decode c_W_ask 3 = .ok (.aload_n 0, 1) := by decide +kernel
theorem d_W_ask_4 : decode c_W_ask 4 = .ok (.iload_n 1, 1) := by decide +kernel
theorem d_W_ask_5 : decode c_W_ask 5 = .ok (.iload_n 2, 1) := by decide +kernel
theorem d_W_ask_6 : decode c_W_ask 6 = .ok (.iload_n 3, 1) := by decide +kernel
theorem d_W_ask_7 : decode c_W_ask 7 = .ok (.iload 4, 2) := by decide +kernel
theorem d_W_ask_9 : decode c_W_ask 9 = .ok (.iload 5, 2) := by decide +kernel
theorem d_W_ask_11 : decode c_W_ask 11 = .ok (.invokevirtual 33, 3) := by decide +kernel
theorem d_W_ask_14 : decode c_W_ask 14 = .ok (.i2l, 1) := by decide +kernel
theorem d_W_ask_15 : decode c_W_ask 15 = .ok (.lastore, 1) := by decide +kernel
theorem d_W_ask_16 : decode c_W_ask 16 = .ok (.goto 11, 3) := by decide +kernel
theorem d_W_ask_19 : decode c_W_ask 19 = .ok (.astore 7, 2) := by decide +kernel
theorem d_W_ask_21 : decode c_W_ask 21 = .ok (.iconst 1, 1) := by decide +kernel
theorem d_W_ask_22 : decode c_W_ask 22 = .ok (.ireturn, 1) := by decide +kernel
theorem d_W_ask_23 : decode c_W_ask 23 = .ok (.astore 7, 2) := by decide +kernel
theorem d_W_ask_25 : decode c_W_ask 25 = .ok (.iconst 2, 1) := by decide +kernel
theorem d_W_ask_26 : decode c_W_ask 26 = .ok (.ireturn, 1) := by decide +kernel
theorem d_W_ask_27 : decode c_W_ask 27 = .ok (.iconst 0, 1) := by decide +kernel
theorem d_W_ask_28 : decode c_W_ask 28 = .ok (.ireturn, 1) := by decide +kernel
theorem d_W_row_0 : decode c_W_row 0 = .ok (.aload_n 3, 1) := by decide +kernel
theorem d_W_row_1 : decode c_W_row 1 = .ok (.iconst 0, 1) := by decide +kernel
theorem d_W_row_2 : decode c_W_row 2 = .ok (.aload_n 0, 1) := by decide +kernel
theorem d_W_row_3 : decode c_W_row 3 = .ok (.iload_n 1, 1) := by decide +kernel
theorem d_W_row_4 : decode c_W_row 4 = .ok (.iload_n 2, 1) := by decide +kernel
theorem d_W_row_5 : decode c_W_row 5 = .ok (.invokevirtual 36, 3) := by decide +kernel
theorem d_W_row_8 : decode c_W_row 8 = .ok (.i2l, 1) := by decide +kernel
theorem d_W_row_9 : decode c_W_row 9 = .ok (.lastore, 1) := by decide +kernel
theorem d_W_row_10 : decode c_W_row 10 = .ok (.goto 7, 3) := by decide +kernel
theorem d_W_row_13 : decode c_W_row 13 = .ok (.astore 4, 2) := by decide +kernel
theorem d_W_row_15 : decode c_W_row 15 = .ok (.iconst 1, 1) := by decide +kernel
theorem d_W_row_16 : decode c_W_row 16 = .ok (.ireturn, 1) := by decide +kernel
theorem d_W_row_17 : decode c_W_row 17 = .ok (.iconst 0, 1) := by decide +kernel
theorem d_W_row_18 : decode c_W_row 18 = .ok (.ireturn, 1) := by decide +kernel
theorem d_W_reading_0 : decode c_W_reading 0 = .ok (.aload_n 3, 1) := by decide +kernel
theorem d_W_reading_1 : decode c_W_reading 1 = .ok (.iconst 0, 1) := by decide +kernel
theorem d_W_reading_2 : decode c_W_reading 2 = .ok (.aload_n 0, 1) := by decide +kernel
theorem d_W_reading_3 : decode c_W_reading 3 = .ok (.iload_n 1, 1) := by decide +kernel
theorem d_W_reading_4 : decode c_W_reading 4 = .ok (.iload_n 2, 1) := by decide +kernel
theorem d_W_reading_5 : decode c_W_reading 5 = .ok (.invokevirtual 39, 3) := by decide +kernel
theorem d_W_reading_8 : decode c_W_reading 8 = .ok (.i2l, 1) := by decide +kernel
theorem d_W_reading_9 : decode c_W_reading 9 = .ok (.lastore, 1) := by decide +kernel
theorem d_W_reading_10 : decode c_W_reading 10 = .ok (.goto 15, 3) := by decide +kernel
theorem d_W_reading_13 : decode c_W_reading 13 = .ok (.astore 4, 2) := by decide +kernel
theorem d_W_reading_15 : decode c_W_reading 15 = .ok (.iconst 1, 1) := by decide +kernel
theorem d_W_reading_16 : decode c_W_reading 16 = .ok (.ireturn, 1) := by decide +kernel
theorem d_W_reading_17 : decode c_W_reading 17 = .ok (.astore 4, 2) := by decide +kernel
theorem d_W_reading_19 : decode c_W_reading 19 = .ok (.iconst 2, 1) := by decide +kernel
theorem d_W_reading_20 : decode c_W_reading 20 = .ok (.ireturn, 1) := by decide +kernel
theorem d_W_reading_21 : decode c_W_reading 21 = .ok (.astore 4, 2) := by decide +kernel
theorem d_W_reading_23 : decode c_W_reading 23 = .ok (.iconst 3, 1) := by decide +kernel
theorem d_W_reading_24 : decode c_W_reading 24 = .ok (.ireturn, 1) := by decide +kernel
theorem d_W_reading_25 : decode c_W_reading 25 = .ok (.iconst 0, 1) := by decide +kernel
theorem d_W_reading_26 : decode c_W_reading 26 = .ok (.ireturn, 1) := by decide +kernel
theorem d_W_gap_0 : decode c_W_gap 0 = .ok (.aload_n 3, 1) := by decide +kernel
theorem d_W_gap_1 : decode c_W_gap 1 = .ok (.iconst 0, 1) := by decide +kernel
theorem d_W_gap_2 : decode c_W_gap 2 = .ok (.aload_n 0, 1) := by decide +kernel
theorem d_W_gap_3 : decode c_W_gap 3 = .ok (.iload_n 1, 1) := by decide +kernel
theorem d_W_gap_4 : decode c_W_gap 4 = .ok (.iload_n 2, 1) := by decide +kernel
theorem d_W_gap_5 : decode c_W_gap 5 = .ok (.invokevirtual 42, 3) := by decide +kernel
theorem d_W_gap_8 : decode c_W_gap 8 = .ok (.i2l, 1) := by decide +kernel
theorem d_W_gap_9 : decode c_W_gap 9 = .ok (.lastore, 1) := by decide +kernel
theorem d_W_gap_10 : decode c_W_gap 10 = .ok (.goto 7, 3) := by decide +kernel
theorem d_W_gap_13 : decode c_W_gap 13 = .ok (.astore 4, 2) := by decide +kernel
theorem d_W_gap_15 : decode c_W_gap 15 = .ok (.iconst 1, 1) := by decide +kernel
theorem d_W_gap_16 : decode c_W_gap 16 = .ok (.ireturn, 1) := by decide +kernel
theorem d_W_gap_17 : decode c_W_gap 17 = .ok (.iconst 0, 1) := by decide +kernel
theorem d_W_gap_18 : decode c_W_gap 18 = .ok (.ireturn, 1) := by decide +kernel
theorem d_W_digest_0 : decode c_W_digest 0 = .ok (.aload_n 2, 1) := by decide +kernel
theorem d_W_digest_1 : decode c_W_digest 1 = .ok (.iconst 0, 1) := by decide +kernel
theorem d_W_digest_2 : decode c_W_digest 2 = .ok (.aload_n 0, 1) := by decide +kernel
theorem d_W_digest_3 : decode c_W_digest 3 = .ok (.iload_n 1, 1) := by decide +kernel
theorem d_W_digest_4 : decode c_W_digest 4 = .ok (.invokevirtual 45, 3) := by decide +kernel
theorem d_W_digest_7 : decode c_W_digest 7 = .ok (.i2l, 1) := by decide +kernel
theorem d_W_digest_8 : decode c_W_digest 8 = .ok (.lastore, 1) := by decide +kernel
theorem d_W_digest_9 : decode c_W_digest 9 = .ok (.goto 6, 3) := by decide +kernel
theorem d_W_digest_12 : decode c_W_digest 12 = .ok (.astore_n 3, 1) := by decide +kernel
theorem d_W_digest_13 : decode c_W_digest 13 = .ok (.iconst 1, 1) := by decide +kernel
theorem d_W_digest_14 : decode c_W_digest 14 = .ok (.ireturn, 1) := by decide +kernel
theorem d_W_digest_15 : decode c_W_digest 15 = .ok (.iconst 0, 1) := by decide +kernel
theorem d_W_digest_16 : decode c_W_digest 16 = .ok (.ireturn, 1) := by decide +kernel
theorem d_W_noteAt_0 : decode c_W_noteAt 0 = .ok (.aload_n 3, 1) := by decide +kernel
theorem d_W_noteAt_1 : decode c_W_noteAt 1 = .ok (.iconst 0, 1) := by decide +kernel
theorem d_W_noteAt_2 : decode c_W_noteAt 2 = .ok (.aload_n 0, 1) := by decide +kernel
theorem d_W_noteAt_3 : decode c_W_noteAt 3 = .ok (.iload_n 1, 1) := by decide +kernel
theorem d_W_noteAt_4 : decode c_W_noteAt 4 = .ok (.iload_n 2, 1) := by decide +kernel
theorem d_W_noteAt_5 : decode c_W_noteAt 5 = .ok (.invokevirtual 49, 3) := by decide +kernel
theorem d_W_noteAt_8 : decode c_W_noteAt 8 = .ok (.i2l, 1) := by decide +kernel
theorem d_W_noteAt_9 : decode c_W_noteAt 9 = .ok (.lastore, 1) := by decide +kernel
theorem d_W_noteAt_10 : decode c_W_noteAt 10 = .ok (.goto 7, 3) := by decide +kernel
theorem d_W_noteAt_13 : decode c_W_noteAt 13 = .ok (.astore 4, 2) := by decide +kernel
theorem d_W_noteAt_15 : decode c_W_noteAt 15 = .ok (.iconst 1, 1) := by decide +kernel
theorem d_W_noteAt_16 : decode c_W_noteAt 16 = .ok (.ireturn, 1) := by decide +kernel
theorem d_W_noteAt_17 : decode c_W_noteAt 17 = .ok (.iconst 0, 1) := by decide +kernel
theorem d_W_noteAt_18 : decode c_W_noteAt 18 = .ok (.ireturn, 1) := by decide +kernel
theorem d_W_print_0 : decode c_W_print 0 = .ok (.aload_n 1, 1) := by decide +kernel
theorem d_W_print_1 : decode c_W_print 1 = .ok (.iconst 0, 1) := by decide +kernel
theorem d_W_print_2 : decode c_W_print 2 = .ok (.aload_n 0, 1) := by decide +kernel
theorem d_W_print_3 : decode c_W_print 3 = .ok (.invokevirtual 52, 3) := by decide +kernel
theorem d_W_print_6 : decode c_W_print 6 = .ok (.i2l, 1) := by decide +kernel
theorem d_W_print_7 : decode c_W_print 7 = .ok (.lastore, 1) := by decide +kernel
theorem d_W_print_8 : decode c_W_print 8 = .ok (.goto 6, 3) := by decide +kernel
theorem d_W_print_11 : decode c_W_print 11 = .ok (.astore_n 2, 1) := by decide +kernel
theorem d_W_print_12 : decode c_W_print 12 = .ok (.iconst 1, 1) := by decide +kernel
theorem d_W_print_13 : decode c_W_print 13 = .ok (.ireturn, 1) := by decide +kernel
theorem d_W_print_14 : decode c_W_print 14 = .ok (.iconst 0, 1) := by decide +kernel
theorem d_W_print_15 : decode c_W_print 15 = .ok (.ireturn, 1) := by decide +kernel
theorem d_W_at_0 : decode c_W_at 0 = .ok (.aload_n 2, 1) := by decide +kernel
theorem d_W_at_1 : decode c_W_at 1 = .ok (.iconst 0, 1) := by decide +kernel
theorem d_W_at_2 : decode c_W_at 2 = .ok (.aload_n 0, 1) := by decide +kernel
theorem d_W_at_3 : decode c_W_at 3 = .ok (.iload_n 1, 1) := by decide +kernel
theorem d_W_at_4 : decode c_W_at 4 = .ok (.invokevirtual 55, 3) := by decide +kernel
theorem d_W_at_7 : decode c_W_at 7 = .ok (.i2l, 1) := by decide +kernel
theorem d_W_at_8 : decode c_W_at 8 = .ok (.lastore, 1) := by decide +kernel
theorem d_W_at_9 : decode c_W_at 9 = .ok (.goto 6, 3) := by decide +kernel
theorem d_W_at_12 : decode c_W_at 12 = .ok (.astore_n 3, 1) := by decide +kernel
theorem d_W_at_13 : decode c_W_at 13 = .ok (.iconst 1, 1) := by decide +kernel
theorem d_W_at_14 : decode c_W_at 14 = .ok (.ireturn, 1) := by decide +kernel
theorem d_W_at_15 : decode c_W_at 15 = .ok (.iconst 0, 1) := by decide +kernel
theorem d_W_at_16 : decode c_W_at 16 = .ok (.ireturn, 1) := by decide +kernel
theorem d_W_tick_0 : decode c_W_tick 0 = .ok (.aload_n 2, 1) := by decide +kernel
theorem d_W_tick_1 : decode c_W_tick 1 = .ok (.iconst 0, 1) := by decide +kernel
theorem d_W_tick_2 : decode c_W_tick 2 = .ok (.aload_n 0, 1) := by decide +kernel
theorem d_W_tick_3 : decode c_W_tick 3 = .ok (.iload_n 1, 1) := by decide +kernel
theorem d_W_tick_4 : decode c_W_tick 4 = .ok (.invokevirtual 58, 3) := by decide +kernel
theorem d_W_tick_7 : decode c_W_tick 7 = .ok (.i2l, 1) := by decide +kernel
theorem d_W_tick_8 : decode c_W_tick 8 = .ok (.lastore, 1) := by decide +kernel
theorem d_W_tick_9 : decode c_W_tick 9 = .ok (.goto 6, 3) := by decide +kernel
theorem d_W_tick_12 : decode c_W_tick 12 = .ok (.astore_n 3, 1) := by decide +kernel
theorem d_W_tick_13 : decode c_W_tick 13 = .ok (.iconst 1, 1) := by decide +kernel
theorem d_W_tick_14 : decode c_W_tick 14 = .ok (.ireturn, 1) := by decide +kernel
theorem d_W_tick_15 : decode c_W_tick 15 = .ok (.iconst 0, 1) := by decide +kernel
theorem d_W_tick_16 : decode c_W_tick 16 = .ok (.ireturn, 1) := by decide +kernel
theorem d_W_count_0 : decode c_W_count 0 = .ok (.aload_n 2, 1) := by decide +kernel
theorem d_W_count_1 : decode c_W_count 1 = .ok (.iconst 0, 1) := by decide +kernel
theorem d_W_count_2 : decode c_W_count 2 = .ok (.aload_n 0, 1) := by decide +kernel
theorem d_W_count_3 : decode c_W_count 3 = .ok (.iload_n 1, 1) := by decide +kernel
theorem d_W_count_4 : decode c_W_count 4 = .ok (.invokevirtual 61, 3) := by decide +kernel
theorem d_W_count_7 : decode c_W_count 7 = .ok (.i2l, 1) := by decide +kernel
theorem d_W_count_8 : decode c_W_count 8 = .ok (.lastore, 1) := by decide +kernel
theorem d_W_count_9 : decode c_W_count 9 = .ok (.goto 6, 3) := by decide +kernel
theorem d_W_count_12 : decode c_W_count 12 = .ok (.astore_n 3, 1) := by decide +kernel
theorem d_W_count_13 : decode c_W_count 13 = .ok (.iconst 1, 1) := by decide +kernel
theorem d_W_count_14 : decode c_W_count 14 = .ok (.ireturn, 1) := by decide +kernel
theorem d_W_count_15 : decode c_W_count 15 = .ok (.iconst 0, 1) := by decide +kernel
theorem d_W_count_16 : decode c_W_count 16 = .ok (.ireturn, 1) := by decide +kernel
theorem d_W_law_0 : decode c_W_law 0 = .ok (.new 8, 3) := by decide +kernel
theorem d_W_law_3 : decode c_W_law 3 = .ok (.dup, 1) := by decide +kernel
theorem d_W_law_4 : decode c_W_law 4 = .ok (.invokespecial 64, 3) := by decide +kernel
theorem d_W_law_7 : decode c_W_law 7 = .ok (.astore_n 1, 1) := by decide +kernel
theorem d_W_law_8 : decode c_W_law 8 = .ok (.new 65, 3) := by decide +kernel
theorem d_W_law_11 : decode c_W_law 11 = .ok (.dup, 1) := by decide +kernel
theorem d_W_law_12 : decode c_W_law 12 = .ok (.invokespecial 67, 3) := by decide +kernel
theorem d_W_law_15 : decode c_W_law 15 = .ok (.astore_n 2, 1) := by decide +kernel
theorem d_W_law_16 : decode c_W_law 16 = .ok (.iconst 1, 1) := by decide +kernel
theorem d_W_law_17 : decode c_W_law 17 = .ok (.newarray .long, 2) := by decide +kernel
theorem d_W_law_19 : decode c_W_law 19 = .ok (.astore_n 3, 1) := by decide +kernel
theorem d_W_law_20 : decode c_W_law 20 = .ok (.iconst 0, 1) := by decide +kernel
theorem d_W_law_21 : decode c_W_law 21 = .ok (.istore 4, 2) := by decide +kernel
theorem d_W_law_23 : decode c_W_law 23 = .ok (.iload 4, 2) := by decide +kernel
theorem d_W_law_25 : decode c_W_law 25 = .ok (.aload_n 0, 1) := by decide +kernel
theorem d_W_law_26 : decode c_W_law 26 = .ok (.arraylength, 1) := by decide +kernel
theorem d_W_law_27 : decode c_W_law 27 = .ok (.bipush 6, 2) := by decide +kernel
theorem d_W_law_29 : decode c_W_law 29 = .ok (.isub, 1) := by decide +kernel
theorem d_W_law_30 : decode c_W_law 30 = .ok (.if_icmp .gt 1012, 3) := by decide +kernel
theorem d_W_law_33 : decode c_W_law 33 = .ok (.aload_n 0, 1) := by decide +kernel
theorem d_W_law_34 : decode c_W_law 34 = .ok (.iload 4, 2) := by decide +kernel
theorem d_W_law_36 : decode c_W_law 36 = .ok (.iaload, 1) := by decide +kernel
theorem d_W_law_37 : decode c_W_law 37 = .ok (.bipush 15, 2) := by decide +kernel
theorem d_W_law_39 : decode c_W_law 39 = .ok (.iand, 1) := by decide +kernel
theorem d_W_law_40 : decode c_W_law 40 = .ok (.tableswitch 996 0 13 #[72, 116, 220, 288, 352, 456, 524, 592, 660, 716, 784, 828, 884, 940], 72) := by decide +kernel
theorem d_W_law_112 : decode c_W_law 112 = .ok (.aload_n 1, 1) := by decide +kernel
theorem d_W_law_113 : decode c_W_law 113 = .ok (.aload_n 3, 1) := by decide +kernel
theorem d_W_law_114 : decode c_W_law 114 = .ok (.invokestatic 68, 3) := by decide +kernel
theorem d_W_law_117 : decode c_W_law 117 = .ok (.istore 5, 2) := by decide +kernel
theorem d_W_law_119 : decode c_W_law 119 = .ok (.aload_n 2, 1) := by decide +kernel
theorem d_W_law_120 : decode c_W_law 120 = .ok (.invokevirtual 73, 3) := by decide +kernel
theorem d_W_law_123 : decode c_W_law 123 = .ok (.istore 6, 2) := by decide +kernel
theorem d_W_law_125 : decode c_W_law 125 = .ok (.aload_n 2, 1) := by decide +kernel
theorem d_W_law_126 : decode c_W_law 126 = .ok (.invokevirtual 74, 3) := by decide +kernel
theorem d_W_law_129 : decode c_W_law 129 = .ok (.iload 5, 2) := by decide +kernel
theorem d_W_law_131 : decode c_W_law 131 = .ok (.if_icmp .eq 5, 3) := by decide +kernel
theorem d_W_law_134 : decode c_W_law 134 = .ok (.iconst 0, 1) := by decide +kernel
theorem d_W_law_135 : decode c_W_law 135 = .ok (.ireturn, 1) := by decide +kernel
theorem d_W_law_136 : decode c_W_law 136 = .ok (.iload 5, 2) := by decide +kernel
theorem d_W_law_138 : decode c_W_law 138 = .ok (.ifCond .ne 15, 3) := by decide +kernel
theorem d_W_law_141 : decode c_W_law 141 = .ok (.aload_n 3, 1) := by decide +kernel
theorem d_W_law_142 : decode c_W_law 142 = .ok (.iconst 0, 1) := by decide +kernel
theorem d_W_law_143 : decode c_W_law 143 = .ok (.laload, 1) := by decide +kernel
theorem d_W_law_144 : decode c_W_law 144 = .ok (.iload 6, 2) := by decide +kernel
theorem d_W_law_146 : decode c_W_law 146 = .ok (.i2l, 1) := by decide +kernel
theorem d_W_law_147 : decode c_W_law 147 = .ok (.lcmp, 1) := by decide +kernel
theorem d_W_law_148 : decode c_W_law 148 = .ok (.ifCond .eq 5, 3) := by decide +kernel
theorem d_W_law_151 : decode c_W_law 151 = .ok (.iconst 0, 1) := by decide +kernel
theorem d_W_law_152 : decode c_W_law 152 = .ok (.ireturn, 1) := by decide +kernel
theorem d_W_law_153 : decode c_W_law 153 = .ok (.goto 883, 3) := by decide +kernel
theorem d_W_law_156 : decode c_W_law 156 = .ok (.aload_n 1, 1) := by decide +kernel
theorem d_W_law_157 : decode c_W_law 157 = .ok (.aload_n 0, 1) := by decide +kernel
theorem d_W_law_158 : decode c_W_law 158 = .ok (.iload 4, 2) := by decide +kernel
theorem d_W_law_160 : decode c_W_law 160 = .ok (.iconst 1, 1) := by decide +kernel
theorem d_W_law_161 : decode c_W_law 161 = .ok (.iadd, 1) := by decide +kernel
theorem d_W_law_162 : decode c_W_law 162 = .ok (.iaload, 1) := by decide +kernel
theorem d_W_law_163 : decode c_W_law 163 = .ok (.aload_n 0, 1) := by decide +kernel
theorem d_W_law_164 : decode c_W_law 164 = .ok (.iload 4, 2) := by decide +kernel
theorem d_W_law_166 : decode c_W_law 166 = .ok (.iconst 2, 1) := by decide +kernel
theorem d_W_law_167 : decode c_W_law 167 = .ok (.iadd, 1) := by decide +kernel
theorem d_W_law_168 : decode c_W_law 168 = .ok (.iaload, 1) := by decide +kernel
theorem d_W_law_169 : decode c_W_law 169 = .ok (.aload_n 0, 1) := by decide +kernel
theorem d_W_law_170 : decode c_W_law 170 = .ok (.iload 4, 2) := by decide +kernel
theorem d_W_law_172 : decode c_W_law 172 = .ok (.iconst 3, 1) := by decide +kernel
theorem d_W_law_173 : decode c_W_law 173 = .ok (.iadd, 1) := by decide +kernel
theorem d_W_law_174 : decode c_W_law 174 = .ok (.iaload, 1) := by decide +kernel
theorem d_W_law_175 : decode c_W_law 175 = .ok (.aload_n 0, 1) := by decide +kernel
theorem d_W_law_176 : decode c_W_law 176 = .ok (.iload 4, 2) := by decide +kernel
theorem d_W_law_178 : decode c_W_law 178 = .ok (.iconst 4, 1) := by decide +kernel
theorem d_W_law_179 : decode c_W_law 179 = .ok (.iadd, 1) := by decide +kernel
theorem d_W_law_180 : decode c_W_law 180 = .ok (.iaload, 1) := by decide +kernel
theorem d_W_law_181 : decode c_W_law 181 = .ok (.aload_n 0, 1) := by decide +kernel
theorem d_W_law_182 : decode c_W_law 182 = .ok (.iload 4, 2) := by decide +kernel
theorem d_W_law_184 : decode c_W_law 184 = .ok (.iconst 5, 1) := by decide +kernel
theorem d_W_law_185 : decode c_W_law 185 = .ok (.iadd, 1) := by decide +kernel
theorem d_W_law_186 : decode c_W_law 186 = .ok (.iaload, 1) := by decide +kernel
theorem d_W_law_187 : decode c_W_law 187 = .ok (.aload_n 3, 1) := by decide +kernel
theorem d_W_law_188 : decode c_W_law 188 = .ok (.invokestatic 77, 3) := by decide +kernel
theorem d_W_law_191 : decode c_W_law 191 = .ok (.istore 5, 2) := by decide +kernel
theorem d_W_law_193 : decode c_W_law 193 = .ok (.aload_n 2, 1) := by decide +kernel
theorem d_W_law_194 : decode c_W_law 194 = .ok (.aload_n 0, 1) := by decide +kernel
theorem d_W_law_195 : decode c_W_law 195 = .ok (.iload 4, 2) := by decide +kernel
theorem d_W_law_197 : decode c_W_law 197 = .ok (.iconst 1, 1) := by decide +kernel
theorem d_W_law_198 : decode c_W_law 198 = .ok (.iadd, 1) := by decide +kernel
theorem d_W_law_199 : decode c_W_law 199 = .ok (.iaload, 1) := by decide +kernel
theorem d_W_law_200 : decode c_W_law 200 = .ok (.aload_n 0, 1) := by decide +kernel
theorem d_W_law_201 : decode c_W_law 201 = .ok (.iload 4, 2) := by decide +kernel
theorem d_W_law_203 : decode c_W_law 203 = .ok (.iconst 2, 1) := by decide +kernel
theorem d_W_law_204 : decode c_W_law 204 = .ok (.iadd, 1) := by decide +kernel
theorem d_W_law_205 : decode c_W_law 205 = .ok (.iaload, 1) := by decide +kernel
theorem d_W_law_206 : decode c_W_law 206 = .ok (.aload_n 0, 1) := by decide +kernel
theorem d_W_law_207 : decode c_W_law 207 = .ok (.iload 4, 2) := by decide +kernel
theorem d_W_law_209 : decode c_W_law 209 = .ok (.iconst 3, 1) := by decide +kernel
theorem d_W_law_210 : decode c_W_law 210 = .ok (.iadd, 1) := by decide +kernel
theorem d_W_law_211 : decode c_W_law 211 = .ok (.iaload, 1) := by decide +kernel
theorem d_W_law_212 : decode c_W_law 212 = .ok (.aload_n 0, 1) := by decide +kernel
theorem d_W_law_213 : decode c_W_law 213 = .ok (.iload 4, 2) := by decide +kernel
theorem d_W_law_215 : decode c_W_law 215 = .ok (.iconst 4, 1) := by decide +kernel
theorem d_W_law_216 : decode c_W_law 216 = .ok (.iadd, 1) := by decide +kernel
theorem d_W_law_217 : decode c_W_law 217 = .ok (.iaload, 1) := by decide +kernel
theorem d_W_law_218 : decode c_W_law 218 = .ok (.aload_n 0, 1) := by decide +kernel
theorem d_W_law_219 : decode c_W_law 219 = .ok (.iload 4, 2) := by decide +kernel
theorem d_W_law_221 : decode c_W_law 221 = .ok (.iconst 5, 1) := by decide +kernel
theorem d_W_law_222 : decode c_W_law 222 = .ok (.iadd, 1) := by decide +kernel
theorem d_W_law_223 : decode c_W_law 223 = .ok (.iaload, 1) := by decide +kernel
theorem d_W_law_224 : decode c_W_law 224 = .ok (.invokevirtual 80, 3) := by decide +kernel
theorem d_W_law_227 : decode c_W_law 227 = .ok (.istore 6, 2) := by decide +kernel
theorem d_W_law_229 : decode c_W_law 229 = .ok (.aload_n 2, 1) := by decide +kernel
theorem d_W_law_230 : decode c_W_law 230 = .ok (.invokevirtual 74, 3) := by decide +kernel
theorem d_W_law_233 : decode c_W_law 233 = .ok (.iload 5, 2) := by decide +kernel
theorem d_W_law_235 : decode c_W_law 235 = .ok (.if_icmp .eq 5, 3) := by decide +kernel
theorem d_W_law_238 : decode c_W_law 238 = .ok (.iconst 0, 1) := by decide +kernel
theorem d_W_law_239 : decode c_W_law 239 = .ok (.ireturn, 1) := by decide +kernel
theorem d_W_law_240 : decode c_W_law 240 = .ok (.iload 5, 2) := by decide +kernel
theorem d_W_law_242 : decode c_W_law 242 = .ok (.ifCond .ne 15, 3) := by decide +kernel
theorem d_W_law_245 : decode c_W_law 245 = .ok (.aload_n 3, 1) := by decide +kernel
theorem d_W_law_246 : decode c_W_law 246 = .ok (.iconst 0, 1) := by decide +kernel
theorem d_W_law_247 : decode c_W_law 247 = .ok (.laload, 1) := by decide +kernel
theorem d_W_law_248 : decode c_W_law 248 = .ok (.iload 6, 2) := by decide +kernel
theorem d_W_law_250 : decode c_W_law 250 = .ok (.i2l, 1) := by decide +kernel
theorem d_W_law_251 : decode c_W_law 251 = .ok (.lcmp, 1) := by decide +kernel
theorem d_W_law_252 : decode c_W_law 252 = .ok (.ifCond .eq 5, 3) := by decide +kernel
theorem d_W_law_255 : decode c_W_law 255 = .ok (.iconst 0, 1) := by decide +kernel
theorem d_W_law_256 : decode c_W_law 256 = .ok (.ireturn, 1) := by decide +kernel
theorem d_W_law_257 : decode c_W_law 257 = .ok (.goto 779, 3) := by decide +kernel
theorem d_W_law_260 : decode c_W_law 260 = .ok (.aload_n 1, 1) := by decide +kernel
theorem d_W_law_261 : decode c_W_law 261 = .ok (.aload_n 0, 1) := by decide +kernel
theorem d_W_law_262 : decode c_W_law 262 = .ok (.iload 4, 2) := by decide +kernel
theorem d_W_law_264 : decode c_W_law 264 = .ok (.iconst 1, 1) := by decide +kernel
theorem d_W_law_265 : decode c_W_law 265 = .ok (.iadd, 1) := by decide +kernel
theorem d_W_law_266 : decode c_W_law 266 = .ok (.iaload, 1) := by decide +kernel
theorem d_W_law_267 : decode c_W_law 267 = .ok (.aload_n 0, 1) := by decide +kernel
theorem d_W_law_268 : decode c_W_law 268 = .ok (.iload 4, 2) := by decide +kernel
theorem d_W_law_270 : decode c_W_law 270 = .ok (.iconst 2, 1) := by decide +kernel
theorem d_W_law_271 : decode c_W_law 271 = .ok (.iadd, 1) := by decide +kernel
theorem d_W_law_272 : decode c_W_law 272 = .ok (.iaload, 1) := by decide +kernel
theorem d_W_law_273 : decode c_W_law 273 = .ok (.aload_n 3, 1) := by decide +kernel
theorem d_W_law_274 : decode c_W_law 274 = .ok (.invokestatic 81, 3) := by decide +kernel
theorem d_W_law_277 : decode c_W_law 277 = .ok (.istore 5, 2) := by decide +kernel
theorem d_W_law_279 : decode c_W_law 279 = .ok (.aload_n 2, 1) := by decide +kernel
theorem d_W_law_280 : decode c_W_law 280 = .ok (.aload_n 0, 1) := by decide +kernel
theorem d_W_law_281 : decode c_W_law 281 = .ok (.iload 4, 2) := by decide +kernel
theorem d_W_law_283 : decode c_W_law 283 = .ok (.iconst 1, 1) := by decide +kernel
theorem d_W_law_284 : decode c_W_law 284 = .ok (.iadd, 1) := by decide +kernel
theorem d_W_law_285 : decode c_W_law 285 = .ok (.iaload, 1) := by decide +kernel
theorem d_W_law_286 : decode c_W_law 286 = .ok (.aload_n 0, 1) := by decide +kernel
theorem d_W_law_287 : decode c_W_law 287 = .ok (.iload 4, 2) := by decide +kernel
theorem d_W_law_289 : decode c_W_law 289 = .ok (.iconst 2, 1) := by decide +kernel
theorem d_W_law_290 : decode c_W_law 290 = .ok (.iadd, 1) := by decide +kernel
theorem d_W_law_291 : decode c_W_law 291 = .ok (.iaload, 1) := by decide +kernel
theorem d_W_law_292 : decode c_W_law 292 = .ok (.invokevirtual 84, 3) := by decide +kernel
theorem d_W_law_295 : decode c_W_law 295 = .ok (.istore 6, 2) := by decide +kernel
theorem d_W_law_297 : decode c_W_law 297 = .ok (.aload_n 2, 1) := by decide +kernel
theorem d_W_law_298 : decode c_W_law 298 = .ok (.invokevirtual 74, 3) := by decide +kernel
theorem d_W_law_301 : decode c_W_law 301 = .ok (.iload 5, 2) := by decide +kernel
theorem d_W_law_303 : decode c_W_law 303 = .ok (.if_icmp .eq 5, 3) := by decide +kernel
theorem d_W_law_306 : decode c_W_law 306 = .ok (.iconst 0, 1) := by decide +kernel
theorem d_W_law_307 : decode c_W_law 307 = .ok (.ireturn, 1) := by decide +kernel
theorem d_W_law_308 : decode c_W_law 308 = .ok (.iload 5, 2) := by decide +kernel
theorem d_W_law_310 : decode c_W_law 310 = .ok (.ifCond .ne 15, 3) := by decide +kernel
theorem d_W_law_313 : decode c_W_law 313 = .ok (.aload_n 3, 1) := by decide +kernel
theorem d_W_law_314 : decode c_W_law 314 = .ok (.iconst 0, 1) := by decide +kernel
theorem d_W_law_315 : decode c_W_law 315 = .ok (.laload, 1) := by decide +kernel
theorem d_W_law_316 : decode c_W_law 316 = .ok (.iload 6, 2) := by decide +kernel
theorem d_W_law_318 : decode c_W_law 318 = .ok (.i2l, 1) := by decide +kernel
theorem d_W_law_319 : decode c_W_law 319 = .ok (.lcmp, 1) := by decide +kernel
theorem d_W_law_320 : decode c_W_law 320 = .ok (.ifCond .eq 5, 3) := by decide +kernel
theorem d_W_law_323 : decode c_W_law 323 = .ok (.iconst 0, 1) := by decide +kernel
theorem d_W_law_324 : decode c_W_law 324 = .ok (.ireturn, 1) := by decide +kernel
theorem d_W_law_325 : decode c_W_law 325 = .ok (.goto 711, 3) := by decide +kernel
theorem d_W_law_328 : decode c_W_law 328 = .ok (.aload_n 1, 1) := by decide +kernel
theorem d_W_law_329 : decode c_W_law 329 = .ok (.aload_n 0, 1) := by decide +kernel
theorem d_W_law_330 : decode c_W_law 330 = .ok (.iload 4, 2) := by decide +kernel
theorem d_W_law_332 : decode c_W_law 332 = .ok (.iconst 1, 1) := by decide +kernel
theorem d_W_law_333 : decode c_W_law 333 = .ok (.iadd, 1) := by decide +kernel
theorem d_W_law_334 : decode c_W_law 334 = .ok (.iaload, 1) := by decide +kernel
theorem d_W_law_335 : decode c_W_law 335 = .ok (.aload_n 0, 1) := by decide +kernel
theorem d_W_law_336 : decode c_W_law 336 = .ok (.iload 4, 2) := by decide +kernel
theorem d_W_law_338 : decode c_W_law 338 = .ok (.iconst 2, 1) := by decide +kernel
theorem d_W_law_339 : decode c_W_law 339 = .ok (.iadd, 1) := by decide +kernel
theorem d_W_law_340 : decode c_W_law 340 = .ok (.iaload, 1) := by decide +kernel
theorem d_W_law_341 : decode c_W_law 341 = .ok (.ifCond .eq 7, 3) := by decide +kernel
theorem d_W_law_344 : decode c_W_law 344 = .ok (.iconst 1, 1) := by decide +kernel
theorem d_W_law_345 : decode c_W_law 345 = .ok (.goto 4, 3) := by decide +kernel
theorem d_W_law_348 : decode c_W_law 348 = .ok (.iconst 0, 1) := by decide +kernel
theorem d_W_law_349 : decode c_W_law 349 = .ok (.invokestatic 85, 3) := by decide +kernel
theorem d_W_law_352 : decode c_W_law 352 = .ok (.istore 5, 2) := by decide +kernel
theorem d_W_law_354 : decode c_W_law 354 = .ok (.aload_n 2, 1) := by decide +kernel
theorem d_W_law_355 : decode c_W_law 355 = .ok (.aload_n 0, 1) := by decide +kernel
theorem d_W_law_356 : decode c_W_law 356 = .ok (.iload 4, 2) := by decide +kernel
theorem d_W_law_358 : decode c_W_law 358 = .ok (.iconst 1, 1) := by decide +kernel
theorem d_W_law_359 : decode c_W_law 359 = .ok (.iadd, 1) := by decide +kernel
theorem d_W_law_360 : decode c_W_law 360 = .ok (.iaload, 1) := by decide +kernel
theorem d_W_law_361 : decode c_W_law 361 = .ok (.aload_n 0, 1) := by decide +kernel
theorem d_W_law_362 : decode c_W_law 362 = .ok (.iload 4, 2) := by decide +kernel
theorem d_W_law_364 : decode c_W_law 364 = .ok (.iconst 2, 1) := by decide +kernel
theorem d_W_law_365 : decode c_W_law 365 = .ok (.iadd, 1) := by decide +kernel
theorem d_W_law_366 : decode c_W_law 366 = .ok (.iaload, 1) := by decide +kernel
theorem d_W_law_367 : decode c_W_law 367 = .ok (.ifCond .eq 7, 3) := by decide +kernel
theorem d_W_law_370 : decode c_W_law 370 = .ok (.iconst 1, 1) := by decide +kernel
theorem d_W_law_371 : decode c_W_law 371 = .ok (.goto 4, 3) := by decide +kernel
theorem d_W_law_374 : decode c_W_law 374 = .ok (.iconst 0, 1) := by decide +kernel
theorem d_W_law_375 : decode c_W_law 375 = .ok (.invokevirtual 88, 3) := by decide +kernel
theorem d_W_law_378 : decode c_W_law 378 = .ok (.aload_n 2, 1) := by decide +kernel
theorem d_W_law_379 : decode c_W_law 379 = .ok (.invokevirtual 74, 3) := by decide +kernel
theorem d_W_law_382 : decode c_W_law 382 = .ok (.iload 5, 2) := by decide +kernel
theorem d_W_law_384 : decode c_W_law 384 = .ok (.if_icmp .eq 5, 3) := by decide +kernel

theorem dL_evening_0 : decode cL_evening 0 = .ok (.aload_n 1, 1) := by decide +kernel
theorem dL_evening_1 : decode cL_evening 1 = .ok (.iconst 0, 1) := by decide +kernel
theorem dL_evening_2 : decode cL_evening 2 = .ok (.aload_n 0, 1) := by decide +kernel
theorem dL_evening_3 : decode cL_evening 3 = .ok (.invokevirtual 7, 3) := by decide +kernel
theorem dL_evening_6 : decode cL_evening 6 = .ok (.i2l, 1) := by decide +kernel
theorem dL_evening_7 : decode cL_evening 7 = .ok (.lastore, 1) := by decide +kernel
theorem dL_evening_8 : decode cL_evening 8 = .ok (.goto 9, 3) := by decide +kernel
theorem dL_evening_11 : decode cL_evening 11 = .ok (.astore_n 2, 1) := by decide +kernel
theorem dL_evening_12 : decode cL_evening 12 = .ok (.iconst 1, 1) := by decide +kernel
theorem dL_evening_13 : decode cL_evening 13 = .ok (.ireturn, 1) := by decide +kernel
theorem dL_evening_14 : decode cL_evening 14 = .ok (.astore_n 2, 1) := by decide +kernel
theorem dL_evening_15 : decode cL_evening 15 = .ok (.iconst 2, 1) := by decide +kernel
theorem dL_evening_16 : decode cL_evening 16 = .ok (.ireturn, 1) := by decide +kernel
theorem dL_evening_17 : decode cL_evening 17 = .ok (.iconst 0, 1) := by decide +kernel
theorem dL_evening_18 : decode cL_evening 18 = .ok (.ireturn, 1) := by decide +kernel
theorem dL_law_0 : decode cL_law 0 = .ok (.aload_n 1, 1) := by decide +kernel
theorem dL_law_1 : decode cL_law 1 = .ok (.iconst 0, 1) := by decide +kernel
theorem dL_law_2 : decode cL_law 2 = .ok (.aload_n 0, 1) := by decide +kernel
theorem dL_law_3 : decode cL_law 3 = .ok (.invokevirtual 17, 3) := by decide +kernel
theorem dL_law_6 : decode cL_law 6 = .ok (.i2l, 1) := by decide +kernel
theorem dL_law_7 : decode cL_law 7 = .ok (.lastore, 1) := by decide +kernel
theorem dL_law_8 : decode cL_law 8 = .ok (.goto 6, 3) := by decide +kernel
theorem dL_law_11 : decode cL_law 11 = .ok (.astore_n 2, 1) := by decide +kernel
theorem dL_law_12 : decode cL_law 12 = .ok (.iconst 1, 1) := by decide +kernel
theorem dL_law_13 : decode cL_law 13 = .ok (.ireturn, 1) := by decide +kernel
theorem dL_law_14 : decode cL_law 14 = .ok (.iconst 0, 1) := by decide +kernel
theorem dL_law_15 : decode cL_law 15 = .ok (.ireturn, 1) := by decide +kernel
theorem dL_word_0 : decode cL_word 0 = .ok (.aload_n 3, 1) := by decide +kernel
theorem dL_word_1 : decode cL_word 1 = .ok (.iconst 0, 1) := by decide +kernel
theorem dL_word_2 : decode cL_word 2 = .ok (.aload_n 0, 1) := by decide +kernel
theorem dL_word_3 : decode cL_word 3 = .ok (.iload_n 1, 1) := by decide +kernel
theorem dL_word_4 : decode cL_word 4 = .ok (.iload_n 2, 1) := by decide +kernel
theorem dL_word_5 : decode cL_word 5 = .ok (.invokevirtual 20, 3) := by decide +kernel
theorem dL_word_8 : decode cL_word 8 = .ok (.i2l, 1) := by decide +kernel
theorem dL_word_9 : decode cL_word 9 = .ok (.lastore, 1) := by decide +kernel
theorem dL_word_10 : decode cL_word 10 = .ok (.goto 11, 3) := by decide +kernel
theorem dL_word_13 : decode cL_word 13 = .ok (.astore 4, 2) := by decide +kernel
theorem dL_word_15 : decode cL_word 15 = .ok (.iconst 1, 1) := by decide +kernel
theorem dL_word_16 : decode cL_word 16 = .ok (.ireturn, 1) := by decide +kernel
theorem dL_word_17 : decode cL_word 17 = .ok (.astore 4, 2) := by decide +kernel
theorem dL_word_19 : decode cL_word 19 = .ok (.iconst 2, 1) := by decide +kernel
theorem dL_word_20 : decode cL_word 20 = .ok (.ireturn, 1) := by decide +kernel
theorem dL_word_21 : decode cL_word 21 = .ok (.iconst 0, 1) := by decide +kernel
theorem dL_word_22 : decode cL_word 22 = .ok (.ireturn, 1) := by decide +kernel
theorem dL_letter_0 : decode cL_letter 0 = .ok (.aload_n 3, 1) := by decide +kernel
theorem dL_letter_1 : decode cL_letter 1 = .ok (.iconst 0, 1) := by decide +kernel
theorem dL_letter_2 : decode cL_letter 2 = .ok (.aload_n 0, 1) := by decide +kernel
theorem dL_letter_3 : decode cL_letter 3 = .ok (.iload_n 1, 1) := by decide +kernel
theorem dL_letter_4 : decode cL_letter 4 = .ok (.iload_n 2, 1) := by decide +kernel
theorem dL_letter_5 : decode cL_letter 5 = .ok (.invokevirtual 28, 3) := by decide +kernel
theorem dL_letter_8 : decode cL_letter 8 = .ok (.i2l, 1) := by decide +kernel
theorem dL_letter_9 : decode cL_letter 9 = .ok (.lastore, 1) := by decide +kernel
theorem dL_letter_10 : decode cL_letter 10 = .ok (.goto 7, 3) := by decide +kernel
theorem dL_letter_13 : decode cL_letter 13 = .ok (.astore 4, 2) := by decide +kernel
theorem dL_letter_15 : decode cL_letter 15 = .ok (.iconst 1, 1) := by decide +kernel
theorem dL_letter_16 : decode cL_letter 16 = .ok (.ireturn, 1) := by decide +kernel
theorem dL_letter_17 : decode cL_letter 17 = .ok (.iconst 0, 1) := by decide +kernel
theorem dL_letter_18 : decode cL_letter 18 = .ok (.ireturn, 1) := by decide +kernel
theorem dL_writer_0 : decode cL_writer 0 = .ok (.aload_n 3, 1) := by decide +kernel
theorem dL_writer_1 : decode cL_writer 1 = .ok (.iconst 0, 1) := by decide +kernel
theorem dL_writer_2 : decode cL_writer 2 = .ok (.aload_n 0, 1) := by decide +kernel
theorem dL_writer_3 : decode cL_writer 3 = .ok (.iload_n 1, 1) := by decide +kernel
theorem dL_writer_4 : decode cL_writer 4 = .ok (.iload_n 2, 1) := by decide +kernel
theorem dL_writer_5 : decode cL_writer 5 = .ok (.invokevirtual 31, 3) := by decide +kernel
theorem dL_writer_8 : decode cL_writer 8 = .ok (.i2l, 1) := by decide +kernel
theorem dL_writer_9 : decode cL_writer 9 = .ok (.lastore, 1) := by decide +kernel
theorem dL_writer_10 : decode cL_writer 10 = .ok (.goto 11, 3) := by decide +kernel
theorem dL_writer_13 : decode cL_writer 13 = .ok (.astore 4, 2) := by decide +kernel
theorem dL_writer_15 : decode cL_writer 15 = .ok (.iconst 1, 1) := by decide +kernel
theorem dL_writer_16 : decode cL_writer 16 = .ok (.ireturn, 1) := by decide +kernel
theorem dL_writer_17 : decode cL_writer 17 = .ok (.astore 4, 2) := by decide +kernel
theorem dL_writer_19 : decode cL_writer 19 = .ok (.iconst 2, 1) := by decide +kernel
theorem dL_writer_20 : decode cL_writer 20 = .ok (.ireturn, 1) := by decide +kernel
theorem dL_writer_21 : decode cL_writer 21 = .ok (.iconst 0, 1) := by decide +kernel
theorem dL_writer_22 : decode cL_writer 22 = .ok (.ireturn, 1) := by decide +kernel
theorem dL_page_0 : decode cL_page 0 = .ok (.aload_n 3, 1) := by decide +kernel
theorem dL_page_1 : decode cL_page 1 = .ok (.iconst 0, 1) := by decide +kernel
theorem dL_page_2 : decode cL_page 2 = .ok (.aload_n 0, 1) := by decide +kernel
theorem dL_page_3 : decode cL_page 3 = .ok (.iload_n 1, 1) := by decide +kernel
theorem dL_page_4 : decode cL_page 4 = .ok (.iload_n 2, 1) := by decide +kernel
theorem dL_page_5 : decode cL_page 5 = .ok (.invokevirtual 34, 3) := by decide +kernel
theorem dL_page_8 : decode cL_page 8 = .ok (.i2l, 1) := by decide +kernel
theorem dL_page_9 : decode cL_page 9 = .ok (.lastore, 1) := by decide +kernel
theorem dL_page_10 : decode cL_page 10 = .ok (.goto 7, 3) := by decide +kernel
theorem dL_page_13 : decode cL_page 13 = .ok (.astore 4, 2) := by decide +kernel
theorem dL_page_15 : decode cL_page 15 = .ok (.iconst 1, 1) := by decide +kernel
theorem dL_page_16 : decode cL_page 16 = .ok (.ireturn, 1) := by decide +kernel
theorem dL_page_17 : decode cL_page 17 = .ok (.iconst 0, 1) := by decide +kernel
theorem dL_page_18 : decode cL_page 18 = .ok (.ireturn, 1) := by decide +kernel
theorem dL_strokes_0 : decode cL_strokes 0 = .ok (.aload_n 3, 1) := by decide +kernel
theorem dL_strokes_1 : decode cL_strokes 1 = .ok (.iconst 0, 1) := by decide +kernel
theorem dL_strokes_2 : decode cL_strokes 2 = .ok (.aload_n 0, 1) := by decide +kernel
theorem dL_strokes_3 : decode cL_strokes 3 = .ok (.iload_n 1, 1) := by decide +kernel
theorem dL_strokes_4 : decode cL_strokes 4 = .ok (.iload_n 2, 1) := by decide +kernel
theorem dL_strokes_5 : decode cL_strokes 5 = .ok (.invokevirtual 37, 3) := by decide +kernel
theorem dL_strokes_8 : decode cL_strokes 8 = .ok (.i2l, 1) := by decide +kernel
theorem dL_strokes_9 : decode cL_strokes 9 = .ok (.lastore, 1) := by decide +kernel
theorem dL_strokes_10 : decode cL_strokes 10 = .ok (.goto 7, 3) := by decide +kernel
theorem dL_strokes_13 : decode cL_strokes 13 = .ok (.astore 4, 2) := by decide +kernel
theorem dL_strokes_15 : decode cL_strokes 15 = .ok (.iconst 1, 1) := by decide +kernel
theorem dL_strokes_16 : decode cL_strokes 16 = .ok (.ireturn, 1) := by decide +kernel
theorem dL_strokes_17 : decode cL_strokes 17 = .ok (.iconst 0, 1) := by decide +kernel
theorem dL_strokes_18 : decode cL_strokes 18 = .ok (.ireturn, 1) := by decide +kernel
theorem dL_mark_0 : decode cL_mark 0 = .ok (.aload 4, 2) := by decide +kernel
theorem dL_mark_2 : decode cL_mark 2 = .ok (.iconst 0, 1) := by decide +kernel
theorem dL_mark_3 : decode cL_mark 3 = .ok (.aload_n 0, 1) := by decide +kernel
theorem dL_mark_4 : decode cL_mark 4 = .ok (.iload_n 1, 1) := by decide +kernel
theorem dL_mark_5 : decode cL_mark 5 = .ok (.iload_n 2, 1) := by decide +kernel
theorem dL_mark_6 : decode cL_mark 6 = .ok (.iload_n 3, 1) := by decide +kernel
theorem dL_mark_7 : decode cL_mark 7 = .ok (.invokevirtual 40, 3) := by decide +kernel
theorem dL_mark_10 : decode cL_mark 10 = .ok (.i2l, 1) := by decide +kernel
theorem dL_mark_11 : decode cL_mark 11 = .ok (.lastore, 1) := by decide +kernel
theorem dL_mark_12 : decode cL_mark 12 = .ok (.goto 7, 3) := by decide +kernel
theorem dL_mark_15 : decode cL_mark 15 = .ok (.astore 5, 2) := by decide +kernel
theorem dL_mark_17 : decode cL_mark 17 = .ok (.iconst 1, 1) := by decide +kernel
theorem dL_mark_18 : decode cL_mark 18 = .ok (.ireturn, 1) := by decide +kernel
theorem dL_mark_19 : decode cL_mark 19 = .ok (.iconst 0, 1) := by decide +kernel
theorem dL_mark_20 : decode cL_mark 20 = .ok (.ireturn, 1) := by decide +kernel
theorem dL_alike_0 : decode cL_alike 0 = .ok (.aload_n 3, 1) := by decide +kernel
theorem dL_alike_1 : decode cL_alike 1 = .ok (.iconst 0, 1) := by decide +kernel
theorem dL_alike_2 : decode cL_alike 2 = .ok (.aload_n 0, 1) := by decide +kernel
theorem dL_alike_3 : decode cL_alike 3 = .ok (.iload_n 1, 1) := by decide +kernel
theorem dL_alike_4 : decode cL_alike 4 = .ok (.iload_n 2, 1) := by decide +kernel
theorem dL_alike_5 : decode cL_alike 5 = .ok (.invokevirtual 44, 3) := by decide +kernel
theorem dL_alike_8 : decode cL_alike 8 = .ok (.i2l, 1) := by decide +kernel
theorem dL_alike_9 : decode cL_alike 9 = .ok (.lastore, 1) := by decide +kernel
theorem dL_alike_10 : decode cL_alike 10 = .ok (.goto 7, 3) := by decide +kernel
theorem dL_alike_13 : decode cL_alike 13 = .ok (.astore 4, 2) := by decide +kernel
theorem dL_alike_15 : decode cL_alike 15 = .ok (.iconst 1, 1) := by decide +kernel
theorem dL_alike_16 : decode cL_alike 16 = .ok (.ireturn, 1) := by decide +kernel
theorem dL_alike_17 : decode cL_alike 17 = .ok (.iconst 0, 1) := by decide +kernel
theorem dL_alike_18 : decode cL_alike 18 = .ok (.ireturn, 1) := by decide +kernel
theorem dL_reads_0 : decode cL_reads 0 = .ok (.aload_n 3, 1) := by decide +kernel
theorem dL_reads_1 : decode cL_reads 1 = .ok (.iconst 0, 1) := by decide +kernel
theorem dL_reads_2 : decode cL_reads 2 = .ok (.aload_n 0, 1) := by decide +kernel
theorem dL_reads_3 : decode cL_reads 3 = .ok (.iload_n 1, 1) := by decide +kernel
theorem dL_reads_4 : decode cL_reads 4 = .ok (.iload_n 2, 1) := by decide +kernel
theorem dL_reads_5 : decode cL_reads 5 = .ok (.invokevirtual 47, 3) := by decide +kernel
theorem dL_reads_8 : decode cL_reads 8 = .ok (.i2l, 1) := by decide +kernel
theorem dL_reads_9 : decode cL_reads 9 = .ok (.lastore, 1) := by decide +kernel
theorem dL_reads_10 : decode cL_reads 10 = .ok (.goto 7, 3) := by decide +kernel
theorem dL_reads_13 : decode cL_reads 13 = .ok (.astore 4, 2) := by decide +kernel
theorem dL_reads_15 : decode cL_reads 15 = .ok (.iconst 1, 1) := by decide +kernel
theorem dL_reads_16 : decode cL_reads 16 = .ok (.ireturn, 1) := by decide +kernel
theorem dL_reads_17 : decode cL_reads 17 = .ok (.iconst 0, 1) := by decide +kernel
theorem dL_reads_18 : decode cL_reads 18 = .ok (.ireturn, 1) := by decide +kernel
theorem dL_keepsUp_0 : decode cL_keepsUp 0 = .ok (.aload_n 3, 1) := by decide +kernel
theorem dL_keepsUp_1 : decode cL_keepsUp 1 = .ok (.iconst 0, 1) := by decide +kernel
theorem dL_keepsUp_2 : decode cL_keepsUp 2 = .ok (.aload_n 0, 1) := by decide +kernel
theorem dL_keepsUp_3 : decode cL_keepsUp 3 = .ok (.iload_n 1, 1) := by decide +kernel
theorem dL_keepsUp_4 : decode cL_keepsUp 4 = .ok (.iload_n 2, 1) := by decide +kernel
theorem dL_keepsUp_5 : decode cL_keepsUp 5 = .ok (.invokevirtual 50, 3) := by decide +kernel
theorem dL_keepsUp_8 : decode cL_keepsUp 8 = .ok (.ifCond .eq 7, 3) := by decide +kernel
theorem dL_keepsUp_11 : decode cL_keepsUp 11 = .ok (.lconst 1, 1) := by decide +kernel
theorem dL_keepsUp_12 : decode cL_keepsUp 12 = .ok (.goto 4, 3) := by decide +kernel
theorem dL_keepsUp_15 : decode cL_keepsUp 15 = .ok (.lconst 0, 1) := by decide +kernel
theorem dL_keepsUp_16 : decode cL_keepsUp 16 = .ok (.lastore, 1) := by decide +kernel
theorem dL_keepsUp_17 : decode cL_keepsUp 17 = .ok (.goto 7, 3) := by decide +kernel
theorem dL_keepsUp_20 : decode cL_keepsUp 20 = .ok (.astore 4, 2) := by decide +kernel
theorem dL_keepsUp_22 : decode cL_keepsUp 22 = .ok (.iconst 1, 1) := by decide +kernel
theorem dL_keepsUp_23 : decode cL_keepsUp 23 = .ok (.ireturn, 1) := by decide +kernel
theorem dL_keepsUp_24 : decode cL_keepsUp 24 = .ok (.iconst 0, 1) := by decide +kernel
theorem dL_keepsUp_25 : decode cL_keepsUp 25 = .ok (.ireturn, 1) := by decide +kernel
theorem dL_slips_0 : decode cL_slips 0 = .ok (.aload_n 3, 1) := by decide +kernel
theorem dL_slips_1 : decode cL_slips 1 = .ok (.iconst 0, 1) := by decide +kernel
theorem dL_slips_2 : decode cL_slips 2 = .ok (.aload_n 0, 1) := by decide +kernel
theorem dL_slips_3 : decode cL_slips 3 = .ok (.iload_n 1, 1) := by decide +kernel
theorem dL_slips_4 : decode cL_slips 4 = .ok (.iload_n 2, 1) := by decide +kernel
theorem dL_slips_5 : decode cL_slips 5 = .ok (.invokevirtual 54, 3) := by decide +kernel
theorem dL_slips_8 : decode cL_slips 8 = .ok (.i2l, 1) := by decide +kernel
theorem dL_slips_9 : decode cL_slips 9 = .ok (.lastore, 1) := by decide +kernel
theorem dL_slips_10 : decode cL_slips 10 = .ok (.goto 7, 3) := by decide +kernel
theorem dL_slips_13 : decode cL_slips 13 = .ok (.astore 4, 2) := by decide +kernel
theorem dL_slips_15 : decode cL_slips 15 = .ok (.iconst 1, 1) := by decide +kernel
theorem dL_slips_16 : decode cL_slips 16 = .ok (.ireturn, 1) := by decide +kernel
theorem dL_slips_17 : decode cL_slips 17 = .ok (.iconst 0, 1) := by decide +kernel
theorem dL_slips_18 : decode cL_slips 18 = .ok (.ireturn, 1) := by decide +kernel
theorem dL_minutes_0 : decode cL_minutes 0 = .ok (.aload_n 2, 1) := by decide +kernel
theorem dL_minutes_1 : decode cL_minutes 1 = .ok (.iconst 0, 1) := by decide +kernel
theorem dL_minutes_2 : decode cL_minutes 2 = .ok (.aload_n 0, 1) := by decide +kernel
theorem dL_minutes_3 : decode cL_minutes 3 = .ok (.iload_n 1, 1) := by decide +kernel
theorem dL_minutes_4 : decode cL_minutes 4 = .ok (.invokevirtual 57, 3) := by decide +kernel
theorem dL_minutes_7 : decode cL_minutes 7 = .ok (.i2l, 1) := by decide +kernel
theorem dL_minutes_8 : decode cL_minutes 8 = .ok (.lastore, 1) := by decide +kernel
theorem dL_minutes_9 : decode cL_minutes 9 = .ok (.goto 6, 3) := by decide +kernel
theorem dL_minutes_12 : decode cL_minutes 12 = .ok (.astore_n 3, 1) := by decide +kernel
theorem dL_minutes_13 : decode cL_minutes 13 = .ok (.iconst 1, 1) := by decide +kernel
theorem dL_minutes_14 : decode cL_minutes 14 = .ok (.ireturn, 1) := by decide +kernel
theorem dL_minutes_15 : decode cL_minutes 15 = .ok (.iconst 0, 1) := by decide +kernel
theorem dL_minutes_16 : decode cL_minutes 16 = .ok (.ireturn, 1) := by decide +kernel
theorem dL_speak_0 : decode cL_speak 0 = .ok (.aload_n 2, 1) := by decide +kernel
theorem dL_speak_1 : decode cL_speak 1 = .ok (.iconst 0, 1) := by decide +kernel
theorem dL_speak_2 : decode cL_speak 2 = .ok (.aload_n 0, 1) := by decide +kernel
theorem dL_speak_3 : decode cL_speak 3 = .ok (.iload_n 1, 1) := by decide +kernel
theorem dL_speak_4 : decode cL_speak 4 = .ok (.invokevirtual 61, 3) := by decide +kernel
theorem dL_speak_7 : decode cL_speak 7 = .ok (.i2l, 1) := by decide +kernel
theorem dL_speak_8 : decode cL_speak 8 = .ok (.lastore, 1) := by decide +kernel
theorem dL_speak_9 : decode cL_speak 9 = .ok (.goto 9, 3) := by decide +kernel
theorem dL_speak_12 : decode cL_speak 12 = .ok (.astore_n 3, 1) := by decide +kernel
theorem dL_speak_13 : decode cL_speak 13 = .ok (.iconst 1, 1) := by decide +kernel
theorem dL_speak_14 : decode cL_speak 14 = .ok (.ireturn, 1) := by decide +kernel
theorem dL_speak_15 : decode cL_speak 15 = .ok (.astore_n 3, 1) := by decide +kernel
theorem dL_speak_16 : decode cL_speak 16 = .ok (.iconst 2, 1) := by decide +kernel
theorem dL_speak_17 : decode cL_speak 17 = .ok (.ireturn, 1) := by decide +kernel
theorem dL_speak_18 : decode cL_speak 18 = .ok (.iconst 0, 1) := by decide +kernel
theorem dL_speak_19 : decode cL_speak 19 = .ok (.ireturn, 1) := by decide +kernel
theorem dL_leave_0 : decode cL_leave 0 = .ok (.aload 4, 2) := by decide +kernel
theorem dL_leave_2 : decode cL_leave 2 = .ok (.iconst 0, 1) := by decide +kernel
theorem dL_leave_3 : decode cL_leave 3 = .ok (.aload_n 0, 1) := by decide +kernel
theorem dL_leave_4 : decode cL_leave 4 = .ok (.iload_n 1, 1) := by decide +kernel
theorem dL_leave_5 : decode cL_leave 5 = .ok (.iload_n 2, 1) := by decide +kernel
theorem dL_leave_6 : decode cL_leave 6 = .ok (.iload_n 3, 1) := by decide +kernel
theorem dL_leave_7 : decode cL_leave 7 = .ok (.invokevirtual 66, 3) := by decide +kernel
theorem dL_leave_10 : decode cL_leave 10 = .ok (.ifCond .eq 7, 3) := by decide +kernel
theorem dL_leave_13 : decode cL_leave 13 = .ok (.lconst 1, 1) := by decide +kernel
theorem dL_leave_14 : decode cL_leave 14 = .ok (.goto 4, 3) := by decide +kernel
theorem dL_leave_17 : decode cL_leave 17 = .ok (.lconst 0, 1) := by decide +kernel
theorem dL_leave_18 : decode cL_leave 18 = .ok (.lastore, 1) := by decide +kernel
theorem dL_leave_19 : decode cL_leave 19 = .ok (.goto 7, 3) := by decide +kernel
theorem dL_leave_22 : decode cL_leave 22 = .ok (.astore 5, 2) := by decide +kernel
theorem dL_leave_24 : decode cL_leave 24 = .ok (.iconst 1, 1) := by decide +kernel
theorem dL_leave_25 : decode cL_leave 25 = .ok (.ireturn, 1) := by decide +kernel
theorem dL_leave_26 : decode cL_leave 26 = .ok (.iconst 0, 1) := by decide +kernel
theorem dL_leave_27 : decode cL_leave 27 = .ok (.ireturn, 1) := by decide +kernel
theorem dL_learn_0 : decode cL_learn 0 = .ok (.aload_n 2, 1) := by decide +kernel
theorem dL_learn_1 : decode cL_learn 1 = .ok (.iconst 0, 1) := by decide +kernel
theorem dL_learn_2 : decode cL_learn 2 = .ok (.aload_n 0, 1) := by decide +kernel
theorem dL_learn_3 : decode cL_learn 3 = .ok (.iload_n 1, 1) := by decide +kernel
theorem dL_learn_4 : decode cL_learn 4 = .ok (.invokevirtual 70, 3) := by decide +kernel
theorem dL_learn_7 : decode cL_learn 7 = .ok (.i2l, 1) := by decide +kernel
theorem dL_learn_8 : decode cL_learn 8 = .ok (.lastore, 1) := by decide +kernel
theorem dL_learn_9 : decode cL_learn 9 = .ok (.goto 6, 3) := by decide +kernel
theorem dL_learn_12 : decode cL_learn 12 = .ok (.astore_n 3, 1) := by decide +kernel
theorem dL_learn_13 : decode cL_learn 13 = .ok (.iconst 1, 1) := by decide +kernel
theorem dL_learn_14 : decode cL_learn 14 = .ok (.ireturn, 1) := by decide +kernel
theorem dL_learn_15 : decode cL_learn 15 = .ok (.iconst 0, 1) := by decide +kernel
theorem dL_learn_16 : decode cL_learn 16 = .ok (.ireturn, 1) := by decide +kernel
theorem dL_rest_0 : decode cL_rest 0 = .ok (.aload_n 2, 1) := by decide +kernel
theorem dL_rest_1 : decode cL_rest 1 = .ok (.iconst 0, 1) := by decide +kernel
theorem dL_rest_2 : decode cL_rest 2 = .ok (.aload_n 0, 1) := by decide +kernel
theorem dL_rest_3 : decode cL_rest 3 = .ok (.iload_n 1, 1) := by decide +kernel
theorem dL_rest_4 : decode cL_rest 4 = .ok (.invokevirtual 73, 3) := by decide +kernel
theorem dL_rest_7 : decode cL_rest 7 = .ok (.i2l, 1) := by decide +kernel
theorem dL_rest_8 : decode cL_rest 8 = .ok (.lastore, 1) := by decide +kernel
theorem dL_rest_9 : decode cL_rest 9 = .ok (.goto 6, 3) := by decide +kernel
theorem dL_rest_12 : decode cL_rest 12 = .ok (.astore_n 3, 1) := by decide +kernel
theorem dL_rest_13 : decode cL_rest 13 = .ok (.iconst 1, 1) := by decide +kernel
theorem dL_rest_14 : decode cL_rest 14 = .ok (.ireturn, 1) := by decide +kernel
theorem dL_rest_15 : decode cL_rest 15 = .ok (.iconst 0, 1) := by decide +kernel
theorem dL_rest_16 : decode cL_rest 16 = .ok (.ireturn, 1) := by decide +kernel
theorem dL_often_0 : decode cL_often 0 = .ok (.aload_n 3, 1) := by decide +kernel
theorem dL_often_1 : decode cL_often 1 = .ok (.iconst 0, 1) := by decide +kernel
theorem dL_often_2 : decode cL_often 2 = .ok (.aload_n 0, 1) := by decide +kernel
theorem dL_often_3 : decode cL_often 3 = .ok (.iload_n 1, 1) := by decide +kernel
theorem dL_often_4 : decode cL_often 4 = .ok (.iload_n 2, 1) := by decide +kernel
theorem dL_often_5 : decode cL_often 5 = .ok (.invokevirtual 76, 3) := by decide +kernel
theorem dL_often_8 : decode cL_often 8 = .ok (.i2l, 1) := by decide +kernel
theorem dL_often_9 : decode cL_often 9 = .ok (.lastore, 1) := by decide +kernel
theorem dL_often_10 : decode cL_often 10 = .ok (.goto 11, 3) := by decide +kernel
theorem dL_often_13 : decode cL_often 13 = .ok (.astore 4, 2) := by decide +kernel
theorem dL_often_15 : decode cL_often 15 = .ok (.iconst 1, 1) := by decide +kernel
theorem dL_often_16 : decode cL_often 16 = .ok (.ireturn, 1) := by decide +kernel
theorem dL_often_17 : decode cL_often 17 = .ok (.astore 4, 2) := by decide +kernel
theorem dL_often_19 : decode cL_often 19 = .ok (.iconst 2, 1) := by decide +kernel
theorem dL_often_20 : decode cL_often 20 = .ok (.ireturn, 1) := by decide +kernel
theorem dL_often_21 : decode cL_often 21 = .ok (.iconst 0, 1) := by decide +kernel
theorem dL_often_22 : decode cL_often 22 = .ok (.ireturn, 1) := by decide +kernel
theorem dL_tempo_0 : decode cL_tempo 0 = .ok (.aload_n 2, 1) := by decide +kernel
theorem dL_tempo_1 : decode cL_tempo 1 = .ok (.iconst 0, 1) := by decide +kernel
theorem dL_tempo_2 : decode cL_tempo 2 = .ok (.aload_n 0, 1) := by decide +kernel
theorem dL_tempo_3 : decode cL_tempo 3 = .ok (.iload_n 1, 1) := by decide +kernel
theorem dL_tempo_4 : decode cL_tempo 4 = .ok (.invokevirtual 79, 3) := by decide +kernel
theorem dL_tempo_7 : decode cL_tempo 7 = .ok (.i2l, 1) := by decide +kernel
theorem dL_tempo_8 : decode cL_tempo 8 = .ok (.lastore, 1) := by decide +kernel
theorem dL_tempo_9 : decode cL_tempo 9 = .ok (.goto 6, 3) := by decide +kernel
theorem dL_tempo_12 : decode cL_tempo 12 = .ok (.astore_n 3, 1) := by decide +kernel
theorem dL_tempo_13 : decode cL_tempo 13 = .ok (.iconst 1, 1) := by decide +kernel
theorem dL_tempo_14 : decode cL_tempo 14 = .ok (.ireturn, 1) := by decide +kernel
theorem dL_tempo_15 : decode cL_tempo 15 = .ok (.iconst 0, 1) := by decide +kernel
theorem dL_tempo_16 : decode cL_tempo 16 = .ok (.ireturn, 1) := by decide +kernel
theorem dL_speed_0 : decode cL_speed 0 = .ok (.aload_n 3, 1) := by decide +kernel
theorem dL_speed_1 : decode cL_speed 1 = .ok (.iconst 0, 1) := by decide +kernel
theorem dL_speed_2 : decode cL_speed 2 = .ok (.aload_n 0, 1) := by decide +kernel
theorem dL_speed_3 : decode cL_speed 3 = .ok (.iload_n 1, 1) := by decide +kernel
theorem dL_speed_4 : decode cL_speed 4 = .ok (.iload_n 2, 1) := by decide +kernel
theorem dL_speed_5 : decode cL_speed 5 = .ok (.invokevirtual 82, 3) := by decide +kernel
theorem dL_speed_8 : decode cL_speed 8 = .ok (.i2l, 1) := by decide +kernel
theorem dL_speed_9 : decode cL_speed 9 = .ok (.lastore, 1) := by decide +kernel
theorem dL_speed_10 : decode cL_speed 10 = .ok (.goto 11, 3) := by decide +kernel
theorem dL_speed_13 : decode cL_speed 13 = .ok (.astore 4, 2) := by decide +kernel
theorem dL_speed_15 : decode cL_speed 15 = .ok (.iconst 1, 1) := by decide +kernel
theorem dL_speed_16 : decode cL_speed 16 = .ok (.ireturn, 1) := by decide +kernel
theorem dL_speed_17 : decode cL_speed 17 = .ok (.astore 4, 2) := by decide +kernel
theorem dL_speed_19 : decode cL_speed 19 = .ok (.iconst 2, 1) := by decide +kernel
theorem dL_speed_20 : decode cL_speed 20 = .ok (.ireturn, 1) := by decide +kernel
theorem dL_speed_21 : decode cL_speed 21 = .ok (.iconst 0, 1) := by decide +kernel
theorem dL_speed_22 : decode cL_speed 22 = .ok (.ireturn, 1) := by decide +kernel
theorem dL_leaves_0 : decode cL_leaves 0 = .ok (.aload_n 3, 1) := by decide +kernel
theorem dL_leaves_1 : decode cL_leaves 1 = .ok (.iconst 0, 1) := by decide +kernel
theorem dL_leaves_2 : decode cL_leaves 2 = .ok (.aload_n 0, 1) := by decide +kernel
theorem dL_leaves_3 : decode cL_leaves 3 = .ok (.iload_n 1, 1) := by decide +kernel
theorem dL_leaves_4 : decode cL_leaves 4 = .ok (.iload_n 2, 1) := by decide +kernel
theorem dL_leaves_5 : decode cL_leaves 5 = .ok (.invokevirtual 85, 3) := by decide +kernel
theorem dL_leaves_8 : decode cL_leaves 8 = .ok (.i2l, 1) := by decide +kernel
theorem dL_leaves_9 : decode cL_leaves 9 = .ok (.lastore, 1) := by decide +kernel
theorem dL_leaves_10 : decode cL_leaves 10 = .ok (.goto 7, 3) := by decide +kernel
theorem dL_leaves_13 : decode cL_leaves 13 = .ok (.astore 4, 2) := by decide +kernel
theorem dL_leaves_15 : decode cL_leaves 15 = .ok (.iconst 1, 1) := by decide +kernel
theorem dL_leaves_16 : decode cL_leaves 16 = .ok (.ireturn, 1) := by decide +kernel
theorem dL_leaves_17 : decode cL_leaves 17 = .ok (.iconst 0, 1) := by decide +kernel
theorem dL_leaves_18 : decode cL_leaves 18 = .ok (.ireturn, 1) := by decide +kernel
theorem dL_heard_0 : decode cL_heard 0 = .ok (.aload_n 1, 1) := by decide +kernel
theorem dL_heard_1 : decode cL_heard 1 = .ok (.iconst 0, 1) := by decide +kernel
theorem dL_heard_2 : decode cL_heard 2 = .ok (.aload_n 0, 1) := by decide +kernel
theorem dL_heard_3 : decode cL_heard 3 = .ok (.invokevirtual 89, 3) := by decide +kernel
theorem dL_heard_6 : decode cL_heard 6 = .ok (.i2l, 1) := by decide +kernel
theorem dL_heard_7 : decode cL_heard 7 = .ok (.lastore, 1) := by decide +kernel
theorem dL_heard_8 : decode cL_heard 8 = .ok (.goto 6, 3) := by decide +kernel
theorem dL_heard_11 : decode cL_heard 11 = .ok (.astore_n 2, 1) := by decide +kernel
theorem dL_heard_12 : decode cL_heard 12 = .ok (.iconst 1, 1) := by decide +kernel
theorem dL_heard_13 : decode cL_heard 13 = .ok (.ireturn, 1) := by decide +kernel
theorem dL_heard_14 : decode cL_heard 14 = .ok (.iconst 0, 1) := by decide +kernel
theorem dL_heard_15 : decode cL_heard 15 = .ok (.ireturn, 1) := by decide +kernel
theorem dL_likely_0 : decode cL_likely 0 = .ok (.aload_n 1, 1) := by decide +kernel
theorem dL_likely_1 : decode cL_likely 1 = .ok (.iconst 0, 1) := by decide +kernel
theorem dL_likely_2 : decode cL_likely 2 = .ok (.aload_n 0, 1) := by decide +kernel
theorem dL_likely_3 : decode cL_likely 3 = .ok (.invokevirtual 92, 3) := by decide +kernel
theorem dL_likely_6 : decode cL_likely 6 = .ok (.i2l, 1) := by decide +kernel
theorem dL_likely_7 : decode cL_likely 7 = .ok (.lastore, 1) := by decide +kernel
theorem dL_likely_8 : decode cL_likely 8 = .ok (.goto 6, 3) := by decide +kernel
theorem dL_likely_11 : decode cL_likely 11 = .ok (.astore_n 2, 1) := by decide +kernel
theorem dL_likely_12 : decode cL_likely 12 = .ok (.iconst 1, 1) := by decide +kernel
theorem dL_likely_13 : decode cL_likely 13 = .ok (.ireturn, 1) := by decide +kernel
theorem dL_likely_14 : decode cL_likely 14 = .ok (.iconst 0, 1) := by decide +kernel
theorem dL_likely_15 : decode cL_likely 15 = .ok (.ireturn, 1) := by decide +kernel
theorem dL_look_0 : decode cL_look 0 = .ok (.aload_n 1, 1) := by decide +kernel
theorem dL_look_1 : decode cL_look 1 = .ok (.iconst 0, 1) := by decide +kernel
theorem dL_look_2 : decode cL_look 2 = .ok (.aload_n 0, 1) := by decide +kernel
theorem dL_look_3 : decode cL_look 3 = .ok (.invokevirtual 95, 3) := by decide +kernel
theorem dL_look_6 : decode cL_look 6 = .ok (.i2l, 1) := by decide +kernel
theorem dL_look_7 : decode cL_look 7 = .ok (.lastore, 1) := by decide +kernel
theorem dL_look_8 : decode cL_look 8 = .ok (.goto 6, 3) := by decide +kernel
theorem dL_look_11 : decode cL_look 11 = .ok (.astore_n 2, 1) := by decide +kernel
theorem dL_look_12 : decode cL_look 12 = .ok (.iconst 1, 1) := by decide +kernel
theorem dL_look_13 : decode cL_look 13 = .ok (.ireturn, 1) := by decide +kernel
theorem dL_look_14 : decode cL_look 14 = .ok (.iconst 0, 1) := by decide +kernel
theorem dL_look_15 : decode cL_look 15 = .ok (.ireturn, 1) := by decide +kernel
theorem dL_hand_0 : decode cL_hand 0 = .ok (.aload_n 2, 1) := by decide +kernel
theorem dL_hand_1 : decode cL_hand 1 = .ok (.iconst 0, 1) := by decide +kernel
theorem dL_hand_2 : decode cL_hand 2 = .ok (.aload_n 0, 1) := by decide +kernel
theorem dL_hand_3 : decode cL_hand 3 = .ok (.iload_n 1, 1) := by decide +kernel
theorem dL_hand_4 : decode cL_hand 4 = .ok (.invokevirtual 98, 3) := by decide +kernel
theorem dL_hand_7 : decode cL_hand 7 = .ok (.i2l, 1) := by decide +kernel
theorem dL_hand_8 : decode cL_hand 8 = .ok (.lastore, 1) := by decide +kernel
theorem dL_hand_9 : decode cL_hand 9 = .ok (.goto 6, 3) := by decide +kernel
theorem dL_hand_12 : decode cL_hand 12 = .ok (.astore_n 3, 1) := by decide +kernel
theorem dL_hand_13 : decode cL_hand 13 = .ok (.iconst 1, 1) := by decide +kernel
theorem dL_hand_14 : decode cL_hand 14 = .ok (.ireturn, 1) := by decide +kernel
theorem dL_hand_15 : decode cL_hand 15 = .ok (.iconst 0, 1) := by decide +kernel
theorem dL_hand_16 : decode cL_hand 16 = .ok (.ireturn, 1) := by decide +kernel
theorem dL_ask_0 : decode cL_ask 0 = .ok (.aload_n 1, 1) := by decide +kernel
theorem dL_ask_1 : decode cL_ask 1 = .ok (.iconst 0, 1) := by decide +kernel
theorem dL_ask_2 : decode cL_ask 2 = .ok (.aload_n 0, 1) := by decide +kernel
theorem dL_ask_3 : decode cL_ask 3 = .ok (.invokevirtual 102, 3) := by decide +kernel
theorem dL_ask_6 : decode cL_ask 6 = .ok (.i2l, 1) := by decide +kernel
theorem dL_ask_7 : decode cL_ask 7 = .ok (.lastore, 1) := by decide +kernel
theorem dL_ask_8 : decode cL_ask 8 = .ok (.goto 6, 3) := by decide +kernel
theorem dL_ask_11 : decode cL_ask 11 = .ok (.astore_n 2, 1) := by decide +kernel
theorem dL_ask_12 : decode cL_ask 12 = .ok (.iconst 1, 1) := by decide +kernel
theorem dL_ask_13 : decode cL_ask 13 = .ok (.ireturn, 1) := by decide +kernel
theorem dL_ask_14 : decode cL_ask 14 = .ok (.iconst 0, 1) := by decide +kernel
theorem dL_ask_15 : decode cL_ask 15 = .ok (.ireturn, 1) := by decide +kernel
theorem dL_whose_0 : decode cL_whose 0 = .ok (.aload_n 1, 1) := by decide +kernel
theorem dL_whose_1 : decode cL_whose 1 = .ok (.iconst 0, 1) := by decide +kernel
theorem dL_whose_2 : decode cL_whose 2 = .ok (.aload_n 0, 1) := by decide +kernel
theorem dL_whose_3 : decode cL_whose 3 = .ok (.invokevirtual 105, 3) := by decide +kernel
theorem dL_whose_6 : decode cL_whose 6 = .ok (.i2l, 1) := by decide +kernel
theorem dL_whose_7 : decode cL_whose 7 = .ok (.lastore, 1) := by decide +kernel
theorem dL_whose_8 : decode cL_whose 8 = .ok (.goto 6, 3) := by decide +kernel
theorem dL_whose_11 : decode cL_whose 11 = .ok (.astore_n 2, 1) := by decide +kernel
theorem dL_whose_12 : decode cL_whose 12 = .ok (.iconst 1, 1) := by decide +kernel
theorem dL_whose_13 : decode cL_whose 13 = .ok (.ireturn, 1) := by decide +kernel
theorem dL_whose_14 : decode cL_whose 14 = .ok (.iconst 0, 1) := by decide +kernel
theorem dL_whose_15 : decode cL_whose 15 = .ok (.ireturn, 1) := by decide +kernel
theorem dL_better_0 : decode cL_better 0 = .ok (.aload_n 3, 1) := by decide +kernel
theorem dL_better_1 : decode cL_better 1 = .ok (.iconst 0, 1) := by decide +kernel
theorem dL_better_2 : decode cL_better 2 = .ok (.aload_n 0, 1) := by decide +kernel
theorem dL_better_3 : decode cL_better 3 = .ok (.iload_n 1, 1) := by decide +kernel
theorem dL_better_4 : decode cL_better 4 = .ok (.iload_n 2, 1) := by decide +kernel
theorem dL_better_5 : decode cL_better 5 = .ok (.invokevirtual 108, 3) := by decide +kernel
theorem dL_better_8 : decode cL_better 8 = .ok (.ifCond .eq 7, 3) := by decide +kernel
theorem dL_better_11 : decode cL_better 11 = .ok (.lconst 1, 1) := by decide +kernel
theorem dL_better_12 : decode cL_better 12 = .ok (.goto 4, 3) := by decide +kernel
theorem dL_better_15 : decode cL_better 15 = .ok (.lconst 0, 1) := by decide +kernel
theorem dL_better_16 : decode cL_better 16 = .ok (.lastore, 1) := by decide +kernel
theorem dL_better_17 : decode cL_better 17 = .ok (.goto 11, 3) := by decide +kernel
theorem dL_better_20 : decode cL_better 20 = .ok (.astore 4, 2) := by decide +kernel
theorem dL_better_22 : decode cL_better 22 = .ok (.iconst 1, 1) := by decide +kernel
theorem dL_better_23 : decode cL_better 23 = .ok (.ireturn, 1) := by decide +kernel
theorem dL_better_24 : decode cL_better 24 = .ok (.astore 4, 2) := by decide +kernel
theorem dL_better_26 : decode cL_better 26 = .ok (.iconst 2, 1) := by decide +kernel
theorem dL_better_27 : decode cL_better 27 = .ok (.ireturn, 1) := by decide +kernel
theorem dL_better_28 : decode cL_better 28 = .ok (.iconst 0, 1) := by decide +kernel
theorem dL_better_29 : decode cL_better 29 = .ok (.ireturn, 1) := by decide +kernel
theorem dL_change_0 : decode cL_change 0 = .ok (.aload_n 3, 1) := by decide +kernel
theorem dL_change_1 : decode cL_change 1 = .ok (.iconst 0, 1) := by decide +kernel
theorem dL_change_2 : decode cL_change 2 = .ok (.aload_n 0, 1) := by decide +kernel
theorem dL_change_3 : decode cL_change 3 = .ok (.iload_n 1, 1) := by decide +kernel
theorem dL_change_4 : decode cL_change 4 = .ok (.iload_n 2, 1) := by decide +kernel
theorem dL_change_5 : decode cL_change 5 = .ok (.invokevirtual 111, 3) := by decide +kernel
theorem dL_change_8 : decode cL_change 8 = .ok (.i2l, 1) := by decide +kernel
theorem dL_change_9 : decode cL_change 9 = .ok (.lastore, 1) := by decide +kernel
theorem dL_change_10 : decode cL_change 10 = .ok (.goto 7, 3) := by decide +kernel
theorem dL_change_13 : decode cL_change 13 = .ok (.astore 4, 2) := by decide +kernel
theorem dL_change_15 : decode cL_change 15 = .ok (.iconst 1, 1) := by decide +kernel
theorem dL_change_16 : decode cL_change 16 = .ok (.ireturn, 1) := by decide +kernel
theorem dL_change_17 : decode cL_change 17 = .ok (.iconst 0, 1) := by decide +kernel
theorem dL_change_18 : decode cL_change 18 = .ok (.ireturn, 1) := by decide +kernel
theorem dL_chain_0 : decode cL_chain 0 = .ok (.aload_n 3, 1) := by decide +kernel
theorem dL_chain_1 : decode cL_chain 1 = .ok (.iconst 0, 1) := by decide +kernel
theorem dL_chain_2 : decode cL_chain 2 = .ok (.aload_n 0, 1) := by decide +kernel
theorem dL_chain_3 : decode cL_chain 3 = .ok (.iload_n 1, 1) := by decide +kernel
theorem dL_chain_4 : decode cL_chain 4 = .ok (.iload_n 2, 1) := by decide +kernel
theorem dL_chain_5 : decode cL_chain 5 = .ok (.invokevirtual 114, 3) := by decide +kernel
theorem dL_chain_8 : decode cL_chain 8 = .ok (.i2l, 1) := by decide +kernel
theorem dL_chain_9 : decode cL_chain 9 = .ok (.lastore, 1) := by decide +kernel
theorem dL_chain_10 : decode cL_chain 10 = .ok (.goto 7, 3) := by decide +kernel
theorem dL_chain_13 : decode cL_chain 13 = .ok (.astore 4, 2) := by decide +kernel
theorem dL_chain_15 : decode cL_chain 15 = .ok (.iconst 1, 1) := by decide +kernel
theorem dL_chain_16 : decode cL_chain 16 = .ok (.ireturn, 1) := by decide +kernel
theorem dL_chain_17 : decode cL_chain 17 = .ok (.iconst 0, 1) := by decide +kernel
theorem dL_chain_18 : decode cL_chain 18 = .ok (.ireturn, 1) := by decide +kernel
theorem dL_pages_0 : decode cL_pages 0 = .ok (.aload_n 3, 1) := by decide +kernel
theorem dL_pages_1 : decode cL_pages 1 = .ok (.iconst 0, 1) := by decide +kernel
theorem dL_pages_2 : decode cL_pages 2 = .ok (.aload_n 0, 1) := by decide +kernel
theorem dL_pages_3 : decode cL_pages 3 = .ok (.iload_n 1, 1) := by decide +kernel
theorem dL_pages_4 : decode cL_pages 4 = .ok (.iload_n 2, 1) := by decide +kernel
theorem dL_pages_5 : decode cL_pages 5 = .ok (.invokevirtual 117, 3) := by decide +kernel
theorem dL_pages_8 : decode cL_pages 8 = .ok (.i2l, 1) := by decide +kernel
theorem dL_pages_9 : decode cL_pages 9 = .ok (.lastore, 1) := by decide +kernel
theorem dL_pages_10 : decode cL_pages 10 = .ok (.goto 11, 3) := by decide +kernel
theorem dL_pages_13 : decode cL_pages 13 = .ok (.astore 4, 2) := by decide +kernel
theorem dL_pages_15 : decode cL_pages 15 = .ok (.iconst 1, 1) := by decide +kernel
theorem dL_pages_16 : decode cL_pages 16 = .ok (.ireturn, 1) := by decide +kernel
theorem dL_pages_17 : decode cL_pages 17 = .ok (.astore 4, 2) := by decide +kernel
theorem dL_pages_19 : decode cL_pages 19 = .ok (.iconst 2, 1) := by decide +kernel
theorem dL_pages_20 : decode cL_pages 20 = .ok (.ireturn, 1) := by decide +kernel
theorem dL_pages_21 : decode cL_pages 21 = .ok (.iconst 0, 1) := by decide +kernel
theorem dL_pages_22 : decode cL_pages 22 = .ok (.ireturn, 1) := by decide +kernel
theorem dL_pairs_0 : decode cL_pairs 0 = .ok (.aload_n 2, 1) := by decide +kernel
theorem dL_pairs_1 : decode cL_pairs 1 = .ok (.iconst 0, 1) := by decide +kernel
theorem dL_pairs_2 : decode cL_pairs 2 = .ok (.aload_n 0, 1) := by decide +kernel
theorem dL_pairs_3 : decode cL_pairs 3 = .ok (.iload_n 1, 1) := by decide +kernel
theorem dL_pairs_4 : decode cL_pairs 4 = .ok (.invokevirtual 120, 3) := by decide +kernel
theorem dL_pairs_7 : decode cL_pairs 7 = .ok (.i2l, 1) := by decide +kernel
theorem dL_pairs_8 : decode cL_pairs 8 = .ok (.lastore, 1) := by decide +kernel
theorem dL_pairs_9 : decode cL_pairs 9 = .ok (.goto 6, 3) := by decide +kernel
theorem dL_pairs_12 : decode cL_pairs 12 = .ok (.astore_n 3, 1) := by decide +kernel
theorem dL_pairs_13 : decode cL_pairs 13 = .ok (.iconst 1, 1) := by decide +kernel
theorem dL_pairs_14 : decode cL_pairs 14 = .ok (.ireturn, 1) := by decide +kernel
theorem dL_pairs_15 : decode cL_pairs 15 = .ok (.iconst 0, 1) := by decide +kernel
theorem dL_pairs_16 : decode cL_pairs 16 = .ok (.ireturn, 1) := by decide +kernel
theorem dL_rests_0 : decode cL_rests 0 = .ok (.aload_n 2, 1) := by decide +kernel
theorem dL_rests_1 : decode cL_rests 1 = .ok (.iconst 0, 1) := by decide +kernel
theorem dL_rests_2 : decode cL_rests 2 = .ok (.aload_n 0, 1) := by decide +kernel
theorem dL_rests_3 : decode cL_rests 3 = .ok (.iload_n 1, 1) := by decide +kernel
theorem dL_rests_4 : decode cL_rests 4 = .ok (.invokevirtual 123, 3) := by decide +kernel
theorem dL_rests_7 : decode cL_rests 7 = .ok (.i2l, 1) := by decide +kernel
theorem dL_rests_8 : decode cL_rests 8 = .ok (.lastore, 1) := by decide +kernel
theorem dL_rests_9 : decode cL_rests 9 = .ok (.goto 6, 3) := by decide +kernel
theorem dL_rests_12 : decode cL_rests 12 = .ok (.astore_n 3, 1) := by decide +kernel
theorem dL_rests_13 : decode cL_rests 13 = .ok (.iconst 1, 1) := by decide +kernel
theorem dL_rests_14 : decode cL_rests 14 = .ok (.ireturn, 1) := by decide +kernel
theorem dL_rests_15 : decode cL_rests 15 = .ok (.iconst 0, 1) := by decide +kernel
theorem dL_rests_16 : decode cL_rests 16 = .ok (.ireturn, 1) := by decide +kernel
theorem dL_odds_0 : decode cL_odds 0 = .ok (.aload 4, 2) := by decide +kernel
theorem dL_odds_2 : decode cL_odds 2 = .ok (.iconst 0, 1) := by decide +kernel
theorem dL_odds_3 : decode cL_odds 3 = .ok (.aload_n 0, 1) := by decide +kernel
theorem dL_odds_4 : decode cL_odds 4 = .ok (.iload_n 1, 1) := by decide +kernel
theorem dL_odds_5 : decode cL_odds 5 = .ok (.iload_n 2, 1) := by decide +kernel
theorem dL_odds_6 : decode cL_odds 6 = .ok (.iload_n 3, 1) := by decide +kernel
theorem dL_odds_7 : decode cL_odds 7 = .ok (.invokevirtual 126, 3) := by decide +kernel
theorem dL_odds_10 : decode cL_odds 10 = .ok (.i2l, 1) := by decide +kernel
theorem dL_odds_11 : decode cL_odds 11 = .ok (.lastore, 1) := by decide +kernel
theorem dL_odds_12 : decode cL_odds 12 = .ok (.goto 11, 3) := by decide +kernel
theorem dL_odds_15 : decode cL_odds 15 = .ok (.astore 5, 2) := by decide +kernel
theorem dL_odds_17 : decode cL_odds 17 = .ok (.iconst 1, 1) := by decide +kernel
theorem dL_odds_18 : decode cL_odds 18 = .ok (.ireturn, 1) := by decide +kernel
theorem dL_odds_19 : decode cL_odds 19 = .ok (.astore 5, 2) := by decide +kernel
theorem dL_odds_21 : decode cL_odds 21 = .ok (.iconst 2, 1) := by decide +kernel
theorem dL_odds_22 : decode cL_odds 22 = .ok (.ireturn, 1) := by decide +kernel
theorem dL_odds_23 : decode cL_odds 23 = .ok (.iconst 0, 1) := by decide +kernel
theorem dL_odds_24 : decode cL_odds 24 = .ok (.ireturn, 1) := by decide +kernel
theorem dL_uses_0 : decode cL_uses 0 = .ok (.aload_n 2, 1) := by decide +kernel
theorem dL_uses_1 : decode cL_uses 1 = .ok (.iconst 0, 1) := by decide +kernel
theorem dL_uses_2 : decode cL_uses 2 = .ok (.aload_n 0, 1) := by decide +kernel
theorem dL_uses_3 : decode cL_uses 3 = .ok (.iload_n 1, 1) := by decide +kernel
theorem dL_uses_4 : decode cL_uses 4 = .ok (.invokevirtual 129, 3) := by decide +kernel
theorem dL_uses_7 : decode cL_uses 7 = .ok (.i2l, 1) := by decide +kernel
theorem dL_uses_8 : decode cL_uses 8 = .ok (.lastore, 1) := by decide +kernel
theorem dL_uses_9 : decode cL_uses 9 = .ok (.goto 6, 3) := by decide +kernel
theorem dL_uses_12 : decode cL_uses 12 = .ok (.astore_n 3, 1) := by decide +kernel
theorem dL_uses_13 : decode cL_uses 13 = .ok (.iconst 1, 1) := by decide +kernel
theorem dL_uses_14 : decode cL_uses 14 = .ok (.ireturn, 1) := by decide +kernel
theorem dL_uses_15 : decode cL_uses 15 = .ok (.iconst 0, 1) := by decide +kernel
theorem dL_uses_16 : decode cL_uses 16 = .ok (.ireturn, 1) := by decide +kernel
theorem dL_ahead_0 : decode cL_ahead 0 = .ok (.aload_n 3, 1) := by decide +kernel
theorem dL_ahead_1 : decode cL_ahead 1 = .ok (.iconst 0, 1) := by decide +kernel
theorem dL_ahead_2 : decode cL_ahead 2 = .ok (.aload_n 0, 1) := by decide +kernel
theorem dL_ahead_3 : decode cL_ahead 3 = .ok (.iload_n 1, 1) := by decide +kernel
theorem dL_ahead_4 : decode cL_ahead 4 = .ok (.iload_n 2, 1) := by decide +kernel
theorem dL_ahead_5 : decode cL_ahead 5 = .ok (.invokevirtual 132, 3) := by decide +kernel
theorem dL_ahead_8 : decode cL_ahead 8 = .ok (.i2l, 1) := by decide +kernel
theorem dL_ahead_9 : decode cL_ahead 9 = .ok (.lastore, 1) := by decide +kernel
theorem dL_ahead_10 : decode cL_ahead 10 = .ok (.goto 11, 3) := by decide +kernel
theorem dL_ahead_13 : decode cL_ahead 13 = .ok (.astore 4, 2) := by decide +kernel
theorem dL_ahead_15 : decode cL_ahead 15 = .ok (.iconst 1, 1) := by decide +kernel
theorem dL_ahead_16 : decode cL_ahead 16 = .ok (.ireturn, 1) := by decide +kernel
theorem dL_ahead_17 : decode cL_ahead 17 = .ok (.astore 4, 2) := by decide +kernel
theorem dL_ahead_19 : decode cL_ahead 19 = .ok (.iconst 2, 1) := by decide +kernel
theorem dL_ahead_20 : decode cL_ahead 20 = .ok (.ireturn, 1) := by decide +kernel
theorem dL_ahead_21 : decode cL_ahead 21 = .ok (.iconst 0, 1) := by decide +kernel
theorem dL_ahead_22 : decode cL_ahead 22 = .ok (.ireturn, 1) := by decide +kernel
theorem dL_trial_0 : decode cL_trial 0 = .ok (.aload_n 3, 1) := by decide +kernel
theorem dL_trial_1 : decode cL_trial 1 = .ok (.iconst 0, 1) := by decide +kernel
theorem dL_trial_2 : decode cL_trial 2 = .ok (.aload_n 0, 1) := by decide +kernel
theorem dL_trial_3 : decode cL_trial 3 = .ok (.iload_n 1, 1) := by decide +kernel
theorem dL_trial_4 : decode cL_trial 4 = .ok (.iload_n 2, 1) := by decide +kernel
theorem dL_trial_5 : decode cL_trial 5 = .ok (.invokevirtual 135, 3) := by decide +kernel
theorem dL_trial_8 : decode cL_trial 8 = .ok (.i2l, 1) := by decide +kernel
theorem dL_trial_9 : decode cL_trial 9 = .ok (.lastore, 1) := by decide +kernel
theorem dL_trial_10 : decode cL_trial 10 = .ok (.goto 7, 3) := by decide +kernel
theorem dL_trial_13 : decode cL_trial 13 = .ok (.astore 4, 2) := by decide +kernel
theorem dL_trial_15 : decode cL_trial 15 = .ok (.iconst 1, 1) := by decide +kernel
theorem dL_trial_16 : decode cL_trial 16 = .ok (.ireturn, 1) := by decide +kernel
theorem dL_trial_17 : decode cL_trial 17 = .ok (.iconst 0, 1) := by decide +kernel
theorem dL_trial_18 : decode cL_trial 18 = .ok (.ireturn, 1) := by decide +kernel
theorem dL_span_0 : decode cL_span 0 = .ok (.aload_n 3, 1) := by decide +kernel
theorem dL_span_1 : decode cL_span 1 = .ok (.iconst 0, 1) := by decide +kernel
theorem dL_span_2 : decode cL_span 2 = .ok (.aload_n 0, 1) := by decide +kernel
theorem dL_span_3 : decode cL_span 3 = .ok (.iload_n 1, 1) := by decide +kernel
theorem dL_span_4 : decode cL_span 4 = .ok (.iload_n 2, 1) := by decide +kernel
theorem dL_span_5 : decode cL_span 5 = .ok (.invokevirtual 138, 3) := by decide +kernel
theorem dL_span_8 : decode cL_span 8 = .ok (.i2l, 1) := by decide +kernel
theorem dL_span_9 : decode cL_span 9 = .ok (.lastore, 1) := by decide +kernel
theorem dL_span_10 : decode cL_span 10 = .ok (.goto 7, 3) := by decide +kernel
theorem dL_span_13 : decode cL_span 13 = .ok (.astore 4, 2) := by decide +kernel
theorem dL_span_15 : decode cL_span 15 = .ok (.iconst 1, 1) := by decide +kernel
theorem dL_span_16 : decode cL_span 16 = .ok (.ireturn, 1) := by decide +kernel
theorem dL_span_17 : decode cL_span 17 = .ok (.iconst 0, 1) := by decide +kernel
theorem dL_span_18 : decode cL_span 18 = .ok (.ireturn, 1) := by decide +kernel
theorem dL_led_0 : decode cL_led 0 = .ok (.aload_n 3, 1) := by decide +kernel
theorem dL_led_1 : decode cL_led 1 = .ok (.iconst 0, 1) := by decide +kernel
theorem dL_led_2 : decode cL_led 2 = .ok (.aload_n 0, 1) := by decide +kernel
theorem dL_led_3 : decode cL_led 3 = .ok (.iload_n 1, 1) := by decide +kernel
theorem dL_led_4 : decode cL_led 4 = .ok (.iload_n 2, 1) := by decide +kernel
theorem dL_led_5 : decode cL_led 5 = .ok (.invokevirtual 141, 3) := by decide +kernel
theorem dL_led_8 : decode cL_led 8 = .ok (.i2l, 1) := by decide +kernel
theorem dL_led_9 : decode cL_led 9 = .ok (.lastore, 1) := by decide +kernel
theorem dL_led_10 : decode cL_led 10 = .ok (.goto 7, 3) := by decide +kernel
theorem dL_led_13 : decode cL_led 13 = .ok (.astore 4, 2) := by decide +kernel
theorem dL_led_15 : decode cL_led 15 = .ok (.iconst 1, 1) := by decide +kernel
theorem dL_led_16 : decode cL_led 16 = .ok (.ireturn, 1) := by decide +kernel
theorem dL_led_17 : decode cL_led 17 = .ok (.iconst 0, 1) := by decide +kernel
theorem dL_led_18 : decode cL_led 18 = .ok (.ireturn, 1) := by decide +kernel
theorem dL_log_0 : decode cL_log 0 = .ok (.aload_n 3, 1) := by decide +kernel
theorem dL_log_1 : decode cL_log 1 = .ok (.iconst 0, 1) := by decide +kernel
theorem dL_log_2 : decode cL_log 2 = .ok (.aload_n 0, 1) := by decide +kernel
theorem dL_log_3 : decode cL_log 3 = .ok (.iload_n 1, 1) := by decide +kernel
theorem dL_log_4 : decode cL_log 4 = .ok (.iload_n 2, 1) := by decide +kernel
theorem dL_log_5 : decode cL_log 5 = .ok (.invokevirtual 144, 3) := by decide +kernel
theorem dL_log_8 : decode cL_log 8 = .ok (.i2l, 1) := by decide +kernel
theorem dL_log_9 : decode cL_log 9 = .ok (.lastore, 1) := by decide +kernel
theorem dL_log_10 : decode cL_log 10 = .ok (.goto 7, 3) := by decide +kernel
theorem dL_log_13 : decode cL_log 13 = .ok (.astore 4, 2) := by decide +kernel
theorem dL_log_15 : decode cL_log 15 = .ok (.iconst 1, 1) := by decide +kernel
theorem dL_log_16 : decode cL_log 16 = .ok (.ireturn, 1) := by decide +kernel
theorem dL_log_17 : decode cL_log 17 = .ok (.iconst 0, 1) := by decide +kernel
theorem dL_log_18 : decode cL_log 18 = .ok (.ireturn, 1) := by decide +kernel

theorem dL_append_0 : decode cL_append 0 = .ok (.aload_n 2, 1) := by decide +kernel
theorem dL_append_1 : decode cL_append 1 = .ok (.iconst 0, 1) := by decide +kernel
theorem dL_append_2 : decode cL_append 2 = .ok (.aload_n 0, 1) := by decide +kernel
theorem dL_append_3 : decode cL_append 3 = .ok (.iload_n 1, 1) := by decide +kernel
theorem dL_append_4 : decode cL_append 4 = .ok (.invokevirtual 7, 3) := by decide +kernel
theorem dL_append_7 : decode cL_append 7 = .ok (.i2l, 1) := by decide +kernel
theorem dL_append_8 : decode cL_append 8 = .ok (.lastore, 1) := by decide +kernel
theorem dL_append_9 : decode cL_append 9 = .ok (.goto 9, 3) := by decide +kernel
theorem dL_append_12 : decode cL_append 12 = .ok (.astore_n 3, 1) := by decide +kernel
theorem dL_append_13 : decode cL_append 13 = .ok (.iconst 1, 1) := by decide +kernel
theorem dL_append_14 : decode cL_append 14 = .ok (.ireturn, 1) := by decide +kernel
theorem dL_append_15 : decode cL_append 15 = .ok (.astore_n 3, 1) := by decide +kernel
theorem dL_append_16 : decode cL_append 16 = .ok (.iconst 2, 1) := by decide +kernel
theorem dL_append_17 : decode cL_append 17 = .ok (.ireturn, 1) := by decide +kernel
theorem dL_append_18 : decode cL_append 18 = .ok (.iconst 0, 1) := by decide +kernel
theorem dL_append_19 : decode cL_append 19 = .ok (.ireturn, 1) := by decide +kernel
theorem dL_load_0 : decode cL_load 0 = .ok (.aload_n 1, 1) := by decide +kernel
theorem dL_load_1 : decode cL_load 1 = .ok (.iconst 0, 1) := by decide +kernel
theorem dL_load_2 : decode cL_load 2 = .ok (.aload_n 0, 1) := by decide +kernel
theorem dL_load_3 : decode cL_load 3 = .ok (.invokevirtual 17, 3) := by decide +kernel
theorem dL_load_6 : decode cL_load 6 = .ok (.i2l, 1) := by decide +kernel
theorem dL_load_7 : decode cL_load 7 = .ok (.lastore, 1) := by decide +kernel
theorem dL_load_8 : decode cL_load 8 = .ok (.goto 6, 3) := by decide +kernel
theorem dL_load_11 : decode cL_load 11 = .ok (.astore_n 2, 1) := by decide +kernel
theorem dL_load_12 : decode cL_load 12 = .ok (.iconst 1, 1) := by decide +kernel
theorem dL_load_13 : decode cL_load 13 = .ok (.ireturn, 1) := by decide +kernel
theorem dL_load_14 : decode cL_load 14 = .ok (.iconst 0, 1) := by decide +kernel
theorem dL_load_15 : decode cL_load 15 = .ok (.ireturn, 1) := by decide +kernel
theorem dL_about_0 : decode cL_about 0 = .ok (.aload_n 2, 1) := by decide +kernel
theorem dL_about_1 : decode cL_about 1 = .ok (.iconst 0, 1) := by decide +kernel
theorem dL_about_2 : decode cL_about 2 = .ok (.aload_n 0, 1) := by decide +kernel
theorem dL_about_3 : decode cL_about 3 = .ok (.iload_n 1, 1) := by decide +kernel
theorem dL_about_4 : decode cL_about 4 = .ok (.invokevirtual 21, 3) := by decide +kernel
theorem dL_about_7 : decode cL_about 7 = .ok (.i2l, 1) := by decide +kernel
theorem dL_about_8 : decode cL_about 8 = .ok (.lastore, 1) := by decide +kernel
theorem dL_about_9 : decode cL_about 9 = .ok (.goto 6, 3) := by decide +kernel
theorem dL_about_12 : decode cL_about 12 = .ok (.astore_n 3, 1) := by decide +kernel
theorem dL_about_13 : decode cL_about 13 = .ok (.iconst 1, 1) := by decide +kernel
theorem dL_about_14 : decode cL_about 14 = .ok (.ireturn, 1) := by decide +kernel
theorem dL_about_15 : decode cL_about 15 = .ok (.iconst 0, 1) := by decide +kernel
theorem dL_about_16 : decode cL_about 16 = .ok (.ireturn, 1) := by decide +kernel
theorem dL_block_0 : decode cL_block 0 = .ok (.aload_n 3, 1) := by decide +kernel
theorem dL_block_1 : decode cL_block 1 = .ok (.iconst 0, 1) := by decide +kernel
theorem dL_block_2 : decode cL_block 2 = .ok (.aload_n 0, 1) := by decide +kernel
theorem dL_block_3 : decode cL_block 3 = .ok (.iload_n 1, 1) := by decide +kernel
theorem dL_block_4 : decode cL_block 4 = .ok (.iload_n 2, 1) := by decide +kernel
theorem dL_block_5 : decode cL_block 5 = .ok (.invokevirtual 24, 3) := by decide +kernel
theorem dL_block_8 : decode cL_block 8 = .ok (.i2l, 1) := by decide +kernel
theorem dL_block_9 : decode cL_block 9 = .ok (.lastore, 1) := by decide +kernel
theorem dL_block_10 : decode cL_block 10 = .ok (.goto 11, 3) := by decide +kernel
theorem dL_block_13 : decode cL_block 13 = .ok (.astore 4, 2) := by decide +kernel
theorem dL_block_15 : decode cL_block 15 = .ok (.iconst 1, 1) := by decide +kernel
theorem dL_block_16 : decode cL_block 16 = .ok (.ireturn, 1) := by decide +kernel
theorem dL_block_17 : decode cL_block 17 = .ok (.astore 4, 2) := by decide +kernel
theorem dL_block_19 : decode cL_block 19 = .ok (.iconst 2, 1) := by decide +kernel
theorem dL_block_20 : decode cL_block 20 = .ok (.ireturn, 1) := by decide +kernel
theorem dL_block_21 : decode cL_block 21 = .ok (.iconst 0, 1) := by decide +kernel
theorem dL_block_22 : decode cL_block 22 = .ok (.ireturn, 1) := by decide +kernel
theorem dL_range_0 : decode cL_range 0 = .ok (.aload_n 3, 1) := by decide +kernel
theorem dL_range_1 : decode cL_range 1 = .ok (.iconst 0, 1) := by decide +kernel
theorem dL_range_2 : decode cL_range 2 = .ok (.aload_n 0, 1) := by decide +kernel
theorem dL_range_3 : decode cL_range 3 = .ok (.iload_n 1, 1) := by decide +kernel
theorem dL_range_4 : decode cL_range 4 = .ok (.iload_n 2, 1) := by decide +kernel
theorem dL_range_5 : decode cL_range 5 = .ok (.invokevirtual 30, 3) := by decide +kernel
theorem dL_range_8 : decode cL_range 8 = .ok (.i2l, 1) := by decide +kernel
theorem dL_range_9 : decode cL_range 9 = .ok (.lastore, 1) := by decide +kernel
theorem dL_range_10 : decode cL_range 10 = .ok (.goto 11, 3) := by decide +kernel
theorem dL_range_13 : decode cL_range 13 = .ok (.astore 4, 2) := by decide +kernel
theorem dL_range_15 : decode cL_range 15 = .ok (.iconst 1, 1) := by decide +kernel
theorem dL_range_16 : decode cL_range 16 = .ok (.ireturn, 1) := by decide +kernel
theorem dL_range_17 : decode cL_range 17 = .ok (.astore 4, 2) := by decide +kernel
theorem dL_range_19 : decode cL_range 19 = .ok (.iconst 2, 1) := by decide +kernel
theorem dL_range_20 : decode cL_range 20 = .ok (.ireturn, 1) := by decide +kernel
theorem dL_range_21 : decode cL_range 21 = .ok (.iconst 0, 1) := by decide +kernel
theorem dL_range_22 : decode cL_range 22 = .ok (.ireturn, 1) := by decide +kernel
theorem dL_pinned_0 : decode cL_pinned 0 = .ok (.aload_n 3, 1) := by decide +kernel
theorem dL_pinned_1 : decode cL_pinned 1 = .ok (.iconst 0, 1) := by decide +kernel
theorem dL_pinned_2 : decode cL_pinned 2 = .ok (.aload_n 0, 1) := by decide +kernel
theorem dL_pinned_3 : decode cL_pinned 3 = .ok (.iload_n 1, 1) := by decide +kernel
theorem dL_pinned_4 : decode cL_pinned 4 = .ok (.iload_n 2, 1) := by decide +kernel
theorem dL_pinned_5 : decode cL_pinned 5 = .ok (.invokevirtual 33, 3) := by decide +kernel
theorem dL_pinned_8 : decode cL_pinned 8 = .ok (.i2l, 1) := by decide +kernel
theorem dL_pinned_9 : decode cL_pinned 9 = .ok (.lastore, 1) := by decide +kernel
theorem dL_pinned_10 : decode cL_pinned 10 = .ok (.goto 11, 3) := by decide +kernel
theorem dL_pinned_13 : decode cL_pinned 13 = .ok (.astore 4, 2) := by decide +kernel
theorem dL_pinned_15 : decode cL_pinned 15 = .ok (.iconst 1, 1) := by decide +kernel
theorem dL_pinned_16 : decode cL_pinned 16 = .ok (.ireturn, 1) := by decide +kernel
theorem dL_pinned_17 : decode cL_pinned 17 = .ok (.astore 4, 2) := by decide +kernel
theorem dL_pinned_19 : decode cL_pinned 19 = .ok (.iconst 2, 1) := by decide +kernel
theorem dL_pinned_20 : decode cL_pinned 20 = .ok (.ireturn, 1) := by decide +kernel
theorem dL_pinned_21 : decode cL_pinned 21 = .ok (.iconst 0, 1) := by decide +kernel
theorem dL_pinned_22 : decode cL_pinned 22 = .ok (.ireturn, 1) := by decide +kernel
theorem dL_setting_0 : decode cL_setting 0 = .ok (.aload_n 2, 1) := by decide +kernel
theorem dL_setting_1 : decode cL_setting 1 = .ok (.iconst 0, 1) := by decide +kernel
theorem dL_setting_2 : decode cL_setting 2 = .ok (.aload_n 0, 1) := by decide +kernel
theorem dL_setting_3 : decode cL_setting 3 = .ok (.iload_n 1, 1) := by decide +kernel
theorem dL_setting_4 : decode cL_setting 4 = .ok (.invokevirtual 36, 3) := by decide +kernel
theorem dL_setting_7 : decode cL_setting 7 = .ok (.i2l, 1) := by decide +kernel
theorem dL_setting_8 : decode cL_setting 8 = .ok (.lastore, 1) := by decide +kernel
theorem dL_setting_9 : decode cL_setting 9 = .ok (.goto 6, 3) := by decide +kernel
theorem dL_setting_12 : decode cL_setting 12 = .ok (.astore_n 3, 1) := by decide +kernel
theorem dL_setting_13 : decode cL_setting 13 = .ok (.iconst 1, 1) := by decide +kernel
theorem dL_setting_14 : decode cL_setting 14 = .ok (.ireturn, 1) := by decide +kernel
theorem dL_setting_15 : decode cL_setting 15 = .ok (.iconst 0, 1) := by decide +kernel
theorem dL_setting_16 : decode cL_setting 16 = .ok (.ireturn, 1) := by decide +kernel
theorem dL_write_0 : decode cL_write 0 = .ok (.aload_n 3, 1) := by decide +kernel
theorem dL_write_1 : decode cL_write 1 = .ok (.iconst 0, 1) := by decide +kernel
theorem dL_write_2 : decode cL_write 2 = .ok (.aload_n 0, 1) := by decide +kernel
theorem dL_write_3 : decode cL_write 3 = .ok (.iload_n 1, 1) := by decide +kernel
theorem dL_write_4 : decode cL_write 4 = .ok (.iload_n 2, 1) := by decide +kernel
theorem dL_write_5 : decode cL_write 5 = .ok (.invokevirtual 39, 3) := by decide +kernel
theorem dL_write_8 : decode cL_write 8 = .ok (.i2l, 1) := by decide +kernel
theorem dL_write_9 : decode cL_write 9 = .ok (.lastore, 1) := by decide +kernel
theorem dL_write_10 : decode cL_write 10 = .ok (.goto 15, 3) := by decide +kernel
theorem dL_write_13 : decode cL_write 13 = .ok (.astore 4, 2) := by decide +kernel
theorem dL_write_15 : decode cL_write 15 = .ok (.iconst 1, 1) := by decide +kernel
theorem dL_write_16 : decode cL_write 16 = .ok (.ireturn, 1) := by decide +kernel
theorem dL_write_17 : decode cL_write 17 = .ok (.astore 4, 2) := by decide +kernel
theorem dL_write_19 : decode cL_write 19 = .ok (.iconst 2, 1) := by decide +kernel
theorem dL_write_20 : decode cL_write 20 = .ok (.ireturn, 1) := by decide +kernel
theorem dL_write_21 : decode cL_write 21 = .ok (.astore 4, 2) := by decide +kernel
theorem dL_write_23 : decode cL_write 23 = .ok (.iconst 3, 1) := by decide +kernel
theorem dL_write_24 : decode cL_write 24 = .ok (.ireturn, 1) := by decide +kernel
theorem dL_write_25 : decode cL_write 25 = .ok (.iconst 0, 1) := by decide +kernel
theorem dL_write_26 : decode cL_write 26 = .ok (.ireturn, 1) := by decide +kernel
theorem dL_free_0 : decode cL_free 0 = .ok (.aload_n 3, 1) := by decide +kernel
theorem dL_free_1 : decode cL_free 1 = .ok (.iconst 0, 1) := by decide +kernel
theorem dL_free_2 : decode cL_free 2 = .ok (.aload_n 0, 1) := by decide +kernel
theorem dL_free_3 : decode cL_free 3 = .ok (.iload_n 1, 1) := by decide +kernel
theorem dL_free_4 : decode cL_free 4 = .ok (.iload_n 2, 1) := by decide +kernel
theorem dL_free_5 : decode cL_free 5 = .ok (.invokevirtual 42, 3) := by decide +kernel
theorem dL_free_8 : decode cL_free 8 = .ok (.i2l, 1) := by decide +kernel
theorem dL_free_9 : decode cL_free 9 = .ok (.lastore, 1) := by decide +kernel
theorem dL_free_10 : decode cL_free 10 = .ok (.goto 15, 3) := by decide +kernel
theorem dL_free_13 : decode cL_free 13 = .ok (.astore 4, 2) := by decide +kernel
theorem dL_free_15 : decode cL_free 15 = .ok (.iconst 1, 1) := by decide +kernel
theorem dL_free_16 : decode cL_free 16 = .ok (.ireturn, 1) := by decide +kernel
theorem dL_free_17 : decode cL_free 17 = .ok (.astore 4, 2) := by decide +kernel
theorem dL_free_19 : decode cL_free 19 = .ok (.iconst 2, 1) := by decide +kernel
theorem dL_free_20 : decode cL_free 20 = .ok (.ireturn, 1) := by decide +kernel
theorem dL_free_21 : decode cL_free 21 = .ok (.astore 4, 2) := by decide +kernel
theorem dL_free_23 : decode cL_free 23 = .ok (.iconst 3, 1) := by decide +kernel
theorem dL_free_24 : decode cL_free 24 = .ok (.ireturn, 1) := by decide +kernel
theorem dL_free_25 : decode cL_free 25 = .ok (.iconst 0, 1) := by decide +kernel
theorem dL_free_26 : decode cL_free 26 = .ok (.ireturn, 1) := by decide +kernel
theorem dL_pin_0 : decode cL_pin 0 = .ok (.aload 4, 2) := by decide +kernel
theorem dL_pin_2 : decode cL_pin 2 = .ok (.iconst 0, 1) := by decide +kernel
theorem dL_pin_3 : decode cL_pin 3 = .ok (.aload_n 0, 1) := by decide +kernel
theorem dL_pin_4 : decode cL_pin 4 = .ok (.iload_n 1, 1) := by decide +kernel
theorem dL_pin_5 : decode cL_pin 5 = .ok (.iload_n 2, 1) := by decide +kernel
theorem dL_pin_6 : decode cL_pin 6 = .ok (.iload_n 3, 1) := by decide +kernel
theorem dL_pin_7 : decode cL_pin 7 = .ok (.invokevirtual 45, 3) := by decide +kernel
theorem dL_pin_10 : decode cL_pin 10 = .ok (.i2l, 1) := by decide +kernel
theorem dL_pin_11 : decode cL_pin 11 = .ok (.lastore, 1) := by decide +kernel
theorem dL_pin_12 : decode cL_pin 12 = .ok (.goto 15, 3) := by decide +kernel
theorem dL_pin_15 : decode cL_pin 15 = .ok (.astore 5, 2) := by decide +kernel
theorem dL_pin_17 : decode cL_pin 17 = .ok (.iconst 1, 1) := by decide +kernel
theorem dL_pin_18 : decode cL_pin 18 = .ok (.ireturn, 1) := by decide +kernel
theorem dL_pin_19 : decode cL_pin 19 = .ok (.astore 5, 2) := by decide +kernel
theorem dL_pin_21 : decode cL_pin 21 = .ok (.iconst 2, 1) := by decide +kernel
theorem dL_pin_22 : decode cL_pin 22 = .ok (.ireturn, 1) := by decide +kernel
theorem dL_pin_23 : decode cL_pin 23 = .ok (.astore 5, 2) := by decide +kernel
theorem dL_pin_25 : decode cL_pin 25 = .ok (.iconst 3, 1) := by decide +kernel
theorem dL_pin_26 : decode cL_pin 26 = .ok (.ireturn, 1) := by decide +kernel
theorem dL_pin_27 : decode cL_pin 27 = .ok (.iconst 0, 1) := by decide +kernel
theorem dL_pin_28 : decode cL_pin 28 = .ok (.ireturn, 1) := by decide +kernel
theorem dL_unpin_0 : decode cL_unpin 0 = .ok (.aload_n 2, 1) := by decide +kernel
theorem dL_unpin_1 : decode cL_unpin 1 = .ok (.iconst 0, 1) := by decide +kernel
theorem dL_unpin_2 : decode cL_unpin 2 = .ok (.aload_n 0, 1) := by decide +kernel
theorem dL_unpin_3 : decode cL_unpin 3 = .ok (.iload_n 1, 1) := by decide +kernel
theorem dL_unpin_4 : decode cL_unpin 4 = .ok (.invokevirtual 49, 3) := by decide +kernel
theorem dL_unpin_7 : decode cL_unpin 7 = .ok (.i2l, 1) := by decide +kernel
theorem dL_unpin_8 : decode cL_unpin 8 = .ok (.lastore, 1) := by decide +kernel
theorem dL_unpin_9 : decode cL_unpin 9 = .ok (.goto 9, 3) := by decide +kernel
theorem dL_unpin_12 : decode cL_unpin 12 = .ok (.astore_n 3, 1) := by decide +kernel
theorem dL_unpin_13 : decode cL_unpin 13 = .ok (.iconst 1, 1) := by decide +kernel
theorem dL_unpin_14 : decode cL_unpin 14 = .ok (.ireturn, 1) := by decide +kernel
theorem dL_unpin_15 : decode cL_unpin 15 = .ok (.astore_n 3, 1) := by decide +kernel
theorem dL_unpin_16 : decode cL_unpin 16 = .ok (.iconst 2, 1) := by decide +kernel
theorem dL_unpin_17 : decode cL_unpin 17 = .ok (.ireturn, 1) := by decide +kernel
theorem dL_unpin_18 : decode cL_unpin 18 = .ok (.iconst 0, 1) := by decide +kernel
theorem dL_unpin_19 : decode cL_unpin 19 = .ok (.ireturn, 1) := by decide +kernel
theorem dL_run_0 : decode cL_run 0 = .ok (.aload_n 2, 1) := by decide +kernel
theorem dL_run_1 : decode cL_run 1 = .ok (.iconst 0, 1) := by decide +kernel
theorem dL_run_2 : decode cL_run 2 = .ok (.aload_n 0, 1) := by decide +kernel
theorem dL_run_3 : decode cL_run 3 = .ok (.iload_n 1, 1) := by decide +kernel
theorem dL_run_4 : decode cL_run 4 = .ok (.invokevirtual 52, 3) := by decide +kernel
theorem dL_run_7 : decode cL_run 7 = .ok (.i2l, 1) := by decide +kernel
theorem dL_run_8 : decode cL_run 8 = .ok (.lastore, 1) := by decide +kernel
theorem dL_run_9 : decode cL_run 9 = .ok (.goto 6, 3) := by decide +kernel
theorem dL_run_12 : decode cL_run 12 = .ok (.astore_n 3, 1) := by decide +kernel
theorem dL_run_13 : decode cL_run 13 = .ok (.iconst 1, 1) := by decide +kernel
theorem dL_run_14 : decode cL_run 14 = .ok (.ireturn, 1) := by decide +kernel
theorem dL_run_15 : decode cL_run 15 = .ok (.iconst 0, 1) := by decide +kernel
theorem dL_run_16 : decode cL_run 16 = .ok (.ireturn, 1) := by decide +kernel
theorem dL_set_0 : decode cL_set 0 = .ok (.aload_n 3, 1) := by decide +kernel
theorem dL_set_1 : decode cL_set 1 = .ok (.iconst 0, 1) := by decide +kernel
theorem dL_set_2 : decode cL_set 2 = .ok (.aload_n 0, 1) := by decide +kernel
theorem dL_set_3 : decode cL_set 3 = .ok (.iload_n 1, 1) := by decide +kernel
theorem dL_set_4 : decode cL_set 4 = .ok (.iload_n 2, 1) := by decide +kernel
theorem dL_set_5 : decode cL_set 5 = .ok (.invokevirtual 55, 3) := by decide +kernel
theorem dL_set_8 : decode cL_set 8 = .ok (.i2l, 1) := by decide +kernel
theorem dL_set_9 : decode cL_set 9 = .ok (.lastore, 1) := by decide +kernel
theorem dL_set_10 : decode cL_set 10 = .ok (.goto 7, 3) := by decide +kernel
theorem dL_set_13 : decode cL_set 13 = .ok (.astore 4, 2) := by decide +kernel
theorem dL_set_15 : decode cL_set 15 = .ok (.iconst 1, 1) := by decide +kernel
theorem dL_set_16 : decode cL_set 16 = .ok (.ireturn, 1) := by decide +kernel
theorem dL_set_17 : decode cL_set 17 = .ok (.iconst 0, 1) := by decide +kernel
theorem dL_set_18 : decode cL_set 18 = .ok (.ireturn, 1) := by decide +kernel
theorem dL_undo_0 : decode cL_undo 0 = .ok (.aload_n 1, 1) := by decide +kernel
theorem dL_undo_1 : decode cL_undo 1 = .ok (.iconst 0, 1) := by decide +kernel
theorem dL_undo_2 : decode cL_undo 2 = .ok (.aload_n 0, 1) := by decide +kernel
theorem dL_undo_3 : decode cL_undo 3 = .ok (.invokevirtual 58, 3) := by decide +kernel
theorem dL_undo_6 : decode cL_undo 6 = .ok (.i2l, 1) := by decide +kernel
theorem dL_undo_7 : decode cL_undo 7 = .ok (.lastore, 1) := by decide +kernel
theorem dL_undo_8 : decode cL_undo 8 = .ok (.goto 6, 3) := by decide +kernel
theorem dL_undo_11 : decode cL_undo 11 = .ok (.astore_n 2, 1) := by decide +kernel
theorem dL_undo_12 : decode cL_undo 12 = .ok (.iconst 1, 1) := by decide +kernel
theorem dL_undo_13 : decode cL_undo 13 = .ok (.ireturn, 1) := by decide +kernel
theorem dL_undo_14 : decode cL_undo 14 = .ok (.iconst 0, 1) := by decide +kernel
theorem dL_undo_15 : decode cL_undo 15 = .ok (.ireturn, 1) := by decide +kernel
theorem dL_next_0 : decode cL_next 0 = .ok (.aload_n 2, 1) := by decide +kernel
theorem dL_next_1 : decode cL_next 1 = .ok (.iconst 0, 1) := by decide +kernel
theorem dL_next_2 : decode cL_next 2 = .ok (.aload_n 0, 1) := by decide +kernel
theorem dL_next_3 : decode cL_next 3 = .ok (.iload_n 1, 1) := by decide +kernel
theorem dL_next_4 : decode cL_next 4 = .ok (.invokevirtual 61, 3) := by decide +kernel
theorem dL_next_7 : decode cL_next 7 = .ok (.i2l, 1) := by decide +kernel
theorem dL_next_8 : decode cL_next 8 = .ok (.lastore, 1) := by decide +kernel
theorem dL_next_9 : decode cL_next 9 = .ok (.goto 6, 3) := by decide +kernel
theorem dL_next_12 : decode cL_next 12 = .ok (.astore_n 3, 1) := by decide +kernel
theorem dL_next_13 : decode cL_next 13 = .ok (.iconst 1, 1) := by decide +kernel
theorem dL_next_14 : decode cL_next 14 = .ok (.ireturn, 1) := by decide +kernel
theorem dL_next_15 : decode cL_next 15 = .ok (.iconst 0, 1) := by decide +kernel
theorem dL_next_16 : decode cL_next 16 = .ok (.ireturn, 1) := by decide +kernel
theorem dL_goneIn_0 : decode cL_goneIn 0 = .ok (.aload_n 2, 1) := by decide +kernel
theorem dL_goneIn_1 : decode cL_goneIn 1 = .ok (.iconst 0, 1) := by decide +kernel
theorem dL_goneIn_2 : decode cL_goneIn 2 = .ok (.aload_n 0, 1) := by decide +kernel
theorem dL_goneIn_3 : decode cL_goneIn 3 = .ok (.iload_n 1, 1) := by decide +kernel
theorem dL_goneIn_4 : decode cL_goneIn 4 = .ok (.invokevirtual 64, 3) := by decide +kernel
theorem dL_goneIn_7 : decode cL_goneIn 7 = .ok (.i2l, 1) := by decide +kernel
theorem dL_goneIn_8 : decode cL_goneIn 8 = .ok (.lastore, 1) := by decide +kernel
theorem dL_goneIn_9 : decode cL_goneIn 9 = .ok (.goto 6, 3) := by decide +kernel
theorem dL_goneIn_12 : decode cL_goneIn 12 = .ok (.astore_n 3, 1) := by decide +kernel
theorem dL_goneIn_13 : decode cL_goneIn 13 = .ok (.iconst 1, 1) := by decide +kernel
theorem dL_goneIn_14 : decode cL_goneIn 14 = .ok (.ireturn, 1) := by decide +kernel
theorem dL_goneIn_15 : decode cL_goneIn 15 = .ok (.iconst 0, 1) := by decide +kernel
theorem dL_goneIn_16 : decode cL_goneIn 16 = .ok (.ireturn, 1) := by decide +kernel
theorem dL_coming_0 : decode cL_coming 0 = .ok (.aload_n 3, 1) := by decide +kernel
theorem dL_coming_1 : decode cL_coming 1 = .ok (.iconst 0, 1) := by decide +kernel
theorem dL_coming_2 : decode cL_coming 2 = .ok (.aload_n 0, 1) := by decide +kernel
theorem dL_coming_3 : decode cL_coming 3 = .ok (.iload_n 1, 1) := by decide +kernel
theorem dL_coming_4 : decode cL_coming 4 = .ok (.iload_n 2, 1) := by decide +kernel
theorem dL_coming_5 : decode cL_coming 5 = .ok (.invokevirtual 67, 3) := by decide +kernel
theorem dL_coming_8 : decode cL_coming 8 = .ok (.i2l, 1) := by decide +kernel
theorem dL_coming_9 : decode cL_coming 9 = .ok (.lastore, 1) := by decide +kernel
theorem dL_coming_10 : decode cL_coming 10 = .ok (.goto 7, 3) := by decide +kernel
theorem dL_coming_13 : decode cL_coming 13 = .ok (.astore 4, 2) := by decide +kernel
theorem dL_coming_15 : decode cL_coming 15 = .ok (.iconst 1, 1) := by decide +kernel
theorem dL_coming_16 : decode cL_coming 16 = .ok (.ireturn, 1) := by decide +kernel
theorem dL_coming_17 : decode cL_coming 17 = .ok (.iconst 0, 1) := by decide +kernel
theorem dL_coming_18 : decode cL_coming 18 = .ok (.ireturn, 1) := by decide +kernel
theorem dL_bestGranule_0 : decode cL_bestGranule 0 = .ok (.aload_n 2, 1) := by decide +kernel
theorem dL_bestGranule_1 : decode cL_bestGranule 1 = .ok (.iconst 0, 1) := by decide +kernel
theorem dL_bestGranule_2 : decode cL_bestGranule 2 = .ok (.aload_n 0, 1) := by decide +kernel
theorem dL_bestGranule_3 : decode cL_bestGranule 3 = .ok (.iload_n 1, 1) := by decide +kernel
theorem dL_bestGranule_4 : decode cL_bestGranule 4 = .ok (.invokevirtual 70, 3) := by decide +kernel
theorem dL_bestGranule_7 : decode cL_bestGranule 7 = .ok (.i2l, 1) := by decide +kernel
theorem dL_bestGranule_8 : decode cL_bestGranule 8 = .ok (.lastore, 1) := by decide +kernel
theorem dL_bestGranule_9 : decode cL_bestGranule 9 = .ok (.goto 6, 3) := by decide +kernel
theorem dL_bestGranule_12 : decode cL_bestGranule 12 = .ok (.astore_n 3, 1) := by decide +kernel
theorem dL_bestGranule_13 : decode cL_bestGranule 13 = .ok (.iconst 1, 1) := by decide +kernel
theorem dL_bestGranule_14 : decode cL_bestGranule 14 = .ok (.ireturn, 1) := by decide +kernel
theorem dL_bestGranule_15 : decode cL_bestGranule 15 = .ok (.iconst 0, 1) := by decide +kernel
theorem dL_bestGranule_16 : decode cL_bestGranule 16 = .ok (.ireturn, 1) := by decide +kernel
theorem dL_ifWritten_0 : decode cL_ifWritten 0 = .ok (.aload_n 3, 1) := by decide +kernel
theorem dL_ifWritten_1 : decode cL_ifWritten 1 = .ok (.iconst 0, 1) := by decide +kernel
theorem dL_ifWritten_2 : decode cL_ifWritten 2 = .ok (.aload_n 0, 1) := by decide +kernel
theorem dL_ifWritten_3 : decode cL_ifWritten 3 = .ok (.iload_n 1, 1) := by decide +kernel
theorem dL_ifWritten_4 : decode cL_ifWritten 4 = .ok (.iload_n 2, 1) := by decide +kernel
theorem dL_ifWritten_5 : decode cL_ifWritten 5 = .ok (.invokevirtual 73, 3) := by decide +kernel
theorem dL_ifWritten_8 : decode cL_ifWritten 8 = .ok (.i2l, 1) := by decide +kernel
theorem dL_ifWritten_9 : decode cL_ifWritten 9 = .ok (.lastore, 1) := by decide +kernel
theorem dL_ifWritten_10 : decode cL_ifWritten 10 = .ok (.goto 15, 3) := by decide +kernel
theorem dL_ifWritten_13 : decode cL_ifWritten 13 = .ok (.astore 4, 2) := by decide +kernel
theorem dL_ifWritten_15 : decode cL_ifWritten 15 = .ok (.iconst 1, 1) := by decide +kernel
theorem dL_ifWritten_16 : decode cL_ifWritten 16 = .ok (.ireturn, 1) := by decide +kernel
theorem dL_ifWritten_17 : decode cL_ifWritten 17 = .ok (.astore 4, 2) := by decide +kernel
theorem dL_ifWritten_19 : decode cL_ifWritten 19 = .ok (.iconst 2, 1) := by decide +kernel
theorem dL_ifWritten_20 : decode cL_ifWritten 20 = .ok (.ireturn, 1) := by decide +kernel
theorem dL_ifWritten_21 : decode cL_ifWritten 21 = .ok (.astore 4, 2) := by decide +kernel
theorem dL_ifWritten_23 : decode cL_ifWritten 23 = .ok (.iconst 3, 1) := by decide +kernel
theorem dL_ifWritten_24 : decode cL_ifWritten 24 = .ok (.ireturn, 1) := by decide +kernel
theorem dL_ifWritten_25 : decode cL_ifWritten 25 = .ok (.iconst 0, 1) := by decide +kernel
theorem dL_ifWritten_26 : decode cL_ifWritten 26 = .ok (.ireturn, 1) := by decide +kernel
theorem dL_runScript_0 : decode cL_runScript 0 = .ok (.aload 4, 2) := by decide +kernel
theorem dL_runScript_2 : decode cL_runScript 2 = .ok (.iconst 0, 1) := by decide +kernel
theorem dL_runScript_3 : decode cL_runScript 3 = .ok (.aload_n 0, 1) := by decide +kernel
theorem dL_runScript_4 : decode cL_runScript 4 = .ok (.iload_n 1, 1) := by decide +kernel
theorem dL_runScript_5 : decode cL_runScript 5 = .ok (.lload_n 2, 1) := by decide +kernel
theorem dL_runScript_6 : decode cL_runScript 6 = .ok (.invokevirtual 76, 3) := by decide +kernel
theorem dL_runScript_9 : decode cL_runScript 9 = .ok (.i2l, 1) := by decide +kernel
theorem dL_runScript_10 : decode cL_runScript 10 = .ok (.lastore, 1) := by decide +kernel
theorem dL_runScript_11 : decode cL_runScript 11 = .ok (.goto 7, 3) := by decide +kernel
theorem dL_runScript_14 : decode cL_runScript 14 = .ok (.astore 5, 2) := by decide +kernel
theorem dL_runScript_16 : decode cL_runScript 16 = .ok (.iconst 1, 1) := by decide +kernel
theorem dL_runScript_17 : decode cL_runScript 17 = .ok (.ireturn, 1) := by decide +kernel
theorem dL_runScript_18 : decode cL_runScript 18 = .ok (.iconst 0, 1) := by decide +kernel
theorem dL_runScript_19 : decode cL_runScript 19 = .ok (.ireturn, 1) := by decide +kernel
theorem dL_simulate_0 : decode cL_simulate 0 = .ok (.aload 4, 2) := by decide +kernel
theorem dL_simulate_2 : decode cL_simulate 2 = .ok (.iconst 0, 1) := by decide +kernel
theorem dL_simulate_3 : decode cL_simulate 3 = .ok (.aload_n 0, 1) := by decide +kernel
theorem dL_simulate_4 : decode cL_simulate 4 = .ok (.lload_n 1, 1) := by decide +kernel
theorem dL_simulate_5 : decode cL_simulate 5 = .ok (.iload_n 3, 1) := by decide +kernel
theorem dL_simulate_6 : decode cL_simulate 6 = .ok (.invokevirtual 80, 3) := by decide +kernel
theorem dL_simulate_9 : decode cL_simulate 9 = .ok (.i2l, 1) := by decide +kernel
theorem dL_simulate_10 : decode cL_simulate 10 = .ok (.lastore, 1) := by decide +kernel
theorem dL_simulate_11 : decode cL_simulate 11 = .ok (.goto 7, 3) := by decide +kernel
theorem dL_simulate_14 : decode cL_simulate 14 = .ok (.astore 5, 2) := by decide +kernel
theorem dL_simulate_16 : decode cL_simulate 16 = .ok (.iconst 1, 1) := by decide +kernel
theorem dL_simulate_17 : decode cL_simulate 17 = .ok (.ireturn, 1) := by decide +kernel
theorem dL_simulate_18 : decode cL_simulate 18 = .ok (.iconst 0, 1) := by decide +kernel
theorem dL_simulate_19 : decode cL_simulate 19 = .ok (.ireturn, 1) := by decide +kernel
theorem dL_save_0 : decode cL_save 0 = .ok (.aload_n 2, 1) := by decide +kernel
theorem dL_save_1 : decode cL_save 1 = .ok (.iconst 0, 1) := by decide +kernel
theorem dL_save_2 : decode cL_save 2 = .ok (.aload_n 0, 1) := by decide +kernel
theorem dL_save_3 : decode cL_save 3 = .ok (.iload_n 1, 1) := by decide +kernel
theorem dL_save_4 : decode cL_save 4 = .ok (.invokevirtual 84, 3) := by decide +kernel
theorem dL_save_7 : decode cL_save 7 = .ok (.i2l, 1) := by decide +kernel
theorem dL_save_8 : decode cL_save 8 = .ok (.lastore, 1) := by decide +kernel
theorem dL_save_9 : decode cL_save 9 = .ok (.goto 6, 3) := by decide +kernel
theorem dL_save_12 : decode cL_save 12 = .ok (.astore_n 3, 1) := by decide +kernel
theorem dL_save_13 : decode cL_save 13 = .ok (.iconst 1, 1) := by decide +kernel
theorem dL_save_14 : decode cL_save 14 = .ok (.ireturn, 1) := by decide +kernel
theorem dL_save_15 : decode cL_save 15 = .ok (.iconst 0, 1) := by decide +kernel
theorem dL_save_16 : decode cL_save 16 = .ok (.ireturn, 1) := by decide +kernel
theorem dL_restore_0 : decode cL_restore 0 = .ok (.aload_n 2, 1) := by decide +kernel
theorem dL_restore_1 : decode cL_restore 1 = .ok (.iconst 0, 1) := by decide +kernel
theorem dL_restore_2 : decode cL_restore 2 = .ok (.aload_n 0, 1) := by decide +kernel
theorem dL_restore_3 : decode cL_restore 3 = .ok (.iload_n 1, 1) := by decide +kernel
theorem dL_restore_4 : decode cL_restore 4 = .ok (.invokevirtual 87, 3) := by decide +kernel
theorem dL_restore_7 : decode cL_restore 7 = .ok (.i2l, 1) := by decide +kernel
theorem dL_restore_8 : decode cL_restore 8 = .ok (.lastore, 1) := by decide +kernel
theorem dL_restore_9 : decode cL_restore 9 = .ok (.goto 9, 3) := by decide +kernel
theorem dL_restore_12 : decode cL_restore 12 = .ok (.astore_n 3, 1) := by decide +kernel
theorem dL_restore_13 : decode cL_restore 13 = .ok (.iconst 1, 1) := by decide +kernel
theorem dL_restore_14 : decode cL_restore 14 = .ok (.ireturn, 1) := by decide +kernel
theorem dL_restore_15 : decode cL_restore 15 = .ok (.astore_n 3, 1) := by decide +kernel
theorem dL_restore_16 : decode cL_restore 16 = .ok (.iconst 2, 1) := by decide +kernel
theorem dL_restore_17 : decode cL_restore 17 = .ok (.ireturn, 1) := by decide +kernel
theorem dL_restore_18 : decode cL_restore 18 = .ok (.iconst 0, 1) := by decide +kernel
theorem dL_restore_19 : decode cL_restore 19 = .ok (.ireturn, 1) := by decide +kernel

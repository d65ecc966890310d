theorem zd_Law_name_0 : decode zc_Law_name 0 = .ok (.aload_n 0, 1) := by decide +kernel
theorem zd_Law_name_1 : decode zc_Law_name 1 = .ok (.lload_n 1, 1) := by decide +kernel
theorem zd_Law_name_2 : decode zc_Law_name 2 = .ok (.iload_n 3, 1) := by decide +kernel
theorem zd_Law_name_3 : decode zc_Law_name 3 = .ok (.invokevirtual 7, 3) := by decide +kernel
theorem zd_Law_name_6 : decode zc_Law_name 6 = .ok (.goto 7, 3) := by decide +kernel
theorem zd_Law_name_9 : decode zc_Law_name 9 = .ok (.astore 4, 2) := by decide +kernel
theorem zd_Law_name_11 : decode zc_Law_name 11 = .ok (.iconst 1, 1) := by decide +kernel
theorem zd_Law_name_12 : decode zc_Law_name 12 = .ok (.ireturn, 1) := by decide +kernel
theorem zd_Law_name_13 : decode zc_Law_name 13 = .ok (.iconst 0, 1) := by decide +kernel
theorem zd_Law_name_14 : decode zc_Law_name 14 = .ok (.ireturn, 1) := by decide +kernel
theorem zd_Law_add_0 : decode zc_Law_add 0 = .ok (.aload_n 2, 1) := by decide +kernel
theorem zd_Law_add_1 : decode zc_Law_add 1 = .ok (.iconst 0, 1) := by decide +kernel
theorem zd_Law_add_2 : decode zc_Law_add 2 = .ok (.aload_n 0, 1) := by decide +kernel
theorem zd_Law_add_3 : decode zc_Law_add 3 = .ok (.iload_n 1, 1) := by decide +kernel
theorem zd_Law_add_4 : decode zc_Law_add 4 = .ok (.invokevirtual 15, 3) := by decide +kernel
theorem zd_Law_add_7 : decode zc_Law_add 7 = .ok (.i2l, 1) := by decide +kernel
theorem zd_Law_add_8 : decode zc_Law_add 8 = .ok (.lastore, 1) := by decide +kernel
theorem zd_Law_add_9 : decode zc_Law_add 9 = .ok (.goto 6, 3) := by decide +kernel
theorem zd_Law_add_12 : decode zc_Law_add 12 = .ok (.astore_n 3, 1) := by decide +kernel
theorem zd_Law_add_13 : decode zc_Law_add 13 = .ok (.iconst 1, 1) := by decide +kernel
theorem zd_Law_add_14 : decode zc_Law_add 14 = .ok (.ireturn, 1) := by decide +kernel
theorem zd_Law_add_15 : decode zc_Law_add 15 = .ok (.iconst 0, 1) := by decide +kernel
theorem zd_Law_add_16 : decode zc_Law_add 16 = .ok (.ireturn, 1) := by decide +kernel
theorem zd_Law_remove_0 : decode zc_Law_remove 0 = .ok (.aload_n 1, 1) := by decide +kernel
theorem zd_Law_remove_1 : decode zc_Law_remove 1 = .ok (.iconst 0, 1) := by decide +kernel
theorem zd_Law_remove_2 : decode zc_Law_remove 2 = .ok (.aload_n 0, 1) := by decide +kernel
theorem zd_Law_remove_3 : decode zc_Law_remove 3 = .ok (.invokevirtual 21, 3) := by decide +kernel
theorem zd_Law_remove_6 : decode zc_Law_remove 6 = .ok (.i2l, 1) := by decide +kernel
theorem zd_Law_remove_7 : decode zc_Law_remove 7 = .ok (.lastore, 1) := by decide +kernel
theorem zd_Law_remove_8 : decode zc_Law_remove 8 = .ok (.goto 6, 3) := by decide +kernel
theorem zd_Law_remove_11 : decode zc_Law_remove 11 = .ok (.astore_n 2, 1) := by decide +kernel
theorem zd_Law_remove_12 : decode zc_Law_remove 12 = .ok (.iconst 1, 1) := by decide +kernel
theorem zd_Law_remove_13 : decode zc_Law_remove 13 = .ok (.ireturn, 1) := by decide +kernel
theorem zd_Law_remove_14 : decode zc_Law_remove 14 = .ok (.iconst 0, 1) := by decide +kernel
theorem zd_Law_remove_15 : decode zc_Law_remove 15 = .ok (.ireturn, 1) := by decide +kernel
theorem zd_Law_replace_0 : decode zc_Law_replace 0 = .ok (.aload_n 2, 1) := by decide +kernel
theorem zd_Law_replace_1 : decode zc_Law_replace 1 = .ok (.iconst 0, 1) := by decide +kernel
theorem zd_Law_replace_2 : decode zc_Law_replace 2 = .ok (.aload_n 0, 1) := by decide +kernel
theorem zd_Law_replace_3 : decode zc_Law_replace 3 = .ok (.iload_n 1, 1) := by decide +kernel
theorem zd_Law_replace_4 : decode zc_Law_replace 4 = .ok (.invokevirtual 25, 3) := by decide +kernel
theorem zd_Law_replace_7 : decode zc_Law_replace 7 = .ok (.i2l, 1) := by decide +kernel
theorem zd_Law_replace_8 : decode zc_Law_replace 8 = .ok (.lastore, 1) := by decide +kernel
theorem zd_Law_replace_9 : decode zc_Law_replace 9 = .ok (.goto 6, 3) := by decide +kernel
theorem zd_Law_replace_12 : decode zc_Law_replace 12 = .ok (.astore_n 3, 1) := by decide +kernel
theorem zd_Law_replace_13 : decode zc_Law_replace 13 = .ok (.iconst 1, 1) := by decide +kernel
theorem zd_Law_replace_14 : decode zc_Law_replace 14 = .ok (.ireturn, 1) := by decide +kernel
theorem zd_Law_replace_15 : decode zc_Law_replace 15 = .ok (.iconst 0, 1) := by decide +kernel
theorem zd_Law_replace_16 : decode zc_Law_replace 16 = .ok (.ireturn, 1) := by decide +kernel
theorem zd_Law_rename_0 : decode zc_Law_rename 0 = .ok (.aload_n 2, 1) := by decide +kernel
theorem zd_Law_rename_1 : decode zc_Law_rename 1 = .ok (.iconst 0, 1) := by decide +kernel
theorem zd_Law_rename_2 : decode zc_Law_rename 2 = .ok (.aload_n 0, 1) := by decide +kernel
theorem zd_Law_rename_3 : decode zc_Law_rename 3 = .ok (.iload_n 1, 1) := by decide +kernel
theorem zd_Law_rename_4 : decode zc_Law_rename 4 = .ok (.invokevirtual 28, 3) := by decide +kernel
theorem zd_Law_rename_7 : decode zc_Law_rename 7 = .ok (.i2l, 1) := by decide +kernel
theorem zd_Law_rename_8 : decode zc_Law_rename 8 = .ok (.lastore, 1) := by decide +kernel
theorem zd_Law_rename_9 : decode zc_Law_rename 9 = .ok (.goto 9, 3) := by decide +kernel
theorem zd_Law_rename_12 : decode zc_Law_rename 12 = .ok (.astore_n 3, 1) := by decide +kernel
theorem zd_Law_rename_13 : decode zc_Law_rename 13 = .ok (.iconst 1, 1) := by decide +kernel
theorem zd_Law_rename_14 : decode zc_Law_rename 14 = .ok (.ireturn, 1) := by decide +kernel
theorem zd_Law_rename_15 : decode zc_Law_rename 15 = .ok (.astore_n 3, 1) := by decide +kernel
theorem zd_Law_rename_16 : decode zc_Law_rename 16 = .ok (.iconst 2, 1) := by decide +kernel
theorem zd_Law_rename_17 : decode zc_Law_rename 17 = .ok (.ireturn, 1) := by decide +kernel
theorem zd_Law_rename_18 : decode zc_Law_rename 18 = .ok (.iconst 0, 1) := by decide +kernel
theorem zd_Law_rename_19 : decode zc_Law_rename 19 = .ok (.ireturn, 1) := by decide +kernel
theorem zd_Law_find_0 : decode zc_Law_find 0 = .ok (.aload_n 1, 1) := by decide +kernel
theorem zd_Law_find_1 : decode zc_Law_find 1 = .ok (.iconst 0, 1) := by decide +kernel
theorem zd_Law_find_2 : decode zc_Law_find 2 = .ok (.aload_n 0, 1) := by decide +kernel
theorem zd_Law_find_3 : decode zc_Law_find 3 = .ok (.invokevirtual 33, 3) := by decide +kernel
theorem zd_Law_find_6 : decode zc_Law_find 6 = .ok (.i2l, 1) := by decide +kernel
theorem zd_Law_find_7 : decode zc_Law_find 7 = .ok (.lastore, 1) := by decide +kernel
theorem zd_Law_find_8 : decode zc_Law_find 8 = .ok (.goto 9, 3) := by decide +kernel
theorem zd_Law_find_11 : decode zc_Law_find 11 = .ok (.astore_n 2, 1) := by decide +kernel
theorem zd_Law_find_12 : decode zc_Law_find 12 = .ok (.iconst 1, 1) := by decide +kernel
theorem zd_Law_find_13 : decode zc_Law_find 13 = .ok (.ireturn, 1) := by decide +kernel
theorem zd_Law_find_14 : decode zc_Law_find 14 = .ok (.astore_n 2, 1) := by decide +kernel
theorem zd_Law_find_15 : decode zc_Law_find 15 = .ok (.iconst 2, 1) := by decide +kernel
theorem zd_Law_find_16 : decode zc_Law_find 16 = .ok (.ireturn, 1) := by decide +kernel
theorem zd_Law_find_17 : decode zc_Law_find 17 = .ok (.iconst 0, 1) := by decide +kernel
theorem zd_Law_find_18 : decode zc_Law_find 18 = .ok (.ireturn, 1) := by decide +kernel
theorem zd_Law_serial_0 : decode zc_Law_serial 0 = .ok (.aload_n 1, 1) := by decide +kernel
theorem zd_Law_serial_1 : decode zc_Law_serial 1 = .ok (.iconst 0, 1) := by decide +kernel
theorem zd_Law_serial_2 : decode zc_Law_serial 2 = .ok (.aload_n 0, 1) := by decide +kernel
theorem zd_Law_serial_3 : decode zc_Law_serial 3 = .ok (.invokevirtual 36, 3) := by decide +kernel
theorem zd_Law_serial_6 : decode zc_Law_serial 6 = .ok (.i2l, 1) := by decide +kernel
theorem zd_Law_serial_7 : decode zc_Law_serial 7 = .ok (.lastore, 1) := by decide +kernel
theorem zd_Law_serial_8 : decode zc_Law_serial 8 = .ok (.goto 6, 3) := by decide +kernel
theorem zd_Law_serial_11 : decode zc_Law_serial 11 = .ok (.astore_n 2, 1) := by decide +kernel
theorem zd_Law_serial_12 : decode zc_Law_serial 12 = .ok (.iconst 1, 1) := by decide +kernel
theorem zd_Law_serial_13 : decode zc_Law_serial 13 = .ok (.ireturn, 1) := by decide +kernel
theorem zd_Law_serial_14 : decode zc_Law_serial 14 = .ok (.iconst 0, 1) := by decide +kernel
theorem zd_Law_serial_15 : decode zc_Law_serial 15 = .ok (.ireturn, 1) := by decide +kernel
theorem zd_Law_next_0 : decode zc_Law_next 0 = .ok (.aload_n 2, 1) := by decide +kernel
theorem zd_Law_next_1 : decode zc_Law_next 1 = .ok (.iconst 0, 1) := by decide +kernel
theorem zd_Law_next_2 : decode zc_Law_next 2 = .ok (.aload_n 0, 1) := by decide +kernel
theorem zd_Law_next_3 : decode zc_Law_next 3 = .ok (.iload_n 1, 1) := by decide +kernel
theorem zd_Law_next_4 : decode zc_Law_next 4 = .ok (.invokevirtual 39, 3) := by decide +kernel
theorem zd_Law_next_7 : decode zc_Law_next 7 = .ok (.i2l, 1) := by decide +kernel
theorem zd_Law_next_8 : decode zc_Law_next 8 = .ok (.lastore, 1) := by decide +kernel
theorem zd_Law_next_9 : decode zc_Law_next 9 = .ok (.goto 6, 3) := by decide +kernel
theorem zd_Law_next_12 : decode zc_Law_next 12 = .ok (.astore_n 3, 1) := by decide +kernel
theorem zd_Law_next_13 : decode zc_Law_next 13 = .ok (.iconst 1, 1) := by decide +kernel
theorem zd_Law_next_14 : decode zc_Law_next 14 = .ok (.ireturn, 1) := by decide +kernel
theorem zd_Law_next_15 : decode zc_Law_next 15 = .ok (.iconst 0, 1) := by decide +kernel
theorem zd_Law_next_16 : decode zc_Law_next 16 = .ok (.ireturn, 1) := by decide +kernel
theorem zd_Law_listed_0 : decode zc_Law_listed 0 = .ok (.aload_n 3, 1) := by decide +kernel
theorem zd_Law_listed_1 : decode zc_Law_listed 1 = .ok (.iconst 0, 1) := by decide +kernel
theorem zd_Law_listed_2 : decode zc_Law_listed 2 = .ok (.aload_n 0, 1) := by decide +kernel
theorem zd_Law_listed_3 : decode zc_Law_listed 3 = .ok (.iload_n 1, 1) := by decide +kernel
theorem zd_Law_listed_4 : decode zc_Law_listed 4 = .ok (.iload_n 2, 1) := by decide +kernel
theorem zd_Law_listed_5 : decode zc_Law_listed 5 = .ok (.invokevirtual 42, 3) := by decide +kernel
theorem zd_Law_listed_8 : decode zc_Law_listed 8 = .ok (.i2l, 1) := by decide +kernel
theorem zd_Law_listed_9 : decode zc_Law_listed 9 = .ok (.lastore, 1) := by decide +kernel
theorem zd_Law_listed_10 : decode zc_Law_listed 10 = .ok (.goto 11, 3) := by decide +kernel
theorem zd_Law_listed_13 : decode zc_Law_listed 13 = .ok (.astore 4, 2) := by decide +kernel
theorem zd_Law_listed_15 : decode zc_Law_listed 15 = .ok (.iconst 1, 1) := by decide +kernel
theorem zd_Law_listed_16 : decode zc_Law_listed 16 = .ok (.ireturn, 1) := by decide +kernel
theorem zd_Law_listed_17 : decode zc_Law_listed 17 = .ok (.astore 4, 2) := by decide +kernel
theorem zd_Law_listed_19 : decode zc_Law_listed 19 = .ok (.iconst 2, 1) := by decide +kernel
theorem zd_Law_listed_20 : decode zc_Law_listed 20 = .ok (.ireturn, 1) := by decide +kernel
theorem zd_Law_listed_21 : decode zc_Law_listed 21 = .ok (.iconst 0, 1) := by decide +kernel
theorem zd_Law_listed_22 : decode zc_Law_listed 22 = .ok (.ireturn, 1) := by decide +kernel
theorem zd_Law_rank_0 : decode zc_Law_rank 0 = .ok (.aload_n 1, 1) := by decide +kernel
theorem zd_Law_rank_1 : decode zc_Law_rank 1 = .ok (.iconst 0, 1) := by decide +kernel
theorem zd_Law_rank_2 : decode zc_Law_rank 2 = .ok (.aload_n 0, 1) := by decide +kernel
theorem zd_Law_rank_3 : decode zc_Law_rank 3 = .ok (.invokevirtual 46, 3) := by decide +kernel
theorem zd_Law_rank_6 : decode zc_Law_rank 6 = .ok (.i2l, 1) := by decide +kernel
theorem zd_Law_rank_7 : decode zc_Law_rank 7 = .ok (.lastore, 1) := by decide +kernel
theorem zd_Law_rank_8 : decode zc_Law_rank 8 = .ok (.goto 6, 3) := by decide +kernel
theorem zd_Law_rank_11 : decode zc_Law_rank 11 = .ok (.astore_n 2, 1) := by decide +kernel
theorem zd_Law_rank_12 : decode zc_Law_rank 12 = .ok (.iconst 1, 1) := by decide +kernel
theorem zd_Law_rank_13 : decode zc_Law_rank 13 = .ok (.ireturn, 1) := by decide +kernel
theorem zd_Law_rank_14 : decode zc_Law_rank 14 = .ok (.iconst 0, 1) := by decide +kernel
theorem zd_Law_rank_15 : decode zc_Law_rank 15 = .ok (.ireturn, 1) := by decide +kernel
theorem zd_Law_found_0 : decode zc_Law_found 0 = .ok (.aload_n 1, 1) := by decide +kernel
theorem zd_Law_found_1 : decode zc_Law_found 1 = .ok (.iconst 0, 1) := by decide +kernel
theorem zd_Law_found_2 : decode zc_Law_found 2 = .ok (.aload_n 0, 1) := by decide +kernel
theorem zd_Law_found_3 : decode zc_Law_found 3 = .ok (.invokevirtual 49, 3) := by decide +kernel
theorem zd_Law_found_6 : decode zc_Law_found 6 = .ok (.lastore, 1) := by decide +kernel
theorem zd_Law_found_7 : decode zc_Law_found 7 = .ok (.goto 6, 3) := by decide +kernel
theorem zd_Law_found_10 : decode zc_Law_found 10 = .ok (.astore_n 2, 1) := by decide +kernel
theorem zd_Law_found_11 : decode zc_Law_found 11 = .ok (.iconst 1, 1) := by decide +kernel
theorem zd_Law_found_12 : decode zc_Law_found 12 = .ok (.ireturn, 1) := by decide +kernel
theorem zd_Law_found_13 : decode zc_Law_found 13 = .ok (.iconst 0, 1) := by decide +kernel
theorem zd_Law_found_14 : decode zc_Law_found 14 = .ok (.ireturn, 1) := by decide +kernel
theorem zd_Law_count_0 : decode zc_Law_count 0 = .ok (.aload_n 1, 1) := by decide +kernel
theorem zd_Law_count_1 : decode zc_Law_count 1 = .ok (.iconst 0, 1) := by decide +kernel
theorem zd_Law_count_2 : decode zc_Law_count 2 = .ok (.aload_n 0, 1) := by decide +kernel
theorem zd_Law_count_3 : decode zc_Law_count 3 = .ok (.invokevirtual 53, 3) := by decide +kernel
theorem zd_Law_count_6 : decode zc_Law_count 6 = .ok (.i2l, 1) := by decide +kernel
theorem zd_Law_count_7 : decode zc_Law_count 7 = .ok (.lastore, 1) := by decide +kernel
theorem zd_Law_count_8 : decode zc_Law_count 8 = .ok (.goto 6, 3) := by decide +kernel
theorem zd_Law_count_11 : decode zc_Law_count 11 = .ok (.astore_n 2, 1) := by decide +kernel
theorem zd_Law_count_12 : decode zc_Law_count 12 = .ok (.iconst 1, 1) := by decide +kernel
theorem zd_Law_count_13 : decode zc_Law_count 13 = .ok (.ireturn, 1) := by decide +kernel
theorem zd_Law_count_14 : decode zc_Law_count 14 = .ok (.iconst 0, 1) := by decide +kernel
theorem zd_Law_count_15 : decode zc_Law_count 15 = .ok (.ireturn, 1) := by decide +kernel
theorem zd_Law_free_0 : decode zc_Law_free 0 = .ok (.aload_n 1, 1) := by decide +kernel
theorem zd_Law_free_1 : decode zc_Law_free 1 = .ok (.iconst 0, 1) := by decide +kernel
theorem zd_Law_free_2 : decode zc_Law_free 2 = .ok (.aload_n 0, 1) := by decide +kernel
theorem zd_Law_free_3 : decode zc_Law_free 3 = .ok (.invokevirtual 56, 3) := by decide +kernel
theorem zd_Law_free_6 : decode zc_Law_free 6 = .ok (.i2l, 1) := by decide +kernel
theorem zd_Law_free_7 : decode zc_Law_free 7 = .ok (.lastore, 1) := by decide +kernel
theorem zd_Law_free_8 : decode zc_Law_free 8 = .ok (.goto 6, 3) := by decide +kernel
theorem zd_Law_free_11 : decode zc_Law_free 11 = .ok (.astore_n 2, 1) := by decide +kernel
theorem zd_Law_free_12 : decode zc_Law_free 12 = .ok (.iconst 1, 1) := by decide +kernel
theorem zd_Law_free_13 : decode zc_Law_free 13 = .ok (.ireturn, 1) := by decide +kernel
theorem zd_Law_free_14 : decode zc_Law_free 14 = .ok (.iconst 0, 1) := by decide +kernel
theorem zd_Law_free_15 : decode zc_Law_free 15 = .ok (.ireturn, 1) := by decide +kernel
theorem zd_Law_failAfter_0 : decode zc_Law_failAfter 0 = .ok (.aload_n 0, 1) := by decide +kernel
theorem zd_Law_failAfter_1 : decode zc_Law_failAfter 1 = .ok (.iload_n 1, 1) := by decide +kernel
theorem zd_Law_failAfter_2 : decode zc_Law_failAfter 2 = .ok (.invokevirtual 59, 3) := by decide +kernel
theorem zd_Law_failAfter_5 : decode zc_Law_failAfter 5 = .ok (.goto 6, 3) := by decide +kernel
theorem zd_Law_failAfter_8 : decode zc_Law_failAfter 8 = .ok (.astore_n 2, 1) := by decide +kernel
theorem zd_Law_failAfter_9 : decode zc_Law_failAfter 9 = .ok (.iconst 1, 1) := by decide +kernel
theorem zd_Law_failAfter_10 : decode zc_Law_failAfter 10 = .ok (.ireturn, 1) := by decide +kernel
theorem zd_Law_failAfter_11 : decode zc_Law_failAfter 11 = .ok (.iconst 0, 1) := by decide +kernel
theorem zd_Law_failAfter_12 : decode zc_Law_failAfter 12 = .ok (.ireturn, 1) := by decide +kernel

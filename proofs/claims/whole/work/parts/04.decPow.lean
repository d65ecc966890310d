theorem zd_Pow_init_0 : decode zc_Pow_init 0 = .ok (.aload_n 0, 1) := by decide +kernel
theorem zd_Pow_init_1 : decode zc_Pow_init 1 = .ok (.invokespecial 3, 3) := by decide +kernel
theorem zd_Pow_init_4 : decode zc_Pow_init 4 = .ok (.aload_n 0, 1) := by decide +kernel
theorem zd_Pow_init_5 : decode zc_Pow_init 5 = .ok (.iconst 1, 1) := by decide +kernel
theorem zd_Pow_init_6 : decode zc_Pow_init 6 = .ok (.putfield 9, 3) := by decide +kernel
theorem zd_Pow_init_9 : decode zc_Pow_init 9 = .ok (.aload_n 0, 1) := by decide +kernel
theorem zd_Pow_init_10 : decode zc_Pow_init 10 = .ok (.iconst (-1), 1) := by decide +kernel
theorem zd_Pow_init_11 : decode zc_Pow_init 11 = .ok (.putfield 15, 3) := by decide +kernel
theorem zd_Pow_init_14 : decode zc_Pow_init 14 = .ok (.return_, 1) := by decide +kernel
theorem zd_Pow_isSupplied_0 : decode zc_Pow_isSupplied 0 = .ok (.aload_n 0, 1) := by decide +kernel
theorem zd_Pow_isSupplied_1 : decode zc_Pow_isSupplied 1 = .ok (.getfield 9, 3) := by decide +kernel
theorem zd_Pow_isSupplied_4 : decode zc_Pow_isSupplied 4 = .ok (.ireturn, 1) := by decide +kernel
theorem zd_Pow_allow_0 : decode zc_Pow_allow 0 = .ok (.aload_n 0, 1) := by decide +kernel
theorem zd_Pow_allow_1 : decode zc_Pow_allow 1 = .ok (.iload_n 1, 1) := by decide +kernel
theorem zd_Pow_allow_2 : decode zc_Pow_allow 2 = .ok (.putfield 15, 3) := by decide +kernel
theorem zd_Pow_allow_5 : decode zc_Pow_allow 5 = .ok (.return_, 1) := by decide +kernel
theorem zd_Pow_restore_0 : decode zc_Pow_restore 0 = .ok (.aload_n 0, 1) := by decide +kernel
theorem zd_Pow_restore_1 : decode zc_Pow_restore 1 = .ok (.iconst 1, 1) := by decide +kernel
theorem zd_Pow_restore_2 : decode zc_Pow_restore 2 = .ok (.putfield 9, 3) := by decide +kernel
theorem zd_Pow_restore_5 : decode zc_Pow_restore 5 = .ok (.aload_n 0, 1) := by decide +kernel
theorem zd_Pow_restore_6 : decode zc_Pow_restore 6 = .ok (.iconst (-1), 1) := by decide +kernel
theorem zd_Pow_restore_7 : decode zc_Pow_restore 7 = .ok (.putfield 15, 3) := by decide +kernel
theorem zd_Pow_restore_10 : decode zc_Pow_restore 10 = .ok (.return_, 1) := by decide +kernel
theorem zd_Pow_write_0 : decode zc_Pow_write 0 = .ok (.aload_n 0, 1) := by decide +kernel
theorem zd_Pow_write_1 : decode zc_Pow_write 1 = .ok (.getfield 15, 3) := by decide +kernel
theorem zd_Pow_write_4 : decode zc_Pow_write 4 = .ok (.iconst (-1), 1) := by decide +kernel
theorem zd_Pow_write_5 : decode zc_Pow_write 5 = .ok (.if_icmp .ne 5, 3) := by decide +kernel
theorem zd_Pow_write_8 : decode zc_Pow_write 8 = .ok (.iload_n 1, 1) := by decide +kernel
theorem zd_Pow_write_9 : decode zc_Pow_write 9 = .ok (.ireturn, 1) := by decide +kernel
theorem zd_Pow_write_10 : decode zc_Pow_write 10 = .ok (.iload_n 1, 1) := by decide +kernel
theorem zd_Pow_write_11 : decode zc_Pow_write 11 = .ok (.aload_n 0, 1) := by decide +kernel
theorem zd_Pow_write_12 : decode zc_Pow_write 12 = .ok (.getfield 15, 3) := by decide +kernel
theorem zd_Pow_write_15 : decode zc_Pow_write 15 = .ok (.invokestatic 19, 3) := by decide +kernel
theorem zd_Pow_write_18 : decode zc_Pow_write 18 = .ok (.istore_n 2, 1) := by decide +kernel
theorem zd_Pow_write_19 : decode zc_Pow_write 19 = .ok (.aload_n 0, 1) := by decide +kernel
theorem zd_Pow_write_20 : decode zc_Pow_write 20 = .ok (.dup, 1) := by decide +kernel
theorem zd_Pow_write_21 : decode zc_Pow_write 21 = .ok (.getfield 15, 3) := by decide +kernel
theorem zd_Pow_write_24 : decode zc_Pow_write 24 = .ok (.iload_n 2, 1) := by decide +kernel
theorem zd_Pow_write_25 : decode zc_Pow_write 25 = .ok (.isub, 1) := by decide +kernel
theorem zd_Pow_write_26 : decode zc_Pow_write 26 = .ok (.putfield 15, 3) := by decide +kernel
theorem zd_Pow_write_29 : decode zc_Pow_write 29 = .ok (.aload_n 0, 1) := by decide +kernel
theorem zd_Pow_write_30 : decode zc_Pow_write 30 = .ok (.iload_n 2, 1) := by decide +kernel
theorem zd_Pow_write_31 : decode zc_Pow_write 31 = .ok (.iload_n 1, 1) := by decide +kernel
theorem zd_Pow_write_32 : decode zc_Pow_write 32 = .ok (.if_icmp .ne 7, 3) := by decide +kernel
theorem zd_Pow_write_35 : decode zc_Pow_write 35 = .ok (.iconst 1, 1) := by decide +kernel
theorem zd_Pow_write_36 : decode zc_Pow_write 36 = .ok (.goto 4, 3) := by decide +kernel
theorem zd_Pow_write_39 : decode zc_Pow_write 39 = .ok (.iconst 0, 1) := by decide +kernel
theorem zd_Pow_write_40 : decode zc_Pow_write 40 = .ok (.putfield 9, 3) := by decide +kernel
theorem zd_Pow_write_43 : decode zc_Pow_write 43 = .ok (.iload_n 2, 1) := by decide +kernel
theorem zd_Pow_write_44 : decode zc_Pow_write 44 = .ok (.ireturn, 1) := by decide +kernel

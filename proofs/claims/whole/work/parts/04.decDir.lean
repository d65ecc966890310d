theorem zd_Dir_init_0 : decode zc_Dir_init 0 = .ok (.aload_n 0, 1) := by decide +kernel
theorem zd_Dir_init_1 : decode zc_Dir_init 1 = .ok (.invokespecial 3, 3) := by decide +kernel
theorem zd_Dir_init_4 : decode zc_Dir_init 4 = .ok (.aload_n 0, 1) := by decide +kernel
theorem zd_Dir_init_5 : decode zc_Dir_init 5 = .ok (.bipush 24, 2) := by decide +kernel
theorem zd_Dir_init_7 : decode zc_Dir_init 7 = .ok (.newarray .long, 2) := by decide +kernel
theorem zd_Dir_init_9 : decode zc_Dir_init 9 = .ok (.putfield 9, 3) := by decide +kernel
theorem zd_Dir_init_12 : decode zc_Dir_init 12 = .ok (.aload_n 0, 1) := by decide +kernel
theorem zd_Dir_init_13 : decode zc_Dir_init 13 = .ok (.bipush 24, 2) := by decide +kernel
theorem zd_Dir_init_15 : decode zc_Dir_init 15 = .ok (.newarray .int, 2) := by decide +kernel
theorem zd_Dir_init_17 : decode zc_Dir_init 17 = .ok (.putfield 15, 3) := by decide +kernel
theorem zd_Dir_init_20 : decode zc_Dir_init 20 = .ok (.aload_n 0, 1) := by decide +kernel
theorem zd_Dir_init_21 : decode zc_Dir_init 21 = .ok (.bipush 24, 2) := by decide +kernel
theorem zd_Dir_init_23 : decode zc_Dir_init 23 = .ok (.newarray .int, 2) := by decide +kernel
theorem zd_Dir_init_25 : decode zc_Dir_init 25 = .ok (.putfield 19, 3) := by decide +kernel
theorem zd_Dir_init_28 : decode zc_Dir_init 28 = .ok (.aload_n 0, 1) := by decide +kernel
theorem zd_Dir_init_29 : decode zc_Dir_init 29 = .ok (.new 22, 3) := by decide +kernel
theorem zd_Dir_init_32 : decode zc_Dir_init 32 = .ok (.dup, 1) := by decide +kernel
theorem zd_Dir_init_33 : decode zc_Dir_init 33 = .ok (.invokespecial 24, 3) := by decide +kernel
theorem zd_Dir_init_36 : decode zc_Dir_init 36 = .ok (.putfield 25, 3) := by decide +kernel
theorem zd_Dir_init_39 : decode zc_Dir_init 39 = .ok (.aload_n 0, 1) := by decide +kernel
theorem zd_Dir_init_40 : decode zc_Dir_init 40 = .ok (.new 22, 3) := by decide +kernel
theorem zd_Dir_init_43 : decode zc_Dir_init 43 = .ok (.dup, 1) := by decide +kernel
theorem zd_Dir_init_44 : decode zc_Dir_init 44 = .ok (.invokespecial 24, 3) := by decide +kernel
theorem zd_Dir_init_47 : decode zc_Dir_init 47 = .ok (.putfield 29, 3) := by decide +kernel
theorem zd_Dir_init_50 : decode zc_Dir_init 50 = .ok (.aload_n 0, 1) := by decide +kernel
theorem zd_Dir_init_51 : decode zc_Dir_init 51 = .ok (.iconst 0, 1) := by decide +kernel
theorem zd_Dir_init_52 : decode zc_Dir_init 52 = .ok (.putfield 32, 3) := by decide +kernel
theorem zd_Dir_init_55 : decode zc_Dir_init 55 = .ok (.aload_n 0, 1) := by decide +kernel
theorem zd_Dir_init_56 : decode zc_Dir_init 56 = .ok (.iconst 0, 1) := by decide +kernel
theorem zd_Dir_init_57 : decode zc_Dir_init 57 = .ok (.putfield 36, 3) := by decide +kernel
theorem zd_Dir_init_60 : decode zc_Dir_init 60 = .ok (.return_, 1) := by decide +kernel
theorem zd_Dir_copyFrom_0 : decode zc_Dir_copyFrom 0 = .ok (.aload_n 0, 1) := by decide +kernel
theorem zd_Dir_copyFrom_1 : decode zc_Dir_copyFrom 1 = .ok (.aload_n 1, 1) := by decide +kernel
theorem zd_Dir_copyFrom_2 : decode zc_Dir_copyFrom 2 = .ok (.getfield 32, 3) := by decide +kernel
theorem zd_Dir_copyFrom_5 : decode zc_Dir_copyFrom 5 = .ok (.putfield 32, 3) := by decide +kernel
theorem zd_Dir_copyFrom_8 : decode zc_Dir_copyFrom 8 = .ok (.aload_n 0, 1) := by decide +kernel
theorem zd_Dir_copyFrom_9 : decode zc_Dir_copyFrom 9 = .ok (.aload_n 1, 1) := by decide +kernel
theorem zd_Dir_copyFrom_10 : decode zc_Dir_copyFrom 10 = .ok (.getfield 36, 3) := by decide +kernel
theorem zd_Dir_copyFrom_13 : decode zc_Dir_copyFrom 13 = .ok (.putfield 36, 3) := by decide +kernel
theorem zd_Dir_copyFrom_16 : decode zc_Dir_copyFrom 16 = .ok (.aload_n 1, 1) := by decide +kernel
theorem zd_Dir_copyFrom_17 : decode zc_Dir_copyFrom 17 = .ok (.getfield 9, 3) := by decide +kernel
theorem zd_Dir_copyFrom_20 : decode zc_Dir_copyFrom 20 = .ok (.iconst 0, 1) := by decide +kernel
theorem zd_Dir_copyFrom_21 : decode zc_Dir_copyFrom 21 = .ok (.aload_n 0, 1) := by decide +kernel
theorem zd_Dir_copyFrom_22 : decode zc_Dir_copyFrom 22 = .ok (.getfield 9, 3) := by decide +kernel
theorem zd_Dir_copyFrom_25 : decode zc_Dir_copyFrom 25 = .ok (.iconst 0, 1) := by decide +kernel
theorem zd_Dir_copyFrom_26 : decode zc_Dir_copyFrom 26 = .ok (.aload_n 0, 1) := by decide +kernel
theorem zd_Dir_copyFrom_27 : decode zc_Dir_copyFrom 27 = .ok (.getfield 32, 3) := by decide +kernel
theorem zd_Dir_copyFrom_30 : decode zc_Dir_copyFrom 30 = .ok (.invokestatic 39, 3) := by decide +kernel
theorem zd_Dir_copyFrom_33 : decode zc_Dir_copyFrom 33 = .ok (.aload_n 1, 1) := by decide +kernel
theorem zd_Dir_copyFrom_34 : decode zc_Dir_copyFrom 34 = .ok (.getfield 15, 3) := by decide +kernel
theorem zd_Dir_copyFrom_37 : decode zc_Dir_copyFrom 37 = .ok (.iconst 0, 1) := by decide +kernel
theorem zd_Dir_copyFrom_38 : decode zc_Dir_copyFrom 38 = .ok (.aload_n 0, 1) := by decide +kernel
theorem zd_Dir_copyFrom_39 : decode zc_Dir_copyFrom 39 = .ok (.getfield 15, 3) := by decide +kernel
theorem zd_Dir_copyFrom_42 : decode zc_Dir_copyFrom 42 = .ok (.iconst 0, 1) := by decide +kernel
theorem zd_Dir_copyFrom_43 : decode zc_Dir_copyFrom 43 = .ok (.aload_n 0, 1) := by decide +kernel
theorem zd_Dir_copyFrom_44 : decode zc_Dir_copyFrom 44 = .ok (.getfield 32, 3) := by decide +kernel
theorem zd_Dir_copyFrom_47 : decode zc_Dir_copyFrom 47 = .ok (.invokestatic 39, 3) := by decide +kernel
theorem zd_Dir_copyFrom_50 : decode zc_Dir_copyFrom 50 = .ok (.aload_n 1, 1) := by decide +kernel
theorem zd_Dir_copyFrom_51 : decode zc_Dir_copyFrom 51 = .ok (.getfield 19, 3) := by decide +kernel
theorem zd_Dir_copyFrom_54 : decode zc_Dir_copyFrom 54 = .ok (.iconst 0, 1) := by decide +kernel
theorem zd_Dir_copyFrom_55 : decode zc_Dir_copyFrom 55 = .ok (.aload_n 0, 1) := by decide +kernel
theorem zd_Dir_copyFrom_56 : decode zc_Dir_copyFrom 56 = .ok (.getfield 19, 3) := by decide +kernel
theorem zd_Dir_copyFrom_59 : decode zc_Dir_copyFrom 59 = .ok (.iconst 0, 1) := by decide +kernel
theorem zd_Dir_copyFrom_60 : decode zc_Dir_copyFrom 60 = .ok (.aload_n 0, 1) := by decide +kernel
theorem zd_Dir_copyFrom_61 : decode zc_Dir_copyFrom 61 = .ok (.getfield 32, 3) := by decide +kernel
theorem zd_Dir_copyFrom_64 : decode zc_Dir_copyFrom 64 = .ok (.invokestatic 39, 3) := by decide +kernel
theorem zd_Dir_copyFrom_67 : decode zc_Dir_copyFrom 67 = .ok (.aload_n 0, 1) := by decide +kernel
theorem zd_Dir_copyFrom_68 : decode zc_Dir_copyFrom 68 = .ok (.getfield 25, 3) := by decide +kernel
theorem zd_Dir_copyFrom_71 : decode zc_Dir_copyFrom 71 = .ok (.aload_n 1, 1) := by decide +kernel
theorem zd_Dir_copyFrom_72 : decode zc_Dir_copyFrom 72 = .ok (.getfield 25, 3) := by decide +kernel
theorem zd_Dir_copyFrom_75 : decode zc_Dir_copyFrom 75 = .ok (.invokevirtual 45, 3) := by decide +kernel
theorem zd_Dir_copyFrom_78 : decode zc_Dir_copyFrom 78 = .ok (.aload_n 0, 1) := by decide +kernel
theorem zd_Dir_copyFrom_79 : decode zc_Dir_copyFrom 79 = .ok (.getfield 29, 3) := by decide +kernel
theorem zd_Dir_copyFrom_82 : decode zc_Dir_copyFrom 82 = .ok (.aload_n 1, 1) := by decide +kernel
theorem zd_Dir_copyFrom_83 : decode zc_Dir_copyFrom 83 = .ok (.getfield 29, 3) := by decide +kernel
theorem zd_Dir_copyFrom_86 : decode zc_Dir_copyFrom 86 = .ok (.invokevirtual 45, 3) := by decide +kernel
theorem zd_Dir_copyFrom_89 : decode zc_Dir_copyFrom 89 = .ok (.return_, 1) := by decide +kernel
theorem zd_Dir_entries_0 : decode zc_Dir_entries 0 = .ok (.aload_n 0, 1) := by decide +kernel
theorem zd_Dir_entries_1 : decode zc_Dir_entries 1 = .ok (.getfield 32, 3) := by decide +kernel
theorem zd_Dir_entries_4 : decode zc_Dir_entries 4 = .ok (.ireturn, 1) := by decide +kernel
theorem zd_Dir_hasMostEntries_0 : decode zc_Dir_hasMostEntries 0 = .ok (.aload_n 0, 1) := by decide +kernel
theorem zd_Dir_hasMostEntries_1 : decode zc_Dir_hasMostEntries 1 = .ok (.getfield 32, 3) := by decide +kernel
theorem zd_Dir_hasMostEntries_4 : decode zc_Dir_hasMostEntries 4 = .ok (.bipush 24, 2) := by decide +kernel
theorem zd_Dir_hasMostEntries_6 : decode zc_Dir_hasMostEntries 6 = .ok (.if_icmp .lt 7, 3) := by decide +kernel
theorem zd_Dir_hasMostEntries_9 : decode zc_Dir_hasMostEntries 9 = .ok (.iconst 1, 1) := by decide +kernel
theorem zd_Dir_hasMostEntries_10 : decode zc_Dir_hasMostEntries 10 = .ok (.goto 4, 3) := by decide +kernel
theorem zd_Dir_hasMostEntries_13 : decode zc_Dir_hasMostEntries 13 = .ok (.iconst 0, 1) := by decide +kernel
theorem zd_Dir_hasMostEntries_14 : decode zc_Dir_hasMostEntries 14 = .ok (.ireturn, 1) := by decide +kernel
theorem zd_Dir_serialAt_0 : decode zc_Dir_serialAt 0 = .ok (.aload_n 0, 1) := by decide +kernel
theorem zd_Dir_serialAt_1 : decode zc_Dir_serialAt 1 = .ok (.getfield 15, 3) := by decide +kernel
theorem zd_Dir_serialAt_4 : decode zc_Dir_serialAt 4 = .ok (.iload_n 1, 1) := by decide +kernel
theorem zd_Dir_serialAt_5 : decode zc_Dir_serialAt 5 = .ok (.iaload, 1) := by decide +kernel
theorem zd_Dir_serialAt_6 : decode zc_Dir_serialAt 6 = .ok (.ireturn, 1) := by decide +kernel
theorem zd_Dir_nameAt_0 : decode zc_Dir_nameAt 0 = .ok (.aload_n 0, 1) := by decide +kernel
theorem zd_Dir_nameAt_1 : decode zc_Dir_nameAt 1 = .ok (.getfield 9, 3) := by decide +kernel
theorem zd_Dir_nameAt_4 : decode zc_Dir_nameAt 4 = .ok (.iload_n 1, 1) := by decide +kernel
theorem zd_Dir_nameAt_5 : decode zc_Dir_nameAt 5 = .ok (.laload, 1) := by decide +kernel
theorem zd_Dir_nameAt_6 : decode zc_Dir_nameAt 6 = .ok (.lreturn, 1) := by decide +kernel
theorem zd_Dir_targetAt_0 : decode zc_Dir_targetAt 0 = .ok (.aload_n 0, 1) := by decide +kernel
theorem zd_Dir_targetAt_1 : decode zc_Dir_targetAt 1 = .ok (.getfield 19, 3) := by decide +kernel
theorem zd_Dir_targetAt_4 : decode zc_Dir_targetAt 4 = .ok (.iload_n 1, 1) := by decide +kernel
theorem zd_Dir_targetAt_5 : decode zc_Dir_targetAt 5 = .ok (.iaload, 1) := by decide +kernel
theorem zd_Dir_targetAt_6 : decode zc_Dir_targetAt 6 = .ok (.ireturn, 1) := by decide +kernel
theorem zd_Dir_indexOfName_0 : decode zc_Dir_indexOfName 0 = .ok (.iconst 0, 1) := by decide +kernel
theorem zd_Dir_indexOfName_1 : decode zc_Dir_indexOfName 1 = .ok (.istore_n 3, 1) := by decide +kernel
theorem zd_Dir_indexOfName_2 : decode zc_Dir_indexOfName 2 = .ok (.iload_n 3, 1) := by decide +kernel
theorem zd_Dir_indexOfName_3 : decode zc_Dir_indexOfName 3 = .ok (.aload_n 0, 1) := by decide +kernel
theorem zd_Dir_indexOfName_4 : decode zc_Dir_indexOfName 4 = .ok (.getfield 32, 3) := by decide +kernel
theorem zd_Dir_indexOfName_7 : decode zc_Dir_indexOfName 7 = .ok (.if_icmp .ge 22, 3) := by decide +kernel
theorem zd_Dir_indexOfName_10 : decode zc_Dir_indexOfName 10 = .ok (.aload_n 0, 1) := by decide +kernel
theorem zd_Dir_indexOfName_11 : decode zc_Dir_indexOfName 11 = .ok (.getfield 9, 3) := by decide +kernel
theorem zd_Dir_indexOfName_14 : decode zc_Dir_indexOfName 14 = .ok (.iload_n 3, 1) := by decide +kernel
theorem zd_Dir_indexOfName_15 : decode zc_Dir_indexOfName 15 = .ok (.laload, 1) := by decide +kernel
theorem zd_Dir_indexOfName_16 : decode zc_Dir_indexOfName 16 = .ok (.lload_n 1, 1) := by decide +kernel
theorem zd_Dir_indexOfName_17 : decode zc_Dir_indexOfName 17 = .ok (.lcmp, 1) := by decide +kernel
theorem zd_Dir_indexOfName_18 : decode zc_Dir_indexOfName 18 = .ok (.ifCond .ne 5, 3) := by decide +kernel
theorem zd_Dir_indexOfName_21 : decode zc_Dir_indexOfName 21 = .ok (.iload_n 3, 1) := by decide +kernel
theorem zd_Dir_indexOfName_22 : decode zc_Dir_indexOfName 22 = .ok (.ireturn, 1) := by decide +kernel
theorem zd_Dir_indexOfName_23 : decode zc_Dir_indexOfName 23 = .ok (.iinc 3 1, 3) := by decide +kernel
theorem zd_Dir_indexOfName_26 : decode zc_Dir_indexOfName 26 = .ok (.goto (-24), 3) := by decide +kernel
theorem zd_Dir_indexOfName_29 : decode zc_Dir_indexOfName 29 = .ok (.iconst (-1), 1) := by decide +kernel
theorem zd_Dir_indexOfName_30 : decode zc_Dir_indexOfName 30 = .ok (.ireturn, 1) := by decide +kernel
theorem zd_Dir_indexOfSerial_0 : decode zc_Dir_indexOfSerial 0 = .ok (.iconst 0, 1) := by decide +kernel
theorem zd_Dir_indexOfSerial_1 : decode zc_Dir_indexOfSerial 1 = .ok (.istore_n 2, 1) := by decide +kernel
theorem zd_Dir_indexOfSerial_2 : decode zc_Dir_indexOfSerial 2 = .ok (.iload_n 2, 1) := by decide +kernel
theorem zd_Dir_indexOfSerial_3 : decode zc_Dir_indexOfSerial 3 = .ok (.aload_n 0, 1) := by decide +kernel
theorem zd_Dir_indexOfSerial_4 : decode zc_Dir_indexOfSerial 4 = .ok (.getfield 32, 3) := by decide +kernel
theorem zd_Dir_indexOfSerial_7 : decode zc_Dir_indexOfSerial 7 = .ok (.if_icmp .ge 21, 3) := by decide +kernel
theorem zd_Dir_indexOfSerial_10 : decode zc_Dir_indexOfSerial 10 = .ok (.aload_n 0, 1) := by decide +kernel
theorem zd_Dir_indexOfSerial_11 : decode zc_Dir_indexOfSerial 11 = .ok (.getfield 15, 3) := by decide +kernel
theorem zd_Dir_indexOfSerial_14 : decode zc_Dir_indexOfSerial 14 = .ok (.iload_n 2, 1) := by decide +kernel
theorem zd_Dir_indexOfSerial_15 : decode zc_Dir_indexOfSerial 15 = .ok (.iaload, 1) := by decide +kernel
theorem zd_Dir_indexOfSerial_16 : decode zc_Dir_indexOfSerial 16 = .ok (.iload_n 1, 1) := by decide +kernel
theorem zd_Dir_indexOfSerial_17 : decode zc_Dir_indexOfSerial 17 = .ok (.if_icmp .ne 5, 3) := by decide +kernel
theorem zd_Dir_indexOfSerial_20 : decode zc_Dir_indexOfSerial 20 = .ok (.iload_n 2, 1) := by decide +kernel
theorem zd_Dir_indexOfSerial_21 : decode zc_Dir_indexOfSerial 21 = .ok (.ireturn, 1) := by decide +kernel
theorem zd_Dir_indexOfSerial_22 : decode zc_Dir_indexOfSerial 22 = .ok (.iinc 2 1, 3) := by decide +kernel
theorem zd_Dir_indexOfSerial_25 : decode zc_Dir_indexOfSerial 25 = .ok (.goto (-23), 3) := by decide +kernel
theorem zd_Dir_indexOfSerial_28 : decode zc_Dir_indexOfSerial 28 = .ok (.iconst (-1), 1) := by decide +kernel
theorem zd_Dir_indexOfSerial_29 : decode zc_Dir_indexOfSerial 29 = .ok (.ireturn, 1) := by decide +kernel
theorem zd_Dir_indexAbove_0 : decode zc_Dir_indexAbove 0 = .ok (.iconst 0, 1) := by decide +kernel
theorem zd_Dir_indexAbove_1 : decode zc_Dir_indexAbove 1 = .ok (.istore_n 2, 1) := by decide +kernel
theorem zd_Dir_indexAbove_2 : decode zc_Dir_indexAbove 2 = .ok (.iload_n 2, 1) := by decide +kernel
theorem zd_Dir_indexAbove_3 : decode zc_Dir_indexAbove 3 = .ok (.aload_n 0, 1) := by decide +kernel
theorem zd_Dir_indexAbove_4 : decode zc_Dir_indexAbove 4 = .ok (.getfield 32, 3) := by decide +kernel
theorem zd_Dir_indexAbove_7 : decode zc_Dir_indexAbove 7 = .ok (.if_icmp .ge 21, 3) := by decide +kernel
theorem zd_Dir_indexAbove_10 : decode zc_Dir_indexAbove 10 = .ok (.aload_n 0, 1) := by decide +kernel
theorem zd_Dir_indexAbove_11 : decode zc_Dir_indexAbove 11 = .ok (.getfield 15, 3) := by decide +kernel
theorem zd_Dir_indexAbove_14 : decode zc_Dir_indexAbove 14 = .ok (.iload_n 2, 1) := by decide +kernel
theorem zd_Dir_indexAbove_15 : decode zc_Dir_indexAbove 15 = .ok (.iaload, 1) := by decide +kernel
theorem zd_Dir_indexAbove_16 : decode zc_Dir_indexAbove 16 = .ok (.iload_n 1, 1) := by decide +kernel
theorem zd_Dir_indexAbove_17 : decode zc_Dir_indexAbove 17 = .ok (.if_icmp .le 5, 3) := by decide +kernel
theorem zd_Dir_indexAbove_20 : decode zc_Dir_indexAbove 20 = .ok (.iload_n 2, 1) := by decide +kernel
theorem zd_Dir_indexAbove_21 : decode zc_Dir_indexAbove 21 = .ok (.ireturn, 1) := by decide +kernel
theorem zd_Dir_indexAbove_22 : decode zc_Dir_indexAbove 22 = .ok (.iinc 2 1, 3) := by decide +kernel
theorem zd_Dir_indexAbove_25 : decode zc_Dir_indexAbove 25 = .ok (.goto (-23), 3) := by decide +kernel
theorem zd_Dir_indexAbove_28 : decode zc_Dir_indexAbove 28 = .ok (.iconst (-1), 1) := by decide +kernel
theorem zd_Dir_indexAbove_29 : decode zc_Dir_indexAbove 29 = .ok (.ireturn, 1) := by decide +kernel
theorem zd_Dir_indexListed_0 : decode zc_Dir_indexListed 0 = .ok (.aload_n 0, 1) := by decide +kernel
theorem zd_Dir_indexListed_1 : decode zc_Dir_indexListed 1 = .ok (.aload_n 0, 1) := by decide +kernel
theorem zd_Dir_indexListed_2 : decode zc_Dir_indexListed 2 = .ok (.getfield 25, 3) := by decide +kernel
theorem zd_Dir_indexListed_5 : decode zc_Dir_indexListed 5 = .ok (.lload_n 2, 1) := by decide +kernel
theorem zd_Dir_indexListed_6 : decode zc_Dir_indexListed 6 = .ok (.iload 4, 2) := by decide +kernel
theorem zd_Dir_indexListed_8 : decode zc_Dir_indexListed 8 = .ok (.invokestatic 49, 3) := by decide +kernel
theorem zd_Dir_indexListed_11 : decode zc_Dir_indexListed 11 = .ok (.iload 4, 2) := by decide +kernel
theorem zd_Dir_indexListed_13 : decode zc_Dir_indexListed 13 = .ok (.iload_n 1, 1) := by decide +kernel
theorem zd_Dir_indexListed_14 : decode zc_Dir_indexListed 14 = .ok (.invokevirtual 55, 3) := by decide +kernel
theorem zd_Dir_indexListed_17 : decode zc_Dir_indexListed 17 = .ok (.invokevirtual 59, 3) := by decide +kernel
theorem zd_Dir_indexListed_20 : decode zc_Dir_indexListed 20 = .ok (.ireturn, 1) := by decide +kernel
theorem zd_Dir_namesBefore_0 : decode zc_Dir_namesBefore 0 = .ok (.aload_n 0, 1) := by decide +kernel
theorem zd_Dir_namesBefore_1 : decode zc_Dir_namesBefore 1 = .ok (.getfield 25, 3) := by decide +kernel
theorem zd_Dir_namesBefore_4 : decode zc_Dir_namesBefore 4 = .ok (.lload_n 1, 1) := by decide +kernel
theorem zd_Dir_namesBefore_5 : decode zc_Dir_namesBefore 5 = .ok (.invokevirtual 63, 3) := by decide +kernel
theorem zd_Dir_namesBefore_8 : decode zc_Dir_namesBefore 8 = .ok (.ireturn, 1) := by decide +kernel
theorem zd_Dir_enter_0 : decode zc_Dir_enter 0 = .ok (.aload_n 0, 1) := by decide +kernel
theorem zd_Dir_enter_1 : decode zc_Dir_enter 1 = .ok (.invokevirtual 66, 3) := by decide +kernel
theorem zd_Dir_enter_4 : decode zc_Dir_enter 4 = .ok (.ifCond .eq 5, 3) := by decide +kernel
theorem zd_Dir_enter_7 : decode zc_Dir_enter 7 = .ok (.iconst (-1), 1) := by decide +kernel
theorem zd_Dir_enter_8 : decode zc_Dir_enter 8 = .ok (.ireturn, 1) := by decide +kernel
theorem zd_Dir_enter_9 : decode zc_Dir_enter 9 = .ok (.aload_n 0, 1) := by decide +kernel
theorem zd_Dir_enter_10 : decode zc_Dir_enter 10 = .ok (.dup, 1) := by decide +kernel
theorem zd_Dir_enter_11 : decode zc_Dir_enter 11 = .ok (.getfield 36, 3) := by decide +kernel
theorem zd_Dir_enter_14 : decode zc_Dir_enter 14 = .ok (.iconst 1, 1) := by decide +kernel
theorem zd_Dir_enter_15 : decode zc_Dir_enter 15 = .ok (.iadd, 1) := by decide +kernel
theorem zd_Dir_enter_16 : decode zc_Dir_enter 16 = .ok (.putfield 36, 3) := by decide +kernel
theorem zd_Dir_enter_19 : decode zc_Dir_enter 19 = .ok (.aload_n 0, 1) := by decide +kernel
theorem zd_Dir_enter_20 : decode zc_Dir_enter 20 = .ok (.getfield 9, 3) := by decide +kernel
theorem zd_Dir_enter_23 : decode zc_Dir_enter 23 = .ok (.aload_n 0, 1) := by decide +kernel
theorem zd_Dir_enter_24 : decode zc_Dir_enter 24 = .ok (.getfield 32, 3) := by decide +kernel
theorem zd_Dir_enter_27 : decode zc_Dir_enter 27 = .ok (.lload_n 1, 1) := by decide +kernel
theorem zd_Dir_enter_28 : decode zc_Dir_enter 28 = .ok (.lastore, 1) := by decide +kernel
theorem zd_Dir_enter_29 : decode zc_Dir_enter 29 = .ok (.aload_n 0, 1) := by decide +kernel
theorem zd_Dir_enter_30 : decode zc_Dir_enter 30 = .ok (.getfield 15, 3) := by decide +kernel
theorem zd_Dir_enter_33 : decode zc_Dir_enter 33 = .ok (.aload_n 0, 1) := by decide +kernel
theorem zd_Dir_enter_34 : decode zc_Dir_enter 34 = .ok (.getfield 32, 3) := by decide +kernel
theorem zd_Dir_enter_37 : decode zc_Dir_enter 37 = .ok (.aload_n 0, 1) := by decide +kernel
theorem zd_Dir_enter_38 : decode zc_Dir_enter 38 = .ok (.getfield 36, 3) := by decide +kernel
theorem zd_Dir_enter_41 : decode zc_Dir_enter 41 = .ok (.iastore, 1) := by decide +kernel
theorem zd_Dir_enter_42 : decode zc_Dir_enter 42 = .ok (.aload_n 0, 1) := by decide +kernel
theorem zd_Dir_enter_43 : decode zc_Dir_enter 43 = .ok (.getfield 19, 3) := by decide +kernel
theorem zd_Dir_enter_46 : decode zc_Dir_enter 46 = .ok (.aload_n 0, 1) := by decide +kernel
theorem zd_Dir_enter_47 : decode zc_Dir_enter 47 = .ok (.getfield 32, 3) := by decide +kernel
theorem zd_Dir_enter_50 : decode zc_Dir_enter 50 = .ok (.iload_n 3, 1) := by decide +kernel
theorem zd_Dir_enter_51 : decode zc_Dir_enter 51 = .ok (.iastore, 1) := by decide +kernel
theorem zd_Dir_enter_52 : decode zc_Dir_enter 52 = .ok (.aload_n 0, 1) := by decide +kernel
theorem zd_Dir_enter_53 : decode zc_Dir_enter 53 = .ok (.dup, 1) := by decide +kernel
theorem zd_Dir_enter_54 : decode zc_Dir_enter 54 = .ok (.getfield 32, 3) := by decide +kernel
theorem zd_Dir_enter_57 : decode zc_Dir_enter 57 = .ok (.iconst 1, 1) := by decide +kernel
theorem zd_Dir_enter_58 : decode zc_Dir_enter 58 = .ok (.iadd, 1) := by decide +kernel
theorem zd_Dir_enter_59 : decode zc_Dir_enter 59 = .ok (.putfield 32, 3) := by decide +kernel
theorem zd_Dir_enter_62 : decode zc_Dir_enter 62 = .ok (.aload_n 0, 1) := by decide +kernel
theorem zd_Dir_enter_63 : decode zc_Dir_enter 63 = .ok (.getfield 25, 3) := by decide +kernel
theorem zd_Dir_enter_66 : decode zc_Dir_enter 66 = .ok (.lload_n 1, 1) := by decide +kernel
theorem zd_Dir_enter_67 : decode zc_Dir_enter 67 = .ok (.invokevirtual 70, 3) := by decide +kernel
theorem zd_Dir_enter_70 : decode zc_Dir_enter 70 = .ok (.aload_n 0, 1) := by decide +kernel
theorem zd_Dir_enter_71 : decode zc_Dir_enter 71 = .ok (.getfield 29, 3) := by decide +kernel
theorem zd_Dir_enter_74 : decode zc_Dir_enter 74 = .ok (.aload_n 0, 1) := by decide +kernel
theorem zd_Dir_enter_75 : decode zc_Dir_enter 75 = .ok (.getfield 36, 3) := by decide +kernel
theorem zd_Dir_enter_78 : decode zc_Dir_enter 78 = .ok (.invokestatic 74, 3) := by decide +kernel
theorem zd_Dir_enter_81 : decode zc_Dir_enter 81 = .ok (.invokevirtual 70, 3) := by decide +kernel
theorem zd_Dir_enter_84 : decode zc_Dir_enter 84 = .ok (.aload_n 0, 1) := by decide +kernel
theorem zd_Dir_enter_85 : decode zc_Dir_enter 85 = .ok (.getfield 36, 3) := by decide +kernel
theorem zd_Dir_enter_88 : decode zc_Dir_enter 88 = .ok (.ireturn, 1) := by decide +kernel
theorem zd_Dir_drop_0 : decode zc_Dir_drop 0 = .ok (.aload_n 0, 1) := by decide +kernel
theorem zd_Dir_drop_1 : decode zc_Dir_drop 1 = .ok (.getfield 25, 3) := by decide +kernel
theorem zd_Dir_drop_4 : decode zc_Dir_drop 4 = .ok (.aload_n 0, 1) := by decide +kernel
theorem zd_Dir_drop_5 : decode zc_Dir_drop 5 = .ok (.getfield 9, 3) := by decide +kernel
theorem zd_Dir_drop_8 : decode zc_Dir_drop 8 = .ok (.iload_n 1, 1) := by decide +kernel
theorem zd_Dir_drop_9 : decode zc_Dir_drop 9 = .ok (.laload, 1) := by decide +kernel
theorem zd_Dir_drop_10 : decode zc_Dir_drop 10 = .ok (.invokevirtual 78, 3) := by decide +kernel
theorem zd_Dir_drop_13 : decode zc_Dir_drop 13 = .ok (.aload_n 0, 1) := by decide +kernel
theorem zd_Dir_drop_14 : decode zc_Dir_drop 14 = .ok (.getfield 29, 3) := by decide +kernel
theorem zd_Dir_drop_17 : decode zc_Dir_drop 17 = .ok (.aload_n 0, 1) := by decide +kernel
theorem zd_Dir_drop_18 : decode zc_Dir_drop 18 = .ok (.getfield 15, 3) := by decide +kernel
theorem zd_Dir_drop_21 : decode zc_Dir_drop 21 = .ok (.iload_n 1, 1) := by decide +kernel
theorem zd_Dir_drop_22 : decode zc_Dir_drop 22 = .ok (.iaload, 1) := by decide +kernel
theorem zd_Dir_drop_23 : decode zc_Dir_drop 23 = .ok (.invokestatic 74, 3) := by decide +kernel
theorem zd_Dir_drop_26 : decode zc_Dir_drop 26 = .ok (.invokevirtual 78, 3) := by decide +kernel
theorem zd_Dir_drop_29 : decode zc_Dir_drop 29 = .ok (.aload_n 0, 1) := by decide +kernel
theorem zd_Dir_drop_30 : decode zc_Dir_drop 30 = .ok (.dup, 1) := by decide +kernel
theorem zd_Dir_drop_31 : decode zc_Dir_drop 31 = .ok (.getfield 32, 3) := by decide +kernel
theorem zd_Dir_drop_34 : decode zc_Dir_drop 34 = .ok (.iconst 1, 1) := by decide +kernel
theorem zd_Dir_drop_35 : decode zc_Dir_drop 35 = .ok (.isub, 1) := by decide +kernel
theorem zd_Dir_drop_36 : decode zc_Dir_drop 36 = .ok (.putfield 32, 3) := by decide +kernel
theorem zd_Dir_drop_39 : decode zc_Dir_drop 39 = .ok (.aload_n 0, 1) := by decide +kernel
theorem zd_Dir_drop_40 : decode zc_Dir_drop 40 = .ok (.getfield 9, 3) := by decide +kernel
theorem zd_Dir_drop_43 : decode zc_Dir_drop 43 = .ok (.iload_n 1, 1) := by decide +kernel
theorem zd_Dir_drop_44 : decode zc_Dir_drop 44 = .ok (.iconst 1, 1) := by decide +kernel
theorem zd_Dir_drop_45 : decode zc_Dir_drop 45 = .ok (.iadd, 1) := by decide +kernel
theorem zd_Dir_drop_46 : decode zc_Dir_drop 46 = .ok (.aload_n 0, 1) := by decide +kernel
theorem zd_Dir_drop_47 : decode zc_Dir_drop 47 = .ok (.getfield 9, 3) := by decide +kernel
theorem zd_Dir_drop_50 : decode zc_Dir_drop 50 = .ok (.iload_n 1, 1) := by decide +kernel
theorem zd_Dir_drop_51 : decode zc_Dir_drop 51 = .ok (.aload_n 0, 1) := by decide +kernel
theorem zd_Dir_drop_52 : decode zc_Dir_drop 52 = .ok (.getfield 32, 3) := by decide +kernel
theorem zd_Dir_drop_55 : decode zc_Dir_drop 55 = .ok (.iload_n 1, 1) := by decide +kernel
theorem zd_Dir_drop_56 : decode zc_Dir_drop 56 = .ok (.isub, 1) := by decide +kernel
theorem zd_Dir_drop_57 : decode zc_Dir_drop 57 = .ok (.invokestatic 39, 3) := by decide +kernel
theorem zd_Dir_drop_60 : decode zc_Dir_drop 60 = .ok (.aload_n 0, 1) := by decide +kernel
theorem zd_Dir_drop_61 : decode zc_Dir_drop 61 = .ok (.getfield 15, 3) := by decide +kernel
theorem zd_Dir_drop_64 : decode zc_Dir_drop 64 = .ok (.iload_n 1, 1) := by decide +kernel
theorem zd_Dir_drop_65 : decode zc_Dir_drop 65 = .ok (.iconst 1, 1) := by decide +kernel
theorem zd_Dir_drop_66 : decode zc_Dir_drop 66 = .ok (.iadd, 1) := by decide +kernel
theorem zd_Dir_drop_67 : decode zc_Dir_drop 67 = .ok (.aload_n 0, 1) := by decide +kernel
theorem zd_Dir_drop_68 : decode zc_Dir_drop 68 = .ok (.getfield 15, 3) := by decide +kernel
theorem zd_Dir_drop_71 : decode zc_Dir_drop 71 = .ok (.iload_n 1, 1) := by decide +kernel
theorem zd_Dir_drop_72 : decode zc_Dir_drop 72 = .ok (.aload_n 0, 1) := by decide +kernel
theorem zd_Dir_drop_73 : decode zc_Dir_drop 73 = .ok (.getfield 32, 3) := by decide +kernel
theorem zd_Dir_drop_76 : decode zc_Dir_drop 76 = .ok (.iload_n 1, 1) := by decide +kernel
theorem zd_Dir_drop_77 : decode zc_Dir_drop 77 = .ok (.isub, 1) := by decide +kernel
theorem zd_Dir_drop_78 : decode zc_Dir_drop 78 = .ok (.invokestatic 39, 3) := by decide +kernel
theorem zd_Dir_drop_81 : decode zc_Dir_drop 81 = .ok (.aload_n 0, 1) := by decide +kernel
theorem zd_Dir_drop_82 : decode zc_Dir_drop 82 = .ok (.getfield 19, 3) := by decide +kernel
theorem zd_Dir_drop_85 : decode zc_Dir_drop 85 = .ok (.iload_n 1, 1) := by decide +kernel
theorem zd_Dir_drop_86 : decode zc_Dir_drop 86 = .ok (.iconst 1, 1) := by decide +kernel
theorem zd_Dir_drop_87 : decode zc_Dir_drop 87 = .ok (.iadd, 1) := by decide +kernel
theorem zd_Dir_drop_88 : decode zc_Dir_drop 88 = .ok (.aload_n 0, 1) := by decide +kernel
theorem zd_Dir_drop_89 : decode zc_Dir_drop 89 = .ok (.getfield 19, 3) := by decide +kernel
theorem zd_Dir_drop_92 : decode zc_Dir_drop 92 = .ok (.iload_n 1, 1) := by decide +kernel
theorem zd_Dir_drop_93 : decode zc_Dir_drop 93 = .ok (.aload_n 0, 1) := by decide +kernel
theorem zd_Dir_drop_94 : decode zc_Dir_drop 94 = .ok (.getfield 32, 3) := by decide +kernel
theorem zd_Dir_drop_97 : decode zc_Dir_drop 97 = .ok (.iload_n 1, 1) := by decide +kernel
theorem zd_Dir_drop_98 : decode zc_Dir_drop 98 = .ok (.isub, 1) := by decide +kernel
theorem zd_Dir_drop_99 : decode zc_Dir_drop 99 = .ok (.invokestatic 39, 3) := by decide +kernel
theorem zd_Dir_drop_102 : decode zc_Dir_drop 102 = .ok (.return_, 1) := by decide +kernel
theorem zd_Dir_giveTarget_0 : decode zc_Dir_giveTarget 0 = .ok (.aload_n 0, 1) := by decide +kernel
theorem zd_Dir_giveTarget_1 : decode zc_Dir_giveTarget 1 = .ok (.getfield 19, 3) := by decide +kernel
theorem zd_Dir_giveTarget_4 : decode zc_Dir_giveTarget 4 = .ok (.iload_n 1, 1) := by decide +kernel
theorem zd_Dir_giveTarget_5 : decode zc_Dir_giveTarget 5 = .ok (.iload_n 2, 1) := by decide +kernel
theorem zd_Dir_giveTarget_6 : decode zc_Dir_giveTarget 6 = .ok (.iastore, 1) := by decide +kernel
theorem zd_Dir_giveTarget_7 : decode zc_Dir_giveTarget 7 = .ok (.return_, 1) := by decide +kernel
theorem zd_Dir_giveName_0 : decode zc_Dir_giveName 0 = .ok (.aload_n 0, 1) := by decide +kernel
theorem zd_Dir_giveName_1 : decode zc_Dir_giveName 1 = .ok (.getfield 25, 3) := by decide +kernel
theorem zd_Dir_giveName_4 : decode zc_Dir_giveName 4 = .ok (.aload_n 0, 1) := by decide +kernel
theorem zd_Dir_giveName_5 : decode zc_Dir_giveName 5 = .ok (.getfield 9, 3) := by decide +kernel
theorem zd_Dir_giveName_8 : decode zc_Dir_giveName 8 = .ok (.iload_n 1, 1) := by decide +kernel
theorem zd_Dir_giveName_9 : decode zc_Dir_giveName 9 = .ok (.laload, 1) := by decide +kernel
theorem zd_Dir_giveName_10 : decode zc_Dir_giveName 10 = .ok (.invokevirtual 78, 3) := by decide +kernel
theorem zd_Dir_giveName_13 : decode zc_Dir_giveName 13 = .ok (.aload_n 0, 1) := by decide +kernel
theorem zd_Dir_giveName_14 : decode zc_Dir_giveName 14 = .ok (.getfield 25, 3) := by decide +kernel
theorem zd_Dir_giveName_17 : decode zc_Dir_giveName 17 = .ok (.lload_n 2, 1) := by decide +kernel
theorem zd_Dir_giveName_18 : decode zc_Dir_giveName 18 = .ok (.invokevirtual 70, 3) := by decide +kernel
theorem zd_Dir_giveName_21 : decode zc_Dir_giveName 21 = .ok (.aload_n 0, 1) := by decide +kernel
theorem zd_Dir_giveName_22 : decode zc_Dir_giveName 22 = .ok (.getfield 9, 3) := by decide +kernel
theorem zd_Dir_giveName_25 : decode zc_Dir_giveName 25 = .ok (.iload_n 1, 1) := by decide +kernel
theorem zd_Dir_giveName_26 : decode zc_Dir_giveName 26 = .ok (.lload_n 2, 1) := by decide +kernel
theorem zd_Dir_giveName_27 : decode zc_Dir_giveName 27 = .ok (.lastore, 1) := by decide +kernel
theorem zd_Dir_giveName_28 : decode zc_Dir_giveName 28 = .ok (.return_, 1) := by decide +kernel
theorem zd_Dir_freePages_0 : decode zc_Dir_freePages 0 = .ok (.bipush 60, 2) := by decide +kernel
theorem zd_Dir_freePages_2 : decode zc_Dir_freePages 2 = .ok (.aload_n 0, 1) := by decide +kernel
theorem zd_Dir_freePages_3 : decode zc_Dir_freePages 3 = .ok (.getfield 25, 3) := by decide +kernel
theorem zd_Dir_freePages_6 : decode zc_Dir_freePages 6 = .ok (.invokevirtual 81, 3) := by decide +kernel
theorem zd_Dir_freePages_9 : decode zc_Dir_freePages 9 = .ok (.isub, 1) := by decide +kernel
theorem zd_Dir_freePages_10 : decode zc_Dir_freePages 10 = .ok (.aload_n 0, 1) := by decide +kernel
theorem zd_Dir_freePages_11 : decode zc_Dir_freePages 11 = .ok (.getfield 29, 3) := by decide +kernel
theorem zd_Dir_freePages_14 : decode zc_Dir_freePages 14 = .ok (.invokevirtual 81, 3) := by decide +kernel
theorem zd_Dir_freePages_17 : decode zc_Dir_freePages 17 = .ok (.isub, 1) := by decide +kernel
theorem zd_Dir_freePages_18 : decode zc_Dir_freePages 18 = .ok (.ireturn, 1) := by decide +kernel
theorem zd_Dir_pagesOfName_0 : decode zc_Dir_pagesOfName 0 = .ok (.aload_n 0, 1) := by decide +kernel
theorem zd_Dir_pagesOfName_1 : decode zc_Dir_pagesOfName 1 = .ok (.getfield 25, 3) := by decide +kernel
theorem zd_Dir_pagesOfName_4 : decode zc_Dir_pagesOfName 4 = .ok (.lload_n 1, 1) := by decide +kernel
theorem zd_Dir_pagesOfName_5 : decode zc_Dir_pagesOfName 5 = .ok (.iconst 0, 1) := by decide +kernel
theorem zd_Dir_pagesOfName_6 : decode zc_Dir_pagesOfName 6 = .ok (.invokevirtual 85, 3) := by decide +kernel
theorem zd_Dir_pagesOfName_9 : decode zc_Dir_pagesOfName 9 = .ok (.ireturn, 1) := by decide +kernel
theorem zd_Dir_pagesOfNames_0 : decode zc_Dir_pagesOfNames 0 = .ok (.lload_n 1, 1) := by decide +kernel
theorem zd_Dir_pagesOfNames_1 : decode zc_Dir_pagesOfNames 1 = .ok (.lload_n 3, 1) := by decide +kernel
theorem zd_Dir_pagesOfNames_2 : decode zc_Dir_pagesOfNames 2 = .ok (.invokestatic 89, 3) := by decide +kernel
theorem zd_Dir_pagesOfNames_5 : decode zc_Dir_pagesOfNames 5 = .ok (.istore 5, 2) := by decide +kernel
theorem zd_Dir_pagesOfNames_7 : decode zc_Dir_pagesOfNames 7 = .ok (.aload_n 0, 1) := by decide +kernel
theorem zd_Dir_pagesOfNames_8 : decode zc_Dir_pagesOfNames 8 = .ok (.getfield 25, 3) := by decide +kernel
theorem zd_Dir_pagesOfNames_11 : decode zc_Dir_pagesOfNames 11 = .ok (.lload_n 1, 1) := by decide +kernel
theorem zd_Dir_pagesOfNames_12 : decode zc_Dir_pagesOfNames 12 = .ok (.iconst 0, 1) := by decide +kernel
theorem zd_Dir_pagesOfNames_13 : decode zc_Dir_pagesOfNames 13 = .ok (.invokevirtual 85, 3) := by decide +kernel
theorem zd_Dir_pagesOfNames_16 : decode zc_Dir_pagesOfNames 16 = .ok (.aload_n 0, 1) := by decide +kernel
theorem zd_Dir_pagesOfNames_17 : decode zc_Dir_pagesOfNames 17 = .ok (.getfield 25, 3) := by decide +kernel
theorem zd_Dir_pagesOfNames_20 : decode zc_Dir_pagesOfNames 20 = .ok (.lload_n 3, 1) := by decide +kernel
theorem zd_Dir_pagesOfNames_21 : decode zc_Dir_pagesOfNames 21 = .ok (.iload 5, 2) := by decide +kernel
theorem zd_Dir_pagesOfNames_23 : decode zc_Dir_pagesOfNames 23 = .ok (.iconst 1, 1) := by decide +kernel
theorem zd_Dir_pagesOfNames_24 : decode zc_Dir_pagesOfNames 24 = .ok (.iadd, 1) := by decide +kernel
theorem zd_Dir_pagesOfNames_25 : decode zc_Dir_pagesOfNames 25 = .ok (.invokevirtual 85, 3) := by decide +kernel
theorem zd_Dir_pagesOfNames_28 : decode zc_Dir_pagesOfNames 28 = .ok (.iadd, 1) := by decide +kernel
theorem zd_Dir_pagesOfNames_29 : decode zc_Dir_pagesOfNames 29 = .ok (.ireturn, 1) := by decide +kernel
theorem zd_Dir_pagesOfSerial_0 : decode zc_Dir_pagesOfSerial 0 = .ok (.aload_n 0, 1) := by decide +kernel
theorem zd_Dir_pagesOfSerial_1 : decode zc_Dir_pagesOfSerial 1 = .ok (.getfield 29, 3) := by decide +kernel
theorem zd_Dir_pagesOfSerial_4 : decode zc_Dir_pagesOfSerial 4 = .ok (.iload_n 1, 1) := by decide +kernel
theorem zd_Dir_pagesOfSerial_5 : decode zc_Dir_pagesOfSerial 5 = .ok (.invokestatic 74, 3) := by decide +kernel
theorem zd_Dir_pagesOfSerial_8 : decode zc_Dir_pagesOfSerial 8 = .ok (.iconst 0, 1) := by decide +kernel
theorem zd_Dir_pagesOfSerial_9 : decode zc_Dir_pagesOfSerial 9 = .ok (.invokevirtual 85, 3) := by decide +kernel
theorem zd_Dir_pagesOfSerial_12 : decode zc_Dir_pagesOfSerial 12 = .ok (.ireturn, 1) := by decide +kernel

theorem zd_Row_extended_0 : decode zc_Row_extended 0 = .ok (.lload_n 0, 1) := by decide +kernel
theorem zd_Row_extended_1 : decode zc_Row_extended 1 = .ok (.iload_n 3, 1) := by decide +kernel
theorem zd_Row_extended_2 : decode zc_Row_extended 2 = .ok (.iconst 1, 1) := by decide +kernel
theorem zd_Row_extended_3 : decode zc_Row_extended 3 = .ok (.iadd, 1) := by decide +kernel
theorem zd_Row_extended_4 : decode zc_Row_extended 4 = .ok (.i2l, 1) := by decide +kernel
theorem zd_Row_extended_5 : decode zc_Row_extended 5 = .ok (.bipush 63, 2) := by decide +kernel
theorem zd_Row_extended_7 : decode zc_Row_extended 7 = .ok (.bipush 9, 2) := by decide +kernel
theorem zd_Row_extended_9 : decode zc_Row_extended 9 = .ok (.iload_n 2, 1) := by decide +kernel
theorem zd_Row_extended_10 : decode zc_Row_extended 10 = .ok (.iconst 1, 1) := by decide +kernel
theorem zd_Row_extended_11 : decode zc_Row_extended 11 = .ok (.iadd, 1) := by decide +kernel
theorem zd_Row_extended_12 : decode zc_Row_extended 12 = .ok (.imul, 1) := by decide +kernel
theorem zd_Row_extended_13 : decode zc_Row_extended 13 = .ok (.isub, 1) := by decide +kernel
theorem zd_Row_extended_14 : decode zc_Row_extended 14 = .ok (.lshl, 1) := by decide +kernel
theorem zd_Row_extended_15 : decode zc_Row_extended 15 = .ok (.lor, 1) := by decide +kernel
theorem zd_Row_extended_16 : decode zc_Row_extended 16 = .ok (.lreturn, 1) := by decide +kernel
theorem zd_Row_ofSerial_0 : decode zc_Row_ofSerial 0 = .ok (.lconst 0, 1) := by decide +kernel
theorem zd_Row_ofSerial_1 : decode zc_Row_ofSerial 1 = .ok (.iconst 0, 1) := by decide +kernel
theorem zd_Row_ofSerial_2 : decode zc_Row_ofSerial 2 = .ok (.iload_n 0, 1) := by decide +kernel
theorem zd_Row_ofSerial_3 : decode zc_Row_ofSerial 3 = .ok (.sipush 256, 3) := by decide +kernel
theorem zd_Row_ofSerial_6 : decode zc_Row_ofSerial 6 = .ok (.idiv, 1) := by decide +kernel
theorem zd_Row_ofSerial_7 : decode zc_Row_ofSerial 7 = .ok (.invokestatic 11, 3) := by decide +kernel
theorem zd_Row_ofSerial_10 : decode zc_Row_ofSerial 10 = .ok (.iconst 1, 1) := by decide +kernel
theorem zd_Row_ofSerial_11 : decode zc_Row_ofSerial 11 = .ok (.iload_n 0, 1) := by decide +kernel
theorem zd_Row_ofSerial_12 : decode zc_Row_ofSerial 12 = .ok (.sipush 256, 3) := by decide +kernel
theorem zd_Row_ofSerial_15 : decode zc_Row_ofSerial 15 = .ok (.irem, 1) := by decide +kernel
theorem zd_Row_ofSerial_16 : decode zc_Row_ofSerial 16 = .ok (.invokestatic 11, 3) := by decide +kernel
theorem zd_Row_ofSerial_19 : decode zc_Row_ofSerial 19 = .ok (.lreturn, 1) := by decide +kernel
theorem zd_Row_beginning_0 : decode zc_Row_beginning 0 = .ok (.lload_n 0, 1) := by decide +kernel
theorem zd_Row_beginning_1 : decode zc_Row_beginning 1 = .ok (.ldc2_w 15, 3) := by decide +kernel
theorem zd_Row_beginning_4 : decode zc_Row_beginning 4 = .ok (.bipush 63, 2) := by decide +kernel
theorem zd_Row_beginning_6 : decode zc_Row_beginning 6 = .ok (.bipush 9, 2) := by decide +kernel
theorem zd_Row_beginning_8 : decode zc_Row_beginning 8 = .ok (.iload_n 2, 1) := by decide +kernel
theorem zd_Row_beginning_9 : decode zc_Row_beginning 9 = .ok (.imul, 1) := by decide +kernel
theorem zd_Row_beginning_10 : decode zc_Row_beginning 10 = .ok (.isub, 1) := by decide +kernel
theorem zd_Row_beginning_11 : decode zc_Row_beginning 11 = .ok (.lshl, 1) := by decide +kernel
theorem zd_Row_beginning_12 : decode zc_Row_beginning 12 = .ok (.land, 1) := by decide +kernel
theorem zd_Row_beginning_13 : decode zc_Row_beginning 13 = .ok (.lreturn, 1) := by decide +kernel
theorem zd_Row_lengthOf_0 : decode zc_Row_lengthOf 0 = .ok (.iconst 0, 1) := by decide +kernel
theorem zd_Row_lengthOf_1 : decode zc_Row_lengthOf 1 = .ok (.istore_n 2, 1) := by decide +kernel
theorem zd_Row_lengthOf_2 : decode zc_Row_lengthOf 2 = .ok (.iload_n 2, 1) := by decide +kernel
theorem zd_Row_lengthOf_3 : decode zc_Row_lengthOf 3 = .ok (.bipush 7, 2) := by decide +kernel
theorem zd_Row_lengthOf_5 : decode zc_Row_lengthOf 5 = .ok (.if_icmp .ge 17, 3) := by decide +kernel
theorem zd_Row_lengthOf_8 : decode zc_Row_lengthOf 8 = .ok (.lload_n 0, 1) := by decide +kernel
theorem zd_Row_lengthOf_9 : decode zc_Row_lengthOf 9 = .ok (.iload_n 2, 1) := by decide +kernel
theorem zd_Row_lengthOf_10 : decode zc_Row_lengthOf 10 = .ok (.invokestatic 17, 3) := by decide +kernel
theorem zd_Row_lengthOf_13 : decode zc_Row_lengthOf 13 = .ok (.ifCond .eq 9, 3) := by decide +kernel
theorem zd_Row_lengthOf_16 : decode zc_Row_lengthOf 16 = .ok (.iinc 2 1, 3) := by decide +kernel
theorem zd_Row_lengthOf_19 : decode zc_Row_lengthOf 19 = .ok (.goto (-17), 3) := by decide +kernel
theorem zd_Row_lengthOf_22 : decode zc_Row_lengthOf 22 = .ok (.iload_n 2, 1) := by decide +kernel
theorem zd_Row_lengthOf_23 : decode zc_Row_lengthOf 23 = .ok (.ireturn, 1) := by decide +kernel
theorem zd_Row_lengthInCommon_0 : decode zc_Row_lengthInCommon 0 = .ok (.iconst 0, 1) := by decide +kernel
theorem zd_Row_lengthInCommon_1 : decode zc_Row_lengthInCommon 1 = .ok (.istore 4, 2) := by decide +kernel
theorem zd_Row_lengthInCommon_3 : decode zc_Row_lengthInCommon 3 = .ok (.iload 4, 2) := by decide +kernel
theorem zd_Row_lengthInCommon_5 : decode zc_Row_lengthInCommon 5 = .ok (.bipush 7, 2) := by decide +kernel
theorem zd_Row_lengthInCommon_7 : decode zc_Row_lengthInCommon 7 = .ok (.if_icmp .ge 24, 3) := by decide +kernel
theorem zd_Row_lengthInCommon_10 : decode zc_Row_lengthInCommon 10 = .ok (.lload_n 0, 1) := by decide +kernel
theorem zd_Row_lengthInCommon_11 : decode zc_Row_lengthInCommon 11 = .ok (.iload 4, 2) := by decide +kernel
theorem zd_Row_lengthInCommon_13 : decode zc_Row_lengthInCommon 13 = .ok (.invokestatic 17, 3) := by decide +kernel
theorem zd_Row_lengthInCommon_16 : decode zc_Row_lengthInCommon 16 = .ok (.lload_n 2, 1) := by decide +kernel
theorem zd_Row_lengthInCommon_17 : decode zc_Row_lengthInCommon 17 = .ok (.iload 4, 2) := by decide +kernel
theorem zd_Row_lengthInCommon_19 : decode zc_Row_lengthInCommon 19 = .ok (.invokestatic 17, 3) := by decide +kernel
theorem zd_Row_lengthInCommon_22 : decode zc_Row_lengthInCommon 22 = .ok (.if_icmp .ne 9, 3) := by decide +kernel
theorem zd_Row_lengthInCommon_25 : decode zc_Row_lengthInCommon 25 = .ok (.iinc 4 1, 3) := by decide +kernel
theorem zd_Row_lengthInCommon_28 : decode zc_Row_lengthInCommon 28 = .ok (.goto (-25), 3) := by decide +kernel
theorem zd_Row_lengthInCommon_31 : decode zc_Row_lengthInCommon 31 = .ok (.iload 4, 2) := by decide +kernel
theorem zd_Row_lengthInCommon_33 : decode zc_Row_lengthInCommon 33 = .ok (.ireturn, 1) := by decide +kernel
theorem zd_Row_wordOf_0 : decode zc_Row_wordOf 0 = .ok (.lload_n 0, 1) := by decide +kernel
theorem zd_Row_wordOf_1 : decode zc_Row_wordOf 1 = .ok (.invokestatic 21, 3) := by decide +kernel
theorem zd_Row_wordOf_4 : decode zc_Row_wordOf 4 = .ok (.istore_n 2, 1) := by decide +kernel
theorem zd_Row_wordOf_5 : decode zc_Row_wordOf 5 = .ok (.lconst 0, 1) := by decide +kernel
theorem zd_Row_wordOf_6 : decode zc_Row_wordOf 6 = .ok (.lstore_n 3, 1) := by decide +kernel
theorem zd_Row_wordOf_7 : decode zc_Row_wordOf 7 = .ok (.iconst 0, 1) := by decide +kernel
theorem zd_Row_wordOf_8 : decode zc_Row_wordOf 8 = .ok (.istore 5, 2) := by decide +kernel
theorem zd_Row_wordOf_10 : decode zc_Row_wordOf 10 = .ok (.iload 5, 2) := by decide +kernel
theorem zd_Row_wordOf_12 : decode zc_Row_wordOf 12 = .ok (.iload_n 2, 1) := by decide +kernel
theorem zd_Row_wordOf_13 : decode zc_Row_wordOf 13 = .ok (.if_icmp .ge 27, 3) := by decide +kernel
theorem zd_Row_wordOf_16 : decode zc_Row_wordOf 16 = .ok (.lload_n 3, 1) := by decide +kernel
theorem zd_Row_wordOf_17 : decode zc_Row_wordOf 17 = .ok (.lload_n 0, 1) := by decide +kernel
theorem zd_Row_wordOf_18 : decode zc_Row_wordOf 18 = .ok (.iload 5, 2) := by decide +kernel
theorem zd_Row_wordOf_20 : decode zc_Row_wordOf 20 = .ok (.invokestatic 17, 3) := by decide +kernel
theorem zd_Row_wordOf_23 : decode zc_Row_wordOf 23 = .ok (.iconst 1, 1) := by decide +kernel
theorem zd_Row_wordOf_24 : decode zc_Row_wordOf 24 = .ok (.isub, 1) := by decide +kernel
theorem zd_Row_wordOf_25 : decode zc_Row_wordOf 25 = .ok (.i2l, 1) := by decide +kernel
theorem zd_Row_wordOf_26 : decode zc_Row_wordOf 26 = .ok (.bipush 8, 2) := by decide +kernel
theorem zd_Row_wordOf_28 : decode zc_Row_wordOf 28 = .ok (.iload 5, 2) := by decide +kernel
theorem zd_Row_wordOf_30 : decode zc_Row_wordOf 30 = .ok (.imul, 1) := by decide +kernel
theorem zd_Row_wordOf_31 : decode zc_Row_wordOf 31 = .ok (.lshl, 1) := by decide +kernel
theorem zd_Row_wordOf_32 : decode zc_Row_wordOf 32 = .ok (.lor, 1) := by decide +kernel
theorem zd_Row_wordOf_33 : decode zc_Row_wordOf 33 = .ok (.lstore_n 3, 1) := by decide +kernel
theorem zd_Row_wordOf_34 : decode zc_Row_wordOf 34 = .ok (.iinc 5 1, 3) := by decide +kernel
theorem zd_Row_wordOf_37 : decode zc_Row_wordOf 37 = .ok (.goto (-27), 3) := by decide +kernel
theorem zd_Row_wordOf_40 : decode zc_Row_wordOf 40 = .ok (.lload_n 3, 1) := by decide +kernel
theorem zd_Row_wordOf_41 : decode zc_Row_wordOf 41 = .ok (.lreturn, 1) := by decide +kernel
theorem zd_Row_digitAt_0 : decode zc_Row_digitAt 0 = .ok (.lload_n 0, 1) := by decide +kernel
theorem zd_Row_digitAt_1 : decode zc_Row_digitAt 1 = .ok (.bipush 63, 2) := by decide +kernel
theorem zd_Row_digitAt_3 : decode zc_Row_digitAt 3 = .ok (.bipush 9, 2) := by decide +kernel
theorem zd_Row_digitAt_5 : decode zc_Row_digitAt 5 = .ok (.iload_n 2, 1) := by decide +kernel
theorem zd_Row_digitAt_6 : decode zc_Row_digitAt 6 = .ok (.iconst 1, 1) := by decide +kernel
theorem zd_Row_digitAt_7 : decode zc_Row_digitAt 7 = .ok (.iadd, 1) := by decide +kernel
theorem zd_Row_digitAt_8 : decode zc_Row_digitAt 8 = .ok (.imul, 1) := by decide +kernel
theorem zd_Row_digitAt_9 : decode zc_Row_digitAt 9 = .ok (.isub, 1) := by decide +kernel
theorem zd_Row_digitAt_10 : decode zc_Row_digitAt 10 = .ok (.lushr, 1) := by decide +kernel
theorem zd_Row_digitAt_11 : decode zc_Row_digitAt 11 = .ok (.l2i, 1) := by decide +kernel
theorem zd_Row_digitAt_12 : decode zc_Row_digitAt 12 = .ok (.sipush 511, 3) := by decide +kernel
theorem zd_Row_digitAt_15 : decode zc_Row_digitAt 15 = .ok (.iand, 1) := by decide +kernel
theorem zd_Row_digitAt_16 : decode zc_Row_digitAt 16 = .ok (.ireturn, 1) := by decide +kernel

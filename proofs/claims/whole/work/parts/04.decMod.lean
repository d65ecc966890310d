theorem zd_Mod_init_0 : decode zc_Mod_init 0 = .ok (.aload_n 0, 1) := by decide +kernel
theorem zd_Mod_init_1 : decode zc_Mod_init 1 = .ok (.invokespecial 1, 3) := by decide +kernel
theorem zd_Mod_init_4 : decode zc_Mod_init 4 = .ok (.aload_n 0, 1) := by decide +kernel
theorem zd_Mod_init_5 : decode zc_Mod_init 5 = .ok (.bipush 24, 2) := by decide +kernel
theorem zd_Mod_init_7 : decode zc_Mod_init 7 = .ok (.newarray .long, 2) := by decide +kernel
theorem zd_Mod_init_9 : decode zc_Mod_init 9 = .ok (.putfield 7, 3) := by decide +kernel
theorem zd_Mod_init_12 : decode zc_Mod_init 12 = .ok (.aload_n 0, 1) := by decide +kernel
theorem zd_Mod_init_13 : decode zc_Mod_init 13 = .ok (.bipush 24, 2) := by decide +kernel
theorem zd_Mod_init_15 : decode zc_Mod_init 15 = .ok (.newarray .int, 2) := by decide +kernel
theorem zd_Mod_init_17 : decode zc_Mod_init 17 = .ok (.putfield 13, 3) := by decide +kernel
theorem zd_Mod_init_20 : decode zc_Mod_init 20 = .ok (.aload_n 0, 1) := by decide +kernel
theorem zd_Mod_init_21 : decode zc_Mod_init 21 = .ok (.bipush 24, 2) := by decide +kernel
theorem zd_Mod_init_23 : decode zc_Mod_init 23 = .ok (.newarray .int, 2) := by decide +kernel
theorem zd_Mod_init_25 : decode zc_Mod_init 25 = .ok (.putfield 17, 3) := by decide +kernel
theorem zd_Mod_init_28 : decode zc_Mod_init 28 = .ok (.aload_n 0, 1) := by decide +kernel
theorem zd_Mod_init_29 : decode zc_Mod_init 29 = .ok (.bipush 24, 2) := by decide +kernel
theorem zd_Mod_init_31 : decode zc_Mod_init 31 = .ok (.newarray .int, 2) := by decide +kernel
theorem zd_Mod_init_33 : decode zc_Mod_init 33 = .ok (.putfield 20, 3) := by decide +kernel
theorem zd_Mod_init_36 : decode zc_Mod_init 36 = .ok (.aload_n 0, 1) := by decide +kernel
theorem zd_Mod_init_37 : decode zc_Mod_init 37 = .ok (.ldc2_w 23, 3) := by decide +kernel
theorem zd_Mod_init_40 : decode zc_Mod_init 40 = .ok (.putfield 25, 3) := by decide +kernel
theorem zd_Mod_init_43 : decode zc_Mod_init 43 = .ok (.aload_n 0, 1) := by decide +kernel
theorem zd_Mod_init_44 : decode zc_Mod_init 44 = .ok (.iconst 1, 1) := by decide +kernel
theorem zd_Mod_init_45 : decode zc_Mod_init 45 = .ok (.putfield 29, 3) := by decide +kernel
theorem zd_Mod_init_48 : decode zc_Mod_init 48 = .ok (.aload_n 0, 1) := by decide +kernel
theorem zd_Mod_init_49 : decode zc_Mod_init 49 = .ok (.bipush 25, 2) := by decide +kernel
theorem zd_Mod_init_51 : decode zc_Mod_init 51 = .ok (.newarray .long, 2) := by decide +kernel
theorem zd_Mod_init_53 : decode zc_Mod_init 53 = .ok (.putfield 33, 3) := by decide +kernel
theorem zd_Mod_init_56 : decode zc_Mod_init 56 = .ok (.aload_n 0, 1) := by decide +kernel
theorem zd_Mod_init_57 : decode zc_Mod_init 57 = .ok (.bipush 25, 2) := by decide +kernel
theorem zd_Mod_init_59 : decode zc_Mod_init 59 = .ok (.newarray .int, 2) := by decide +kernel
theorem zd_Mod_init_61 : decode zc_Mod_init 61 = .ok (.putfield 36, 3) := by decide +kernel
theorem zd_Mod_init_64 : decode zc_Mod_init 64 = .ok (.aload_n 0, 1) := by decide +kernel
theorem zd_Mod_init_65 : decode zc_Mod_init 65 = .ok (.bipush 64, 2) := by decide +kernel
theorem zd_Mod_init_67 : decode zc_Mod_init 67 = .ok (.newarray .long, 2) := by decide +kernel
theorem zd_Mod_init_69 : decode zc_Mod_init 69 = .ok (.putfield 39, 3) := by decide +kernel
theorem zd_Mod_init_72 : decode zc_Mod_init 72 = .ok (.aload_n 0, 1) := by decide +kernel
theorem zd_Mod_init_73 : decode zc_Mod_init 73 = .ok (.bipush 64, 2) := by decide +kernel
theorem zd_Mod_init_75 : decode zc_Mod_init 75 = .ok (.newarray .int, 2) := by decide +kernel
theorem zd_Mod_init_77 : decode zc_Mod_init 77 = .ok (.putfield 42, 3) := by decide +kernel
theorem zd_Mod_init_80 : decode zc_Mod_init 80 = .ok (.aload_n 0, 1) := by decide +kernel
theorem zd_Mod_init_81 : decode zc_Mod_init 81 = .ok (.iconst (-1), 1) := by decide +kernel
theorem zd_Mod_init_82 : decode zc_Mod_init 82 = .ok (.putfield 45, 3) := by decide +kernel
theorem zd_Mod_init_85 : decode zc_Mod_init 85 = .ok (.aload_n 0, 1) := by decide +kernel
theorem zd_Mod_init_86 : decode zc_Mod_init 86 = .ok (.iconst 0, 1) := by decide +kernel
theorem zd_Mod_init_87 : decode zc_Mod_init 87 = .ok (.putfield 48, 3) := by decide +kernel
theorem zd_Mod_init_90 : decode zc_Mod_init 90 = .ok (.return_, 1) := by decide +kernel
theorem zd_Mod_thrown_0 : decode zc_Mod_thrown 0 = .ok (.aload_n 0, 1) := by decide +kernel
theorem zd_Mod_thrown_1 : decode zc_Mod_thrown 1 = .ok (.getfield 51, 3) := by decide +kernel
theorem zd_Mod_thrown_4 : decode zc_Mod_thrown 4 = .ok (.ireturn, 1) := by decide +kernel
theorem zd_Mod_name_0 : decode zc_Mod_name 0 = .ok (.aload_n 0, 1) := by decide +kernel
theorem zd_Mod_name_1 : decode zc_Mod_name 1 = .ok (.iload_n 3, 1) := by decide +kernel
theorem zd_Mod_name_2 : decode zc_Mod_name 2 = .ok (.iconst 1, 1) := by decide +kernel
theorem zd_Mod_name_3 : decode zc_Mod_name 3 = .ok (.if_icmp .lt 9, 3) := by decide +kernel
theorem zd_Mod_name_6 : decode zc_Mod_name 6 = .ok (.iload_n 3, 1) := by decide +kernel
theorem zd_Mod_name_7 : decode zc_Mod_name 7 = .ok (.bipush 7, 2) := by decide +kernel
theorem zd_Mod_name_9 : decode zc_Mod_name 9 = .ok (.if_icmp .le 7, 3) := by decide +kernel
theorem zd_Mod_name_12 : decode zc_Mod_name 12 = .ok (.iconst 1, 1) := by decide +kernel
theorem zd_Mod_name_13 : decode zc_Mod_name 13 = .ok (.goto 4, 3) := by decide +kernel
theorem zd_Mod_name_16 : decode zc_Mod_name 16 = .ok (.iconst 0, 1) := by decide +kernel
theorem zd_Mod_name_17 : decode zc_Mod_name 17 = .ok (.putfield 51, 3) := by decide +kernel
theorem zd_Mod_name_20 : decode zc_Mod_name 20 = .ok (.iconst 0, 1) := by decide +kernel
theorem zd_Mod_name_21 : decode zc_Mod_name 21 = .ok (.istore 4, 2) := by decide +kernel
theorem zd_Mod_name_23 : decode zc_Mod_name 23 = .ok (.iload 4, 2) := by decide +kernel
theorem zd_Mod_name_25 : decode zc_Mod_name 25 = .ok (.iload_n 3, 1) := by decide +kernel
theorem zd_Mod_name_26 : decode zc_Mod_name 26 = .ok (.if_icmp .ge 54, 3) := by decide +kernel
theorem zd_Mod_name_29 : decode zc_Mod_name 29 = .ok (.aload_n 0, 1) := by decide +kernel
theorem zd_Mod_name_30 : decode zc_Mod_name 30 = .ok (.getfield 51, 3) := by decide +kernel
theorem zd_Mod_name_33 : decode zc_Mod_name 33 = .ok (.ifCond .ne 47, 3) := by decide +kernel
theorem zd_Mod_name_36 : decode zc_Mod_name 36 = .ok (.lload_n 1, 1) := by decide +kernel
theorem zd_Mod_name_37 : decode zc_Mod_name 37 = .ok (.bipush 8, 2) := by decide +kernel
theorem zd_Mod_name_39 : decode zc_Mod_name 39 = .ok (.iload 4, 2) := by decide +kernel
theorem zd_Mod_name_41 : decode zc_Mod_name 41 = .ok (.imul, 1) := by decide +kernel
theorem zd_Mod_name_42 : decode zc_Mod_name 42 = .ok (.lshr, 1) := by decide +kernel
theorem zd_Mod_name_43 : decode zc_Mod_name 43 = .ok (.ldc2_w 54, 3) := by decide +kernel
theorem zd_Mod_name_46 : decode zc_Mod_name 46 = .ok (.land, 1) := by decide +kernel
theorem zd_Mod_name_47 : decode zc_Mod_name 47 = .ok (.lstore 5, 2) := by decide +kernel
theorem zd_Mod_name_49 : decode zc_Mod_name 49 = .ok (.aload_n 0, 1) := by decide +kernel
theorem zd_Mod_name_50 : decode zc_Mod_name 50 = .ok (.lload 5, 2) := by decide +kernel
theorem zd_Mod_name_52 : decode zc_Mod_name 52 = .ok (.lconst 0, 1) := by decide +kernel
theorem zd_Mod_name_53 : decode zc_Mod_name 53 = .ok (.lcmp, 1) := by decide +kernel
theorem zd_Mod_name_54 : decode zc_Mod_name 54 = .ok (.ifCond .eq 12, 3) := by decide +kernel
theorem zd_Mod_name_57 : decode zc_Mod_name 57 = .ok (.lload 5, 2) := by decide +kernel
theorem zd_Mod_name_59 : decode zc_Mod_name 59 = .ok (.ldc2_w 56, 3) := by decide +kernel
theorem zd_Mod_name_62 : decode zc_Mod_name 62 = .ok (.lcmp, 1) := by decide +kernel
theorem zd_Mod_name_63 : decode zc_Mod_name 63 = .ok (.ifCond .ne 7, 3) := by decide +kernel
theorem zd_Mod_name_66 : decode zc_Mod_name 66 = .ok (.iconst 1, 1) := by decide +kernel
theorem zd_Mod_name_67 : decode zc_Mod_name 67 = .ok (.goto 4, 3) := by decide +kernel
theorem zd_Mod_name_70 : decode zc_Mod_name 70 = .ok (.iconst 0, 1) := by decide +kernel
theorem zd_Mod_name_71 : decode zc_Mod_name 71 = .ok (.putfield 51, 3) := by decide +kernel
theorem zd_Mod_name_74 : decode zc_Mod_name 74 = .ok (.iinc 4 1, 3) := by decide +kernel
theorem zd_Mod_name_77 : decode zc_Mod_name 77 = .ok (.goto (-54), 3) := by decide +kernel
theorem zd_Mod_name_80 : decode zc_Mod_name 80 = .ok (.aload_n 0, 1) := by decide +kernel
theorem zd_Mod_name_81 : decode zc_Mod_name 81 = .ok (.getfield 51, 3) := by decide +kernel
theorem zd_Mod_name_84 : decode zc_Mod_name 84 = .ok (.ifCond .ne 17, 3) := by decide +kernel
theorem zd_Mod_name_87 : decode zc_Mod_name 87 = .ok (.aload_n 0, 1) := by decide +kernel
theorem zd_Mod_name_88 : decode zc_Mod_name 88 = .ok (.lload_n 1, 1) := by decide +kernel
theorem zd_Mod_name_89 : decode zc_Mod_name 89 = .ok (.iload_n 3, 1) := by decide +kernel
theorem zd_Mod_name_90 : decode zc_Mod_name 90 = .ok (.invokestatic 58, 3) := by decide +kernel
theorem zd_Mod_name_93 : decode zc_Mod_name 93 = .ok (.putfield 25, 3) := by decide +kernel
theorem zd_Mod_name_96 : decode zc_Mod_name 96 = .ok (.aload_n 0, 1) := by decide +kernel
theorem zd_Mod_name_97 : decode zc_Mod_name 97 = .ok (.iload_n 3, 1) := by decide +kernel
theorem zd_Mod_name_98 : decode zc_Mod_name 98 = .ok (.putfield 29, 3) := by decide +kernel
theorem zd_Mod_name_101 : decode zc_Mod_name 101 = .ok (.return_, 1) := by decide +kernel
theorem zd_Mod_firstOf_0 : decode zc_Mod_firstOf 0 = .ok (.lload_n 0, 1) := by decide +kernel
theorem zd_Mod_firstOf_1 : decode zc_Mod_firstOf 1 = .ok (.lconst 1, 1) := by decide +kernel
theorem zd_Mod_firstOf_2 : decode zc_Mod_firstOf 2 = .ok (.bipush 8, 2) := by decide +kernel
theorem zd_Mod_firstOf_4 : decode zc_Mod_firstOf 4 = .ok (.iload_n 2, 1) := by decide +kernel
theorem zd_Mod_firstOf_5 : decode zc_Mod_firstOf 5 = .ok (.imul, 1) := by decide +kernel
theorem zd_Mod_firstOf_6 : decode zc_Mod_firstOf 6 = .ok (.lshl, 1) := by decide +kernel
theorem zd_Mod_firstOf_7 : decode zc_Mod_firstOf 7 = .ok (.lconst 1, 1) := by decide +kernel
theorem zd_Mod_firstOf_8 : decode zc_Mod_firstOf 8 = .ok (.lsub, 1) := by decide +kernel
theorem zd_Mod_firstOf_9 : decode zc_Mod_firstOf 9 = .ok (.land, 1) := by decide +kernel
theorem zd_Mod_firstOf_10 : decode zc_Mod_firstOf 10 = .ok (.lreturn, 1) := by decide +kernel
theorem zd_Mod_begins_0 : decode zc_Mod_begins 0 = .ok (.iload_n 2, 1) := by decide +kernel
theorem zd_Mod_begins_1 : decode zc_Mod_begins 1 = .ok (.iload 5, 2) := by decide +kernel
theorem zd_Mod_begins_3 : decode zc_Mod_begins 3 = .ok (.if_icmp .gt 17, 3) := by decide +kernel
theorem zd_Mod_begins_6 : decode zc_Mod_begins 6 = .ok (.lload_n 0, 1) := by decide +kernel
theorem zd_Mod_begins_7 : decode zc_Mod_begins 7 = .ok (.lload_n 3, 1) := by decide +kernel
theorem zd_Mod_begins_8 : decode zc_Mod_begins 8 = .ok (.iload_n 2, 1) := by decide +kernel
theorem zd_Mod_begins_9 : decode zc_Mod_begins 9 = .ok (.invokestatic 58, 3) := by decide +kernel
theorem zd_Mod_begins_12 : decode zc_Mod_begins 12 = .ok (.lcmp, 1) := by decide +kernel
theorem zd_Mod_begins_13 : decode zc_Mod_begins 13 = .ok (.ifCond .ne 7, 3) := by decide +kernel
theorem zd_Mod_begins_16 : decode zc_Mod_begins 16 = .ok (.iconst 1, 1) := by decide +kernel
theorem zd_Mod_begins_17 : decode zc_Mod_begins 17 = .ok (.goto 4, 3) := by decide +kernel
theorem zd_Mod_begins_20 : decode zc_Mod_begins 20 = .ok (.iconst 0, 1) := by decide +kernel
theorem zd_Mod_begins_21 : decode zc_Mod_begins 21 = .ok (.ireturn, 1) := by decide +kernel
theorem zd_Mod_common_0 : decode zc_Mod_common 0 = .ok (.iconst 0, 1) := by decide +kernel
theorem zd_Mod_common_1 : decode zc_Mod_common 1 = .ok (.istore 6, 2) := by decide +kernel
theorem zd_Mod_common_3 : decode zc_Mod_common 3 = .ok (.iload 6, 2) := by decide +kernel
theorem zd_Mod_common_5 : decode zc_Mod_common 5 = .ok (.iload_n 2, 1) := by decide +kernel
theorem zd_Mod_common_6 : decode zc_Mod_common 6 = .ok (.if_icmp .ge 42, 3) := by decide +kernel
theorem zd_Mod_common_9 : decode zc_Mod_common 9 = .ok (.iload 6, 2) := by decide +kernel
theorem zd_Mod_common_11 : decode zc_Mod_common 11 = .ok (.iload 5, 2) := by decide +kernel
theorem zd_Mod_common_13 : decode zc_Mod_common 13 = .ok (.if_icmp .ge 35, 3) := by decide +kernel
theorem zd_Mod_common_16 : decode zc_Mod_common 16 = .ok (.lload_n 0, 1) := by decide +kernel
theorem zd_Mod_common_17 : decode zc_Mod_common 17 = .ok (.bipush 8, 2) := by decide +kernel
theorem zd_Mod_common_19 : decode zc_Mod_common 19 = .ok (.iload 6, 2) := by decide +kernel
theorem zd_Mod_common_21 : decode zc_Mod_common 21 = .ok (.imul, 1) := by decide +kernel
theorem zd_Mod_common_22 : decode zc_Mod_common 22 = .ok (.lshr, 1) := by decide +kernel
theorem zd_Mod_common_23 : decode zc_Mod_common 23 = .ok (.ldc2_w 54, 3) := by decide +kernel
theorem zd_Mod_common_26 : decode zc_Mod_common 26 = .ok (.land, 1) := by decide +kernel
theorem zd_Mod_common_27 : decode zc_Mod_common 27 = .ok (.lload_n 3, 1) := by decide +kernel
theorem zd_Mod_common_28 : decode zc_Mod_common 28 = .ok (.bipush 8, 2) := by decide +kernel
theorem zd_Mod_common_30 : decode zc_Mod_common 30 = .ok (.iload 6, 2) := by decide +kernel
theorem zd_Mod_common_32 : decode zc_Mod_common 32 = .ok (.imul, 1) := by decide +kernel
theorem zd_Mod_common_33 : decode zc_Mod_common 33 = .ok (.lshr, 1) := by decide +kernel
theorem zd_Mod_common_34 : decode zc_Mod_common 34 = .ok (.ldc2_w 54, 3) := by decide +kernel
theorem zd_Mod_common_37 : decode zc_Mod_common 37 = .ok (.land, 1) := by decide +kernel
theorem zd_Mod_common_38 : decode zc_Mod_common 38 = .ok (.lcmp, 1) := by decide +kernel
theorem zd_Mod_common_39 : decode zc_Mod_common 39 = .ok (.ifCond .ne 9, 3) := by decide +kernel
theorem zd_Mod_common_42 : decode zc_Mod_common 42 = .ok (.iinc 6 1, 3) := by decide +kernel
theorem zd_Mod_common_45 : decode zc_Mod_common 45 = .ok (.goto (-42), 3) := by decide +kernel
theorem zd_Mod_common_48 : decode zc_Mod_common 48 = .ok (.iload 6, 2) := by decide +kernel
theorem zd_Mod_common_50 : decode zc_Mod_common 50 = .ok (.ireturn, 1) := by decide +kernel
theorem zd_Mod_isBefore_0 : decode zc_Mod_isBefore 0 = .ok (.lload_n 0, 1) := by decide +kernel
theorem zd_Mod_isBefore_1 : decode zc_Mod_isBefore 1 = .ok (.iload_n 2, 1) := by decide +kernel
theorem zd_Mod_isBefore_2 : decode zc_Mod_isBefore 2 = .ok (.lload_n 3, 1) := by decide +kernel
theorem zd_Mod_isBefore_3 : decode zc_Mod_isBefore 3 = .ok (.iload 5, 2) := by decide +kernel
theorem zd_Mod_isBefore_5 : decode zc_Mod_isBefore 5 = .ok (.invokestatic 62, 3) := by decide +kernel
theorem zd_Mod_isBefore_8 : decode zc_Mod_isBefore 8 = .ok (.istore 6, 2) := by decide +kernel
theorem zd_Mod_isBefore_10 : decode zc_Mod_isBefore 10 = .ok (.iload 6, 2) := by decide +kernel
theorem zd_Mod_isBefore_12 : decode zc_Mod_isBefore 12 = .ok (.iload_n 2, 1) := by decide +kernel
theorem zd_Mod_isBefore_13 : decode zc_Mod_isBefore 13 = .ok (.if_icmp .ne 17, 3) := by decide +kernel
theorem zd_Mod_isBefore_16 : decode zc_Mod_isBefore 16 = .ok (.iload_n 2, 1) := by decide +kernel
theorem zd_Mod_isBefore_17 : decode zc_Mod_isBefore 17 = .ok (.iload 5, 2) := by decide +kernel
theorem zd_Mod_isBefore_19 : decode zc_Mod_isBefore 19 = .ok (.if_icmp .ge 7, 3) := by decide +kernel
theorem zd_Mod_isBefore_22 : decode zc_Mod_isBefore 22 = .ok (.iconst 1, 1) := by decide +kernel
theorem zd_Mod_isBefore_23 : decode zc_Mod_isBefore 23 = .ok (.goto 45, 3) := by decide +kernel
theorem zd_Mod_isBefore_26 : decode zc_Mod_isBefore 26 = .ok (.iconst 0, 1) := by decide +kernel
theorem zd_Mod_isBefore_27 : decode zc_Mod_isBefore 27 = .ok (.goto 41, 3) := by decide +kernel
theorem zd_Mod_isBefore_30 : decode zc_Mod_isBefore 30 = .ok (.iload 6, 2) := by decide +kernel
theorem zd_Mod_isBefore_32 : decode zc_Mod_isBefore 32 = .ok (.iload 5, 2) := by decide +kernel
theorem zd_Mod_isBefore_34 : decode zc_Mod_isBefore 34 = .ok (.if_icmp .ge 33, 3) := by decide +kernel
theorem zd_Mod_isBefore_37 : decode zc_Mod_isBefore 37 = .ok (.lload_n 0, 1) := by decide +kernel
theorem zd_Mod_isBefore_38 : decode zc_Mod_isBefore 38 = .ok (.bipush 8, 2) := by decide +kernel
theorem zd_Mod_isBefore_40 : decode zc_Mod_isBefore 40 = .ok (.iload 6, 2) := by decide +kernel
theorem zd_Mod_isBefore_42 : decode zc_Mod_isBefore 42 = .ok (.imul, 1) := by decide +kernel
theorem zd_Mod_isBefore_43 : decode zc_Mod_isBefore 43 = .ok (.lshr, 1) := by decide +kernel
theorem zd_Mod_isBefore_44 : decode zc_Mod_isBefore 44 = .ok (.ldc2_w 54, 3) := by decide +kernel
theorem zd_Mod_isBefore_47 : decode zc_Mod_isBefore 47 = .ok (.land, 1) := by decide +kernel
theorem zd_Mod_isBefore_48 : decode zc_Mod_isBefore 48 = .ok (.lload_n 3, 1) := by decide +kernel
theorem zd_Mod_isBefore_49 : decode zc_Mod_isBefore 49 = .ok (.bipush 8, 2) := by decide +kernel
theorem zd_Mod_isBefore_51 : decode zc_Mod_isBefore 51 = .ok (.iload 6, 2) := by decide +kernel
theorem zd_Mod_isBefore_53 : decode zc_Mod_isBefore 53 = .ok (.imul, 1) := by decide +kernel
theorem zd_Mod_isBefore_54 : decode zc_Mod_isBefore 54 = .ok (.lshr, 1) := by decide +kernel
theorem zd_Mod_isBefore_55 : decode zc_Mod_isBefore 55 = .ok (.ldc2_w 54, 3) := by decide +kernel
theorem zd_Mod_isBefore_58 : decode zc_Mod_isBefore 58 = .ok (.land, 1) := by decide +kernel
theorem zd_Mod_isBefore_59 : decode zc_Mod_isBefore 59 = .ok (.lcmp, 1) := by decide +kernel
theorem zd_Mod_isBefore_60 : decode zc_Mod_isBefore 60 = .ok (.ifCond .ge 7, 3) := by decide +kernel
theorem zd_Mod_isBefore_63 : decode zc_Mod_isBefore 63 = .ok (.iconst 1, 1) := by decide +kernel
theorem zd_Mod_isBefore_64 : decode zc_Mod_isBefore 64 = .ok (.goto 4, 3) := by decide +kernel
theorem zd_Mod_isBefore_67 : decode zc_Mod_isBefore 67 = .ok (.iconst 0, 1) := by decide +kernel
theorem zd_Mod_isBefore_68 : decode zc_Mod_isBefore 68 = .ok (.ireturn, 1) := by decide +kernel
theorem zd_Mod_row_0 : decode zc_Mod_row 0 = .ok (.aload_n 0, 1) := by decide +kernel
theorem zd_Mod_row_1 : decode zc_Mod_row 1 = .ok (.getfield 33, 3) := by decide +kernel
theorem zd_Mod_row_4 : decode zc_Mod_row 4 = .ok (.aload_n 0, 1) := by decide +kernel
theorem zd_Mod_row_5 : decode zc_Mod_row 5 = .ok (.getfield 66, 3) := by decide +kernel
theorem zd_Mod_row_8 : decode zc_Mod_row 8 = .ok (.lload_n 1, 1) := by decide +kernel
theorem zd_Mod_row_9 : decode zc_Mod_row 9 = .ok (.lastore, 1) := by decide +kernel
theorem zd_Mod_row_10 : decode zc_Mod_row 10 = .ok (.aload_n 0, 1) := by decide +kernel
theorem zd_Mod_row_11 : decode zc_Mod_row 11 = .ok (.getfield 36, 3) := by decide +kernel
theorem zd_Mod_row_14 : decode zc_Mod_row 14 = .ok (.aload_n 0, 1) := by decide +kernel
theorem zd_Mod_row_15 : decode zc_Mod_row 15 = .ok (.getfield 66, 3) := by decide +kernel
theorem zd_Mod_row_18 : decode zc_Mod_row 18 = .ok (.iload_n 3, 1) := by decide +kernel
theorem zd_Mod_row_19 : decode zc_Mod_row 19 = .ok (.iastore, 1) := by decide +kernel
theorem zd_Mod_row_20 : decode zc_Mod_row 20 = .ok (.aload_n 0, 1) := by decide +kernel
theorem zd_Mod_row_21 : decode zc_Mod_row 21 = .ok (.dup, 1) := by decide +kernel
theorem zd_Mod_row_22 : decode zc_Mod_row 22 = .ok (.getfield 66, 3) := by decide +kernel
theorem zd_Mod_row_25 : decode zc_Mod_row 25 = .ok (.iconst 1, 1) := by decide +kernel
theorem zd_Mod_row_26 : decode zc_Mod_row 26 = .ok (.iadd, 1) := by decide +kernel
theorem zd_Mod_row_27 : decode zc_Mod_row 27 = .ok (.putfield 66, 3) := by decide +kernel
theorem zd_Mod_row_30 : decode zc_Mod_row 30 = .ok (.return_, 1) := by decide +kernel
theorem zd_Mod_lay_0 : decode zc_Mod_lay 0 = .ok (.iconst 0, 1) := by decide +kernel
theorem zd_Mod_lay_1 : decode zc_Mod_lay 1 = .ok (.istore 4, 2) := by decide +kernel
theorem zd_Mod_lay_3 : decode zc_Mod_lay 3 = .ok (.iload 4, 2) := by decide +kernel
theorem zd_Mod_lay_5 : decode zc_Mod_lay 5 = .ok (.aload_n 0, 1) := by decide +kernel
theorem zd_Mod_lay_6 : decode zc_Mod_lay 6 = .ok (.getfield 69, 3) := by decide +kernel
theorem zd_Mod_lay_9 : decode zc_Mod_lay 9 = .ok (.if_icmp .ge 33, 3) := by decide +kernel
theorem zd_Mod_lay_12 : decode zc_Mod_lay 12 = .ok (.aload_n 0, 1) := by decide +kernel
theorem zd_Mod_lay_13 : decode zc_Mod_lay 13 = .ok (.getfield 39, 3) := by decide +kernel
theorem zd_Mod_lay_16 : decode zc_Mod_lay 16 = .ok (.iload 4, 2) := by decide +kernel
theorem zd_Mod_lay_18 : decode zc_Mod_lay 18 = .ok (.laload, 1) := by decide +kernel
theorem zd_Mod_lay_19 : decode zc_Mod_lay 19 = .ok (.lload_n 1, 1) := by decide +kernel
theorem zd_Mod_lay_20 : decode zc_Mod_lay 20 = .ok (.lcmp, 1) := by decide +kernel
theorem zd_Mod_lay_21 : decode zc_Mod_lay 21 = .ok (.ifCond .ne 15, 3) := by decide +kernel
theorem zd_Mod_lay_24 : decode zc_Mod_lay 24 = .ok (.aload_n 0, 1) := by decide +kernel
theorem zd_Mod_lay_25 : decode zc_Mod_lay 25 = .ok (.getfield 42, 3) := by decide +kernel
theorem zd_Mod_lay_28 : decode zc_Mod_lay 28 = .ok (.iload 4, 2) := by decide +kernel
theorem zd_Mod_lay_30 : decode zc_Mod_lay 30 = .ok (.iaload, 1) := by decide +kernel
theorem zd_Mod_lay_31 : decode zc_Mod_lay 31 = .ok (.iload_n 3, 1) := by decide +kernel
theorem zd_Mod_lay_32 : decode zc_Mod_lay 32 = .ok (.if_icmp .ne 4, 3) := by decide +kernel
theorem zd_Mod_lay_35 : decode zc_Mod_lay 35 = .ok (.return_, 1) := by decide +kernel
theorem zd_Mod_lay_36 : decode zc_Mod_lay 36 = .ok (.iinc 4 1, 3) := by decide +kernel
theorem zd_Mod_lay_39 : decode zc_Mod_lay 39 = .ok (.goto (-36), 3) := by decide +kernel
theorem zd_Mod_lay_42 : decode zc_Mod_lay 42 = .ok (.aload_n 0, 1) := by decide +kernel
theorem zd_Mod_lay_43 : decode zc_Mod_lay 43 = .ok (.getfield 39, 3) := by decide +kernel
theorem zd_Mod_lay_46 : decode zc_Mod_lay 46 = .ok (.aload_n 0, 1) := by decide +kernel
theorem zd_Mod_lay_47 : decode zc_Mod_lay 47 = .ok (.getfield 69, 3) := by decide +kernel
theorem zd_Mod_lay_50 : decode zc_Mod_lay 50 = .ok (.lload_n 1, 1) := by decide +kernel
theorem zd_Mod_lay_51 : decode zc_Mod_lay 51 = .ok (.lastore, 1) := by decide +kernel
theorem zd_Mod_lay_52 : decode zc_Mod_lay 52 = .ok (.aload_n 0, 1) := by decide +kernel
theorem zd_Mod_lay_53 : decode zc_Mod_lay 53 = .ok (.getfield 42, 3) := by decide +kernel
theorem zd_Mod_lay_56 : decode zc_Mod_lay 56 = .ok (.aload_n 0, 1) := by decide +kernel
theorem zd_Mod_lay_57 : decode zc_Mod_lay 57 = .ok (.getfield 69, 3) := by decide +kernel
theorem zd_Mod_lay_60 : decode zc_Mod_lay 60 = .ok (.iload_n 3, 1) := by decide +kernel
theorem zd_Mod_lay_61 : decode zc_Mod_lay 61 = .ok (.iastore, 1) := by decide +kernel
theorem zd_Mod_lay_62 : decode zc_Mod_lay 62 = .ok (.aload_n 0, 1) := by decide +kernel
theorem zd_Mod_lay_63 : decode zc_Mod_lay 63 = .ok (.dup, 1) := by decide +kernel
theorem zd_Mod_lay_64 : decode zc_Mod_lay 64 = .ok (.getfield 69, 3) := by decide +kernel
theorem zd_Mod_lay_67 : decode zc_Mod_lay 67 = .ok (.iconst 1, 1) := by decide +kernel
theorem zd_Mod_lay_68 : decode zc_Mod_lay 68 = .ok (.iadd, 1) := by decide +kernel
theorem zd_Mod_lay_69 : decode zc_Mod_lay 69 = .ok (.putfield 69, 3) := by decide +kernel
theorem zd_Mod_lay_72 : decode zc_Mod_lay 72 = .ok (.return_, 1) := by decide +kernel
theorem zd_Mod_layPlaces_0 : decode zc_Mod_layPlaces 0 = .ok (.aload_n 0, 1) := by decide +kernel
theorem zd_Mod_layPlaces_1 : decode zc_Mod_layPlaces 1 = .ok (.iconst 0, 1) := by decide +kernel
theorem zd_Mod_layPlaces_2 : decode zc_Mod_layPlaces 2 = .ok (.putfield 69, 3) := by decide +kernel
theorem zd_Mod_layPlaces_5 : decode zc_Mod_layPlaces 5 = .ok (.aload_n 0, 1) := by decide +kernel
theorem zd_Mod_layPlaces_6 : decode zc_Mod_layPlaces 6 = .ok (.lconst 0, 1) := by decide +kernel
theorem zd_Mod_layPlaces_7 : decode zc_Mod_layPlaces 7 = .ok (.iconst 0, 1) := by decide +kernel
theorem zd_Mod_layPlaces_8 : decode zc_Mod_layPlaces 8 = .ok (.invokevirtual 72, 3) := by decide +kernel
theorem zd_Mod_layPlaces_11 : decode zc_Mod_layPlaces 11 = .ok (.iconst 0, 1) := by decide +kernel
theorem zd_Mod_layPlaces_12 : decode zc_Mod_layPlaces 12 = .ok (.istore_n 1, 1) := by decide +kernel
theorem zd_Mod_layPlaces_13 : decode zc_Mod_layPlaces 13 = .ok (.iload_n 1, 1) := by decide +kernel
theorem zd_Mod_layPlaces_14 : decode zc_Mod_layPlaces 14 = .ok (.aload_n 0, 1) := by decide +kernel
theorem zd_Mod_layPlaces_15 : decode zc_Mod_layPlaces 15 = .ok (.getfield 66, 3) := by decide +kernel
theorem zd_Mod_layPlaces_18 : decode zc_Mod_layPlaces 18 = .ok (.if_icmp .ge 81, 3) := by decide +kernel
theorem zd_Mod_layPlaces_21 : decode zc_Mod_layPlaces 21 = .ok (.aload_n 0, 1) := by decide +kernel
theorem zd_Mod_layPlaces_22 : decode zc_Mod_layPlaces 22 = .ok (.aload_n 0, 1) := by decide +kernel
theorem zd_Mod_layPlaces_23 : decode zc_Mod_layPlaces 23 = .ok (.getfield 33, 3) := by decide +kernel
theorem zd_Mod_layPlaces_26 : decode zc_Mod_layPlaces 26 = .ok (.iload_n 1, 1) := by decide +kernel
theorem zd_Mod_layPlaces_27 : decode zc_Mod_layPlaces 27 = .ok (.laload, 1) := by decide +kernel
theorem zd_Mod_layPlaces_28 : decode zc_Mod_layPlaces 28 = .ok (.aload_n 0, 1) := by decide +kernel
theorem zd_Mod_layPlaces_29 : decode zc_Mod_layPlaces 29 = .ok (.getfield 36, 3) := by decide +kernel
theorem zd_Mod_layPlaces_32 : decode zc_Mod_layPlaces 32 = .ok (.iload_n 1, 1) := by decide +kernel
theorem zd_Mod_layPlaces_33 : decode zc_Mod_layPlaces 33 = .ok (.iaload, 1) := by decide +kernel
theorem zd_Mod_layPlaces_34 : decode zc_Mod_layPlaces 34 = .ok (.invokevirtual 72, 3) := by decide +kernel
theorem zd_Mod_layPlaces_37 : decode zc_Mod_layPlaces 37 = .ok (.iconst 0, 1) := by decide +kernel
theorem zd_Mod_layPlaces_38 : decode zc_Mod_layPlaces 38 = .ok (.istore_n 2, 1) := by decide +kernel
theorem zd_Mod_layPlaces_39 : decode zc_Mod_layPlaces 39 = .ok (.iload_n 2, 1) := by decide +kernel
theorem zd_Mod_layPlaces_40 : decode zc_Mod_layPlaces 40 = .ok (.iload_n 1, 1) := by decide +kernel
theorem zd_Mod_layPlaces_41 : decode zc_Mod_layPlaces 41 = .ok (.if_icmp .ge 52, 3) := by decide +kernel
theorem zd_Mod_layPlaces_44 : decode zc_Mod_layPlaces 44 = .ok (.aload_n 0, 1) := by decide +kernel
theorem zd_Mod_layPlaces_45 : decode zc_Mod_layPlaces 45 = .ok (.getfield 33, 3) := by decide +kernel
theorem zd_Mod_layPlaces_48 : decode zc_Mod_layPlaces 48 = .ok (.iload_n 1, 1) := by decide +kernel
theorem zd_Mod_layPlaces_49 : decode zc_Mod_layPlaces 49 = .ok (.laload, 1) := by decide +kernel
theorem zd_Mod_layPlaces_50 : decode zc_Mod_layPlaces 50 = .ok (.aload_n 0, 1) := by decide +kernel
theorem zd_Mod_layPlaces_51 : decode zc_Mod_layPlaces 51 = .ok (.getfield 36, 3) := by decide +kernel
theorem zd_Mod_layPlaces_54 : decode zc_Mod_layPlaces 54 = .ok (.iload_n 1, 1) := by decide +kernel
theorem zd_Mod_layPlaces_55 : decode zc_Mod_layPlaces 55 = .ok (.iaload, 1) := by decide +kernel
theorem zd_Mod_layPlaces_56 : decode zc_Mod_layPlaces 56 = .ok (.aload_n 0, 1) := by decide +kernel
theorem zd_Mod_layPlaces_57 : decode zc_Mod_layPlaces 57 = .ok (.getfield 33, 3) := by decide +kernel
theorem zd_Mod_layPlaces_60 : decode zc_Mod_layPlaces 60 = .ok (.iload_n 2, 1) := by decide +kernel
theorem zd_Mod_layPlaces_61 : decode zc_Mod_layPlaces 61 = .ok (.laload, 1) := by decide +kernel
theorem zd_Mod_layPlaces_62 : decode zc_Mod_layPlaces 62 = .ok (.aload_n 0, 1) := by decide +kernel
theorem zd_Mod_layPlaces_63 : decode zc_Mod_layPlaces 63 = .ok (.getfield 36, 3) := by decide +kernel
theorem zd_Mod_layPlaces_66 : decode zc_Mod_layPlaces 66 = .ok (.iload_n 2, 1) := by decide +kernel
theorem zd_Mod_layPlaces_67 : decode zc_Mod_layPlaces 67 = .ok (.iaload, 1) := by decide +kernel
theorem zd_Mod_layPlaces_68 : decode zc_Mod_layPlaces 68 = .ok (.invokestatic 62, 3) := by decide +kernel
theorem zd_Mod_layPlaces_71 : decode zc_Mod_layPlaces 71 = .ok (.istore_n 3, 1) := by decide +kernel
theorem zd_Mod_layPlaces_72 : decode zc_Mod_layPlaces 72 = .ok (.aload_n 0, 1) := by decide +kernel
theorem zd_Mod_layPlaces_73 : decode zc_Mod_layPlaces 73 = .ok (.aload_n 0, 1) := by decide +kernel
theorem zd_Mod_layPlaces_74 : decode zc_Mod_layPlaces 74 = .ok (.getfield 33, 3) := by decide +kernel
theorem zd_Mod_layPlaces_77 : decode zc_Mod_layPlaces 77 = .ok (.iload_n 1, 1) := by decide +kernel
theorem zd_Mod_layPlaces_78 : decode zc_Mod_layPlaces 78 = .ok (.laload, 1) := by decide +kernel
theorem zd_Mod_layPlaces_79 : decode zc_Mod_layPlaces 79 = .ok (.iload_n 3, 1) := by decide +kernel
theorem zd_Mod_layPlaces_80 : decode zc_Mod_layPlaces 80 = .ok (.invokestatic 58, 3) := by decide +kernel
theorem zd_Mod_layPlaces_83 : decode zc_Mod_layPlaces 83 = .ok (.iload_n 3, 1) := by decide +kernel
theorem zd_Mod_layPlaces_84 : decode zc_Mod_layPlaces 84 = .ok (.invokevirtual 72, 3) := by decide +kernel
theorem zd_Mod_layPlaces_87 : decode zc_Mod_layPlaces 87 = .ok (.iinc 2 1, 3) := by decide +kernel
theorem zd_Mod_layPlaces_90 : decode zc_Mod_layPlaces 90 = .ok (.goto (-51), 3) := by decide +kernel
theorem zd_Mod_layPlaces_93 : decode zc_Mod_layPlaces 93 = .ok (.iinc 1 1, 3) := by decide +kernel
theorem zd_Mod_layPlaces_96 : decode zc_Mod_layPlaces 96 = .ok (.goto (-83), 3) := by decide +kernel
theorem zd_Mod_layPlaces_99 : decode zc_Mod_layPlaces 99 = .ok (.return_, 1) := by decide +kernel
theorem zd_Mod_beginnings_0 : decode zc_Mod_beginnings 0 = .ok (.iconst 0, 1) := by decide +kernel
theorem zd_Mod_beginnings_1 : decode zc_Mod_beginnings 1 = .ok (.istore 7, 2) := by decide +kernel
theorem zd_Mod_beginnings_3 : decode zc_Mod_beginnings 3 = .ok (.iconst 0, 1) := by decide +kernel
theorem zd_Mod_beginnings_4 : decode zc_Mod_beginnings 4 = .ok (.istore 8, 2) := by decide +kernel
theorem zd_Mod_beginnings_6 : decode zc_Mod_beginnings 6 = .ok (.iload 8, 2) := by decide +kernel
theorem zd_Mod_beginnings_8 : decode zc_Mod_beginnings 8 = .ok (.aload_n 0, 1) := by decide +kernel
theorem zd_Mod_beginnings_9 : decode zc_Mod_beginnings 9 = .ok (.getfield 69, 3) := by decide +kernel
theorem zd_Mod_beginnings_12 : decode zc_Mod_beginnings 12 = .ok (.if_icmp .ge 78, 3) := by decide +kernel
theorem zd_Mod_beginnings_15 : decode zc_Mod_beginnings 15 = .ok (.aload_n 0, 1) := by decide +kernel
theorem zd_Mod_beginnings_16 : decode zc_Mod_beginnings 16 = .ok (.getfield 39, 3) := by decide +kernel
theorem zd_Mod_beginnings_19 : decode zc_Mod_beginnings 19 = .ok (.iload 8, 2) := by decide +kernel
theorem zd_Mod_beginnings_21 : decode zc_Mod_beginnings 21 = .ok (.laload, 1) := by decide +kernel
theorem zd_Mod_beginnings_22 : decode zc_Mod_beginnings 22 = .ok (.aload_n 0, 1) := by decide +kernel
theorem zd_Mod_beginnings_23 : decode zc_Mod_beginnings 23 = .ok (.getfield 42, 3) := by decide +kernel
theorem zd_Mod_beginnings_26 : decode zc_Mod_beginnings 26 = .ok (.iload 8, 2) := by decide +kernel
theorem zd_Mod_beginnings_28 : decode zc_Mod_beginnings 28 = .ok (.iaload, 1) := by decide +kernel
theorem zd_Mod_beginnings_29 : decode zc_Mod_beginnings 29 = .ok (.lload_n 1, 1) := by decide +kernel
theorem zd_Mod_beginnings_30 : decode zc_Mod_beginnings 30 = .ok (.iload_n 3, 1) := by decide +kernel
theorem zd_Mod_beginnings_31 : decode zc_Mod_beginnings 31 = .ok (.invokestatic 76, 3) := by decide +kernel
theorem zd_Mod_beginnings_34 : decode zc_Mod_beginnings 34 = .ok (.ifCond .ne 27, 3) := by decide +kernel
theorem zd_Mod_beginnings_37 : decode zc_Mod_beginnings 37 = .ok (.aload_n 0, 1) := by decide +kernel
theorem zd_Mod_beginnings_38 : decode zc_Mod_beginnings 38 = .ok (.getfield 39, 3) := by decide +kernel
theorem zd_Mod_beginnings_41 : decode zc_Mod_beginnings 41 = .ok (.iload 8, 2) := by decide +kernel
theorem zd_Mod_beginnings_43 : decode zc_Mod_beginnings 43 = .ok (.laload, 1) := by decide +kernel
theorem zd_Mod_beginnings_44 : decode zc_Mod_beginnings 44 = .ok (.aload_n 0, 1) := by decide +kernel
theorem zd_Mod_beginnings_45 : decode zc_Mod_beginnings 45 = .ok (.getfield 42, 3) := by decide +kernel
theorem zd_Mod_beginnings_48 : decode zc_Mod_beginnings 48 = .ok (.iload 8, 2) := by decide +kernel
theorem zd_Mod_beginnings_50 : decode zc_Mod_beginnings 50 = .ok (.iaload, 1) := by decide +kernel
theorem zd_Mod_beginnings_51 : decode zc_Mod_beginnings 51 = .ok (.lload 4, 2) := by decide +kernel
theorem zd_Mod_beginnings_53 : decode zc_Mod_beginnings 53 = .ok (.iload 6, 2) := by decide +kernel
theorem zd_Mod_beginnings_55 : decode zc_Mod_beginnings 55 = .ok (.invokestatic 76, 3) := by decide +kernel
theorem zd_Mod_beginnings_58 : decode zc_Mod_beginnings 58 = .ok (.ifCond .eq 7, 3) := by decide +kernel
theorem zd_Mod_beginnings_61 : decode zc_Mod_beginnings 61 = .ok (.iconst 1, 1) := by decide +kernel
theorem zd_Mod_beginnings_62 : decode zc_Mod_beginnings 62 = .ok (.goto 4, 3) := by decide +kernel
theorem zd_Mod_beginnings_65 : decode zc_Mod_beginnings 65 = .ok (.iconst 0, 1) := by decide +kernel
theorem zd_Mod_beginnings_66 : decode zc_Mod_beginnings 66 = .ok (.istore 9, 2) := by decide +kernel
theorem zd_Mod_beginnings_68 : decode zc_Mod_beginnings 68 = .ok (.iload 9, 2) := by decide +kernel
theorem zd_Mod_beginnings_70 : decode zc_Mod_beginnings 70 = .ok (.ifCond .eq 10, 3) := by decide +kernel
theorem zd_Mod_beginnings_73 : decode zc_Mod_beginnings 73 = .ok (.iload 7, 2) := by decide +kernel
theorem zd_Mod_beginnings_75 : decode zc_Mod_beginnings 75 = .ok (.iconst 1, 1) := by decide +kernel
theorem zd_Mod_beginnings_76 : decode zc_Mod_beginnings 76 = .ok (.iadd, 1) := by decide +kernel
theorem zd_Mod_beginnings_77 : decode zc_Mod_beginnings 77 = .ok (.goto 5, 3) := by decide +kernel
theorem zd_Mod_beginnings_80 : decode zc_Mod_beginnings 80 = .ok (.iload 7, 2) := by decide +kernel
theorem zd_Mod_beginnings_82 : decode zc_Mod_beginnings 82 = .ok (.istore 7, 2) := by decide +kernel
theorem zd_Mod_beginnings_84 : decode zc_Mod_beginnings 84 = .ok (.iinc 8 1, 3) := by decide +kernel
theorem zd_Mod_beginnings_87 : decode zc_Mod_beginnings 87 = .ok (.goto (-81), 3) := by decide +kernel
theorem zd_Mod_beginnings_90 : decode zc_Mod_beginnings 90 = .ok (.iload 7, 2) := by decide +kernel
theorem zd_Mod_beginnings_92 : decode zc_Mod_beginnings 92 = .ok (.ireturn, 1) := by decide +kernel
theorem zd_Mod_rowOf_0 : decode zc_Mod_rowOf 0 = .ok (.iload_n 0, 1) := by decide +kernel
theorem zd_Mod_rowOf_1 : decode zc_Mod_rowOf 1 = .ok (.sipush 256, 3) := by decide +kernel
theorem zd_Mod_rowOf_4 : decode zc_Mod_rowOf 4 = .ok (.idiv, 1) := by decide +kernel
theorem zd_Mod_rowOf_5 : decode zc_Mod_rowOf 5 = .ok (.i2l, 1) := by decide +kernel
theorem zd_Mod_rowOf_6 : decode zc_Mod_rowOf 6 = .ok (.iload_n 0, 1) := by decide +kernel
theorem zd_Mod_rowOf_7 : decode zc_Mod_rowOf 7 = .ok (.sipush 256, 3) := by decide +kernel
theorem zd_Mod_rowOf_10 : decode zc_Mod_rowOf 10 = .ok (.irem, 1) := by decide +kernel
theorem zd_Mod_rowOf_11 : decode zc_Mod_rowOf 11 = .ok (.i2l, 1) := by decide +kernel
theorem zd_Mod_rowOf_12 : decode zc_Mod_rowOf 12 = .ok (.bipush 8, 2) := by decide +kernel
theorem zd_Mod_rowOf_14 : decode zc_Mod_rowOf 14 = .ok (.lshl, 1) := by decide +kernel
theorem zd_Mod_rowOf_15 : decode zc_Mod_rowOf 15 = .ok (.lor, 1) := by decide +kernel
theorem zd_Mod_rowOf_16 : decode zc_Mod_rowOf 16 = .ok (.lreturn, 1) := by decide +kernel
theorem zd_Mod_layNames_0 : decode zc_Mod_layNames 0 = .ok (.aload_n 0, 1) := by decide +kernel
theorem zd_Mod_layNames_1 : decode zc_Mod_layNames 1 = .ok (.iconst 0, 1) := by decide +kernel
theorem zd_Mod_layNames_2 : decode zc_Mod_layNames 2 = .ok (.putfield 66, 3) := by decide +kernel
theorem zd_Mod_layNames_5 : decode zc_Mod_layNames 5 = .ok (.iconst 0, 1) := by decide +kernel
theorem zd_Mod_layNames_6 : decode zc_Mod_layNames 6 = .ok (.istore_n 2, 1) := by decide +kernel
theorem zd_Mod_layNames_7 : decode zc_Mod_layNames 7 = .ok (.iload_n 2, 1) := by decide +kernel
theorem zd_Mod_layNames_8 : decode zc_Mod_layNames 8 = .ok (.aload_n 0, 1) := by decide +kernel
theorem zd_Mod_layNames_9 : decode zc_Mod_layNames 9 = .ok (.getfield 48, 3) := by decide +kernel
theorem zd_Mod_layNames_12 : decode zc_Mod_layNames 12 = .ok (.if_icmp .ge 30, 3) := by decide +kernel
theorem zd_Mod_layNames_15 : decode zc_Mod_layNames 15 = .ok (.iload_n 2, 1) := by decide +kernel
theorem zd_Mod_layNames_16 : decode zc_Mod_layNames 16 = .ok (.iload_n 1, 1) := by decide +kernel
theorem zd_Mod_layNames_17 : decode zc_Mod_layNames 17 = .ok (.if_icmp .eq 19, 3) := by decide +kernel
theorem zd_Mod_layNames_20 : decode zc_Mod_layNames 20 = .ok (.aload_n 0, 1) := by decide +kernel
theorem zd_Mod_layNames_21 : decode zc_Mod_layNames 21 = .ok (.aload_n 0, 1) := by decide +kernel
theorem zd_Mod_layNames_22 : decode zc_Mod_layNames 22 = .ok (.getfield 7, 3) := by decide +kernel
theorem zd_Mod_layNames_25 : decode zc_Mod_layNames 25 = .ok (.iload_n 2, 1) := by decide +kernel
theorem zd_Mod_layNames_26 : decode zc_Mod_layNames 26 = .ok (.laload, 1) := by decide +kernel
theorem zd_Mod_layNames_27 : decode zc_Mod_layNames 27 = .ok (.aload_n 0, 1) := by decide +kernel
theorem zd_Mod_layNames_28 : decode zc_Mod_layNames 28 = .ok (.getfield 13, 3) := by decide +kernel
theorem zd_Mod_layNames_31 : decode zc_Mod_layNames 31 = .ok (.iload_n 2, 1) := by decide +kernel
theorem zd_Mod_layNames_32 : decode zc_Mod_layNames 32 = .ok (.iaload, 1) := by decide +kernel
theorem zd_Mod_layNames_33 : decode zc_Mod_layNames 33 = .ok (.invokevirtual 80, 3) := by decide +kernel
theorem zd_Mod_layNames_36 : decode zc_Mod_layNames 36 = .ok (.iinc 2 1, 3) := by decide +kernel
theorem zd_Mod_layNames_39 : decode zc_Mod_layNames 39 = .ok (.goto (-32), 3) := by decide +kernel
theorem zd_Mod_layNames_42 : decode zc_Mod_layNames 42 = .ok (.return_, 1) := by decide +kernel
theorem zd_Mod_laySerials_0 : decode zc_Mod_laySerials 0 = .ok (.aload_n 0, 1) := by decide +kernel
theorem zd_Mod_laySerials_1 : decode zc_Mod_laySerials 1 = .ok (.iconst 0, 1) := by decide +kernel
theorem zd_Mod_laySerials_2 : decode zc_Mod_laySerials 2 = .ok (.putfield 66, 3) := by decide +kernel
theorem zd_Mod_laySerials_5 : decode zc_Mod_laySerials 5 = .ok (.iconst 0, 1) := by decide +kernel
theorem zd_Mod_laySerials_6 : decode zc_Mod_laySerials 6 = .ok (.istore_n 2, 1) := by decide +kernel
theorem zd_Mod_laySerials_7 : decode zc_Mod_laySerials 7 = .ok (.iload_n 2, 1) := by decide +kernel
theorem zd_Mod_laySerials_8 : decode zc_Mod_laySerials 8 = .ok (.aload_n 0, 1) := by decide +kernel
theorem zd_Mod_laySerials_9 : decode zc_Mod_laySerials 9 = .ok (.getfield 48, 3) := by decide +kernel
theorem zd_Mod_laySerials_12 : decode zc_Mod_laySerials 12 = .ok (.if_icmp .ge 28, 3) := by decide +kernel
theorem zd_Mod_laySerials_15 : decode zc_Mod_laySerials 15 = .ok (.iload_n 2, 1) := by decide +kernel
theorem zd_Mod_laySerials_16 : decode zc_Mod_laySerials 16 = .ok (.iload_n 1, 1) := by decide +kernel
theorem zd_Mod_laySerials_17 : decode zc_Mod_laySerials 17 = .ok (.if_icmp .eq 17, 3) := by decide +kernel
theorem zd_Mod_laySerials_20 : decode zc_Mod_laySerials 20 = .ok (.aload_n 0, 1) := by decide +kernel
theorem zd_Mod_laySerials_21 : decode zc_Mod_laySerials 21 = .ok (.aload_n 0, 1) := by decide +kernel
theorem zd_Mod_laySerials_22 : decode zc_Mod_laySerials 22 = .ok (.getfield 17, 3) := by decide +kernel
theorem zd_Mod_laySerials_25 : decode zc_Mod_laySerials 25 = .ok (.iload_n 2, 1) := by decide +kernel
theorem zd_Mod_laySerials_26 : decode zc_Mod_laySerials 26 = .ok (.iaload, 1) := by decide +kernel
theorem zd_Mod_laySerials_27 : decode zc_Mod_laySerials 27 = .ok (.invokestatic 83, 3) := by decide +kernel
theorem zd_Mod_laySerials_30 : decode zc_Mod_laySerials 30 = .ok (.iconst 2, 1) := by decide +kernel
theorem zd_Mod_laySerials_31 : decode zc_Mod_laySerials 31 = .ok (.invokevirtual 80, 3) := by decide +kernel
theorem zd_Mod_laySerials_34 : decode zc_Mod_laySerials 34 = .ok (.iinc 2 1, 3) := by decide +kernel
theorem zd_Mod_laySerials_37 : decode zc_Mod_laySerials 37 = .ok (.goto (-30), 3) := by decide +kernel
theorem zd_Mod_laySerials_40 : decode zc_Mod_laySerials 40 = .ok (.return_, 1) := by decide +kernel
theorem zd_Mod_freePages_0 : decode zc_Mod_freePages 0 = .ok (.aload_n 0, 1) := by decide +kernel
theorem zd_Mod_freePages_1 : decode zc_Mod_freePages 1 = .ok (.iconst (-1), 1) := by decide +kernel
theorem zd_Mod_freePages_2 : decode zc_Mod_freePages 2 = .ok (.invokevirtual 87, 3) := by decide +kernel
theorem zd_Mod_freePages_5 : decode zc_Mod_freePages 5 = .ok (.aload_n 0, 1) := by decide +kernel
theorem zd_Mod_freePages_6 : decode zc_Mod_freePages 6 = .ok (.invokevirtual 91, 3) := by decide +kernel
theorem zd_Mod_freePages_9 : decode zc_Mod_freePages 9 = .ok (.aload_n 0, 1) := by decide +kernel
theorem zd_Mod_freePages_10 : decode zc_Mod_freePages 10 = .ok (.getfield 69, 3) := by decide +kernel
theorem zd_Mod_freePages_13 : decode zc_Mod_freePages 13 = .ok (.istore_n 1, 1) := by decide +kernel
theorem zd_Mod_freePages_14 : decode zc_Mod_freePages 14 = .ok (.aload_n 0, 1) := by decide +kernel
theorem zd_Mod_freePages_15 : decode zc_Mod_freePages 15 = .ok (.iconst (-1), 1) := by decide +kernel
theorem zd_Mod_freePages_16 : decode zc_Mod_freePages 16 = .ok (.invokevirtual 94, 3) := by decide +kernel
theorem zd_Mod_freePages_19 : decode zc_Mod_freePages 19 = .ok (.aload_n 0, 1) := by decide +kernel
theorem zd_Mod_freePages_20 : decode zc_Mod_freePages 20 = .ok (.invokevirtual 91, 3) := by decide +kernel
theorem zd_Mod_freePages_23 : decode zc_Mod_freePages 23 = .ok (.bipush 60, 2) := by decide +kernel
theorem zd_Mod_freePages_25 : decode zc_Mod_freePages 25 = .ok (.iload_n 1, 1) := by decide +kernel
theorem zd_Mod_freePages_26 : decode zc_Mod_freePages 26 = .ok (.isub, 1) := by decide +kernel
theorem zd_Mod_freePages_27 : decode zc_Mod_freePages 27 = .ok (.aload_n 0, 1) := by decide +kernel
theorem zd_Mod_freePages_28 : decode zc_Mod_freePages 28 = .ok (.getfield 69, 3) := by decide +kernel
theorem zd_Mod_freePages_31 : decode zc_Mod_freePages 31 = .ok (.isub, 1) := by decide +kernel
theorem zd_Mod_freePages_32 : decode zc_Mod_freePages 32 = .ok (.ireturn, 1) := by decide +kernel
theorem zd_Mod_entryWith_0 : decode zc_Mod_entryWith 0 = .ok (.iconst 0, 1) := by decide +kernel
theorem zd_Mod_entryWith_1 : decode zc_Mod_entryWith 1 = .ok (.istore 4, 2) := by decide +kernel
theorem zd_Mod_entryWith_3 : decode zc_Mod_entryWith 3 = .ok (.iload 4, 2) := by decide +kernel
theorem zd_Mod_entryWith_5 : decode zc_Mod_entryWith 5 = .ok (.aload_n 0, 1) := by decide +kernel
theorem zd_Mod_entryWith_6 : decode zc_Mod_entryWith 6 = .ok (.getfield 48, 3) := by decide +kernel
theorem zd_Mod_entryWith_9 : decode zc_Mod_entryWith 9 = .ok (.if_icmp .ge 35, 3) := by decide +kernel
theorem zd_Mod_entryWith_12 : decode zc_Mod_entryWith 12 = .ok (.aload_n 0, 1) := by decide +kernel
theorem zd_Mod_entryWith_13 : decode zc_Mod_entryWith 13 = .ok (.getfield 7, 3) := by decide +kernel
theorem zd_Mod_entryWith_16 : decode zc_Mod_entryWith 16 = .ok (.iload 4, 2) := by decide +kernel
theorem zd_Mod_entryWith_18 : decode zc_Mod_entryWith 18 = .ok (.laload, 1) := by decide +kernel
theorem zd_Mod_entryWith_19 : decode zc_Mod_entryWith 19 = .ok (.lload_n 1, 1) := by decide +kernel
theorem zd_Mod_entryWith_20 : decode zc_Mod_entryWith 20 = .ok (.lcmp, 1) := by decide +kernel
theorem zd_Mod_entryWith_21 : decode zc_Mod_entryWith 21 = .ok (.ifCond .ne 17, 3) := by decide +kernel
theorem zd_Mod_entryWith_24 : decode zc_Mod_entryWith 24 = .ok (.aload_n 0, 1) := by decide +kernel
theorem zd_Mod_entryWith_25 : decode zc_Mod_entryWith 25 = .ok (.getfield 13, 3) := by decide +kernel
theorem zd_Mod_entryWith_28 : decode zc_Mod_entryWith 28 = .ok (.iload 4, 2) := by decide +kernel
theorem zd_Mod_entryWith_30 : decode zc_Mod_entryWith 30 = .ok (.iaload, 1) := by decide +kernel
theorem zd_Mod_entryWith_31 : decode zc_Mod_entryWith 31 = .ok (.iload_n 3, 1) := by decide +kernel
theorem zd_Mod_entryWith_32 : decode zc_Mod_entryWith 32 = .ok (.if_icmp .ne 6, 3) := by decide +kernel
theorem zd_Mod_entryWith_35 : decode zc_Mod_entryWith 35 = .ok (.iload 4, 2) := by decide +kernel
theorem zd_Mod_entryWith_37 : decode zc_Mod_entryWith 37 = .ok (.ireturn, 1) := by decide +kernel
theorem zd_Mod_entryWith_38 : decode zc_Mod_entryWith 38 = .ok (.iinc 4 1, 3) := by decide +kernel
theorem zd_Mod_entryWith_41 : decode zc_Mod_entryWith 41 = .ok (.goto (-38), 3) := by decide +kernel
theorem zd_Mod_entryWith_44 : decode zc_Mod_entryWith 44 = .ok (.iconst (-1), 1) := by decide +kernel
theorem zd_Mod_entryWith_45 : decode zc_Mod_entryWith 45 = .ok (.ireturn, 1) := by decide +kernel
theorem zd_Mod_entryOf_0 : decode zc_Mod_entryOf 0 = .ok (.iconst 0, 1) := by decide +kernel
theorem zd_Mod_entryOf_1 : decode zc_Mod_entryOf 1 = .ok (.istore_n 2, 1) := by decide +kernel
theorem zd_Mod_entryOf_2 : decode zc_Mod_entryOf 2 = .ok (.iload_n 2, 1) := by decide +kernel
theorem zd_Mod_entryOf_3 : decode zc_Mod_entryOf 3 = .ok (.aload_n 0, 1) := by decide +kernel
theorem zd_Mod_entryOf_4 : decode zc_Mod_entryOf 4 = .ok (.getfield 48, 3) := by decide +kernel
theorem zd_Mod_entryOf_7 : decode zc_Mod_entryOf 7 = .ok (.if_icmp .ge 21, 3) := by decide +kernel
theorem zd_Mod_entryOf_10 : decode zc_Mod_entryOf 10 = .ok (.aload_n 0, 1) := by decide +kernel
theorem zd_Mod_entryOf_11 : decode zc_Mod_entryOf 11 = .ok (.getfield 17, 3) := by decide +kernel
theorem zd_Mod_entryOf_14 : decode zc_Mod_entryOf 14 = .ok (.iload_n 2, 1) := by decide +kernel
theorem zd_Mod_entryOf_15 : decode zc_Mod_entryOf 15 = .ok (.iaload, 1) := by decide +kernel
theorem zd_Mod_entryOf_16 : decode zc_Mod_entryOf 16 = .ok (.iload_n 1, 1) := by decide +kernel
theorem zd_Mod_entryOf_17 : decode zc_Mod_entryOf 17 = .ok (.if_icmp .ne 5, 3) := by decide +kernel
theorem zd_Mod_entryOf_20 : decode zc_Mod_entryOf 20 = .ok (.iload_n 2, 1) := by decide +kernel
theorem zd_Mod_entryOf_21 : decode zc_Mod_entryOf 21 = .ok (.ireturn, 1) := by decide +kernel
theorem zd_Mod_entryOf_22 : decode zc_Mod_entryOf 22 = .ok (.iinc 2 1, 3) := by decide +kernel
theorem zd_Mod_entryOf_25 : decode zc_Mod_entryOf 25 = .ok (.goto (-23), 3) := by decide +kernel
theorem zd_Mod_entryOf_28 : decode zc_Mod_entryOf 28 = .ok (.iconst (-1), 1) := by decide +kernel
theorem zd_Mod_entryOf_29 : decode zc_Mod_entryOf 29 = .ok (.ireturn, 1) := by decide +kernel
theorem zd_Mod_change_0 : decode zc_Mod_change 0 = .ok (.iload_n 1, 1) := by decide +kernel
theorem zd_Mod_change_1 : decode zc_Mod_change 1 = .ok (.aload_n 0, 1) := by decide +kernel
theorem zd_Mod_change_2 : decode zc_Mod_change 2 = .ok (.invokevirtual 97, 3) := by decide +kernel
theorem zd_Mod_change_5 : decode zc_Mod_change 5 = .ok (.if_icmp .le 6, 3) := by decide +kernel
theorem zd_Mod_change_8 : decode zc_Mod_change 8 = .ok (.bipush (-2), 2) := by decide +kernel
theorem zd_Mod_change_10 : decode zc_Mod_change 10 = .ok (.ireturn, 1) := by decide +kernel
theorem zd_Mod_change_11 : decode zc_Mod_change 11 = .ok (.iload_n 1, 1) := by decide +kernel
theorem zd_Mod_change_12 : decode zc_Mod_change 12 = .ok (.iconst 1, 1) := by decide +kernel
theorem zd_Mod_change_13 : decode zc_Mod_change 13 = .ok (.iadd, 1) := by decide +kernel
theorem zd_Mod_change_14 : decode zc_Mod_change 14 = .ok (.istore_n 2, 1) := by decide +kernel
theorem zd_Mod_change_15 : decode zc_Mod_change 15 = .ok (.aload_n 0, 1) := by decide +kernel
theorem zd_Mod_change_16 : decode zc_Mod_change 16 = .ok (.getfield 45, 3) := by decide +kernel
theorem zd_Mod_change_19 : decode zc_Mod_change 19 = .ok (.ifCond .lt 27, 3) := by decide +kernel
theorem zd_Mod_change_22 : decode zc_Mod_change 22 = .ok (.aload_n 0, 1) := by decide +kernel
theorem zd_Mod_change_23 : decode zc_Mod_change 23 = .ok (.getfield 45, 3) := by decide +kernel
theorem zd_Mod_change_26 : decode zc_Mod_change 26 = .ok (.iload_n 2, 1) := by decide +kernel
theorem zd_Mod_change_27 : decode zc_Mod_change 27 = .ok (.if_icmp .ge 19, 3) := by decide +kernel
theorem zd_Mod_change_30 : decode zc_Mod_change 30 = .ok (.aload_n 0, 1) := by decide +kernel
theorem zd_Mod_change_31 : decode zc_Mod_change 31 = .ok (.aload_n 0, 1) := by decide +kernel
theorem zd_Mod_change_32 : decode zc_Mod_change 32 = .ok (.getfield 45, 3) := by decide +kernel
theorem zd_Mod_change_35 : decode zc_Mod_change 35 = .ok (.putfield 101, 3) := by decide +kernel
theorem zd_Mod_change_38 : decode zc_Mod_change 38 = .ok (.aload_n 0, 1) := by decide +kernel
theorem zd_Mod_change_39 : decode zc_Mod_change 39 = .ok (.iconst 1, 1) := by decide +kernel
theorem zd_Mod_change_40 : decode zc_Mod_change 40 = .ok (.putfield 104, 3) := by decide +kernel
theorem zd_Mod_change_43 : decode zc_Mod_change 43 = .ok (.bipush (-3), 2) := by decide +kernel
theorem zd_Mod_change_45 : decode zc_Mod_change 45 = .ok (.ireturn, 1) := by decide +kernel
theorem zd_Mod_change_46 : decode zc_Mod_change 46 = .ok (.aload_n 0, 1) := by decide +kernel
theorem zd_Mod_change_47 : decode zc_Mod_change 47 = .ok (.aload_n 0, 1) := by decide +kernel
theorem zd_Mod_change_48 : decode zc_Mod_change 48 = .ok (.getfield 45, 3) := by decide +kernel
theorem zd_Mod_change_51 : decode zc_Mod_change 51 = .ok (.ifCond .ge 7, 3) := by decide +kernel
theorem zd_Mod_change_54 : decode zc_Mod_change 54 = .ok (.iconst (-1), 1) := by decide +kernel
theorem zd_Mod_change_55 : decode zc_Mod_change 55 = .ok (.goto 9, 3) := by decide +kernel
theorem zd_Mod_change_58 : decode zc_Mod_change 58 = .ok (.aload_n 0, 1) := by decide +kernel
theorem zd_Mod_change_59 : decode zc_Mod_change 59 = .ok (.getfield 45, 3) := by decide +kernel
theorem zd_Mod_change_62 : decode zc_Mod_change 62 = .ok (.iload_n 2, 1) := by decide +kernel
theorem zd_Mod_change_63 : decode zc_Mod_change 63 = .ok (.isub, 1) := by decide +kernel
theorem zd_Mod_change_64 : decode zc_Mod_change 64 = .ok (.putfield 45, 3) := by decide +kernel
theorem zd_Mod_change_67 : decode zc_Mod_change 67 = .ok (.aload_n 0, 1) := by decide +kernel
theorem zd_Mod_change_68 : decode zc_Mod_change 68 = .ok (.iload_n 2, 1) := by decide +kernel
theorem zd_Mod_change_69 : decode zc_Mod_change 69 = .ok (.putfield 101, 3) := by decide +kernel
theorem zd_Mod_change_72 : decode zc_Mod_change 72 = .ok (.iconst 0, 1) := by decide +kernel
theorem zd_Mod_change_73 : decode zc_Mod_change 73 = .ok (.ireturn, 1) := by decide +kernel
theorem zd_Mod_refused_0 : decode zc_Mod_refused 0 = .ok (.aload_n 0, 1) := by decide +kernel
theorem zd_Mod_refused_1 : decode zc_Mod_refused 1 = .ok (.aload_n 0, 1) := by decide +kernel
theorem zd_Mod_refused_2 : decode zc_Mod_refused 2 = .ok (.getfield 104, 3) := by decide +kernel
theorem zd_Mod_refused_5 : decode zc_Mod_refused 5 = .ok (.ifCond .eq 7, 3) := by decide +kernel
theorem zd_Mod_refused_8 : decode zc_Mod_refused 8 = .ok (.iconst 1, 1) := by decide +kernel
theorem zd_Mod_refused_9 : decode zc_Mod_refused 9 = .ok (.goto 12, 3) := by decide +kernel
theorem zd_Mod_refused_12 : decode zc_Mod_refused 12 = .ok (.iload_n 1, 1) := by decide +kernel
theorem zd_Mod_refused_13 : decode zc_Mod_refused 13 = .ok (.ifCond .eq 7, 3) := by decide +kernel
theorem zd_Mod_refused_16 : decode zc_Mod_refused 16 = .ok (.iconst 2, 1) := by decide +kernel
theorem zd_Mod_refused_17 : decode zc_Mod_refused 17 = .ok (.goto 4, 3) := by decide +kernel
theorem zd_Mod_refused_20 : decode zc_Mod_refused 20 = .ok (.iconst 0, 1) := by decide +kernel
theorem zd_Mod_refused_21 : decode zc_Mod_refused 21 = .ok (.putfield 51, 3) := by decide +kernel
theorem zd_Mod_refused_24 : decode zc_Mod_refused 24 = .ok (.aload_n 0, 1) := by decide +kernel
theorem zd_Mod_refused_25 : decode zc_Mod_refused 25 = .ok (.getfield 51, 3) := by decide +kernel
theorem zd_Mod_refused_28 : decode zc_Mod_refused 28 = .ok (.ifCond .le 7, 3) := by decide +kernel
theorem zd_Mod_refused_31 : decode zc_Mod_refused 31 = .ok (.iconst 1, 1) := by decide +kernel
theorem zd_Mod_refused_32 : decode zc_Mod_refused 32 = .ok (.goto 4, 3) := by decide +kernel
theorem zd_Mod_refused_35 : decode zc_Mod_refused 35 = .ok (.iconst 0, 1) := by decide +kernel
theorem zd_Mod_refused_36 : decode zc_Mod_refused 36 = .ok (.ireturn, 1) := by decide +kernel
theorem zd_Mod_add_0 : decode zc_Mod_add 0 = .ok (.aload_n 0, 1) := by decide +kernel
theorem zd_Mod_add_1 : decode zc_Mod_add 1 = .ok (.iconst 0, 1) := by decide +kernel
theorem zd_Mod_add_2 : decode zc_Mod_add 2 = .ok (.invokevirtual 108, 3) := by decide +kernel
theorem zd_Mod_add_5 : decode zc_Mod_add 5 = .ok (.ifCond .eq 5, 3) := by decide +kernel
theorem zd_Mod_add_8 : decode zc_Mod_add 8 = .ok (.iconst 0, 1) := by decide +kernel
theorem zd_Mod_add_9 : decode zc_Mod_add 9 = .ok (.ireturn, 1) := by decide +kernel
theorem zd_Mod_add_10 : decode zc_Mod_add 10 = .ok (.aload_n 0, 1) := by decide +kernel
theorem zd_Mod_add_11 : decode zc_Mod_add 11 = .ok (.aload_n 0, 1) := by decide +kernel
theorem zd_Mod_add_12 : decode zc_Mod_add 12 = .ok (.getfield 25, 3) := by decide +kernel
theorem zd_Mod_add_15 : decode zc_Mod_add 15 = .ok (.aload_n 0, 1) := by decide +kernel
theorem zd_Mod_add_16 : decode zc_Mod_add 16 = .ok (.getfield 29, 3) := by decide +kernel
theorem zd_Mod_add_19 : decode zc_Mod_add 19 = .ok (.invokevirtual 112, 3) := by decide +kernel
theorem zd_Mod_add_22 : decode zc_Mod_add 22 = .ok (.ifCond .lt 5, 3) := by decide +kernel
theorem zd_Mod_add_25 : decode zc_Mod_add 25 = .ok (.iconst (-1), 1) := by decide +kernel
theorem zd_Mod_add_26 : decode zc_Mod_add 26 = .ok (.ireturn, 1) := by decide +kernel
theorem zd_Mod_add_27 : decode zc_Mod_add 27 = .ok (.aload_n 0, 1) := by decide +kernel
theorem zd_Mod_add_28 : decode zc_Mod_add 28 = .ok (.getfield 48, 3) := by decide +kernel
theorem zd_Mod_add_31 : decode zc_Mod_add 31 = .ok (.bipush 24, 2) := by decide +kernel
theorem zd_Mod_add_33 : decode zc_Mod_add 33 = .ok (.if_icmp .ne 6, 3) := by decide +kernel
theorem zd_Mod_add_36 : decode zc_Mod_add 36 = .ok (.bipush (-2), 2) := by decide +kernel
theorem zd_Mod_add_38 : decode zc_Mod_add 38 = .ok (.ireturn, 1) := by decide +kernel
theorem zd_Mod_add_39 : decode zc_Mod_add 39 = .ok (.aload_n 0, 1) := by decide +kernel
theorem zd_Mod_add_40 : decode zc_Mod_add 40 = .ok (.getfield 116, 3) := by decide +kernel
theorem zd_Mod_add_43 : decode zc_Mod_add 43 = .ok (.iconst 1, 1) := by decide +kernel
theorem zd_Mod_add_44 : decode zc_Mod_add 44 = .ok (.iadd, 1) := by decide +kernel
theorem zd_Mod_add_45 : decode zc_Mod_add 45 = .ok (.istore_n 2, 1) := by decide +kernel
theorem zd_Mod_add_46 : decode zc_Mod_add 46 = .ok (.aload_n 0, 1) := by decide +kernel
theorem zd_Mod_add_47 : decode zc_Mod_add 47 = .ok (.iconst (-1), 1) := by decide +kernel
theorem zd_Mod_add_48 : decode zc_Mod_add 48 = .ok (.invokevirtual 87, 3) := by decide +kernel
theorem zd_Mod_add_51 : decode zc_Mod_add 51 = .ok (.aload_n 0, 1) := by decide +kernel
theorem zd_Mod_add_52 : decode zc_Mod_add 52 = .ok (.aload_n 0, 1) := by decide +kernel
theorem zd_Mod_add_53 : decode zc_Mod_add 53 = .ok (.getfield 25, 3) := by decide +kernel
theorem zd_Mod_add_56 : decode zc_Mod_add 56 = .ok (.aload_n 0, 1) := by decide +kernel
theorem zd_Mod_add_57 : decode zc_Mod_add 57 = .ok (.getfield 29, 3) := by decide +kernel
theorem zd_Mod_add_60 : decode zc_Mod_add 60 = .ok (.invokevirtual 80, 3) := by decide +kernel
theorem zd_Mod_add_63 : decode zc_Mod_add 63 = .ok (.aload_n 0, 1) := by decide +kernel
theorem zd_Mod_add_64 : decode zc_Mod_add 64 = .ok (.invokevirtual 91, 3) := by decide +kernel
theorem zd_Mod_add_67 : decode zc_Mod_add 67 = .ok (.aload_n 0, 1) := by decide +kernel
theorem zd_Mod_add_68 : decode zc_Mod_add 68 = .ok (.aload_n 0, 1) := by decide +kernel
theorem zd_Mod_add_69 : decode zc_Mod_add 69 = .ok (.getfield 25, 3) := by decide +kernel
theorem zd_Mod_add_72 : decode zc_Mod_add 72 = .ok (.aload_n 0, 1) := by decide +kernel
theorem zd_Mod_add_73 : decode zc_Mod_add 73 = .ok (.getfield 29, 3) := by decide +kernel
theorem zd_Mod_add_76 : decode zc_Mod_add 76 = .ok (.aload_n 0, 1) := by decide +kernel
theorem zd_Mod_add_77 : decode zc_Mod_add 77 = .ok (.getfield 25, 3) := by decide +kernel
theorem zd_Mod_add_80 : decode zc_Mod_add 80 = .ok (.aload_n 0, 1) := by decide +kernel
theorem zd_Mod_add_81 : decode zc_Mod_add 81 = .ok (.getfield 29, 3) := by decide +kernel
theorem zd_Mod_add_84 : decode zc_Mod_add 84 = .ok (.invokevirtual 119, 3) := by decide +kernel
theorem zd_Mod_add_87 : decode zc_Mod_add 87 = .ok (.istore_n 3, 1) := by decide +kernel
theorem zd_Mod_add_88 : decode zc_Mod_add 88 = .ok (.aload_n 0, 1) := by decide +kernel
theorem zd_Mod_add_89 : decode zc_Mod_add 89 = .ok (.iconst (-1), 1) := by decide +kernel
theorem zd_Mod_add_90 : decode zc_Mod_add 90 = .ok (.invokevirtual 94, 3) := by decide +kernel
theorem zd_Mod_add_93 : decode zc_Mod_add 93 = .ok (.aload_n 0, 1) := by decide +kernel
theorem zd_Mod_add_94 : decode zc_Mod_add 94 = .ok (.iload_n 2, 1) := by decide +kernel
theorem zd_Mod_add_95 : decode zc_Mod_add 95 = .ok (.invokestatic 83, 3) := by decide +kernel
theorem zd_Mod_add_98 : decode zc_Mod_add 98 = .ok (.iconst 2, 1) := by decide +kernel
theorem zd_Mod_add_99 : decode zc_Mod_add 99 = .ok (.invokevirtual 80, 3) := by decide +kernel
theorem zd_Mod_add_102 : decode zc_Mod_add 102 = .ok (.aload_n 0, 1) := by decide +kernel
theorem zd_Mod_add_103 : decode zc_Mod_add 103 = .ok (.invokevirtual 91, 3) := by decide +kernel
theorem zd_Mod_add_106 : decode zc_Mod_add 106 = .ok (.iload_n 3, 1) := by decide +kernel
theorem zd_Mod_add_107 : decode zc_Mod_add 107 = .ok (.aload_n 0, 1) := by decide +kernel
theorem zd_Mod_add_108 : decode zc_Mod_add 108 = .ok (.iload_n 2, 1) := by decide +kernel
theorem zd_Mod_add_109 : decode zc_Mod_add 109 = .ok (.invokestatic 83, 3) := by decide +kernel
theorem zd_Mod_add_112 : decode zc_Mod_add 112 = .ok (.iconst 2, 1) := by decide +kernel
theorem zd_Mod_add_113 : decode zc_Mod_add 113 = .ok (.iload_n 2, 1) := by decide +kernel
theorem zd_Mod_add_114 : decode zc_Mod_add 114 = .ok (.invokestatic 83, 3) := by decide +kernel
theorem zd_Mod_add_117 : decode zc_Mod_add 117 = .ok (.iconst 2, 1) := by decide +kernel
theorem zd_Mod_add_118 : decode zc_Mod_add 118 = .ok (.invokevirtual 119, 3) := by decide +kernel
theorem zd_Mod_add_121 : decode zc_Mod_add 121 = .ok (.iadd, 1) := by decide +kernel
theorem zd_Mod_add_122 : decode zc_Mod_add 122 = .ok (.istore_n 3, 1) := by decide +kernel
theorem zd_Mod_add_123 : decode zc_Mod_add 123 = .ok (.aload_n 0, 1) := by decide +kernel
theorem zd_Mod_add_124 : decode zc_Mod_add 124 = .ok (.iload_n 3, 1) := by decide +kernel
theorem zd_Mod_add_125 : decode zc_Mod_add 125 = .ok (.invokevirtual 122, 3) := by decide +kernel
theorem zd_Mod_add_128 : decode zc_Mod_add 128 = .ok (.istore 4, 2) := by decide +kernel
theorem zd_Mod_add_130 : decode zc_Mod_add 130 = .ok (.iload 4, 2) := by decide +kernel
theorem zd_Mod_add_132 : decode zc_Mod_add 132 = .ok (.ifCond .ge 6, 3) := by decide +kernel
theorem zd_Mod_add_135 : decode zc_Mod_add 135 = .ok (.iload 4, 2) := by decide +kernel
theorem zd_Mod_add_137 : decode zc_Mod_add 137 = .ok (.ireturn, 1) := by decide +kernel
theorem zd_Mod_add_138 : decode zc_Mod_add 138 = .ok (.aload_n 0, 1) := by decide +kernel
theorem zd_Mod_add_139 : decode zc_Mod_add 139 = .ok (.getfield 7, 3) := by decide +kernel
theorem zd_Mod_add_142 : decode zc_Mod_add 142 = .ok (.aload_n 0, 1) := by decide +kernel
theorem zd_Mod_add_143 : decode zc_Mod_add 143 = .ok (.getfield 48, 3) := by decide +kernel
theorem zd_Mod_add_146 : decode zc_Mod_add 146 = .ok (.aload_n 0, 1) := by decide +kernel
theorem zd_Mod_add_147 : decode zc_Mod_add 147 = .ok (.getfield 25, 3) := by decide +kernel
theorem zd_Mod_add_150 : decode zc_Mod_add 150 = .ok (.lastore, 1) := by decide +kernel
theorem zd_Mod_add_151 : decode zc_Mod_add 151 = .ok (.aload_n 0, 1) := by decide +kernel
theorem zd_Mod_add_152 : decode zc_Mod_add 152 = .ok (.getfield 13, 3) := by decide +kernel
theorem zd_Mod_add_155 : decode zc_Mod_add 155 = .ok (.aload_n 0, 1) := by decide +kernel
theorem zd_Mod_add_156 : decode zc_Mod_add 156 = .ok (.getfield 48, 3) := by decide +kernel
theorem zd_Mod_add_159 : decode zc_Mod_add 159 = .ok (.aload_n 0, 1) := by decide +kernel
theorem zd_Mod_add_160 : decode zc_Mod_add 160 = .ok (.getfield 29, 3) := by decide +kernel
theorem zd_Mod_add_163 : decode zc_Mod_add 163 = .ok (.iastore, 1) := by decide +kernel
theorem zd_Mod_add_164 : decode zc_Mod_add 164 = .ok (.aload_n 0, 1) := by decide +kernel
theorem zd_Mod_add_165 : decode zc_Mod_add 165 = .ok (.getfield 17, 3) := by decide +kernel
theorem zd_Mod_add_168 : decode zc_Mod_add 168 = .ok (.aload_n 0, 1) := by decide +kernel
theorem zd_Mod_add_169 : decode zc_Mod_add 169 = .ok (.getfield 48, 3) := by decide +kernel
theorem zd_Mod_add_172 : decode zc_Mod_add 172 = .ok (.iload_n 2, 1) := by decide +kernel
theorem zd_Mod_add_173 : decode zc_Mod_add 173 = .ok (.iastore, 1) := by decide +kernel
theorem zd_Mod_add_174 : decode zc_Mod_add 174 = .ok (.aload_n 0, 1) := by decide +kernel
theorem zd_Mod_add_175 : decode zc_Mod_add 175 = .ok (.getfield 20, 3) := by decide +kernel
theorem zd_Mod_add_178 : decode zc_Mod_add 178 = .ok (.aload_n 0, 1) := by decide +kernel
theorem zd_Mod_add_179 : decode zc_Mod_add 179 = .ok (.getfield 48, 3) := by decide +kernel
theorem zd_Mod_add_182 : decode zc_Mod_add 182 = .ok (.iload_n 1, 1) := by decide +kernel
theorem zd_Mod_add_183 : decode zc_Mod_add 183 = .ok (.iastore, 1) := by decide +kernel
theorem zd_Mod_add_184 : decode zc_Mod_add 184 = .ok (.aload_n 0, 1) := by decide +kernel
theorem zd_Mod_add_185 : decode zc_Mod_add 185 = .ok (.dup, 1) := by decide +kernel
theorem zd_Mod_add_186 : decode zc_Mod_add 186 = .ok (.getfield 48, 3) := by decide +kernel
theorem zd_Mod_add_189 : decode zc_Mod_add 189 = .ok (.iconst 1, 1) := by decide +kernel
theorem zd_Mod_add_190 : decode zc_Mod_add 190 = .ok (.iadd, 1) := by decide +kernel
theorem zd_Mod_add_191 : decode zc_Mod_add 191 = .ok (.putfield 48, 3) := by decide +kernel
theorem zd_Mod_add_194 : decode zc_Mod_add 194 = .ok (.aload_n 0, 1) := by decide +kernel
theorem zd_Mod_add_195 : decode zc_Mod_add 195 = .ok (.iload_n 2, 1) := by decide +kernel
theorem zd_Mod_add_196 : decode zc_Mod_add 196 = .ok (.putfield 116, 3) := by decide +kernel
theorem zd_Mod_add_199 : decode zc_Mod_add 199 = .ok (.iload_n 2, 1) := by decide +kernel
theorem zd_Mod_add_200 : decode zc_Mod_add 200 = .ok (.ireturn, 1) := by decide +kernel
theorem zd_Mod_remove_0 : decode zc_Mod_remove 0 = .ok (.aload_n 0, 1) := by decide +kernel
theorem zd_Mod_remove_1 : decode zc_Mod_remove 1 = .ok (.iconst 0, 1) := by decide +kernel
theorem zd_Mod_remove_2 : decode zc_Mod_remove 2 = .ok (.invokevirtual 108, 3) := by decide +kernel
theorem zd_Mod_remove_5 : decode zc_Mod_remove 5 = .ok (.ifCond .eq 5, 3) := by decide +kernel
theorem zd_Mod_remove_8 : decode zc_Mod_remove 8 = .ok (.iconst 0, 1) := by decide +kernel
theorem zd_Mod_remove_9 : decode zc_Mod_remove 9 = .ok (.ireturn, 1) := by decide +kernel
theorem zd_Mod_remove_10 : decode zc_Mod_remove 10 = .ok (.aload_n 0, 1) := by decide +kernel
theorem zd_Mod_remove_11 : decode zc_Mod_remove 11 = .ok (.aload_n 0, 1) := by decide +kernel
theorem zd_Mod_remove_12 : decode zc_Mod_remove 12 = .ok (.getfield 25, 3) := by decide +kernel
theorem zd_Mod_remove_15 : decode zc_Mod_remove 15 = .ok (.aload_n 0, 1) := by decide +kernel
theorem zd_Mod_remove_16 : decode zc_Mod_remove 16 = .ok (.getfield 29, 3) := by decide +kernel
theorem zd_Mod_remove_19 : decode zc_Mod_remove 19 = .ok (.invokevirtual 112, 3) := by decide +kernel
theorem zd_Mod_remove_22 : decode zc_Mod_remove 22 = .ok (.istore_n 1, 1) := by decide +kernel
theorem zd_Mod_remove_23 : decode zc_Mod_remove 23 = .ok (.iload_n 1, 1) := by decide +kernel
theorem zd_Mod_remove_24 : decode zc_Mod_remove 24 = .ok (.ifCond .ge 5, 3) := by decide +kernel
theorem zd_Mod_remove_27 : decode zc_Mod_remove 27 = .ok (.iconst (-1), 1) := by decide +kernel
theorem zd_Mod_remove_28 : decode zc_Mod_remove 28 = .ok (.ireturn, 1) := by decide +kernel
theorem zd_Mod_remove_29 : decode zc_Mod_remove 29 = .ok (.aload_n 0, 1) := by decide +kernel
theorem zd_Mod_remove_30 : decode zc_Mod_remove 30 = .ok (.getfield 17, 3) := by decide +kernel
theorem zd_Mod_remove_33 : decode zc_Mod_remove 33 = .ok (.iload_n 1, 1) := by decide +kernel
theorem zd_Mod_remove_34 : decode zc_Mod_remove 34 = .ok (.iaload, 1) := by decide +kernel
theorem zd_Mod_remove_35 : decode zc_Mod_remove 35 = .ok (.istore_n 2, 1) := by decide +kernel
theorem zd_Mod_remove_36 : decode zc_Mod_remove 36 = .ok (.aload_n 0, 1) := by decide +kernel
theorem zd_Mod_remove_37 : decode zc_Mod_remove 37 = .ok (.iload_n 1, 1) := by decide +kernel
theorem zd_Mod_remove_38 : decode zc_Mod_remove 38 = .ok (.invokevirtual 87, 3) := by decide +kernel
theorem zd_Mod_remove_41 : decode zc_Mod_remove 41 = .ok (.aload_n 0, 1) := by decide +kernel
theorem zd_Mod_remove_42 : decode zc_Mod_remove 42 = .ok (.invokevirtual 91, 3) := by decide +kernel
theorem zd_Mod_remove_45 : decode zc_Mod_remove 45 = .ok (.aload_n 0, 1) := by decide +kernel
theorem zd_Mod_remove_46 : decode zc_Mod_remove 46 = .ok (.aload_n 0, 1) := by decide +kernel
theorem zd_Mod_remove_47 : decode zc_Mod_remove 47 = .ok (.getfield 25, 3) := by decide +kernel
theorem zd_Mod_remove_50 : decode zc_Mod_remove 50 = .ok (.aload_n 0, 1) := by decide +kernel
theorem zd_Mod_remove_51 : decode zc_Mod_remove 51 = .ok (.getfield 29, 3) := by decide +kernel
theorem zd_Mod_remove_54 : decode zc_Mod_remove 54 = .ok (.aload_n 0, 1) := by decide +kernel
theorem zd_Mod_remove_55 : decode zc_Mod_remove 55 = .ok (.getfield 25, 3) := by decide +kernel
theorem zd_Mod_remove_58 : decode zc_Mod_remove 58 = .ok (.aload_n 0, 1) := by decide +kernel
theorem zd_Mod_remove_59 : decode zc_Mod_remove 59 = .ok (.getfield 29, 3) := by decide +kernel
theorem zd_Mod_remove_62 : decode zc_Mod_remove 62 = .ok (.invokevirtual 119, 3) := by decide +kernel
theorem zd_Mod_remove_65 : decode zc_Mod_remove 65 = .ok (.istore_n 3, 1) := by decide +kernel
theorem zd_Mod_remove_66 : decode zc_Mod_remove 66 = .ok (.aload_n 0, 1) := by decide +kernel
theorem zd_Mod_remove_67 : decode zc_Mod_remove 67 = .ok (.iload_n 1, 1) := by decide +kernel
theorem zd_Mod_remove_68 : decode zc_Mod_remove 68 = .ok (.invokevirtual 94, 3) := by decide +kernel
theorem zd_Mod_remove_71 : decode zc_Mod_remove 71 = .ok (.aload_n 0, 1) := by decide +kernel
theorem zd_Mod_remove_72 : decode zc_Mod_remove 72 = .ok (.invokevirtual 91, 3) := by decide +kernel
theorem zd_Mod_remove_75 : decode zc_Mod_remove 75 = .ok (.iload_n 3, 1) := by decide +kernel
theorem zd_Mod_remove_76 : decode zc_Mod_remove 76 = .ok (.aload_n 0, 1) := by decide +kernel
theorem zd_Mod_remove_77 : decode zc_Mod_remove 77 = .ok (.iload_n 2, 1) := by decide +kernel
theorem zd_Mod_remove_78 : decode zc_Mod_remove 78 = .ok (.invokestatic 83, 3) := by decide +kernel
theorem zd_Mod_remove_81 : decode zc_Mod_remove 81 = .ok (.iconst 2, 1) := by decide +kernel
theorem zd_Mod_remove_82 : decode zc_Mod_remove 82 = .ok (.iload_n 2, 1) := by decide +kernel
theorem zd_Mod_remove_83 : decode zc_Mod_remove 83 = .ok (.invokestatic 83, 3) := by decide +kernel
theorem zd_Mod_remove_86 : decode zc_Mod_remove 86 = .ok (.iconst 2, 1) := by decide +kernel
theorem zd_Mod_remove_87 : decode zc_Mod_remove 87 = .ok (.invokevirtual 119, 3) := by decide +kernel
theorem zd_Mod_remove_90 : decode zc_Mod_remove 90 = .ok (.iadd, 1) := by decide +kernel
theorem zd_Mod_remove_91 : decode zc_Mod_remove 91 = .ok (.istore_n 3, 1) := by decide +kernel
theorem zd_Mod_remove_92 : decode zc_Mod_remove 92 = .ok (.aload_n 0, 1) := by decide +kernel
theorem zd_Mod_remove_93 : decode zc_Mod_remove 93 = .ok (.iload_n 3, 1) := by decide +kernel
theorem zd_Mod_remove_94 : decode zc_Mod_remove 94 = .ok (.invokevirtual 122, 3) := by decide +kernel
theorem zd_Mod_remove_97 : decode zc_Mod_remove 97 = .ok (.istore 4, 2) := by decide +kernel
theorem zd_Mod_remove_99 : decode zc_Mod_remove 99 = .ok (.iload 4, 2) := by decide +kernel
theorem zd_Mod_remove_101 : decode zc_Mod_remove 101 = .ok (.ifCond .ge 6, 3) := by decide +kernel
theorem zd_Mod_remove_104 : decode zc_Mod_remove 104 = .ok (.iload 4, 2) := by decide +kernel
theorem zd_Mod_remove_106 : decode zc_Mod_remove 106 = .ok (.ireturn, 1) := by decide +kernel
theorem zd_Mod_remove_107 : decode zc_Mod_remove 107 = .ok (.aload_n 0, 1) := by decide +kernel
theorem zd_Mod_remove_108 : decode zc_Mod_remove 108 = .ok (.dup, 1) := by decide +kernel
theorem zd_Mod_remove_109 : decode zc_Mod_remove 109 = .ok (.getfield 48, 3) := by decide +kernel
theorem zd_Mod_remove_112 : decode zc_Mod_remove 112 = .ok (.iconst 1, 1) := by decide +kernel
theorem zd_Mod_remove_113 : decode zc_Mod_remove 113 = .ok (.isub, 1) := by decide +kernel
theorem zd_Mod_remove_114 : decode zc_Mod_remove 114 = .ok (.putfield 48, 3) := by decide +kernel
theorem zd_Mod_remove_117 : decode zc_Mod_remove 117 = .ok (.iload_n 1, 1) := by decide +kernel
theorem zd_Mod_remove_118 : decode zc_Mod_remove 118 = .ok (.istore 5, 2) := by decide +kernel
theorem zd_Mod_remove_120 : decode zc_Mod_remove 120 = .ok (.iload 5, 2) := by decide +kernel
theorem zd_Mod_remove_122 : decode zc_Mod_remove 122 = .ok (.aload_n 0, 1) := by decide +kernel
theorem zd_Mod_remove_123 : decode zc_Mod_remove 123 = .ok (.getfield 48, 3) := by decide +kernel
theorem zd_Mod_remove_126 : decode zc_Mod_remove 126 = .ok (.if_icmp .ge 73, 3) := by decide +kernel
theorem zd_Mod_remove_129 : decode zc_Mod_remove 129 = .ok (.aload_n 0, 1) := by decide +kernel
theorem zd_Mod_remove_130 : decode zc_Mod_remove 130 = .ok (.getfield 7, 3) := by decide +kernel
theorem zd_Mod_remove_133 : decode zc_Mod_remove 133 = .ok (.iload 5, 2) := by decide +kernel
theorem zd_Mod_remove_135 : decode zc_Mod_remove 135 = .ok (.aload_n 0, 1) := by decide +kernel
theorem zd_Mod_remove_136 : decode zc_Mod_remove 136 = .ok (.getfield 7, 3) := by decide +kernel
theorem zd_Mod_remove_139 : decode zc_Mod_remove 139 = .ok (.iload 5, 2) := by decide +kernel
theorem zd_Mod_remove_141 : decode zc_Mod_remove 141 = .ok (.iconst 1, 1) := by decide +kernel
theorem zd_Mod_remove_142 : decode zc_Mod_remove 142 = .ok (.iadd, 1) := by decide +kernel
theorem zd_Mod_remove_143 : decode zc_Mod_remove 143 = .ok (.laload, 1) := by decide +kernel
theorem zd_Mod_remove_144 : decode zc_Mod_remove 144 = .ok (.lastore, 1) := by decide +kernel
theorem zd_Mod_remove_145 : decode zc_Mod_remove 145 = .ok (.aload_n 0, 1) := by decide +kernel
theorem zd_Mod_remove_146 : decode zc_Mod_remove 146 = .ok (.getfield 13, 3) := by decide +kernel
theorem zd_Mod_remove_149 : decode zc_Mod_remove 149 = .ok (.iload 5, 2) := by decide +kernel
theorem zd_Mod_remove_151 : decode zc_Mod_remove 151 = .ok (.aload_n 0, 1) := by decide +kernel
theorem zd_Mod_remove_152 : decode zc_Mod_remove 152 = .ok (.getfield 13, 3) := by decide +kernel
theorem zd_Mod_remove_155 : decode zc_Mod_remove 155 = .ok (.iload 5, 2) := by decide +kernel
theorem zd_Mod_remove_157 : decode zc_Mod_remove 157 = .ok (.iconst 1, 1) := by decide +kernel
theorem zd_Mod_remove_158 : decode zc_Mod_remove 158 = .ok (.iadd, 1) := by decide +kernel
theorem zd_Mod_remove_159 : decode zc_Mod_remove 159 = .ok (.iaload, 1) := by decide +kernel
theorem zd_Mod_remove_160 : decode zc_Mod_remove 160 = .ok (.iastore, 1) := by decide +kernel
theorem zd_Mod_remove_161 : decode zc_Mod_remove 161 = .ok (.aload_n 0, 1) := by decide +kernel
theorem zd_Mod_remove_162 : decode zc_Mod_remove 162 = .ok (.getfield 17, 3) := by decide +kernel
theorem zd_Mod_remove_165 : decode zc_Mod_remove 165 = .ok (.iload 5, 2) := by decide +kernel
theorem zd_Mod_remove_167 : decode zc_Mod_remove 167 = .ok (.aload_n 0, 1) := by decide +kernel
theorem zd_Mod_remove_168 : decode zc_Mod_remove 168 = .ok (.getfield 17, 3) := by decide +kernel
theorem zd_Mod_remove_171 : decode zc_Mod_remove 171 = .ok (.iload 5, 2) := by decide +kernel
theorem zd_Mod_remove_173 : decode zc_Mod_remove 173 = .ok (.iconst 1, 1) := by decide +kernel
theorem zd_Mod_remove_174 : decode zc_Mod_remove 174 = .ok (.iadd, 1) := by decide +kernel
theorem zd_Mod_remove_175 : decode zc_Mod_remove 175 = .ok (.iaload, 1) := by decide +kernel
theorem zd_Mod_remove_176 : decode zc_Mod_remove 176 = .ok (.iastore, 1) := by decide +kernel
theorem zd_Mod_remove_177 : decode zc_Mod_remove 177 = .ok (.aload_n 0, 1) := by decide +kernel
theorem zd_Mod_remove_178 : decode zc_Mod_remove 178 = .ok (.getfield 20, 3) := by decide +kernel
theorem zd_Mod_remove_181 : decode zc_Mod_remove 181 = .ok (.iload 5, 2) := by decide +kernel
theorem zd_Mod_remove_183 : decode zc_Mod_remove 183 = .ok (.aload_n 0, 1) := by decide +kernel
theorem zd_Mod_remove_184 : decode zc_Mod_remove 184 = .ok (.getfield 20, 3) := by decide +kernel
theorem zd_Mod_remove_187 : decode zc_Mod_remove 187 = .ok (.iload 5, 2) := by decide +kernel
theorem zd_Mod_remove_189 : decode zc_Mod_remove 189 = .ok (.iconst 1, 1) := by decide +kernel
theorem zd_Mod_remove_190 : decode zc_Mod_remove 190 = .ok (.iadd, 1) := by decide +kernel
theorem zd_Mod_remove_191 : decode zc_Mod_remove 191 = .ok (.iaload, 1) := by decide +kernel
theorem zd_Mod_remove_192 : decode zc_Mod_remove 192 = .ok (.iastore, 1) := by decide +kernel
theorem zd_Mod_remove_193 : decode zc_Mod_remove 193 = .ok (.iinc 5 1, 3) := by decide +kernel
theorem zd_Mod_remove_196 : decode zc_Mod_remove 196 = .ok (.goto (-76), 3) := by decide +kernel
theorem zd_Mod_remove_199 : decode zc_Mod_remove 199 = .ok (.iload_n 2, 1) := by decide +kernel
theorem zd_Mod_remove_200 : decode zc_Mod_remove 200 = .ok (.ireturn, 1) := by decide +kernel
theorem zd_Mod_replace_0 : decode zc_Mod_replace 0 = .ok (.aload_n 0, 1) := by decide +kernel
theorem zd_Mod_replace_1 : decode zc_Mod_replace 1 = .ok (.iconst 0, 1) := by decide +kernel
theorem zd_Mod_replace_2 : decode zc_Mod_replace 2 = .ok (.invokevirtual 108, 3) := by decide +kernel
theorem zd_Mod_replace_5 : decode zc_Mod_replace 5 = .ok (.ifCond .eq 5, 3) := by decide +kernel
theorem zd_Mod_replace_8 : decode zc_Mod_replace 8 = .ok (.iconst 0, 1) := by decide +kernel
theorem zd_Mod_replace_9 : decode zc_Mod_replace 9 = .ok (.ireturn, 1) := by decide +kernel
theorem zd_Mod_replace_10 : decode zc_Mod_replace 10 = .ok (.aload_n 0, 1) := by decide +kernel
theorem zd_Mod_replace_11 : decode zc_Mod_replace 11 = .ok (.aload_n 0, 1) := by decide +kernel
theorem zd_Mod_replace_12 : decode zc_Mod_replace 12 = .ok (.getfield 25, 3) := by decide +kernel
theorem zd_Mod_replace_15 : decode zc_Mod_replace 15 = .ok (.aload_n 0, 1) := by decide +kernel
theorem zd_Mod_replace_16 : decode zc_Mod_replace 16 = .ok (.getfield 29, 3) := by decide +kernel
theorem zd_Mod_replace_19 : decode zc_Mod_replace 19 = .ok (.invokevirtual 112, 3) := by decide +kernel
theorem zd_Mod_replace_22 : decode zc_Mod_replace 22 = .ok (.istore_n 2, 1) := by decide +kernel
theorem zd_Mod_replace_23 : decode zc_Mod_replace 23 = .ok (.iload_n 2, 1) := by decide +kernel
theorem zd_Mod_replace_24 : decode zc_Mod_replace 24 = .ok (.ifCond .ge 5, 3) := by decide +kernel
theorem zd_Mod_replace_27 : decode zc_Mod_replace 27 = .ok (.iconst (-1), 1) := by decide +kernel
theorem zd_Mod_replace_28 : decode zc_Mod_replace 28 = .ok (.ireturn, 1) := by decide +kernel
theorem zd_Mod_replace_29 : decode zc_Mod_replace 29 = .ok (.aload_n 0, 1) := by decide +kernel
theorem zd_Mod_replace_30 : decode zc_Mod_replace 30 = .ok (.iconst (-1), 1) := by decide +kernel
theorem zd_Mod_replace_31 : decode zc_Mod_replace 31 = .ok (.invokevirtual 87, 3) := by decide +kernel
theorem zd_Mod_replace_34 : decode zc_Mod_replace 34 = .ok (.aload_n 0, 1) := by decide +kernel
theorem zd_Mod_replace_35 : decode zc_Mod_replace 35 = .ok (.invokevirtual 91, 3) := by decide +kernel
theorem zd_Mod_replace_38 : decode zc_Mod_replace 38 = .ok (.aload_n 0, 1) := by decide +kernel
theorem zd_Mod_replace_39 : decode zc_Mod_replace 39 = .ok (.aload_n 0, 1) := by decide +kernel
theorem zd_Mod_replace_40 : decode zc_Mod_replace 40 = .ok (.aload_n 0, 1) := by decide +kernel
theorem zd_Mod_replace_41 : decode zc_Mod_replace 41 = .ok (.getfield 25, 3) := by decide +kernel
theorem zd_Mod_replace_44 : decode zc_Mod_replace 44 = .ok (.aload_n 0, 1) := by decide +kernel
theorem zd_Mod_replace_45 : decode zc_Mod_replace 45 = .ok (.getfield 29, 3) := by decide +kernel
theorem zd_Mod_replace_48 : decode zc_Mod_replace 48 = .ok (.aload_n 0, 1) := by decide +kernel
theorem zd_Mod_replace_49 : decode zc_Mod_replace 49 = .ok (.getfield 25, 3) := by decide +kernel
theorem zd_Mod_replace_52 : decode zc_Mod_replace 52 = .ok (.aload_n 0, 1) := by decide +kernel
theorem zd_Mod_replace_53 : decode zc_Mod_replace 53 = .ok (.getfield 29, 3) := by decide +kernel
theorem zd_Mod_replace_56 : decode zc_Mod_replace 56 = .ok (.invokevirtual 119, 3) := by decide +kernel
theorem zd_Mod_replace_59 : decode zc_Mod_replace 59 = .ok (.invokevirtual 122, 3) := by decide +kernel
theorem zd_Mod_replace_62 : decode zc_Mod_replace 62 = .ok (.istore_n 3, 1) := by decide +kernel
theorem zd_Mod_replace_63 : decode zc_Mod_replace 63 = .ok (.iload_n 3, 1) := by decide +kernel
theorem zd_Mod_replace_64 : decode zc_Mod_replace 64 = .ok (.ifCond .ge 5, 3) := by decide +kernel
theorem zd_Mod_replace_67 : decode zc_Mod_replace 67 = .ok (.iload_n 3, 1) := by decide +kernel
theorem zd_Mod_replace_68 : decode zc_Mod_replace 68 = .ok (.ireturn, 1) := by decide +kernel
theorem zd_Mod_replace_69 : decode zc_Mod_replace 69 = .ok (.aload_n 0, 1) := by decide +kernel
theorem zd_Mod_replace_70 : decode zc_Mod_replace 70 = .ok (.getfield 20, 3) := by decide +kernel
theorem zd_Mod_replace_73 : decode zc_Mod_replace 73 = .ok (.iload_n 2, 1) := by decide +kernel
theorem zd_Mod_replace_74 : decode zc_Mod_replace 74 = .ok (.iload_n 1, 1) := by decide +kernel
theorem zd_Mod_replace_75 : decode zc_Mod_replace 75 = .ok (.iastore, 1) := by decide +kernel
theorem zd_Mod_replace_76 : decode zc_Mod_replace 76 = .ok (.aload_n 0, 1) := by decide +kernel
theorem zd_Mod_replace_77 : decode zc_Mod_replace 77 = .ok (.getfield 17, 3) := by decide +kernel
theorem zd_Mod_replace_80 : decode zc_Mod_replace 80 = .ok (.iload_n 2, 1) := by decide +kernel
theorem zd_Mod_replace_81 : decode zc_Mod_replace 81 = .ok (.iaload, 1) := by decide +kernel
theorem zd_Mod_replace_82 : decode zc_Mod_replace 82 = .ok (.ireturn, 1) := by decide +kernel
theorem zd_Mod_rename_0 : decode zc_Mod_rename 0 = .ok (.aload_n 0, 1) := by decide +kernel
theorem zd_Mod_rename_1 : decode zc_Mod_rename 1 = .ok (.iload_n 1, 1) := by decide +kernel
theorem zd_Mod_rename_2 : decode zc_Mod_rename 2 = .ok (.invokevirtual 126, 3) := by decide +kernel
theorem zd_Mod_rename_5 : decode zc_Mod_rename 5 = .ok (.istore_n 2, 1) := by decide +kernel
theorem zd_Mod_rename_6 : decode zc_Mod_rename 6 = .ok (.aload_n 0, 1) := by decide +kernel
theorem zd_Mod_rename_7 : decode zc_Mod_rename 7 = .ok (.iload_n 2, 1) := by decide +kernel
theorem zd_Mod_rename_8 : decode zc_Mod_rename 8 = .ok (.ifCond .ge 7, 3) := by decide +kernel
theorem zd_Mod_rename_11 : decode zc_Mod_rename 11 = .ok (.iconst 1, 1) := by decide +kernel
theorem zd_Mod_rename_12 : decode zc_Mod_rename 12 = .ok (.goto 4, 3) := by decide +kernel
theorem zd_Mod_rename_15 : decode zc_Mod_rename 15 = .ok (.iconst 0, 1) := by decide +kernel
theorem zd_Mod_rename_16 : decode zc_Mod_rename 16 = .ok (.invokevirtual 108, 3) := by decide +kernel
theorem zd_Mod_rename_19 : decode zc_Mod_rename 19 = .ok (.ifCond .eq 5, 3) := by decide +kernel
theorem zd_Mod_rename_22 : decode zc_Mod_rename 22 = .ok (.iconst 0, 1) := by decide +kernel
theorem zd_Mod_rename_23 : decode zc_Mod_rename 23 = .ok (.ireturn, 1) := by decide +kernel
theorem zd_Mod_rename_24 : decode zc_Mod_rename 24 = .ok (.aload_n 0, 1) := by decide +kernel
theorem zd_Mod_rename_25 : decode zc_Mod_rename 25 = .ok (.aload_n 0, 1) := by decide +kernel
theorem zd_Mod_rename_26 : decode zc_Mod_rename 26 = .ok (.getfield 25, 3) := by decide +kernel
theorem zd_Mod_rename_29 : decode zc_Mod_rename 29 = .ok (.aload_n 0, 1) := by decide +kernel
theorem zd_Mod_rename_30 : decode zc_Mod_rename 30 = .ok (.getfield 29, 3) := by decide +kernel
theorem zd_Mod_rename_33 : decode zc_Mod_rename 33 = .ok (.invokevirtual 112, 3) := by decide +kernel
theorem zd_Mod_rename_36 : decode zc_Mod_rename 36 = .ok (.ifCond .lt 5, 3) := by decide +kernel
theorem zd_Mod_rename_39 : decode zc_Mod_rename 39 = .ok (.iconst (-1), 1) := by decide +kernel
theorem zd_Mod_rename_40 : decode zc_Mod_rename 40 = .ok (.ireturn, 1) := by decide +kernel
theorem zd_Mod_rename_41 : decode zc_Mod_rename 41 = .ok (.aload_n 0, 1) := by decide +kernel
theorem zd_Mod_rename_42 : decode zc_Mod_rename 42 = .ok (.iload_n 2, 1) := by decide +kernel
theorem zd_Mod_rename_43 : decode zc_Mod_rename 43 = .ok (.invokevirtual 87, 3) := by decide +kernel
theorem zd_Mod_rename_46 : decode zc_Mod_rename 46 = .ok (.aload_n 0, 1) := by decide +kernel
theorem zd_Mod_rename_47 : decode zc_Mod_rename 47 = .ok (.aload_n 0, 1) := by decide +kernel
theorem zd_Mod_rename_48 : decode zc_Mod_rename 48 = .ok (.getfield 25, 3) := by decide +kernel
theorem zd_Mod_rename_51 : decode zc_Mod_rename 51 = .ok (.aload_n 0, 1) := by decide +kernel
theorem zd_Mod_rename_52 : decode zc_Mod_rename 52 = .ok (.getfield 29, 3) := by decide +kernel
theorem zd_Mod_rename_55 : decode zc_Mod_rename 55 = .ok (.invokevirtual 80, 3) := by decide +kernel
theorem zd_Mod_rename_58 : decode zc_Mod_rename 58 = .ok (.aload_n 0, 1) := by decide +kernel
theorem zd_Mod_rename_59 : decode zc_Mod_rename 59 = .ok (.invokevirtual 91, 3) := by decide +kernel
theorem zd_Mod_rename_62 : decode zc_Mod_rename 62 = .ok (.aload_n 0, 1) := by decide +kernel
theorem zd_Mod_rename_63 : decode zc_Mod_rename 63 = .ok (.aload_n 0, 1) := by decide +kernel
theorem zd_Mod_rename_64 : decode zc_Mod_rename 64 = .ok (.getfield 25, 3) := by decide +kernel
theorem zd_Mod_rename_67 : decode zc_Mod_rename 67 = .ok (.aload_n 0, 1) := by decide +kernel
theorem zd_Mod_rename_68 : decode zc_Mod_rename 68 = .ok (.getfield 29, 3) := by decide +kernel
theorem zd_Mod_rename_71 : decode zc_Mod_rename 71 = .ok (.aload_n 0, 1) := by decide +kernel
theorem zd_Mod_rename_72 : decode zc_Mod_rename 72 = .ok (.getfield 7, 3) := by decide +kernel
theorem zd_Mod_rename_75 : decode zc_Mod_rename 75 = .ok (.iload_n 2, 1) := by decide +kernel
theorem zd_Mod_rename_76 : decode zc_Mod_rename 76 = .ok (.laload, 1) := by decide +kernel
theorem zd_Mod_rename_77 : decode zc_Mod_rename 77 = .ok (.aload_n 0, 1) := by decide +kernel
theorem zd_Mod_rename_78 : decode zc_Mod_rename 78 = .ok (.getfield 13, 3) := by decide +kernel
theorem zd_Mod_rename_81 : decode zc_Mod_rename 81 = .ok (.iload_n 2, 1) := by decide +kernel
theorem zd_Mod_rename_82 : decode zc_Mod_rename 82 = .ok (.iaload, 1) := by decide +kernel
theorem zd_Mod_rename_83 : decode zc_Mod_rename 83 = .ok (.invokevirtual 119, 3) := by decide +kernel
theorem zd_Mod_rename_86 : decode zc_Mod_rename 86 = .ok (.istore_n 3, 1) := by decide +kernel
theorem zd_Mod_rename_87 : decode zc_Mod_rename 87 = .ok (.aload_n 0, 1) := by decide +kernel
theorem zd_Mod_rename_88 : decode zc_Mod_rename 88 = .ok (.iconst (-1), 1) := by decide +kernel
theorem zd_Mod_rename_89 : decode zc_Mod_rename 89 = .ok (.invokevirtual 94, 3) := by decide +kernel
theorem zd_Mod_rename_92 : decode zc_Mod_rename 92 = .ok (.aload_n 0, 1) := by decide +kernel
theorem zd_Mod_rename_93 : decode zc_Mod_rename 93 = .ok (.invokevirtual 91, 3) := by decide +kernel
theorem zd_Mod_rename_96 : decode zc_Mod_rename 96 = .ok (.iload_n 3, 1) := by decide +kernel
theorem zd_Mod_rename_97 : decode zc_Mod_rename 97 = .ok (.aload_n 0, 1) := by decide +kernel
theorem zd_Mod_rename_98 : decode zc_Mod_rename 98 = .ok (.iload_n 1, 1) := by decide +kernel
theorem zd_Mod_rename_99 : decode zc_Mod_rename 99 = .ok (.invokestatic 83, 3) := by decide +kernel
theorem zd_Mod_rename_102 : decode zc_Mod_rename 102 = .ok (.iconst 2, 1) := by decide +kernel
theorem zd_Mod_rename_103 : decode zc_Mod_rename 103 = .ok (.iload_n 1, 1) := by decide +kernel
theorem zd_Mod_rename_104 : decode zc_Mod_rename 104 = .ok (.invokestatic 83, 3) := by decide +kernel
theorem zd_Mod_rename_107 : decode zc_Mod_rename 107 = .ok (.iconst 2, 1) := by decide +kernel
theorem zd_Mod_rename_108 : decode zc_Mod_rename 108 = .ok (.invokevirtual 119, 3) := by decide +kernel
theorem zd_Mod_rename_111 : decode zc_Mod_rename 111 = .ok (.iadd, 1) := by decide +kernel
theorem zd_Mod_rename_112 : decode zc_Mod_rename 112 = .ok (.istore_n 3, 1) := by decide +kernel
theorem zd_Mod_rename_113 : decode zc_Mod_rename 113 = .ok (.aload_n 0, 1) := by decide +kernel
theorem zd_Mod_rename_114 : decode zc_Mod_rename 114 = .ok (.iload_n 3, 1) := by decide +kernel
theorem zd_Mod_rename_115 : decode zc_Mod_rename 115 = .ok (.invokevirtual 122, 3) := by decide +kernel
theorem zd_Mod_rename_118 : decode zc_Mod_rename 118 = .ok (.istore 4, 2) := by decide +kernel
theorem zd_Mod_rename_120 : decode zc_Mod_rename 120 = .ok (.iload 4, 2) := by decide +kernel
theorem zd_Mod_rename_122 : decode zc_Mod_rename 122 = .ok (.ifCond .ge 6, 3) := by decide +kernel
theorem zd_Mod_rename_125 : decode zc_Mod_rename 125 = .ok (.iload 4, 2) := by decide +kernel
theorem zd_Mod_rename_127 : decode zc_Mod_rename 127 = .ok (.ireturn, 1) := by decide +kernel
theorem zd_Mod_rename_128 : decode zc_Mod_rename 128 = .ok (.aload_n 0, 1) := by decide +kernel
theorem zd_Mod_rename_129 : decode zc_Mod_rename 129 = .ok (.getfield 7, 3) := by decide +kernel
theorem zd_Mod_rename_132 : decode zc_Mod_rename 132 = .ok (.iload_n 2, 1) := by decide +kernel
theorem zd_Mod_rename_133 : decode zc_Mod_rename 133 = .ok (.aload_n 0, 1) := by decide +kernel
theorem zd_Mod_rename_134 : decode zc_Mod_rename 134 = .ok (.getfield 25, 3) := by decide +kernel
theorem zd_Mod_rename_137 : decode zc_Mod_rename 137 = .ok (.lastore, 1) := by decide +kernel
theorem zd_Mod_rename_138 : decode zc_Mod_rename 138 = .ok (.aload_n 0, 1) := by decide +kernel
theorem zd_Mod_rename_139 : decode zc_Mod_rename 139 = .ok (.getfield 13, 3) := by decide +kernel
theorem zd_Mod_rename_142 : decode zc_Mod_rename 142 = .ok (.iload_n 2, 1) := by decide +kernel
theorem zd_Mod_rename_143 : decode zc_Mod_rename 143 = .ok (.aload_n 0, 1) := by decide +kernel
theorem zd_Mod_rename_144 : decode zc_Mod_rename 144 = .ok (.getfield 29, 3) := by decide +kernel
theorem zd_Mod_rename_147 : decode zc_Mod_rename 147 = .ok (.iastore, 1) := by decide +kernel
theorem zd_Mod_rename_148 : decode zc_Mod_rename 148 = .ok (.iload_n 1, 1) := by decide +kernel
theorem zd_Mod_rename_149 : decode zc_Mod_rename 149 = .ok (.ireturn, 1) := by decide +kernel
theorem zd_Mod_find_0 : decode zc_Mod_find 0 = .ok (.aload_n 0, 1) := by decide +kernel
theorem zd_Mod_find_1 : decode zc_Mod_find 1 = .ok (.aload_n 0, 1) := by decide +kernel
theorem zd_Mod_find_2 : decode zc_Mod_find 2 = .ok (.getfield 25, 3) := by decide +kernel
theorem zd_Mod_find_5 : decode zc_Mod_find 5 = .ok (.aload_n 0, 1) := by decide +kernel
theorem zd_Mod_find_6 : decode zc_Mod_find 6 = .ok (.getfield 29, 3) := by decide +kernel
theorem zd_Mod_find_9 : decode zc_Mod_find 9 = .ok (.invokevirtual 112, 3) := by decide +kernel
theorem zd_Mod_find_12 : decode zc_Mod_find 12 = .ok (.istore_n 1, 1) := by decide +kernel
theorem zd_Mod_find_13 : decode zc_Mod_find 13 = .ok (.aload_n 0, 1) := by decide +kernel
theorem zd_Mod_find_14 : decode zc_Mod_find 14 = .ok (.iload_n 1, 1) := by decide +kernel
theorem zd_Mod_find_15 : decode zc_Mod_find 15 = .ok (.ifCond .ge 7, 3) := by decide +kernel
theorem zd_Mod_find_18 : decode zc_Mod_find 18 = .ok (.iconst 1, 1) := by decide +kernel
theorem zd_Mod_find_19 : decode zc_Mod_find 19 = .ok (.goto 4, 3) := by decide +kernel
theorem zd_Mod_find_22 : decode zc_Mod_find 22 = .ok (.iconst 0, 1) := by decide +kernel
theorem zd_Mod_find_23 : decode zc_Mod_find 23 = .ok (.invokevirtual 108, 3) := by decide +kernel
theorem zd_Mod_find_26 : decode zc_Mod_find 26 = .ok (.ifCond .eq 7, 3) := by decide +kernel
theorem zd_Mod_find_29 : decode zc_Mod_find 29 = .ok (.iconst 0, 1) := by decide +kernel
theorem zd_Mod_find_30 : decode zc_Mod_find 30 = .ok (.goto 9, 3) := by decide +kernel
theorem zd_Mod_find_33 : decode zc_Mod_find 33 = .ok (.aload_n 0, 1) := by decide +kernel
theorem zd_Mod_find_34 : decode zc_Mod_find 34 = .ok (.getfield 20, 3) := by decide +kernel
theorem zd_Mod_find_37 : decode zc_Mod_find 37 = .ok (.iload_n 1, 1) := by decide +kernel
theorem zd_Mod_find_38 : decode zc_Mod_find 38 = .ok (.iaload, 1) := by decide +kernel
theorem zd_Mod_find_39 : decode zc_Mod_find 39 = .ok (.ireturn, 1) := by decide +kernel
theorem zd_Mod_serial_0 : decode zc_Mod_serial 0 = .ok (.aload_n 0, 1) := by decide +kernel
theorem zd_Mod_serial_1 : decode zc_Mod_serial 1 = .ok (.aload_n 0, 1) := by decide +kernel
theorem zd_Mod_serial_2 : decode zc_Mod_serial 2 = .ok (.getfield 25, 3) := by decide +kernel
theorem zd_Mod_serial_5 : decode zc_Mod_serial 5 = .ok (.aload_n 0, 1) := by decide +kernel
theorem zd_Mod_serial_6 : decode zc_Mod_serial 6 = .ok (.getfield 29, 3) := by decide +kernel
theorem zd_Mod_serial_9 : decode zc_Mod_serial 9 = .ok (.invokevirtual 112, 3) := by decide +kernel
theorem zd_Mod_serial_12 : decode zc_Mod_serial 12 = .ok (.istore_n 1, 1) := by decide +kernel
theorem zd_Mod_serial_13 : decode zc_Mod_serial 13 = .ok (.aload_n 0, 1) := by decide +kernel
theorem zd_Mod_serial_14 : decode zc_Mod_serial 14 = .ok (.iconst 0, 1) := by decide +kernel
theorem zd_Mod_serial_15 : decode zc_Mod_serial 15 = .ok (.invokevirtual 108, 3) := by decide +kernel
theorem zd_Mod_serial_18 : decode zc_Mod_serial 18 = .ok (.ifCond .eq 7, 3) := by decide +kernel
theorem zd_Mod_serial_21 : decode zc_Mod_serial 21 = .ok (.iconst 0, 1) := by decide +kernel
theorem zd_Mod_serial_22 : decode zc_Mod_serial 22 = .ok (.goto 17, 3) := by decide +kernel
theorem zd_Mod_serial_25 : decode zc_Mod_serial 25 = .ok (.iload_n 1, 1) := by decide +kernel
theorem zd_Mod_serial_26 : decode zc_Mod_serial 26 = .ok (.ifCond .ge 7, 3) := by decide +kernel
theorem zd_Mod_serial_29 : decode zc_Mod_serial 29 = .ok (.iconst (-1), 1) := by decide +kernel
theorem zd_Mod_serial_30 : decode zc_Mod_serial 30 = .ok (.goto 9, 3) := by decide +kernel
theorem zd_Mod_serial_33 : decode zc_Mod_serial 33 = .ok (.aload_n 0, 1) := by decide +kernel
theorem zd_Mod_serial_34 : decode zc_Mod_serial 34 = .ok (.getfield 17, 3) := by decide +kernel
theorem zd_Mod_serial_37 : decode zc_Mod_serial 37 = .ok (.iload_n 1, 1) := by decide +kernel
theorem zd_Mod_serial_38 : decode zc_Mod_serial 38 = .ok (.iaload, 1) := by decide +kernel
theorem zd_Mod_serial_39 : decode zc_Mod_serial 39 = .ok (.ireturn, 1) := by decide +kernel
theorem zd_Mod_next_0 : decode zc_Mod_next 0 = .ok (.aload_n 0, 1) := by decide +kernel
theorem zd_Mod_next_1 : decode zc_Mod_next 1 = .ok (.iconst 0, 1) := by decide +kernel
theorem zd_Mod_next_2 : decode zc_Mod_next 2 = .ok (.invokevirtual 108, 3) := by decide +kernel
theorem zd_Mod_next_5 : decode zc_Mod_next 5 = .ok (.ifCond .eq 5, 3) := by decide +kernel
theorem zd_Mod_next_8 : decode zc_Mod_next 8 = .ok (.iconst 0, 1) := by decide +kernel
theorem zd_Mod_next_9 : decode zc_Mod_next 9 = .ok (.ireturn, 1) := by decide +kernel
theorem zd_Mod_next_10 : decode zc_Mod_next 10 = .ok (.iconst (-1), 1) := by decide +kernel
theorem zd_Mod_next_11 : decode zc_Mod_next 11 = .ok (.istore_n 2, 1) := by decide +kernel
theorem zd_Mod_next_12 : decode zc_Mod_next 12 = .ok (.iconst 0, 1) := by decide +kernel
theorem zd_Mod_next_13 : decode zc_Mod_next 13 = .ok (.istore_n 3, 1) := by decide +kernel
theorem zd_Mod_next_14 : decode zc_Mod_next 14 = .ok (.iload_n 3, 1) := by decide +kernel
theorem zd_Mod_next_15 : decode zc_Mod_next 15 = .ok (.aload_n 0, 1) := by decide +kernel
theorem zd_Mod_next_16 : decode zc_Mod_next 16 = .ok (.getfield 48, 3) := by decide +kernel
theorem zd_Mod_next_19 : decode zc_Mod_next 19 = .ok (.if_icmp .ge 44, 3) := by decide +kernel
theorem zd_Mod_next_22 : decode zc_Mod_next 22 = .ok (.aload_n 0, 1) := by decide +kernel
theorem zd_Mod_next_23 : decode zc_Mod_next 23 = .ok (.getfield 17, 3) := by decide +kernel
theorem zd_Mod_next_26 : decode zc_Mod_next 26 = .ok (.iload_n 3, 1) := by decide +kernel
theorem zd_Mod_next_27 : decode zc_Mod_next 27 = .ok (.iaload, 1) := by decide +kernel
theorem zd_Mod_next_28 : decode zc_Mod_next 28 = .ok (.iload_n 1, 1) := by decide +kernel
theorem zd_Mod_next_29 : decode zc_Mod_next 29 = .ok (.if_icmp .le 26, 3) := by decide +kernel
theorem zd_Mod_next_32 : decode zc_Mod_next 32 = .ok (.iload_n 2, 1) := by decide +kernel
theorem zd_Mod_next_33 : decode zc_Mod_next 33 = .ok (.ifCond .lt 13, 3) := by decide +kernel
theorem zd_Mod_next_36 : decode zc_Mod_next 36 = .ok (.aload_n 0, 1) := by decide +kernel
theorem zd_Mod_next_37 : decode zc_Mod_next 37 = .ok (.getfield 17, 3) := by decide +kernel
theorem zd_Mod_next_40 : decode zc_Mod_next 40 = .ok (.iload_n 3, 1) := by decide +kernel
theorem zd_Mod_next_41 : decode zc_Mod_next 41 = .ok (.iaload, 1) := by decide +kernel
theorem zd_Mod_next_42 : decode zc_Mod_next 42 = .ok (.iload_n 2, 1) := by decide +kernel
theorem zd_Mod_next_43 : decode zc_Mod_next 43 = .ok (.if_icmp .ge 12, 3) := by decide +kernel
theorem zd_Mod_next_46 : decode zc_Mod_next 46 = .ok (.aload_n 0, 1) := by decide +kernel
theorem zd_Mod_next_47 : decode zc_Mod_next 47 = .ok (.getfield 17, 3) := by decide +kernel
theorem zd_Mod_next_50 : decode zc_Mod_next 50 = .ok (.iload_n 3, 1) := by decide +kernel
theorem zd_Mod_next_51 : decode zc_Mod_next 51 = .ok (.iaload, 1) := by decide +kernel
theorem zd_Mod_next_52 : decode zc_Mod_next 52 = .ok (.goto 4, 3) := by decide +kernel
theorem zd_Mod_next_55 : decode zc_Mod_next 55 = .ok (.iload_n 2, 1) := by decide +kernel
theorem zd_Mod_next_56 : decode zc_Mod_next 56 = .ok (.istore_n 2, 1) := by decide +kernel
theorem zd_Mod_next_57 : decode zc_Mod_next 57 = .ok (.iinc 3 1, 3) := by decide +kernel
theorem zd_Mod_next_60 : decode zc_Mod_next 60 = .ok (.goto (-46), 3) := by decide +kernel
theorem zd_Mod_next_63 : decode zc_Mod_next 63 = .ok (.aload_n 0, 1) := by decide +kernel
theorem zd_Mod_next_64 : decode zc_Mod_next 64 = .ok (.iload_n 2, 1) := by decide +kernel
theorem zd_Mod_next_65 : decode zc_Mod_next 65 = .ok (.ifCond .ge 7, 3) := by decide +kernel
theorem zd_Mod_next_68 : decode zc_Mod_next 68 = .ok (.iconst 0, 1) := by decide +kernel
theorem zd_Mod_next_69 : decode zc_Mod_next 69 = .ok (.goto 4, 3) := by decide +kernel
theorem zd_Mod_next_72 : decode zc_Mod_next 72 = .ok (.iload_n 2, 1) := by decide +kernel
theorem zd_Mod_next_73 : decode zc_Mod_next 73 = .ok (.putfield 129, 3) := by decide +kernel
theorem zd_Mod_next_76 : decode zc_Mod_next 76 = .ok (.iload_n 2, 1) := by decide +kernel
theorem zd_Mod_next_77 : decode zc_Mod_next 77 = .ok (.ireturn, 1) := by decide +kernel
theorem zd_Mod_before_0 : decode zc_Mod_before 0 = .ok (.iconst 0, 1) := by decide +kernel
theorem zd_Mod_before_1 : decode zc_Mod_before 1 = .ok (.istore_n 3, 1) := by decide +kernel
theorem zd_Mod_before_2 : decode zc_Mod_before 2 = .ok (.iconst 0, 1) := by decide +kernel
theorem zd_Mod_before_3 : decode zc_Mod_before 3 = .ok (.istore 4, 2) := by decide +kernel
theorem zd_Mod_before_5 : decode zc_Mod_before 5 = .ok (.iload 4, 2) := by decide +kernel
theorem zd_Mod_before_7 : decode zc_Mod_before 7 = .ok (.aload_n 0, 1) := by decide +kernel
theorem zd_Mod_before_8 : decode zc_Mod_before 8 = .ok (.getfield 48, 3) := by decide +kernel
theorem zd_Mod_before_11 : decode zc_Mod_before 11 = .ok (.if_icmp .ge 82, 3) := by decide +kernel
theorem zd_Mod_before_14 : decode zc_Mod_before 14 = .ok (.aload_n 0, 1) := by decide +kernel
theorem zd_Mod_before_15 : decode zc_Mod_before 15 = .ok (.getfield 25, 3) := by decide +kernel
theorem zd_Mod_before_18 : decode zc_Mod_before 18 = .ok (.iload_n 2, 1) := by decide +kernel
theorem zd_Mod_before_19 : decode zc_Mod_before 19 = .ok (.invokestatic 58, 3) := by decide +kernel
theorem zd_Mod_before_22 : decode zc_Mod_before 22 = .ok (.iload_n 2, 1) := by decide +kernel
theorem zd_Mod_before_23 : decode zc_Mod_before 23 = .ok (.aload_n 0, 1) := by decide +kernel
theorem zd_Mod_before_24 : decode zc_Mod_before 24 = .ok (.getfield 7, 3) := by decide +kernel
theorem zd_Mod_before_27 : decode zc_Mod_before 27 = .ok (.iload 4, 2) := by decide +kernel
theorem zd_Mod_before_29 : decode zc_Mod_before 29 = .ok (.laload, 1) := by decide +kernel
theorem zd_Mod_before_30 : decode zc_Mod_before 30 = .ok (.aload_n 0, 1) := by decide +kernel
theorem zd_Mod_before_31 : decode zc_Mod_before 31 = .ok (.getfield 13, 3) := by decide +kernel
theorem zd_Mod_before_34 : decode zc_Mod_before 34 = .ok (.iload 4, 2) := by decide +kernel
theorem zd_Mod_before_36 : decode zc_Mod_before 36 = .ok (.iaload, 1) := by decide +kernel
theorem zd_Mod_before_37 : decode zc_Mod_before 37 = .ok (.invokestatic 76, 3) := by decide +kernel
theorem zd_Mod_before_40 : decode zc_Mod_before 40 = .ok (.istore 5, 2) := by decide +kernel
theorem zd_Mod_before_42 : decode zc_Mod_before 42 = .ok (.iload 5, 2) := by decide +kernel
theorem zd_Mod_before_44 : decode zc_Mod_before 44 = .ok (.ifCond .eq 41, 3) := by decide +kernel
theorem zd_Mod_before_47 : decode zc_Mod_before 47 = .ok (.aload_n 0, 1) := by decide +kernel
theorem zd_Mod_before_48 : decode zc_Mod_before 48 = .ok (.getfield 7, 3) := by decide +kernel
theorem zd_Mod_before_51 : decode zc_Mod_before 51 = .ok (.iload 4, 2) := by decide +kernel
theorem zd_Mod_before_53 : decode zc_Mod_before 53 = .ok (.laload, 1) := by decide +kernel
theorem zd_Mod_before_54 : decode zc_Mod_before 54 = .ok (.aload_n 0, 1) := by decide +kernel
theorem zd_Mod_before_55 : decode zc_Mod_before 55 = .ok (.getfield 13, 3) := by decide +kernel
theorem zd_Mod_before_58 : decode zc_Mod_before 58 = .ok (.iload 4, 2) := by decide +kernel
theorem zd_Mod_before_60 : decode zc_Mod_before 60 = .ok (.iaload, 1) := by decide +kernel
theorem zd_Mod_before_61 : decode zc_Mod_before 61 = .ok (.aload_n 0, 1) := by decide +kernel
theorem zd_Mod_before_62 : decode zc_Mod_before 62 = .ok (.getfield 7, 3) := by decide +kernel
theorem zd_Mod_before_65 : decode zc_Mod_before 65 = .ok (.iload_n 1, 1) := by decide +kernel
theorem zd_Mod_before_66 : decode zc_Mod_before 66 = .ok (.laload, 1) := by decide +kernel
theorem zd_Mod_before_67 : decode zc_Mod_before 67 = .ok (.aload_n 0, 1) := by decide +kernel
theorem zd_Mod_before_68 : decode zc_Mod_before 68 = .ok (.getfield 13, 3) := by decide +kernel
theorem zd_Mod_before_71 : decode zc_Mod_before 71 = .ok (.iload_n 1, 1) := by decide +kernel
theorem zd_Mod_before_72 : decode zc_Mod_before 72 = .ok (.iaload, 1) := by decide +kernel
theorem zd_Mod_before_73 : decode zc_Mod_before 73 = .ok (.invokestatic 132, 3) := by decide +kernel
theorem zd_Mod_before_76 : decode zc_Mod_before 76 = .ok (.ifCond .eq 9, 3) := by decide +kernel
theorem zd_Mod_before_79 : decode zc_Mod_before 79 = .ok (.iload_n 3, 1) := by decide +kernel
theorem zd_Mod_before_80 : decode zc_Mod_before 80 = .ok (.iconst 1, 1) := by decide +kernel
theorem zd_Mod_before_81 : decode zc_Mod_before 81 = .ok (.iadd, 1) := by decide +kernel
theorem zd_Mod_before_82 : decode zc_Mod_before 82 = .ok (.goto 4, 3) := by decide +kernel
theorem zd_Mod_before_85 : decode zc_Mod_before 85 = .ok (.iload_n 3, 1) := by decide +kernel
theorem zd_Mod_before_86 : decode zc_Mod_before 86 = .ok (.istore_n 3, 1) := by decide +kernel
theorem zd_Mod_before_87 : decode zc_Mod_before 87 = .ok (.iinc 4 1, 3) := by decide +kernel
theorem zd_Mod_before_90 : decode zc_Mod_before 90 = .ok (.goto (-85), 3) := by decide +kernel
theorem zd_Mod_before_93 : decode zc_Mod_before 93 = .ok (.iload_n 3, 1) := by decide +kernel
theorem zd_Mod_before_94 : decode zc_Mod_before 94 = .ok (.ireturn, 1) := by decide +kernel
theorem zd_Mod_listed_0 : decode zc_Mod_listed 0 = .ok (.aload_n 0, 1) := by decide +kernel
theorem zd_Mod_listed_1 : decode zc_Mod_listed 1 = .ok (.iload_n 2, 1) := by decide +kernel
theorem zd_Mod_listed_2 : decode zc_Mod_listed 2 = .ok (.ifCond .lt 11, 3) := by decide +kernel
theorem zd_Mod_listed_5 : decode zc_Mod_listed 5 = .ok (.iload_n 2, 1) := by decide +kernel
theorem zd_Mod_listed_6 : decode zc_Mod_listed 6 = .ok (.aload_n 0, 1) := by decide +kernel
theorem zd_Mod_listed_7 : decode zc_Mod_listed 7 = .ok (.getfield 29, 3) := by decide +kernel
theorem zd_Mod_listed_10 : decode zc_Mod_listed 10 = .ok (.if_icmp .le 7, 3) := by decide +kernel
theorem zd_Mod_listed_13 : decode zc_Mod_listed 13 = .ok (.iconst 1, 1) := by decide +kernel
theorem zd_Mod_listed_14 : decode zc_Mod_listed 14 = .ok (.goto 4, 3) := by decide +kernel
theorem zd_Mod_listed_17 : decode zc_Mod_listed 17 = .ok (.iconst 0, 1) := by decide +kernel
theorem zd_Mod_listed_18 : decode zc_Mod_listed 18 = .ok (.invokevirtual 108, 3) := by decide +kernel
theorem zd_Mod_listed_21 : decode zc_Mod_listed 21 = .ok (.ifCond .eq 5, 3) := by decide +kernel
theorem zd_Mod_listed_24 : decode zc_Mod_listed 24 = .ok (.iconst 0, 1) := by decide +kernel
theorem zd_Mod_listed_25 : decode zc_Mod_listed 25 = .ok (.ireturn, 1) := by decide +kernel
theorem zd_Mod_listed_26 : decode zc_Mod_listed 26 = .ok (.aload_n 0, 1) := by decide +kernel
theorem zd_Mod_listed_27 : decode zc_Mod_listed 27 = .ok (.iconst 0, 1) := by decide +kernel
theorem zd_Mod_listed_28 : decode zc_Mod_listed 28 = .ok (.putfield 129, 3) := by decide +kernel
theorem zd_Mod_listed_31 : decode zc_Mod_listed 31 = .ok (.iconst 0, 1) := by decide +kernel
theorem zd_Mod_listed_32 : decode zc_Mod_listed 32 = .ok (.istore_n 3, 1) := by decide +kernel
theorem zd_Mod_listed_33 : decode zc_Mod_listed 33 = .ok (.iload_n 3, 1) := by decide +kernel
theorem zd_Mod_listed_34 : decode zc_Mod_listed 34 = .ok (.aload_n 0, 1) := by decide +kernel
theorem zd_Mod_listed_35 : decode zc_Mod_listed 35 = .ok (.getfield 48, 3) := by decide +kernel
theorem zd_Mod_listed_38 : decode zc_Mod_listed 38 = .ok (.if_icmp .ge 56, 3) := by decide +kernel
theorem zd_Mod_listed_41 : decode zc_Mod_listed 41 = .ok (.aload_n 0, 1) := by decide +kernel
theorem zd_Mod_listed_42 : decode zc_Mod_listed 42 = .ok (.getfield 25, 3) := by decide +kernel
theorem zd_Mod_listed_45 : decode zc_Mod_listed 45 = .ok (.iload_n 2, 1) := by decide +kernel
theorem zd_Mod_listed_46 : decode zc_Mod_listed 46 = .ok (.invokestatic 58, 3) := by decide +kernel
theorem zd_Mod_listed_49 : decode zc_Mod_listed 49 = .ok (.iload_n 2, 1) := by decide +kernel
theorem zd_Mod_listed_50 : decode zc_Mod_listed 50 = .ok (.aload_n 0, 1) := by decide +kernel
theorem zd_Mod_listed_51 : decode zc_Mod_listed 51 = .ok (.getfield 7, 3) := by decide +kernel
theorem zd_Mod_listed_54 : decode zc_Mod_listed 54 = .ok (.iload_n 3, 1) := by decide +kernel
theorem zd_Mod_listed_55 : decode zc_Mod_listed 55 = .ok (.laload, 1) := by decide +kernel
theorem zd_Mod_listed_56 : decode zc_Mod_listed 56 = .ok (.aload_n 0, 1) := by decide +kernel
theorem zd_Mod_listed_57 : decode zc_Mod_listed 57 = .ok (.getfield 13, 3) := by decide +kernel
theorem zd_Mod_listed_60 : decode zc_Mod_listed 60 = .ok (.iload_n 3, 1) := by decide +kernel
theorem zd_Mod_listed_61 : decode zc_Mod_listed 61 = .ok (.iaload, 1) := by decide +kernel
theorem zd_Mod_listed_62 : decode zc_Mod_listed 62 = .ok (.invokestatic 76, 3) := by decide +kernel
theorem zd_Mod_listed_65 : decode zc_Mod_listed 65 = .ok (.ifCond .eq 23, 3) := by decide +kernel
theorem zd_Mod_listed_68 : decode zc_Mod_listed 68 = .ok (.aload_n 0, 1) := by decide +kernel
theorem zd_Mod_listed_69 : decode zc_Mod_listed 69 = .ok (.iload_n 3, 1) := by decide +kernel
theorem zd_Mod_listed_70 : decode zc_Mod_listed 70 = .ok (.iload_n 2, 1) := by decide +kernel
theorem zd_Mod_listed_71 : decode zc_Mod_listed 71 = .ok (.invokevirtual 135, 3) := by decide +kernel
theorem zd_Mod_listed_74 : decode zc_Mod_listed 74 = .ok (.iload_n 1, 1) := by decide +kernel
theorem zd_Mod_listed_75 : decode zc_Mod_listed 75 = .ok (.if_icmp .ne 13, 3) := by decide +kernel
theorem zd_Mod_listed_78 : decode zc_Mod_listed 78 = .ok (.aload_n 0, 1) := by decide +kernel
theorem zd_Mod_listed_79 : decode zc_Mod_listed 79 = .ok (.aload_n 0, 1) := by decide +kernel
theorem zd_Mod_listed_80 : decode zc_Mod_listed 80 = .ok (.getfield 17, 3) := by decide +kernel
theorem zd_Mod_listed_83 : decode zc_Mod_listed 83 = .ok (.iload_n 3, 1) := by decide +kernel
theorem zd_Mod_listed_84 : decode zc_Mod_listed 84 = .ok (.iaload, 1) := by decide +kernel
theorem zd_Mod_listed_85 : decode zc_Mod_listed 85 = .ok (.putfield 129, 3) := by decide +kernel
theorem zd_Mod_listed_88 : decode zc_Mod_listed 88 = .ok (.iinc 3 1, 3) := by decide +kernel
theorem zd_Mod_listed_91 : decode zc_Mod_listed 91 = .ok (.goto (-58), 3) := by decide +kernel
theorem zd_Mod_listed_94 : decode zc_Mod_listed 94 = .ok (.aload_n 0, 1) := by decide +kernel
theorem zd_Mod_listed_95 : decode zc_Mod_listed 95 = .ok (.getfield 129, 3) := by decide +kernel
theorem zd_Mod_listed_98 : decode zc_Mod_listed 98 = .ok (.ifCond .ne 7, 3) := by decide +kernel
theorem zd_Mod_listed_101 : decode zc_Mod_listed 101 = .ok (.iconst (-1), 1) := by decide +kernel
theorem zd_Mod_listed_102 : decode zc_Mod_listed 102 = .ok (.goto 7, 3) := by decide +kernel
theorem zd_Mod_listed_105 : decode zc_Mod_listed 105 = .ok (.aload_n 0, 1) := by decide +kernel
theorem zd_Mod_listed_106 : decode zc_Mod_listed 106 = .ok (.getfield 129, 3) := by decide +kernel
theorem zd_Mod_listed_109 : decode zc_Mod_listed 109 = .ok (.ireturn, 1) := by decide +kernel
theorem zd_Mod_rank_0 : decode zc_Mod_rank 0 = .ok (.aload_n 0, 1) := by decide +kernel
theorem zd_Mod_rank_1 : decode zc_Mod_rank 1 = .ok (.iconst 0, 1) := by decide +kernel
theorem zd_Mod_rank_2 : decode zc_Mod_rank 2 = .ok (.invokevirtual 108, 3) := by decide +kernel
theorem zd_Mod_rank_5 : decode zc_Mod_rank 5 = .ok (.ifCond .eq 5, 3) := by decide +kernel
theorem zd_Mod_rank_8 : decode zc_Mod_rank 8 = .ok (.iconst 0, 1) := by decide +kernel
theorem zd_Mod_rank_9 : decode zc_Mod_rank 9 = .ok (.ireturn, 1) := by decide +kernel
theorem zd_Mod_rank_10 : decode zc_Mod_rank 10 = .ok (.iconst 0, 1) := by decide +kernel
theorem zd_Mod_rank_11 : decode zc_Mod_rank 11 = .ok (.istore_n 1, 1) := by decide +kernel
theorem zd_Mod_rank_12 : decode zc_Mod_rank 12 = .ok (.iconst 0, 1) := by decide +kernel
theorem zd_Mod_rank_13 : decode zc_Mod_rank 13 = .ok (.istore_n 2, 1) := by decide +kernel
theorem zd_Mod_rank_14 : decode zc_Mod_rank 14 = .ok (.iload_n 2, 1) := by decide +kernel
theorem zd_Mod_rank_15 : decode zc_Mod_rank 15 = .ok (.aload_n 0, 1) := by decide +kernel
theorem zd_Mod_rank_16 : decode zc_Mod_rank 16 = .ok (.getfield 48, 3) := by decide +kernel
theorem zd_Mod_rank_19 : decode zc_Mod_rank 19 = .ok (.if_icmp .ge 43, 3) := by decide +kernel
theorem zd_Mod_rank_22 : decode zc_Mod_rank 22 = .ok (.aload_n 0, 1) := by decide +kernel
theorem zd_Mod_rank_23 : decode zc_Mod_rank 23 = .ok (.getfield 7, 3) := by decide +kernel
theorem zd_Mod_rank_26 : decode zc_Mod_rank 26 = .ok (.iload_n 2, 1) := by decide +kernel
theorem zd_Mod_rank_27 : decode zc_Mod_rank 27 = .ok (.laload, 1) := by decide +kernel
theorem zd_Mod_rank_28 : decode zc_Mod_rank 28 = .ok (.aload_n 0, 1) := by decide +kernel
theorem zd_Mod_rank_29 : decode zc_Mod_rank 29 = .ok (.getfield 13, 3) := by decide +kernel
theorem zd_Mod_rank_32 : decode zc_Mod_rank 32 = .ok (.iload_n 2, 1) := by decide +kernel
theorem zd_Mod_rank_33 : decode zc_Mod_rank 33 = .ok (.iaload, 1) := by decide +kernel
theorem zd_Mod_rank_34 : decode zc_Mod_rank 34 = .ok (.aload_n 0, 1) := by decide +kernel
theorem zd_Mod_rank_35 : decode zc_Mod_rank 35 = .ok (.getfield 25, 3) := by decide +kernel
theorem zd_Mod_rank_38 : decode zc_Mod_rank 38 = .ok (.aload_n 0, 1) := by decide +kernel
theorem zd_Mod_rank_39 : decode zc_Mod_rank 39 = .ok (.getfield 29, 3) := by decide +kernel
theorem zd_Mod_rank_42 : decode zc_Mod_rank 42 = .ok (.invokestatic 132, 3) := by decide +kernel
theorem zd_Mod_rank_45 : decode zc_Mod_rank 45 = .ok (.ifCond .eq 9, 3) := by decide +kernel
theorem zd_Mod_rank_48 : decode zc_Mod_rank 48 = .ok (.iload_n 1, 1) := by decide +kernel
theorem zd_Mod_rank_49 : decode zc_Mod_rank 49 = .ok (.iconst 1, 1) := by decide +kernel
theorem zd_Mod_rank_50 : decode zc_Mod_rank 50 = .ok (.iadd, 1) := by decide +kernel
theorem zd_Mod_rank_51 : decode zc_Mod_rank 51 = .ok (.goto 4, 3) := by decide +kernel
theorem zd_Mod_rank_54 : decode zc_Mod_rank 54 = .ok (.iload_n 1, 1) := by decide +kernel
theorem zd_Mod_rank_55 : decode zc_Mod_rank 55 = .ok (.istore_n 1, 1) := by decide +kernel
theorem zd_Mod_rank_56 : decode zc_Mod_rank 56 = .ok (.iinc 2 1, 3) := by decide +kernel
theorem zd_Mod_rank_59 : decode zc_Mod_rank 59 = .ok (.goto (-45), 3) := by decide +kernel
theorem zd_Mod_rank_62 : decode zc_Mod_rank 62 = .ok (.iload_n 1, 1) := by decide +kernel
theorem zd_Mod_rank_63 : decode zc_Mod_rank 63 = .ok (.ireturn, 1) := by decide +kernel
theorem zd_Mod_found_0 : decode zc_Mod_found 0 = .ok (.aload_n 0, 1) := by decide +kernel
theorem zd_Mod_found_1 : decode zc_Mod_found 1 = .ok (.getfield 129, 3) := by decide +kernel
theorem zd_Mod_found_4 : decode zc_Mod_found 4 = .ok (.ifCond .ne 7, 3) := by decide +kernel
theorem zd_Mod_found_7 : decode zc_Mod_found 7 = .ok (.iconst (-1), 1) := by decide +kernel
theorem zd_Mod_found_8 : decode zc_Mod_found 8 = .ok (.goto 11, 3) := by decide +kernel
theorem zd_Mod_found_11 : decode zc_Mod_found 11 = .ok (.aload_n 0, 1) := by decide +kernel
theorem zd_Mod_found_12 : decode zc_Mod_found 12 = .ok (.aload_n 0, 1) := by decide +kernel
theorem zd_Mod_found_13 : decode zc_Mod_found 13 = .ok (.getfield 129, 3) := by decide +kernel
theorem zd_Mod_found_16 : decode zc_Mod_found 16 = .ok (.invokevirtual 126, 3) := by decide +kernel
theorem zd_Mod_found_19 : decode zc_Mod_found 19 = .ok (.istore_n 1, 1) := by decide +kernel
theorem zd_Mod_found_20 : decode zc_Mod_found 20 = .ok (.aload_n 0, 1) := by decide +kernel
theorem zd_Mod_found_21 : decode zc_Mod_found 21 = .ok (.iconst 0, 1) := by decide +kernel
theorem zd_Mod_found_22 : decode zc_Mod_found 22 = .ok (.invokevirtual 108, 3) := by decide +kernel
theorem zd_Mod_found_25 : decode zc_Mod_found 25 = .ok (.ifCond .ne 7, 3) := by decide +kernel
theorem zd_Mod_found_28 : decode zc_Mod_found 28 = .ok (.iload_n 1, 1) := by decide +kernel
theorem zd_Mod_found_29 : decode zc_Mod_found 29 = .ok (.ifCond .ge 7, 3) := by decide +kernel
theorem zd_Mod_found_32 : decode zc_Mod_found 32 = .ok (.lconst 0, 1) := by decide +kernel
theorem zd_Mod_found_33 : decode zc_Mod_found 33 = .ok (.goto 9, 3) := by decide +kernel
theorem zd_Mod_found_36 : decode zc_Mod_found 36 = .ok (.aload_n 0, 1) := by decide +kernel
theorem zd_Mod_found_37 : decode zc_Mod_found 37 = .ok (.getfield 7, 3) := by decide +kernel
theorem zd_Mod_found_40 : decode zc_Mod_found 40 = .ok (.iload_n 1, 1) := by decide +kernel
theorem zd_Mod_found_41 : decode zc_Mod_found 41 = .ok (.laload, 1) := by decide +kernel
theorem zd_Mod_found_42 : decode zc_Mod_found 42 = .ok (.lreturn, 1) := by decide +kernel
theorem zd_Mod_count_0 : decode zc_Mod_count 0 = .ok (.aload_n 0, 1) := by decide +kernel
theorem zd_Mod_count_1 : decode zc_Mod_count 1 = .ok (.iconst 0, 1) := by decide +kernel
theorem zd_Mod_count_2 : decode zc_Mod_count 2 = .ok (.invokevirtual 108, 3) := by decide +kernel
theorem zd_Mod_count_5 : decode zc_Mod_count 5 = .ok (.ifCond .eq 7, 3) := by decide +kernel
theorem zd_Mod_count_8 : decode zc_Mod_count 8 = .ok (.iconst 0, 1) := by decide +kernel
theorem zd_Mod_count_9 : decode zc_Mod_count 9 = .ok (.goto 7, 3) := by decide +kernel
theorem zd_Mod_count_12 : decode zc_Mod_count 12 = .ok (.aload_n 0, 1) := by decide +kernel
theorem zd_Mod_count_13 : decode zc_Mod_count 13 = .ok (.getfield 48, 3) := by decide +kernel
theorem zd_Mod_count_16 : decode zc_Mod_count 16 = .ok (.ireturn, 1) := by decide +kernel
theorem zd_Mod_free_0 : decode zc_Mod_free 0 = .ok (.aload_n 0, 1) := by decide +kernel
theorem zd_Mod_free_1 : decode zc_Mod_free 1 = .ok (.iconst 0, 1) := by decide +kernel
theorem zd_Mod_free_2 : decode zc_Mod_free 2 = .ok (.invokevirtual 108, 3) := by decide +kernel
theorem zd_Mod_free_5 : decode zc_Mod_free 5 = .ok (.ifCond .eq 7, 3) := by decide +kernel
theorem zd_Mod_free_8 : decode zc_Mod_free 8 = .ok (.iconst 0, 1) := by decide +kernel
theorem zd_Mod_free_9 : decode zc_Mod_free 9 = .ok (.goto 7, 3) := by decide +kernel
theorem zd_Mod_free_12 : decode zc_Mod_free 12 = .ok (.aload_n 0, 1) := by decide +kernel
theorem zd_Mod_free_13 : decode zc_Mod_free 13 = .ok (.invokevirtual 97, 3) := by decide +kernel
theorem zd_Mod_free_16 : decode zc_Mod_free 16 = .ok (.ireturn, 1) := by decide +kernel
theorem zd_Mod_writes_0 : decode zc_Mod_writes 0 = .ok (.aload_n 0, 1) := by decide +kernel
theorem zd_Mod_writes_1 : decode zc_Mod_writes 1 = .ok (.iconst 0, 1) := by decide +kernel
theorem zd_Mod_writes_2 : decode zc_Mod_writes 2 = .ok (.putfield 51, 3) := by decide +kernel
theorem zd_Mod_writes_5 : decode zc_Mod_writes 5 = .ok (.aload_n 0, 1) := by decide +kernel
theorem zd_Mod_writes_6 : decode zc_Mod_writes 6 = .ok (.getfield 101, 3) := by decide +kernel
theorem zd_Mod_writes_9 : decode zc_Mod_writes 9 = .ok (.ireturn, 1) := by decide +kernel
theorem zd_Mod_failAfter_0 : decode zc_Mod_failAfter 0 = .ok (.aload_n 0, 1) := by decide +kernel
theorem zd_Mod_failAfter_1 : decode zc_Mod_failAfter 1 = .ok (.iload_n 1, 1) := by decide +kernel
theorem zd_Mod_failAfter_2 : decode zc_Mod_failAfter 2 = .ok (.iconst (-1), 1) := by decide +kernel
theorem zd_Mod_failAfter_3 : decode zc_Mod_failAfter 3 = .ok (.if_icmp .ge 7, 3) := by decide +kernel
theorem zd_Mod_failAfter_6 : decode zc_Mod_failAfter 6 = .ok (.iconst 1, 1) := by decide +kernel
theorem zd_Mod_failAfter_7 : decode zc_Mod_failAfter 7 = .ok (.goto 4, 3) := by decide +kernel
theorem zd_Mod_failAfter_10 : decode zc_Mod_failAfter 10 = .ok (.iconst 0, 1) := by decide +kernel
theorem zd_Mod_failAfter_11 : decode zc_Mod_failAfter 11 = .ok (.putfield 51, 3) := by decide +kernel
theorem zd_Mod_failAfter_14 : decode zc_Mod_failAfter 14 = .ok (.aload_n 0, 1) := by decide +kernel
theorem zd_Mod_failAfter_15 : decode zc_Mod_failAfter 15 = .ok (.getfield 51, 3) := by decide +kernel
theorem zd_Mod_failAfter_18 : decode zc_Mod_failAfter 18 = .ok (.ifCond .ne 8, 3) := by decide +kernel
theorem zd_Mod_failAfter_21 : decode zc_Mod_failAfter 21 = .ok (.aload_n 0, 1) := by decide +kernel
theorem zd_Mod_failAfter_22 : decode zc_Mod_failAfter 22 = .ok (.iload_n 1, 1) := by decide +kernel
theorem zd_Mod_failAfter_23 : decode zc_Mod_failAfter 23 = .ok (.putfield 45, 3) := by decide +kernel
theorem zd_Mod_failAfter_26 : decode zc_Mod_failAfter 26 = .ok (.return_, 1) := by decide +kernel
theorem zd_Mod_start_0 : decode zc_Mod_start 0 = .ok (.aload_n 0, 1) := by decide +kernel
theorem zd_Mod_start_1 : decode zc_Mod_start 1 = .ok (.iconst 0, 1) := by decide +kernel
theorem zd_Mod_start_2 : decode zc_Mod_start 2 = .ok (.putfield 51, 3) := by decide +kernel
theorem zd_Mod_start_5 : decode zc_Mod_start 5 = .ok (.aload_n 0, 1) := by decide +kernel
theorem zd_Mod_start_6 : decode zc_Mod_start 6 = .ok (.getfield 104, 3) := by decide +kernel
theorem zd_Mod_start_9 : decode zc_Mod_start 9 = .ok (.ifCond .ne 5, 3) := by decide +kernel
theorem zd_Mod_start_12 : decode zc_Mod_start 12 = .ok (.iconst 0, 1) := by decide +kernel
theorem zd_Mod_start_13 : decode zc_Mod_start 13 = .ok (.ireturn, 1) := by decide +kernel
theorem zd_Mod_start_14 : decode zc_Mod_start 14 = .ok (.aload_n 0, 1) := by decide +kernel
theorem zd_Mod_start_15 : decode zc_Mod_start 15 = .ok (.iconst 0, 1) := by decide +kernel
theorem zd_Mod_start_16 : decode zc_Mod_start 16 = .ok (.putfield 104, 3) := by decide +kernel
theorem zd_Mod_start_19 : decode zc_Mod_start 19 = .ok (.aload_n 0, 1) := by decide +kernel
theorem zd_Mod_start_20 : decode zc_Mod_start 20 = .ok (.iconst (-1), 1) := by decide +kernel
theorem zd_Mod_start_21 : decode zc_Mod_start 21 = .ok (.putfield 45, 3) := by decide +kernel
theorem zd_Mod_start_24 : decode zc_Mod_start 24 = .ok (.aload_n 0, 1) := by decide +kernel
theorem zd_Mod_start_25 : decode zc_Mod_start 25 = .ok (.iconst 0, 1) := by decide +kernel
theorem zd_Mod_start_26 : decode zc_Mod_start 26 = .ok (.putfield 129, 3) := by decide +kernel
theorem zd_Mod_start_29 : decode zc_Mod_start 29 = .ok (.iconst 1, 1) := by decide +kernel
theorem zd_Mod_start_30 : decode zc_Mod_start 30 = .ok (.ireturn, 1) := by decide +kernel
theorem zd_Mod_isOn_0 : decode zc_Mod_isOn 0 = .ok (.aload_n 0, 1) := by decide +kernel
theorem zd_Mod_isOn_1 : decode zc_Mod_isOn 1 = .ok (.iconst 0, 1) := by decide +kernel
theorem zd_Mod_isOn_2 : decode zc_Mod_isOn 2 = .ok (.putfield 51, 3) := by decide +kernel
theorem zd_Mod_isOn_5 : decode zc_Mod_isOn 5 = .ok (.aload_n 0, 1) := by decide +kernel
theorem zd_Mod_isOn_6 : decode zc_Mod_isOn 6 = .ok (.getfield 104, 3) := by decide +kernel
theorem zd_Mod_isOn_9 : decode zc_Mod_isOn 9 = .ok (.ifCond .ne 7, 3) := by decide +kernel
theorem zd_Mod_isOn_12 : decode zc_Mod_isOn 12 = .ok (.iconst 1, 1) := by decide +kernel
theorem zd_Mod_isOn_13 : decode zc_Mod_isOn 13 = .ok (.goto 4, 3) := by decide +kernel
theorem zd_Mod_isOn_16 : decode zc_Mod_isOn 16 = .ok (.iconst 0, 1) := by decide +kernel
theorem zd_Mod_isOn_17 : decode zc_Mod_isOn 17 = .ok (.ireturn, 1) := by decide +kernel

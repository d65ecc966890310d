theorem zd_Lst_init_0 : decode zc_Lst_init 0 = .ok (.aload_n 0, 1) := by decide +kernel
theorem zd_Lst_init_1 : decode zc_Lst_init 1 = .ok (.invokespecial 1, 3) := by decide +kernel
theorem zd_Lst_init_4 : decode zc_Lst_init 4 = .ok (.aload_n 0, 1) := by decide +kernel
theorem zd_Lst_init_5 : decode zc_Lst_init 5 = .ok (.new 7, 3) := by decide +kernel
theorem zd_Lst_init_8 : decode zc_Lst_init 8 = .ok (.dup, 1) := by decide +kernel
theorem zd_Lst_init_9 : decode zc_Lst_init 9 = .ok (.invokespecial 9, 3) := by decide +kernel
theorem zd_Lst_init_12 : decode zc_Lst_init 12 = .ok (.putfield 10, 3) := by decide +kernel
theorem zd_Lst_init_15 : decode zc_Lst_init 15 = .ok (.aload_n 0, 1) := by decide +kernel
theorem zd_Lst_init_16 : decode zc_Lst_init 16 = .ok (.new 7, 3) := by decide +kernel
theorem zd_Lst_init_19 : decode zc_Lst_init 19 = .ok (.dup, 1) := by decide +kernel
theorem zd_Lst_init_20 : decode zc_Lst_init 20 = .ok (.invokespecial 9, 3) := by decide +kernel
theorem zd_Lst_init_23 : decode zc_Lst_init 23 = .ok (.putfield 16, 3) := by decide +kernel
theorem zd_Lst_init_26 : decode zc_Lst_init 26 = .ok (.aload_n 0, 1) := by decide +kernel
theorem zd_Lst_init_27 : decode zc_Lst_init 27 = .ok (.new 19, 3) := by decide +kernel
theorem zd_Lst_init_30 : decode zc_Lst_init 30 = .ok (.dup, 1) := by decide +kernel
theorem zd_Lst_init_31 : decode zc_Lst_init 31 = .ok (.invokespecial 21, 3) := by decide +kernel
theorem zd_Lst_init_34 : decode zc_Lst_init 34 = .ok (.putfield 22, 3) := by decide +kernel
theorem zd_Lst_init_37 : decode zc_Lst_init 37 = .ok (.aload_n 0, 1) := by decide +kernel
theorem zd_Lst_init_38 : decode zc_Lst_init 38 = .ok (.lconst 0, 1) := by decide +kernel
theorem zd_Lst_init_39 : decode zc_Lst_init 39 = .ok (.iconst 0, 1) := by decide +kernel
theorem zd_Lst_init_40 : decode zc_Lst_init 40 = .ok (.bipush 65, 2) := by decide +kernel
theorem zd_Lst_init_42 : decode zc_Lst_init 42 = .ok (.invokestatic 28, 3) := by decide +kernel
theorem zd_Lst_init_45 : decode zc_Lst_init 45 = .ok (.putfield 32, 3) := by decide +kernel
theorem zd_Lst_init_48 : decode zc_Lst_init 48 = .ok (.aload_n 0, 1) := by decide +kernel
theorem zd_Lst_init_49 : decode zc_Lst_init 49 = .ok (.iconst (-1), 1) := by decide +kernel
theorem zd_Lst_init_50 : decode zc_Lst_init 50 = .ok (.putfield 36, 3) := by decide +kernel
theorem zd_Lst_init_53 : decode zc_Lst_init 53 = .ok (.aload_n 0, 1) := by decide +kernel
theorem zd_Lst_init_54 : decode zc_Lst_init 54 = .ok (.iconst 0, 1) := by decide +kernel
theorem zd_Lst_init_55 : decode zc_Lst_init 55 = .ok (.putfield 40, 3) := by decide +kernel
theorem zd_Lst_init_58 : decode zc_Lst_init 58 = .ok (.return_, 1) := by decide +kernel
theorem zd_Lst_name_0 : decode zc_Lst_name 0 = .ok (.iload_n 3, 1) := by decide +kernel
theorem zd_Lst_name_1 : decode zc_Lst_name 1 = .ok (.iconst 1, 1) := by decide +kernel
theorem zd_Lst_name_2 : decode zc_Lst_name 2 = .ok (.if_icmp .lt 9, 3) := by decide +kernel
theorem zd_Lst_name_5 : decode zc_Lst_name 5 = .ok (.iload_n 3, 1) := by decide +kernel
theorem zd_Lst_name_6 : decode zc_Lst_name 6 = .ok (.bipush 7, 2) := by decide +kernel
theorem zd_Lst_name_8 : decode zc_Lst_name 8 = .ok (.if_icmp .le 11, 3) := by decide +kernel
theorem zd_Lst_name_11 : decode zc_Lst_name 11 = .ok (.new 43, 3) := by decide +kernel
theorem zd_Lst_name_14 : decode zc_Lst_name 14 = .ok (.dup, 1) := by decide +kernel
theorem zd_Lst_name_15 : decode zc_Lst_name 15 = .ok (.invokespecial 45, 3) := by decide +kernel
theorem zd_Lst_name_18 : decode zc_Lst_name 18 = .ok (.athrow, 1) := by decide +kernel
theorem zd_Lst_name_19 : decode zc_Lst_name 19 = .ok (.lconst 0, 1) := by decide +kernel
theorem zd_Lst_name_20 : decode zc_Lst_name 20 = .ok (.lstore 4, 2) := by decide +kernel
theorem zd_Lst_name_22 : decode zc_Lst_name 22 = .ok (.iconst 0, 1) := by decide +kernel
theorem zd_Lst_name_23 : decode zc_Lst_name 23 = .ok (.istore 6, 2) := by decide +kernel
theorem zd_Lst_name_25 : decode zc_Lst_name 25 = .ok (.iload 6, 2) := by decide +kernel
theorem zd_Lst_name_27 : decode zc_Lst_name 27 = .ok (.iload_n 3, 1) := by decide +kernel
theorem zd_Lst_name_28 : decode zc_Lst_name 28 = .ok (.if_icmp .ge 54, 3) := by decide +kernel
theorem zd_Lst_name_31 : decode zc_Lst_name 31 = .ok (.lload_n 1, 1) := by decide +kernel
theorem zd_Lst_name_32 : decode zc_Lst_name 32 = .ok (.bipush 8, 2) := by decide +kernel
theorem zd_Lst_name_34 : decode zc_Lst_name 34 = .ok (.iload 6, 2) := by decide +kernel
theorem zd_Lst_name_36 : decode zc_Lst_name 36 = .ok (.imul, 1) := by decide +kernel
theorem zd_Lst_name_37 : decode zc_Lst_name 37 = .ok (.lushr, 1) := by decide +kernel
theorem zd_Lst_name_38 : decode zc_Lst_name 38 = .ok (.l2i, 1) := by decide +kernel
theorem zd_Lst_name_39 : decode zc_Lst_name 39 = .ok (.sipush 255, 3) := by decide +kernel
theorem zd_Lst_name_42 : decode zc_Lst_name 42 = .ok (.iand, 1) := by decide +kernel
theorem zd_Lst_name_43 : decode zc_Lst_name 43 = .ok (.istore 7, 2) := by decide +kernel
theorem zd_Lst_name_45 : decode zc_Lst_name 45 = .ok (.iload 7, 2) := by decide +kernel
theorem zd_Lst_name_47 : decode zc_Lst_name 47 = .ok (.ifCond .eq 10, 3) := by decide +kernel
theorem zd_Lst_name_50 : decode zc_Lst_name 50 = .ok (.iload 7, 2) := by decide +kernel
theorem zd_Lst_name_52 : decode zc_Lst_name 52 = .ok (.bipush 47, 2) := by decide +kernel
theorem zd_Lst_name_54 : decode zc_Lst_name 54 = .ok (.if_icmp .ne 11, 3) := by decide +kernel
theorem zd_Lst_name_57 : decode zc_Lst_name 57 = .ok (.new 43, 3) := by decide +kernel
theorem zd_Lst_name_60 : decode zc_Lst_name 60 = .ok (.dup, 1) := by decide +kernel
theorem zd_Lst_name_61 : decode zc_Lst_name 61 = .ok (.invokespecial 45, 3) := by decide +kernel
theorem zd_Lst_name_64 : decode zc_Lst_name 64 = .ok (.athrow, 1) := by decide +kernel
theorem zd_Lst_name_65 : decode zc_Lst_name 65 = .ok (.lload 4, 2) := by decide +kernel
theorem zd_Lst_name_67 : decode zc_Lst_name 67 = .ok (.iload 6, 2) := by decide +kernel
theorem zd_Lst_name_69 : decode zc_Lst_name 69 = .ok (.iload 7, 2) := by decide +kernel
theorem zd_Lst_name_71 : decode zc_Lst_name 71 = .ok (.invokestatic 28, 3) := by decide +kernel
theorem zd_Lst_name_74 : decode zc_Lst_name 74 = .ok (.lstore 4, 2) := by decide +kernel
theorem zd_Lst_name_76 : decode zc_Lst_name 76 = .ok (.iinc 6 1, 3) := by decide +kernel
theorem zd_Lst_name_79 : decode zc_Lst_name 79 = .ok (.goto (-54), 3) := by decide +kernel
theorem zd_Lst_name_82 : decode zc_Lst_name 82 = .ok (.aload_n 0, 1) := by decide +kernel
theorem zd_Lst_name_83 : decode zc_Lst_name 83 = .ok (.lload 4, 2) := by decide +kernel
theorem zd_Lst_name_85 : decode zc_Lst_name 85 = .ok (.putfield 32, 3) := by decide +kernel
theorem zd_Lst_name_88 : decode zc_Lst_name 88 = .ok (.return_, 1) := by decide +kernel
theorem zd_Lst_add_0 : decode zc_Lst_add 0 = .ok (.aload_n 0, 1) := by decide +kernel
theorem zd_Lst_add_1 : decode zc_Lst_add 1 = .ok (.invokevirtual 46, 3) := by decide +kernel
theorem zd_Lst_add_4 : decode zc_Lst_add 4 = .ok (.aload_n 0, 1) := by decide +kernel
theorem zd_Lst_add_5 : decode zc_Lst_add 5 = .ok (.getfield 10, 3) := by decide +kernel
theorem zd_Lst_add_8 : decode zc_Lst_add 8 = .ok (.aload_n 0, 1) := by decide +kernel
theorem zd_Lst_add_9 : decode zc_Lst_add 9 = .ok (.getfield 32, 3) := by decide +kernel
theorem zd_Lst_add_12 : decode zc_Lst_add 12 = .ok (.invokevirtual 49, 3) := by decide +kernel
theorem zd_Lst_add_15 : decode zc_Lst_add 15 = .ok (.iconst (-1), 1) := by decide +kernel
theorem zd_Lst_add_16 : decode zc_Lst_add 16 = .ok (.if_icmp .eq 5, 3) := by decide +kernel
theorem zd_Lst_add_19 : decode zc_Lst_add 19 = .ok (.iconst (-1), 1) := by decide +kernel
theorem zd_Lst_add_20 : decode zc_Lst_add 20 = .ok (.ireturn, 1) := by decide +kernel
theorem zd_Lst_add_21 : decode zc_Lst_add 21 = .ok (.aload_n 0, 1) := by decide +kernel
theorem zd_Lst_add_22 : decode zc_Lst_add 22 = .ok (.getfield 10, 3) := by decide +kernel
theorem zd_Lst_add_25 : decode zc_Lst_add 25 = .ok (.invokevirtual 53, 3) := by decide +kernel
theorem zd_Lst_add_28 : decode zc_Lst_add 28 = .ok (.ifCond .eq 6, 3) := by decide +kernel
theorem zd_Lst_add_31 : decode zc_Lst_add 31 = .ok (.bipush (-2), 2) := by decide +kernel
theorem zd_Lst_add_33 : decode zc_Lst_add 33 = .ok (.ireturn, 1) := by decide +kernel
theorem zd_Lst_add_34 : decode zc_Lst_add 34 = .ok (.aload_n 0, 1) := by decide +kernel
theorem zd_Lst_add_35 : decode zc_Lst_add 35 = .ok (.getfield 16, 3) := by decide +kernel
theorem zd_Lst_add_38 : decode zc_Lst_add 38 = .ok (.aload_n 0, 1) := by decide +kernel
theorem zd_Lst_add_39 : decode zc_Lst_add 39 = .ok (.getfield 10, 3) := by decide +kernel
theorem zd_Lst_add_42 : decode zc_Lst_add 42 = .ok (.invokevirtual 57, 3) := by decide +kernel
theorem zd_Lst_add_45 : decode zc_Lst_add 45 = .ok (.aload_n 0, 1) := by decide +kernel
theorem zd_Lst_add_46 : decode zc_Lst_add 46 = .ok (.getfield 16, 3) := by decide +kernel
theorem zd_Lst_add_49 : decode zc_Lst_add 49 = .ok (.aload_n 0, 1) := by decide +kernel
theorem zd_Lst_add_50 : decode zc_Lst_add 50 = .ok (.getfield 32, 3) := by decide +kernel
theorem zd_Lst_add_53 : decode zc_Lst_add 53 = .ok (.iload_n 1, 1) := by decide +kernel
theorem zd_Lst_add_54 : decode zc_Lst_add 54 = .ok (.invokevirtual 61, 3) := by decide +kernel
theorem zd_Lst_add_57 : decode zc_Lst_add 57 = .ok (.istore_n 2, 1) := by decide +kernel
theorem zd_Lst_add_58 : decode zc_Lst_add 58 = .ok (.aload_n 0, 1) := by decide +kernel
theorem zd_Lst_add_59 : decode zc_Lst_add 59 = .ok (.aload_n 0, 1) := by decide +kernel
theorem zd_Lst_add_60 : decode zc_Lst_add 60 = .ok (.getfield 16, 3) := by decide +kernel
theorem zd_Lst_add_63 : decode zc_Lst_add 63 = .ok (.aload_n 0, 1) := by decide +kernel
theorem zd_Lst_add_64 : decode zc_Lst_add 64 = .ok (.getfield 32, 3) := by decide +kernel
theorem zd_Lst_add_67 : decode zc_Lst_add 67 = .ok (.invokevirtual 65, 3) := by decide +kernel
theorem zd_Lst_add_70 : decode zc_Lst_add 70 = .ok (.aload_n 0, 1) := by decide +kernel
theorem zd_Lst_add_71 : decode zc_Lst_add 71 = .ok (.getfield 16, 3) := by decide +kernel
theorem zd_Lst_add_74 : decode zc_Lst_add 74 = .ok (.iload_n 2, 1) := by decide +kernel
theorem zd_Lst_add_75 : decode zc_Lst_add 75 = .ok (.invokevirtual 68, 3) := by decide +kernel
theorem zd_Lst_add_78 : decode zc_Lst_add 78 = .ok (.iadd, 1) := by decide +kernel
theorem zd_Lst_add_79 : decode zc_Lst_add 79 = .ok (.iload_n 2, 1) := by decide +kernel
theorem zd_Lst_add_80 : decode zc_Lst_add 80 = .ok (.invokevirtual 72, 3) := by decide +kernel
theorem zd_Lst_add_83 : decode zc_Lst_add 83 = .ok (.ireturn, 1) := by decide +kernel
theorem zd_Lst_remove_0 : decode zc_Lst_remove 0 = .ok (.aload_n 0, 1) := by decide +kernel
theorem zd_Lst_remove_1 : decode zc_Lst_remove 1 = .ok (.invokevirtual 46, 3) := by decide +kernel
theorem zd_Lst_remove_4 : decode zc_Lst_remove 4 = .ok (.aload_n 0, 1) := by decide +kernel
theorem zd_Lst_remove_5 : decode zc_Lst_remove 5 = .ok (.getfield 10, 3) := by decide +kernel
theorem zd_Lst_remove_8 : decode zc_Lst_remove 8 = .ok (.aload_n 0, 1) := by decide +kernel
theorem zd_Lst_remove_9 : decode zc_Lst_remove 9 = .ok (.getfield 32, 3) := by decide +kernel
theorem zd_Lst_remove_12 : decode zc_Lst_remove 12 = .ok (.invokevirtual 49, 3) := by decide +kernel
theorem zd_Lst_remove_15 : decode zc_Lst_remove 15 = .ok (.istore_n 1, 1) := by decide +kernel
theorem zd_Lst_remove_16 : decode zc_Lst_remove 16 = .ok (.iload_n 1, 1) := by decide +kernel
theorem zd_Lst_remove_17 : decode zc_Lst_remove 17 = .ok (.iconst (-1), 1) := by decide +kernel
theorem zd_Lst_remove_18 : decode zc_Lst_remove 18 = .ok (.if_icmp .ne 5, 3) := by decide +kernel
theorem zd_Lst_remove_21 : decode zc_Lst_remove 21 = .ok (.iconst (-1), 1) := by decide +kernel
theorem zd_Lst_remove_22 : decode zc_Lst_remove 22 = .ok (.ireturn, 1) := by decide +kernel
theorem zd_Lst_remove_23 : decode zc_Lst_remove 23 = .ok (.aload_n 0, 1) := by decide +kernel
theorem zd_Lst_remove_24 : decode zc_Lst_remove 24 = .ok (.getfield 10, 3) := by decide +kernel
theorem zd_Lst_remove_27 : decode zc_Lst_remove 27 = .ok (.iload_n 1, 1) := by decide +kernel
theorem zd_Lst_remove_28 : decode zc_Lst_remove 28 = .ok (.invokevirtual 76, 3) := by decide +kernel
theorem zd_Lst_remove_31 : decode zc_Lst_remove 31 = .ok (.istore_n 2, 1) := by decide +kernel
theorem zd_Lst_remove_32 : decode zc_Lst_remove 32 = .ok (.aload_n 0, 1) := by decide +kernel
theorem zd_Lst_remove_33 : decode zc_Lst_remove 33 = .ok (.getfield 16, 3) := by decide +kernel
theorem zd_Lst_remove_36 : decode zc_Lst_remove 36 = .ok (.aload_n 0, 1) := by decide +kernel
theorem zd_Lst_remove_37 : decode zc_Lst_remove 37 = .ok (.getfield 10, 3) := by decide +kernel
theorem zd_Lst_remove_40 : decode zc_Lst_remove 40 = .ok (.invokevirtual 57, 3) := by decide +kernel
theorem zd_Lst_remove_43 : decode zc_Lst_remove 43 = .ok (.aload_n 0, 1) := by decide +kernel
theorem zd_Lst_remove_44 : decode zc_Lst_remove 44 = .ok (.getfield 16, 3) := by decide +kernel
theorem zd_Lst_remove_47 : decode zc_Lst_remove 47 = .ok (.iload_n 1, 1) := by decide +kernel
theorem zd_Lst_remove_48 : decode zc_Lst_remove 48 = .ok (.invokevirtual 79, 3) := by decide +kernel
theorem zd_Lst_remove_51 : decode zc_Lst_remove 51 = .ok (.aload_n 0, 1) := by decide +kernel
theorem zd_Lst_remove_52 : decode zc_Lst_remove 52 = .ok (.aload_n 0, 1) := by decide +kernel
theorem zd_Lst_remove_53 : decode zc_Lst_remove 53 = .ok (.getfield 16, 3) := by decide +kernel
theorem zd_Lst_remove_56 : decode zc_Lst_remove 56 = .ok (.aload_n 0, 1) := by decide +kernel
theorem zd_Lst_remove_57 : decode zc_Lst_remove 57 = .ok (.getfield 32, 3) := by decide +kernel
theorem zd_Lst_remove_60 : decode zc_Lst_remove 60 = .ok (.invokevirtual 65, 3) := by decide +kernel
theorem zd_Lst_remove_63 : decode zc_Lst_remove 63 = .ok (.aload_n 0, 1) := by decide +kernel
theorem zd_Lst_remove_64 : decode zc_Lst_remove 64 = .ok (.getfield 16, 3) := by decide +kernel
theorem zd_Lst_remove_67 : decode zc_Lst_remove 67 = .ok (.iload_n 2, 1) := by decide +kernel
theorem zd_Lst_remove_68 : decode zc_Lst_remove 68 = .ok (.invokevirtual 68, 3) := by decide +kernel
theorem zd_Lst_remove_71 : decode zc_Lst_remove 71 = .ok (.iadd, 1) := by decide +kernel
theorem zd_Lst_remove_72 : decode zc_Lst_remove 72 = .ok (.iload_n 2, 1) := by decide +kernel
theorem zd_Lst_remove_73 : decode zc_Lst_remove 73 = .ok (.invokevirtual 72, 3) := by decide +kernel
theorem zd_Lst_remove_76 : decode zc_Lst_remove 76 = .ok (.ireturn, 1) := by decide +kernel
theorem zd_Lst_replace_0 : decode zc_Lst_replace 0 = .ok (.aload_n 0, 1) := by decide +kernel
theorem zd_Lst_replace_1 : decode zc_Lst_replace 1 = .ok (.invokevirtual 46, 3) := by decide +kernel
theorem zd_Lst_replace_4 : decode zc_Lst_replace 4 = .ok (.aload_n 0, 1) := by decide +kernel
theorem zd_Lst_replace_5 : decode zc_Lst_replace 5 = .ok (.getfield 10, 3) := by decide +kernel
theorem zd_Lst_replace_8 : decode zc_Lst_replace 8 = .ok (.aload_n 0, 1) := by decide +kernel
theorem zd_Lst_replace_9 : decode zc_Lst_replace 9 = .ok (.getfield 32, 3) := by decide +kernel
theorem zd_Lst_replace_12 : decode zc_Lst_replace 12 = .ok (.invokevirtual 49, 3) := by decide +kernel
theorem zd_Lst_replace_15 : decode zc_Lst_replace 15 = .ok (.istore_n 2, 1) := by decide +kernel
theorem zd_Lst_replace_16 : decode zc_Lst_replace 16 = .ok (.iload_n 2, 1) := by decide +kernel
theorem zd_Lst_replace_17 : decode zc_Lst_replace 17 = .ok (.iconst (-1), 1) := by decide +kernel
theorem zd_Lst_replace_18 : decode zc_Lst_replace 18 = .ok (.if_icmp .ne 5, 3) := by decide +kernel
theorem zd_Lst_replace_21 : decode zc_Lst_replace 21 = .ok (.iconst (-1), 1) := by decide +kernel
theorem zd_Lst_replace_22 : decode zc_Lst_replace 22 = .ok (.ireturn, 1) := by decide +kernel
theorem zd_Lst_replace_23 : decode zc_Lst_replace 23 = .ok (.aload_n 0, 1) := by decide +kernel
theorem zd_Lst_replace_24 : decode zc_Lst_replace 24 = .ok (.getfield 16, 3) := by decide +kernel
theorem zd_Lst_replace_27 : decode zc_Lst_replace 27 = .ok (.aload_n 0, 1) := by decide +kernel
theorem zd_Lst_replace_28 : decode zc_Lst_replace 28 = .ok (.getfield 10, 3) := by decide +kernel
theorem zd_Lst_replace_31 : decode zc_Lst_replace 31 = .ok (.invokevirtual 57, 3) := by decide +kernel
theorem zd_Lst_replace_34 : decode zc_Lst_replace 34 = .ok (.aload_n 0, 1) := by decide +kernel
theorem zd_Lst_replace_35 : decode zc_Lst_replace 35 = .ok (.getfield 16, 3) := by decide +kernel
theorem zd_Lst_replace_38 : decode zc_Lst_replace 38 = .ok (.iload_n 2, 1) := by decide +kernel
theorem zd_Lst_replace_39 : decode zc_Lst_replace 39 = .ok (.iload_n 1, 1) := by decide +kernel
theorem zd_Lst_replace_40 : decode zc_Lst_replace 40 = .ok (.invokevirtual 83, 3) := by decide +kernel
theorem zd_Lst_replace_43 : decode zc_Lst_replace 43 = .ok (.aload_n 0, 1) := by decide +kernel
theorem zd_Lst_replace_44 : decode zc_Lst_replace 44 = .ok (.aload_n 0, 1) := by decide +kernel
theorem zd_Lst_replace_45 : decode zc_Lst_replace 45 = .ok (.getfield 16, 3) := by decide +kernel
theorem zd_Lst_replace_48 : decode zc_Lst_replace 48 = .ok (.aload_n 0, 1) := by decide +kernel
theorem zd_Lst_replace_49 : decode zc_Lst_replace 49 = .ok (.getfield 32, 3) := by decide +kernel
theorem zd_Lst_replace_52 : decode zc_Lst_replace 52 = .ok (.invokevirtual 65, 3) := by decide +kernel
theorem zd_Lst_replace_55 : decode zc_Lst_replace 55 = .ok (.aload_n 0, 1) := by decide +kernel
theorem zd_Lst_replace_56 : decode zc_Lst_replace 56 = .ok (.getfield 10, 3) := by decide +kernel
theorem zd_Lst_replace_59 : decode zc_Lst_replace 59 = .ok (.iload_n 2, 1) := by decide +kernel
theorem zd_Lst_replace_60 : decode zc_Lst_replace 60 = .ok (.invokevirtual 76, 3) := by decide +kernel
theorem zd_Lst_replace_63 : decode zc_Lst_replace 63 = .ok (.invokevirtual 72, 3) := by decide +kernel
theorem zd_Lst_replace_66 : decode zc_Lst_replace 66 = .ok (.ireturn, 1) := by decide +kernel
theorem zd_Lst_rename_0 : decode zc_Lst_rename 0 = .ok (.aload_n 0, 1) := by decide +kernel
theorem zd_Lst_rename_1 : decode zc_Lst_rename 1 = .ok (.invokevirtual 46, 3) := by decide +kernel
theorem zd_Lst_rename_4 : decode zc_Lst_rename 4 = .ok (.aload_n 0, 1) := by decide +kernel
theorem zd_Lst_rename_5 : decode zc_Lst_rename 5 = .ok (.getfield 10, 3) := by decide +kernel
theorem zd_Lst_rename_8 : decode zc_Lst_rename 8 = .ok (.iload_n 1, 1) := by decide +kernel
theorem zd_Lst_rename_9 : decode zc_Lst_rename 9 = .ok (.invokevirtual 87, 3) := by decide +kernel
theorem zd_Lst_rename_12 : decode zc_Lst_rename 12 = .ok (.istore_n 2, 1) := by decide +kernel
theorem zd_Lst_rename_13 : decode zc_Lst_rename 13 = .ok (.iload_n 2, 1) := by decide +kernel
theorem zd_Lst_rename_14 : decode zc_Lst_rename 14 = .ok (.iconst (-1), 1) := by decide +kernel
theorem zd_Lst_rename_15 : decode zc_Lst_rename 15 = .ok (.if_icmp .ne 11, 3) := by decide +kernel
theorem zd_Lst_rename_18 : decode zc_Lst_rename 18 = .ok (.new 90, 3) := by decide +kernel
theorem zd_Lst_rename_21 : decode zc_Lst_rename 21 = .ok (.dup, 1) := by decide +kernel
theorem zd_Lst_rename_22 : decode zc_Lst_rename 22 = .ok (.invokespecial 92, 3) := by decide +kernel
theorem zd_Lst_rename_25 : decode zc_Lst_rename 25 = .ok (.athrow, 1) := by decide +kernel
theorem zd_Lst_rename_26 : decode zc_Lst_rename 26 = .ok (.aload_n 0, 1) := by decide +kernel
theorem zd_Lst_rename_27 : decode zc_Lst_rename 27 = .ok (.getfield 10, 3) := by decide +kernel
theorem zd_Lst_rename_30 : decode zc_Lst_rename 30 = .ok (.aload_n 0, 1) := by decide +kernel
theorem zd_Lst_rename_31 : decode zc_Lst_rename 31 = .ok (.getfield 32, 3) := by decide +kernel
theorem zd_Lst_rename_34 : decode zc_Lst_rename 34 = .ok (.invokevirtual 49, 3) := by decide +kernel
theorem zd_Lst_rename_37 : decode zc_Lst_rename 37 = .ok (.iconst (-1), 1) := by decide +kernel
theorem zd_Lst_rename_38 : decode zc_Lst_rename 38 = .ok (.if_icmp .eq 5, 3) := by decide +kernel
theorem zd_Lst_rename_41 : decode zc_Lst_rename 41 = .ok (.iconst (-1), 1) := by decide +kernel
theorem zd_Lst_rename_42 : decode zc_Lst_rename 42 = .ok (.ireturn, 1) := by decide +kernel
theorem zd_Lst_rename_43 : decode zc_Lst_rename 43 = .ok (.aload_n 0, 1) := by decide +kernel
theorem zd_Lst_rename_44 : decode zc_Lst_rename 44 = .ok (.getfield 10, 3) := by decide +kernel
theorem zd_Lst_rename_47 : decode zc_Lst_rename 47 = .ok (.iload_n 2, 1) := by decide +kernel
theorem zd_Lst_rename_48 : decode zc_Lst_rename 48 = .ok (.invokevirtual 93, 3) := by decide +kernel
theorem zd_Lst_rename_51 : decode zc_Lst_rename 51 = .ok (.lstore_n 3, 1) := by decide +kernel
theorem zd_Lst_rename_52 : decode zc_Lst_rename 52 = .ok (.aload_n 0, 1) := by decide +kernel
theorem zd_Lst_rename_53 : decode zc_Lst_rename 53 = .ok (.getfield 16, 3) := by decide +kernel
theorem zd_Lst_rename_56 : decode zc_Lst_rename 56 = .ok (.aload_n 0, 1) := by decide +kernel
theorem zd_Lst_rename_57 : decode zc_Lst_rename 57 = .ok (.getfield 10, 3) := by decide +kernel
theorem zd_Lst_rename_60 : decode zc_Lst_rename 60 = .ok (.invokevirtual 57, 3) := by decide +kernel
theorem zd_Lst_rename_63 : decode zc_Lst_rename 63 = .ok (.aload_n 0, 1) := by decide +kernel
theorem zd_Lst_rename_64 : decode zc_Lst_rename 64 = .ok (.getfield 16, 3) := by decide +kernel
theorem zd_Lst_rename_67 : decode zc_Lst_rename 67 = .ok (.iload_n 2, 1) := by decide +kernel
theorem zd_Lst_rename_68 : decode zc_Lst_rename 68 = .ok (.aload_n 0, 1) := by decide +kernel
theorem zd_Lst_rename_69 : decode zc_Lst_rename 69 = .ok (.getfield 32, 3) := by decide +kernel
theorem zd_Lst_rename_72 : decode zc_Lst_rename 72 = .ok (.invokevirtual 97, 3) := by decide +kernel
theorem zd_Lst_rename_75 : decode zc_Lst_rename 75 = .ok (.aload_n 0, 1) := by decide +kernel
theorem zd_Lst_rename_76 : decode zc_Lst_rename 76 = .ok (.getfield 16, 3) := by decide +kernel
theorem zd_Lst_rename_79 : decode zc_Lst_rename 79 = .ok (.lload_n 3, 1) := by decide +kernel
theorem zd_Lst_rename_80 : decode zc_Lst_rename 80 = .ok (.aload_n 0, 1) := by decide +kernel
theorem zd_Lst_rename_81 : decode zc_Lst_rename 81 = .ok (.getfield 32, 3) := by decide +kernel
theorem zd_Lst_rename_84 : decode zc_Lst_rename 84 = .ok (.invokevirtual 101, 3) := by decide +kernel
theorem zd_Lst_rename_87 : decode zc_Lst_rename 87 = .ok (.aload_n 0, 1) := by decide +kernel
theorem zd_Lst_rename_88 : decode zc_Lst_rename 88 = .ok (.getfield 16, 3) := by decide +kernel
theorem zd_Lst_rename_91 : decode zc_Lst_rename 91 = .ok (.iload_n 1, 1) := by decide +kernel
theorem zd_Lst_rename_92 : decode zc_Lst_rename 92 = .ok (.invokevirtual 68, 3) := by decide +kernel
theorem zd_Lst_rename_95 : decode zc_Lst_rename 95 = .ok (.iadd, 1) := by decide +kernel
theorem zd_Lst_rename_96 : decode zc_Lst_rename 96 = .ok (.istore 5, 2) := by decide +kernel
theorem zd_Lst_rename_98 : decode zc_Lst_rename 98 = .ok (.aload_n 0, 1) := by decide +kernel
theorem zd_Lst_rename_99 : decode zc_Lst_rename 99 = .ok (.iload 5, 2) := by decide +kernel
theorem zd_Lst_rename_101 : decode zc_Lst_rename 101 = .ok (.iload_n 1, 1) := by decide +kernel
theorem zd_Lst_rename_102 : decode zc_Lst_rename 102 = .ok (.invokevirtual 72, 3) := by decide +kernel
theorem zd_Lst_rename_105 : decode zc_Lst_rename 105 = .ok (.ireturn, 1) := by decide +kernel
theorem zd_Lst_find_0 : decode zc_Lst_find 0 = .ok (.aload_n 0, 1) := by decide +kernel
theorem zd_Lst_find_1 : decode zc_Lst_find 1 = .ok (.invokevirtual 46, 3) := by decide +kernel
theorem zd_Lst_find_4 : decode zc_Lst_find 4 = .ok (.aload_n 0, 1) := by decide +kernel
theorem zd_Lst_find_5 : decode zc_Lst_find 5 = .ok (.getfield 10, 3) := by decide +kernel
theorem zd_Lst_find_8 : decode zc_Lst_find 8 = .ok (.aload_n 0, 1) := by decide +kernel
theorem zd_Lst_find_9 : decode zc_Lst_find 9 = .ok (.getfield 32, 3) := by decide +kernel
theorem zd_Lst_find_12 : decode zc_Lst_find 12 = .ok (.invokevirtual 49, 3) := by decide +kernel
theorem zd_Lst_find_15 : decode zc_Lst_find 15 = .ok (.istore_n 1, 1) := by decide +kernel
theorem zd_Lst_find_16 : decode zc_Lst_find 16 = .ok (.iload_n 1, 1) := by decide +kernel
theorem zd_Lst_find_17 : decode zc_Lst_find 17 = .ok (.iconst (-1), 1) := by decide +kernel
theorem zd_Lst_find_18 : decode zc_Lst_find 18 = .ok (.if_icmp .ne 11, 3) := by decide +kernel
theorem zd_Lst_find_21 : decode zc_Lst_find 21 = .ok (.new 90, 3) := by decide +kernel
theorem zd_Lst_find_24 : decode zc_Lst_find 24 = .ok (.dup, 1) := by decide +kernel
theorem zd_Lst_find_25 : decode zc_Lst_find 25 = .ok (.invokespecial 92, 3) := by decide +kernel
theorem zd_Lst_find_28 : decode zc_Lst_find 28 = .ok (.athrow, 1) := by decide +kernel
theorem zd_Lst_find_29 : decode zc_Lst_find 29 = .ok (.aload_n 0, 1) := by decide +kernel
theorem zd_Lst_find_30 : decode zc_Lst_find 30 = .ok (.getfield 10, 3) := by decide +kernel
theorem zd_Lst_find_33 : decode zc_Lst_find 33 = .ok (.iload_n 1, 1) := by decide +kernel
theorem zd_Lst_find_34 : decode zc_Lst_find 34 = .ok (.invokevirtual 105, 3) := by decide +kernel
theorem zd_Lst_find_37 : decode zc_Lst_find 37 = .ok (.ireturn, 1) := by decide +kernel
theorem zd_Lst_serial_0 : decode zc_Lst_serial 0 = .ok (.aload_n 0, 1) := by decide +kernel
theorem zd_Lst_serial_1 : decode zc_Lst_serial 1 = .ok (.invokevirtual 46, 3) := by decide +kernel
theorem zd_Lst_serial_4 : decode zc_Lst_serial 4 = .ok (.aload_n 0, 1) := by decide +kernel
theorem zd_Lst_serial_5 : decode zc_Lst_serial 5 = .ok (.aload_n 0, 1) := by decide +kernel
theorem zd_Lst_serial_6 : decode zc_Lst_serial 6 = .ok (.getfield 10, 3) := by decide +kernel
theorem zd_Lst_serial_9 : decode zc_Lst_serial 9 = .ok (.aload_n 0, 1) := by decide +kernel
theorem zd_Lst_serial_10 : decode zc_Lst_serial 10 = .ok (.getfield 32, 3) := by decide +kernel
theorem zd_Lst_serial_13 : decode zc_Lst_serial 13 = .ok (.invokevirtual 49, 3) := by decide +kernel
theorem zd_Lst_serial_16 : decode zc_Lst_serial 16 = .ok (.invokevirtual 108, 3) := by decide +kernel
theorem zd_Lst_serial_19 : decode zc_Lst_serial 19 = .ok (.ireturn, 1) := by decide +kernel
theorem zd_Lst_next_0 : decode zc_Lst_next 0 = .ok (.aload_n 0, 1) := by decide +kernel
theorem zd_Lst_next_1 : decode zc_Lst_next 1 = .ok (.invokevirtual 46, 3) := by decide +kernel
theorem zd_Lst_next_4 : decode zc_Lst_next 4 = .ok (.aload_n 0, 1) := by decide +kernel
theorem zd_Lst_next_5 : decode zc_Lst_next 5 = .ok (.aload_n 0, 1) := by decide +kernel
theorem zd_Lst_next_6 : decode zc_Lst_next 6 = .ok (.aload_n 0, 1) := by decide +kernel
theorem zd_Lst_next_7 : decode zc_Lst_next 7 = .ok (.getfield 10, 3) := by decide +kernel
theorem zd_Lst_next_10 : decode zc_Lst_next 10 = .ok (.iload_n 1, 1) := by decide +kernel
theorem zd_Lst_next_11 : decode zc_Lst_next 11 = .ok (.invokevirtual 111, 3) := by decide +kernel
theorem zd_Lst_next_14 : decode zc_Lst_next 14 = .ok (.invokevirtual 108, 3) := by decide +kernel
theorem zd_Lst_next_17 : decode zc_Lst_next 17 = .ok (.putfield 36, 3) := by decide +kernel
theorem zd_Lst_next_20 : decode zc_Lst_next 20 = .ok (.aload_n 0, 1) := by decide +kernel
theorem zd_Lst_next_21 : decode zc_Lst_next 21 = .ok (.getfield 36, 3) := by decide +kernel
theorem zd_Lst_next_24 : decode zc_Lst_next 24 = .ok (.ireturn, 1) := by decide +kernel
theorem zd_Lst_listed_0 : decode zc_Lst_listed 0 = .ok (.aload_n 0, 1) := by decide +kernel
theorem zd_Lst_listed_1 : decode zc_Lst_listed 1 = .ok (.invokevirtual 46, 3) := by decide +kernel
theorem zd_Lst_listed_4 : decode zc_Lst_listed 4 = .ok (.iload_n 2, 1) := by decide +kernel
theorem zd_Lst_listed_5 : decode zc_Lst_listed 5 = .ok (.ifCond .lt 14, 3) := by decide +kernel
theorem zd_Lst_listed_8 : decode zc_Lst_listed 8 = .ok (.iload_n 2, 1) := by decide +kernel
theorem zd_Lst_listed_9 : decode zc_Lst_listed 9 = .ok (.aload_n 0, 1) := by decide +kernel
theorem zd_Lst_listed_10 : decode zc_Lst_listed 10 = .ok (.getfield 32, 3) := by decide +kernel
theorem zd_Lst_listed_13 : decode zc_Lst_listed 13 = .ok (.invokestatic 114, 3) := by decide +kernel
theorem zd_Lst_listed_16 : decode zc_Lst_listed 16 = .ok (.if_icmp .le 11, 3) := by decide +kernel
theorem zd_Lst_listed_19 : decode zc_Lst_listed 19 = .ok (.new 43, 3) := by decide +kernel
theorem zd_Lst_listed_22 : decode zc_Lst_listed 22 = .ok (.dup, 1) := by decide +kernel
theorem zd_Lst_listed_23 : decode zc_Lst_listed 23 = .ok (.invokespecial 45, 3) := by decide +kernel
theorem zd_Lst_listed_26 : decode zc_Lst_listed 26 = .ok (.athrow, 1) := by decide +kernel
theorem zd_Lst_listed_27 : decode zc_Lst_listed 27 = .ok (.aload_n 0, 1) := by decide +kernel
theorem zd_Lst_listed_28 : decode zc_Lst_listed 28 = .ok (.aload_n 0, 1) := by decide +kernel
theorem zd_Lst_listed_29 : decode zc_Lst_listed 29 = .ok (.aload_n 0, 1) := by decide +kernel
theorem zd_Lst_listed_30 : decode zc_Lst_listed 30 = .ok (.getfield 10, 3) := by decide +kernel
theorem zd_Lst_listed_33 : decode zc_Lst_listed 33 = .ok (.iload_n 1, 1) := by decide +kernel
theorem zd_Lst_listed_34 : decode zc_Lst_listed 34 = .ok (.aload_n 0, 1) := by decide +kernel
theorem zd_Lst_listed_35 : decode zc_Lst_listed 35 = .ok (.getfield 32, 3) := by decide +kernel
theorem zd_Lst_listed_38 : decode zc_Lst_listed 38 = .ok (.iload_n 2, 1) := by decide +kernel
theorem zd_Lst_listed_39 : decode zc_Lst_listed 39 = .ok (.invokevirtual 117, 3) := by decide +kernel
theorem zd_Lst_listed_42 : decode zc_Lst_listed 42 = .ok (.invokevirtual 108, 3) := by decide +kernel
theorem zd_Lst_listed_45 : decode zc_Lst_listed 45 = .ok (.putfield 36, 3) := by decide +kernel
theorem zd_Lst_listed_48 : decode zc_Lst_listed 48 = .ok (.aload_n 0, 1) := by decide +kernel
theorem zd_Lst_listed_49 : decode zc_Lst_listed 49 = .ok (.getfield 36, 3) := by decide +kernel
theorem zd_Lst_listed_52 : decode zc_Lst_listed 52 = .ok (.ireturn, 1) := by decide +kernel
theorem zd_Lst_rank_0 : decode zc_Lst_rank 0 = .ok (.aload_n 0, 1) := by decide +kernel
theorem zd_Lst_rank_1 : decode zc_Lst_rank 1 = .ok (.invokevirtual 46, 3) := by decide +kernel
theorem zd_Lst_rank_4 : decode zc_Lst_rank 4 = .ok (.aload_n 0, 1) := by decide +kernel
theorem zd_Lst_rank_5 : decode zc_Lst_rank 5 = .ok (.getfield 10, 3) := by decide +kernel
theorem zd_Lst_rank_8 : decode zc_Lst_rank 8 = .ok (.aload_n 0, 1) := by decide +kernel
theorem zd_Lst_rank_9 : decode zc_Lst_rank 9 = .ok (.getfield 32, 3) := by decide +kernel
theorem zd_Lst_rank_12 : decode zc_Lst_rank 12 = .ok (.invokevirtual 121, 3) := by decide +kernel
theorem zd_Lst_rank_15 : decode zc_Lst_rank 15 = .ok (.ireturn, 1) := by decide +kernel
theorem zd_Lst_found_0 : decode zc_Lst_found 0 = .ok (.aload_n 0, 1) := by decide +kernel
theorem zd_Lst_found_1 : decode zc_Lst_found 1 = .ok (.invokevirtual 46, 3) := by decide +kernel
theorem zd_Lst_found_4 : decode zc_Lst_found 4 = .ok (.aload_n 0, 1) := by decide +kernel
theorem zd_Lst_found_5 : decode zc_Lst_found 5 = .ok (.getfield 10, 3) := by decide +kernel
theorem zd_Lst_found_8 : decode zc_Lst_found 8 = .ok (.aload_n 0, 1) := by decide +kernel
theorem zd_Lst_found_9 : decode zc_Lst_found 9 = .ok (.getfield 36, 3) := by decide +kernel
theorem zd_Lst_found_12 : decode zc_Lst_found 12 = .ok (.invokevirtual 87, 3) := by decide +kernel
theorem zd_Lst_found_15 : decode zc_Lst_found 15 = .ok (.istore_n 1, 1) := by decide +kernel
theorem zd_Lst_found_16 : decode zc_Lst_found 16 = .ok (.iload_n 1, 1) := by decide +kernel
theorem zd_Lst_found_17 : decode zc_Lst_found 17 = .ok (.iconst (-1), 1) := by decide +kernel
theorem zd_Lst_found_18 : decode zc_Lst_found 18 = .ok (.if_icmp .ne 7, 3) := by decide +kernel
theorem zd_Lst_found_21 : decode zc_Lst_found 21 = .ok (.lconst 0, 1) := by decide +kernel
theorem zd_Lst_found_22 : decode zc_Lst_found 22 = .ok (.goto 14, 3) := by decide +kernel
theorem zd_Lst_found_25 : decode zc_Lst_found 25 = .ok (.aload_n 0, 1) := by decide +kernel
theorem zd_Lst_found_26 : decode zc_Lst_found 26 = .ok (.getfield 10, 3) := by decide +kernel
theorem zd_Lst_found_29 : decode zc_Lst_found 29 = .ok (.iload_n 1, 1) := by decide +kernel
theorem zd_Lst_found_30 : decode zc_Lst_found 30 = .ok (.invokevirtual 93, 3) := by decide +kernel
theorem zd_Lst_found_33 : decode zc_Lst_found 33 = .ok (.invokestatic 124, 3) := by decide +kernel
theorem zd_Lst_found_36 : decode zc_Lst_found 36 = .ok (.lreturn, 1) := by decide +kernel
theorem zd_Lst_count_0 : decode zc_Lst_count 0 = .ok (.aload_n 0, 1) := by decide +kernel
theorem zd_Lst_count_1 : decode zc_Lst_count 1 = .ok (.invokevirtual 46, 3) := by decide +kernel
theorem zd_Lst_count_4 : decode zc_Lst_count 4 = .ok (.aload_n 0, 1) := by decide +kernel
theorem zd_Lst_count_5 : decode zc_Lst_count 5 = .ok (.getfield 10, 3) := by decide +kernel
theorem zd_Lst_count_8 : decode zc_Lst_count 8 = .ok (.invokevirtual 128, 3) := by decide +kernel
theorem zd_Lst_count_11 : decode zc_Lst_count 11 = .ok (.ireturn, 1) := by decide +kernel
theorem zd_Lst_free_0 : decode zc_Lst_free 0 = .ok (.aload_n 0, 1) := by decide +kernel
theorem zd_Lst_free_1 : decode zc_Lst_free 1 = .ok (.invokevirtual 46, 3) := by decide +kernel
theorem zd_Lst_free_4 : decode zc_Lst_free 4 = .ok (.aload_n 0, 1) := by decide +kernel
theorem zd_Lst_free_5 : decode zc_Lst_free 5 = .ok (.getfield 10, 3) := by decide +kernel
theorem zd_Lst_free_8 : decode zc_Lst_free 8 = .ok (.invokevirtual 132, 3) := by decide +kernel
theorem zd_Lst_free_11 : decode zc_Lst_free 11 = .ok (.ireturn, 1) := by decide +kernel
theorem zd_Lst_writes_0 : decode zc_Lst_writes 0 = .ok (.aload_n 0, 1) := by decide +kernel
theorem zd_Lst_writes_1 : decode zc_Lst_writes 1 = .ok (.getfield 40, 3) := by decide +kernel
theorem zd_Lst_writes_4 : decode zc_Lst_writes 4 = .ok (.ireturn, 1) := by decide +kernel
theorem zd_Lst_failAfter_0 : decode zc_Lst_failAfter 0 = .ok (.iload_n 1, 1) := by decide +kernel
theorem zd_Lst_failAfter_1 : decode zc_Lst_failAfter 1 = .ok (.iconst (-1), 1) := by decide +kernel
theorem zd_Lst_failAfter_2 : decode zc_Lst_failAfter 2 = .ok (.if_icmp .ge 11, 3) := by decide +kernel
theorem zd_Lst_failAfter_5 : decode zc_Lst_failAfter 5 = .ok (.new 43, 3) := by decide +kernel
theorem zd_Lst_failAfter_8 : decode zc_Lst_failAfter 8 = .ok (.dup, 1) := by decide +kernel
theorem zd_Lst_failAfter_9 : decode zc_Lst_failAfter 9 = .ok (.invokespecial 45, 3) := by decide +kernel
theorem zd_Lst_failAfter_12 : decode zc_Lst_failAfter 12 = .ok (.athrow, 1) := by decide +kernel
theorem zd_Lst_failAfter_13 : decode zc_Lst_failAfter 13 = .ok (.aload_n 0, 1) := by decide +kernel
theorem zd_Lst_failAfter_14 : decode zc_Lst_failAfter 14 = .ok (.getfield 22, 3) := by decide +kernel
theorem zd_Lst_failAfter_17 : decode zc_Lst_failAfter 17 = .ok (.iload_n 1, 1) := by decide +kernel
theorem zd_Lst_failAfter_18 : decode zc_Lst_failAfter 18 = .ok (.invokevirtual 135, 3) := by decide +kernel
theorem zd_Lst_failAfter_21 : decode zc_Lst_failAfter 21 = .ok (.return_, 1) := by decide +kernel
theorem zd_Lst_start_0 : decode zc_Lst_start 0 = .ok (.aload_n 0, 1) := by decide +kernel
theorem zd_Lst_start_1 : decode zc_Lst_start 1 = .ok (.getfield 22, 3) := by decide +kernel
theorem zd_Lst_start_4 : decode zc_Lst_start 4 = .ok (.invokevirtual 138, 3) := by decide +kernel
theorem zd_Lst_start_7 : decode zc_Lst_start 7 = .ok (.ifCond .eq 5, 3) := by decide +kernel
theorem zd_Lst_start_10 : decode zc_Lst_start 10 = .ok (.iconst 0, 1) := by decide +kernel
theorem zd_Lst_start_11 : decode zc_Lst_start 11 = .ok (.ireturn, 1) := by decide +kernel
theorem zd_Lst_start_12 : decode zc_Lst_start 12 = .ok (.aload_n 0, 1) := by decide +kernel
theorem zd_Lst_start_13 : decode zc_Lst_start 13 = .ok (.getfield 22, 3) := by decide +kernel
theorem zd_Lst_start_16 : decode zc_Lst_start 16 = .ok (.invokevirtual 141, 3) := by decide +kernel
theorem zd_Lst_start_19 : decode zc_Lst_start 19 = .ok (.aload_n 0, 1) := by decide +kernel
theorem zd_Lst_start_20 : decode zc_Lst_start 20 = .ok (.iconst (-1), 1) := by decide +kernel
theorem zd_Lst_start_21 : decode zc_Lst_start 21 = .ok (.putfield 36, 3) := by decide +kernel
theorem zd_Lst_start_24 : decode zc_Lst_start 24 = .ok (.iconst 1, 1) := by decide +kernel
theorem zd_Lst_start_25 : decode zc_Lst_start 25 = .ok (.ireturn, 1) := by decide +kernel
theorem zd_Lst_isOn_0 : decode zc_Lst_isOn 0 = .ok (.aload_n 0, 1) := by decide +kernel
theorem zd_Lst_isOn_1 : decode zc_Lst_isOn 1 = .ok (.getfield 22, 3) := by decide +kernel
theorem zd_Lst_isOn_4 : decode zc_Lst_isOn 4 = .ok (.invokevirtual 138, 3) := by decide +kernel
theorem zd_Lst_isOn_7 : decode zc_Lst_isOn 7 = .ok (.ireturn, 1) := by decide +kernel
theorem zd_Lst_requirePower_0 : decode zc_Lst_requirePower 0 = .ok (.aload_n 0, 1) := by decide +kernel
theorem zd_Lst_requirePower_1 : decode zc_Lst_requirePower 1 = .ok (.getfield 22, 3) := by decide +kernel
theorem zd_Lst_requirePower_4 : decode zc_Lst_requirePower 4 = .ok (.invokevirtual 138, 3) := by decide +kernel
theorem zd_Lst_requirePower_7 : decode zc_Lst_requirePower 7 = .ok (.ifCond .ne 11, 3) := by decide +kernel
theorem zd_Lst_requirePower_10 : decode zc_Lst_requirePower 10 = .ok (.new 144, 3) := by decide +kernel
theorem zd_Lst_requirePower_13 : decode zc_Lst_requirePower 13 = .ok (.dup, 1) := by decide +kernel
theorem zd_Lst_requirePower_14 : decode zc_Lst_requirePower 14 = .ok (.invokespecial 146, 3) := by decide +kernel
theorem zd_Lst_requirePower_17 : decode zc_Lst_requirePower 17 = .ok (.athrow, 1) := by decide +kernel
theorem zd_Lst_requirePower_18 : decode zc_Lst_requirePower 18 = .ok (.return_, 1) := by decide +kernel
theorem zd_Lst_serialAtOrNone_0 : decode zc_Lst_serialAtOrNone 0 = .ok (.iload_n 1, 1) := by decide +kernel
theorem zd_Lst_serialAtOrNone_1 : decode zc_Lst_serialAtOrNone 1 = .ok (.iconst (-1), 1) := by decide +kernel
theorem zd_Lst_serialAtOrNone_2 : decode zc_Lst_serialAtOrNone 2 = .ok (.if_icmp .ne 7, 3) := by decide +kernel
theorem zd_Lst_serialAtOrNone_5 : decode zc_Lst_serialAtOrNone 5 = .ok (.iconst (-1), 1) := by decide +kernel
theorem zd_Lst_serialAtOrNone_6 : decode zc_Lst_serialAtOrNone 6 = .ok (.goto 11, 3) := by decide +kernel
theorem zd_Lst_serialAtOrNone_9 : decode zc_Lst_serialAtOrNone 9 = .ok (.aload_n 0, 1) := by decide +kernel
theorem zd_Lst_serialAtOrNone_10 : decode zc_Lst_serialAtOrNone 10 = .ok (.getfield 10, 3) := by decide +kernel
theorem zd_Lst_serialAtOrNone_13 : decode zc_Lst_serialAtOrNone 13 = .ok (.iload_n 1, 1) := by decide +kernel
theorem zd_Lst_serialAtOrNone_14 : decode zc_Lst_serialAtOrNone 14 = .ok (.invokevirtual 76, 3) := by decide +kernel
theorem zd_Lst_serialAtOrNone_17 : decode zc_Lst_serialAtOrNone 17 = .ok (.ireturn, 1) := by decide +kernel
theorem zd_Lst_carryOut_0 : decode zc_Lst_carryOut 0 = .ok (.iload_n 1, 1) := by decide +kernel
theorem zd_Lst_carryOut_1 : decode zc_Lst_carryOut 1 = .ok (.aload_n 0, 1) := by decide +kernel
theorem zd_Lst_carryOut_2 : decode zc_Lst_carryOut 2 = .ok (.getfield 10, 3) := by decide +kernel
theorem zd_Lst_carryOut_5 : decode zc_Lst_carryOut 5 = .ok (.invokevirtual 132, 3) := by decide +kernel
theorem zd_Lst_carryOut_8 : decode zc_Lst_carryOut 8 = .ok (.if_icmp .le 6, 3) := by decide +kernel
theorem zd_Lst_carryOut_11 : decode zc_Lst_carryOut 11 = .ok (.bipush (-2), 2) := by decide +kernel
theorem zd_Lst_carryOut_13 : decode zc_Lst_carryOut 13 = .ok (.ireturn, 1) := by decide +kernel
theorem zd_Lst_carryOut_14 : decode zc_Lst_carryOut 14 = .ok (.aload_n 0, 1) := by decide +kernel
theorem zd_Lst_carryOut_15 : decode zc_Lst_carryOut 15 = .ok (.aload_n 0, 1) := by decide +kernel
theorem zd_Lst_carryOut_16 : decode zc_Lst_carryOut 16 = .ok (.getfield 22, 3) := by decide +kernel
theorem zd_Lst_carryOut_19 : decode zc_Lst_carryOut 19 = .ok (.iload_n 1, 1) := by decide +kernel
theorem zd_Lst_carryOut_20 : decode zc_Lst_carryOut 20 = .ok (.iconst 1, 1) := by decide +kernel
theorem zd_Lst_carryOut_21 : decode zc_Lst_carryOut 21 = .ok (.iadd, 1) := by decide +kernel
theorem zd_Lst_carryOut_22 : decode zc_Lst_carryOut 22 = .ok (.invokevirtual 147, 3) := by decide +kernel
theorem zd_Lst_carryOut_25 : decode zc_Lst_carryOut 25 = .ok (.putfield 40, 3) := by decide +kernel
theorem zd_Lst_carryOut_28 : decode zc_Lst_carryOut 28 = .ok (.aload_n 0, 1) := by decide +kernel
theorem zd_Lst_carryOut_29 : decode zc_Lst_carryOut 29 = .ok (.getfield 40, 3) := by decide +kernel
theorem zd_Lst_carryOut_32 : decode zc_Lst_carryOut 32 = .ok (.iload_n 1, 1) := by decide +kernel
theorem zd_Lst_carryOut_33 : decode zc_Lst_carryOut 33 = .ok (.if_icmp .gt 6, 3) := by decide +kernel
theorem zd_Lst_carryOut_36 : decode zc_Lst_carryOut 36 = .ok (.bipush (-3), 2) := by decide +kernel
theorem zd_Lst_carryOut_38 : decode zc_Lst_carryOut 38 = .ok (.ireturn, 1) := by decide +kernel
theorem zd_Lst_carryOut_39 : decode zc_Lst_carryOut 39 = .ok (.aload_n 0, 1) := by decide +kernel
theorem zd_Lst_carryOut_40 : decode zc_Lst_carryOut 40 = .ok (.getfield 10, 3) := by decide +kernel
theorem zd_Lst_carryOut_43 : decode zc_Lst_carryOut 43 = .ok (.astore_n 3, 1) := by decide +kernel
theorem zd_Lst_carryOut_44 : decode zc_Lst_carryOut 44 = .ok (.aload_n 0, 1) := by decide +kernel
theorem zd_Lst_carryOut_45 : decode zc_Lst_carryOut 45 = .ok (.aload_n 0, 1) := by decide +kernel
theorem zd_Lst_carryOut_46 : decode zc_Lst_carryOut 46 = .ok (.getfield 16, 3) := by decide +kernel
theorem zd_Lst_carryOut_49 : decode zc_Lst_carryOut 49 = .ok (.putfield 10, 3) := by decide +kernel
theorem zd_Lst_carryOut_52 : decode zc_Lst_carryOut 52 = .ok (.aload_n 0, 1) := by decide +kernel
theorem zd_Lst_carryOut_53 : decode zc_Lst_carryOut 53 = .ok (.aload_n 3, 1) := by decide +kernel
theorem zd_Lst_carryOut_54 : decode zc_Lst_carryOut 54 = .ok (.putfield 16, 3) := by decide +kernel
theorem zd_Lst_carryOut_57 : decode zc_Lst_carryOut 57 = .ok (.iload_n 2, 1) := by decide +kernel
theorem zd_Lst_carryOut_58 : decode zc_Lst_carryOut 58 = .ok (.ireturn, 1) := by decide +kernel

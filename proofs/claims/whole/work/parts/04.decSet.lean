theorem zd_Set_init_0 : decode zc_Set_init 0 = .ok (.aload_n 0, 1) := by decide +kernel
theorem zd_Set_init_1 : decode zc_Set_init 1 = .ok (.invokespecial 3, 3) := by decide +kernel
theorem zd_Set_init_4 : decode zc_Set_init 4 = .ok (.aload_n 0, 1) := by decide +kernel
theorem zd_Set_init_5 : decode zc_Set_init 5 = .ok (.bipush 24, 2) := by decide +kernel
theorem zd_Set_init_7 : decode zc_Set_init 7 = .ok (.newarray .long, 2) := by decide +kernel
theorem zd_Set_init_9 : decode zc_Set_init 9 = .ok (.putfield 9, 3) := by decide +kernel
theorem zd_Set_init_12 : decode zc_Set_init 12 = .ok (.aload_n 0, 1) := by decide +kernel
theorem zd_Set_init_13 : decode zc_Set_init 13 = .ok (.iconst 0, 1) := by decide +kernel
theorem zd_Set_init_14 : decode zc_Set_init 14 = .ok (.putfield 15, 3) := by decide +kernel
theorem zd_Set_init_17 : decode zc_Set_init 17 = .ok (.return_, 1) := by decide +kernel
theorem zd_Set_copyFrom_0 : decode zc_Set_copyFrom 0 = .ok (.aload_n 0, 1) := by decide +kernel
theorem zd_Set_copyFrom_1 : decode zc_Set_copyFrom 1 = .ok (.aload_n 1, 1) := by decide +kernel
theorem zd_Set_copyFrom_2 : decode zc_Set_copyFrom 2 = .ok (.getfield 15, 3) := by decide +kernel
theorem zd_Set_copyFrom_5 : decode zc_Set_copyFrom 5 = .ok (.putfield 15, 3) := by decide +kernel
theorem zd_Set_copyFrom_8 : decode zc_Set_copyFrom 8 = .ok (.aload_n 1, 1) := by decide +kernel
theorem zd_Set_copyFrom_9 : decode zc_Set_copyFrom 9 = .ok (.getfield 9, 3) := by decide +kernel
theorem zd_Set_copyFrom_12 : decode zc_Set_copyFrom 12 = .ok (.iconst 0, 1) := by decide +kernel
theorem zd_Set_copyFrom_13 : decode zc_Set_copyFrom 13 = .ok (.aload_n 0, 1) := by decide +kernel
theorem zd_Set_copyFrom_14 : decode zc_Set_copyFrom 14 = .ok (.getfield 9, 3) := by decide +kernel
theorem zd_Set_copyFrom_17 : decode zc_Set_copyFrom 17 = .ok (.iconst 0, 1) := by decide +kernel
theorem zd_Set_copyFrom_18 : decode zc_Set_copyFrom 18 = .ok (.aload_n 0, 1) := by decide +kernel
theorem zd_Set_copyFrom_19 : decode zc_Set_copyFrom 19 = .ok (.getfield 15, 3) := by decide +kernel
theorem zd_Set_copyFrom_22 : decode zc_Set_copyFrom 22 = .ok (.invokestatic 19, 3) := by decide +kernel
theorem zd_Set_copyFrom_25 : decode zc_Set_copyFrom 25 = .ok (.return_, 1) := by decide +kernel
theorem zd_Set_insert_0 : decode zc_Set_insert 0 = .ok (.aload_n 0, 1) := by decide +kernel
theorem zd_Set_insert_1 : decode zc_Set_insert 1 = .ok (.getfield 15, 3) := by decide +kernel
theorem zd_Set_insert_4 : decode zc_Set_insert 4 = .ok (.bipush 24, 2) := by decide +kernel
theorem zd_Set_insert_6 : decode zc_Set_insert 6 = .ok (.if_icmp .lt 4, 3) := by decide +kernel
theorem zd_Set_insert_9 : decode zc_Set_insert 9 = .ok (.return_, 1) := by decide +kernel
theorem zd_Set_insert_10 : decode zc_Set_insert 10 = .ok (.aload_n 0, 1) := by decide +kernel
theorem zd_Set_insert_11 : decode zc_Set_insert 11 = .ok (.lload_n 1, 1) := by decide +kernel
theorem zd_Set_insert_12 : decode zc_Set_insert 12 = .ok (.invokevirtual 25, 3) := by decide +kernel
theorem zd_Set_insert_15 : decode zc_Set_insert 15 = .ok (.istore_n 3, 1) := by decide +kernel
theorem zd_Set_insert_16 : decode zc_Set_insert 16 = .ok (.aload_n 0, 1) := by decide +kernel
theorem zd_Set_insert_17 : decode zc_Set_insert 17 = .ok (.getfield 9, 3) := by decide +kernel
theorem zd_Set_insert_20 : decode zc_Set_insert 20 = .ok (.iload_n 3, 1) := by decide +kernel
theorem zd_Set_insert_21 : decode zc_Set_insert 21 = .ok (.aload_n 0, 1) := by decide +kernel
theorem zd_Set_insert_22 : decode zc_Set_insert 22 = .ok (.getfield 9, 3) := by decide +kernel
theorem zd_Set_insert_25 : decode zc_Set_insert 25 = .ok (.iload_n 3, 1) := by decide +kernel
theorem zd_Set_insert_26 : decode zc_Set_insert 26 = .ok (.iconst 1, 1) := by decide +kernel
theorem zd_Set_insert_27 : decode zc_Set_insert 27 = .ok (.iadd, 1) := by decide +kernel
theorem zd_Set_insert_28 : decode zc_Set_insert 28 = .ok (.aload_n 0, 1) := by decide +kernel
theorem zd_Set_insert_29 : decode zc_Set_insert 29 = .ok (.getfield 15, 3) := by decide +kernel
theorem zd_Set_insert_32 : decode zc_Set_insert 32 = .ok (.iload_n 3, 1) := by decide +kernel
theorem zd_Set_insert_33 : decode zc_Set_insert 33 = .ok (.isub, 1) := by decide +kernel
theorem zd_Set_insert_34 : decode zc_Set_insert 34 = .ok (.invokestatic 19, 3) := by decide +kernel
theorem zd_Set_insert_37 : decode zc_Set_insert 37 = .ok (.aload_n 0, 1) := by decide +kernel
theorem zd_Set_insert_38 : decode zc_Set_insert 38 = .ok (.getfield 9, 3) := by decide +kernel
theorem zd_Set_insert_41 : decode zc_Set_insert 41 = .ok (.iload_n 3, 1) := by decide +kernel
theorem zd_Set_insert_42 : decode zc_Set_insert 42 = .ok (.lload_n 1, 1) := by decide +kernel
theorem zd_Set_insert_43 : decode zc_Set_insert 43 = .ok (.lastore, 1) := by decide +kernel
theorem zd_Set_insert_44 : decode zc_Set_insert 44 = .ok (.aload_n 0, 1) := by decide +kernel
theorem zd_Set_insert_45 : decode zc_Set_insert 45 = .ok (.dup, 1) := by decide +kernel
theorem zd_Set_insert_46 : decode zc_Set_insert 46 = .ok (.getfield 15, 3) := by decide +kernel
theorem zd_Set_insert_49 : decode zc_Set_insert 49 = .ok (.iconst 1, 1) := by decide +kernel
theorem zd_Set_insert_50 : decode zc_Set_insert 50 = .ok (.iadd, 1) := by decide +kernel
theorem zd_Set_insert_51 : decode zc_Set_insert 51 = .ok (.putfield 15, 3) := by decide +kernel
theorem zd_Set_insert_54 : decode zc_Set_insert 54 = .ok (.return_, 1) := by decide +kernel
theorem zd_Set_take_0 : decode zc_Set_take 0 = .ok (.aload_n 0, 1) := by decide +kernel
theorem zd_Set_take_1 : decode zc_Set_take 1 = .ok (.lload_n 1, 1) := by decide +kernel
theorem zd_Set_take_2 : decode zc_Set_take 2 = .ok (.invokevirtual 25, 3) := by decide +kernel
theorem zd_Set_take_5 : decode zc_Set_take 5 = .ok (.istore_n 3, 1) := by decide +kernel
theorem zd_Set_take_6 : decode zc_Set_take 6 = .ok (.iload_n 3, 1) := by decide +kernel
theorem zd_Set_take_7 : decode zc_Set_take 7 = .ok (.aload_n 0, 1) := by decide +kernel
theorem zd_Set_take_8 : decode zc_Set_take 8 = .ok (.getfield 15, 3) := by decide +kernel
theorem zd_Set_take_11 : decode zc_Set_take 11 = .ok (.if_icmp .ge 14, 3) := by decide +kernel
theorem zd_Set_take_14 : decode zc_Set_take 14 = .ok (.aload_n 0, 1) := by decide +kernel
theorem zd_Set_take_15 : decode zc_Set_take 15 = .ok (.getfield 9, 3) := by decide +kernel
theorem zd_Set_take_18 : decode zc_Set_take 18 = .ok (.iload_n 3, 1) := by decide +kernel
theorem zd_Set_take_19 : decode zc_Set_take 19 = .ok (.laload, 1) := by decide +kernel
theorem zd_Set_take_20 : decode zc_Set_take 20 = .ok (.lload_n 1, 1) := by decide +kernel
theorem zd_Set_take_21 : decode zc_Set_take 21 = .ok (.lcmp, 1) := by decide +kernel
theorem zd_Set_take_22 : decode zc_Set_take 22 = .ok (.ifCond .eq 4, 3) := by decide +kernel
theorem zd_Set_take_25 : decode zc_Set_take 25 = .ok (.return_, 1) := by decide +kernel
theorem zd_Set_take_26 : decode zc_Set_take 26 = .ok (.aload_n 0, 1) := by decide +kernel
theorem zd_Set_take_27 : decode zc_Set_take 27 = .ok (.dup, 1) := by decide +kernel
theorem zd_Set_take_28 : decode zc_Set_take 28 = .ok (.getfield 15, 3) := by decide +kernel
theorem zd_Set_take_31 : decode zc_Set_take 31 = .ok (.iconst 1, 1) := by decide +kernel
theorem zd_Set_take_32 : decode zc_Set_take 32 = .ok (.isub, 1) := by decide +kernel
theorem zd_Set_take_33 : decode zc_Set_take 33 = .ok (.putfield 15, 3) := by decide +kernel
theorem zd_Set_take_36 : decode zc_Set_take 36 = .ok (.aload_n 0, 1) := by decide +kernel
theorem zd_Set_take_37 : decode zc_Set_take 37 = .ok (.getfield 9, 3) := by decide +kernel
theorem zd_Set_take_40 : decode zc_Set_take 40 = .ok (.iload_n 3, 1) := by decide +kernel
theorem zd_Set_take_41 : decode zc_Set_take 41 = .ok (.iconst 1, 1) := by decide +kernel
theorem zd_Set_take_42 : decode zc_Set_take 42 = .ok (.iadd, 1) := by decide +kernel
theorem zd_Set_take_43 : decode zc_Set_take 43 = .ok (.aload_n 0, 1) := by decide +kernel
theorem zd_Set_take_44 : decode zc_Set_take 44 = .ok (.getfield 9, 3) := by decide +kernel
theorem zd_Set_take_47 : decode zc_Set_take 47 = .ok (.iload_n 3, 1) := by decide +kernel
theorem zd_Set_take_48 : decode zc_Set_take 48 = .ok (.aload_n 0, 1) := by decide +kernel
theorem zd_Set_take_49 : decode zc_Set_take 49 = .ok (.getfield 15, 3) := by decide +kernel
theorem zd_Set_take_52 : decode zc_Set_take 52 = .ok (.iload_n 3, 1) := by decide +kernel
theorem zd_Set_take_53 : decode zc_Set_take 53 = .ok (.isub, 1) := by decide +kernel
theorem zd_Set_take_54 : decode zc_Set_take 54 = .ok (.invokestatic 19, 3) := by decide +kernel
theorem zd_Set_take_57 : decode zc_Set_take 57 = .ok (.return_, 1) := by decide +kernel
theorem zd_Set_rowsBefore_0 : decode zc_Set_rowsBefore 0 = .ok (.iconst 0, 1) := by decide +kernel
theorem zd_Set_rowsBefore_1 : decode zc_Set_rowsBefore 1 = .ok (.istore_n 3, 1) := by decide +kernel
theorem zd_Set_rowsBefore_2 : decode zc_Set_rowsBefore 2 = .ok (.iload_n 3, 1) := by decide +kernel
theorem zd_Set_rowsBefore_3 : decode zc_Set_rowsBefore 3 = .ok (.aload_n 0, 1) := by decide +kernel
theorem zd_Set_rowsBefore_4 : decode zc_Set_rowsBefore 4 = .ok (.getfield 15, 3) := by decide +kernel
theorem zd_Set_rowsBefore_7 : decode zc_Set_rowsBefore 7 = .ok (.if_icmp .ge 20, 3) := by decide +kernel
theorem zd_Set_rowsBefore_10 : decode zc_Set_rowsBefore 10 = .ok (.aload_n 0, 1) := by decide +kernel
theorem zd_Set_rowsBefore_11 : decode zc_Set_rowsBefore 11 = .ok (.getfield 9, 3) := by decide +kernel
theorem zd_Set_rowsBefore_14 : decode zc_Set_rowsBefore 14 = .ok (.iload_n 3, 1) := by decide +kernel
theorem zd_Set_rowsBefore_15 : decode zc_Set_rowsBefore 15 = .ok (.laload, 1) := by decide +kernel
theorem zd_Set_rowsBefore_16 : decode zc_Set_rowsBefore 16 = .ok (.lload_n 1, 1) := by decide +kernel
theorem zd_Set_rowsBefore_17 : decode zc_Set_rowsBefore 17 = .ok (.lcmp, 1) := by decide +kernel
theorem zd_Set_rowsBefore_18 : decode zc_Set_rowsBefore 18 = .ok (.ifCond .ge 9, 3) := by decide +kernel
theorem zd_Set_rowsBefore_21 : decode zc_Set_rowsBefore 21 = .ok (.iinc 3 1, 3) := by decide +kernel
theorem zd_Set_rowsBefore_24 : decode zc_Set_rowsBefore 24 = .ok (.goto (-22), 3) := by decide +kernel
theorem zd_Set_rowsBefore_27 : decode zc_Set_rowsBefore 27 = .ok (.iload_n 3, 1) := by decide +kernel
theorem zd_Set_rowsBefore_28 : decode zc_Set_rowsBefore 28 = .ok (.ireturn, 1) := by decide +kernel
theorem zd_Set_rowWith_0 : decode zc_Set_rowWith 0 = .ok (.aload_n 0, 1) := by decide +kernel
theorem zd_Set_rowWith_1 : decode zc_Set_rowWith 1 = .ok (.lload_n 1, 1) := by decide +kernel
theorem zd_Set_rowWith_2 : decode zc_Set_rowWith 2 = .ok (.invokevirtual 25, 3) := by decide +kernel
theorem zd_Set_rowWith_5 : decode zc_Set_rowWith 5 = .ok (.istore 5, 2) := by decide +kernel
theorem zd_Set_rowWith_7 : decode zc_Set_rowWith 7 = .ok (.iload 4, 2) := by decide +kernel
theorem zd_Set_rowWith_9 : decode zc_Set_rowWith 9 = .ok (.ifCond .lt 29, 3) := by decide +kernel
theorem zd_Set_rowWith_12 : decode zc_Set_rowWith 12 = .ok (.iload 4, 2) := by decide +kernel
theorem zd_Set_rowWith_14 : decode zc_Set_rowWith 14 = .ok (.aload_n 0, 1) := by decide +kernel
theorem zd_Set_rowWith_15 : decode zc_Set_rowWith 15 = .ok (.getfield 15, 3) := by decide +kernel
theorem zd_Set_rowWith_18 : decode zc_Set_rowWith 18 = .ok (.iload 5, 2) := by decide +kernel
theorem zd_Set_rowWith_20 : decode zc_Set_rowWith 20 = .ok (.isub, 1) := by decide +kernel
theorem zd_Set_rowWith_21 : decode zc_Set_rowWith 21 = .ok (.if_icmp .ge 17, 3) := by decide +kernel
theorem zd_Set_rowWith_24 : decode zc_Set_rowWith 24 = .ok (.aload_n 0, 1) := by decide +kernel
theorem zd_Set_rowWith_25 : decode zc_Set_rowWith 25 = .ok (.iload 5, 2) := by decide +kernel
theorem zd_Set_rowWith_27 : decode zc_Set_rowWith 27 = .ok (.iload 4, 2) := by decide +kernel
theorem zd_Set_rowWith_29 : decode zc_Set_rowWith 29 = .ok (.iadd, 1) := by decide +kernel
theorem zd_Set_rowWith_30 : decode zc_Set_rowWith 30 = .ok (.lload_n 1, 1) := by decide +kernel
theorem zd_Set_rowWith_31 : decode zc_Set_rowWith 31 = .ok (.iload_n 3, 1) := by decide +kernel
theorem zd_Set_rowWith_32 : decode zc_Set_rowWith 32 = .ok (.invokevirtual 29, 3) := by decide +kernel
theorem zd_Set_rowWith_35 : decode zc_Set_rowWith 35 = .ok (.ifCond .ne 5, 3) := by decide +kernel
theorem zd_Set_rowWith_38 : decode zc_Set_rowWith 38 = .ok (.lconst 0, 1) := by decide +kernel
theorem zd_Set_rowWith_39 : decode zc_Set_rowWith 39 = .ok (.lreturn, 1) := by decide +kernel
theorem zd_Set_rowWith_40 : decode zc_Set_rowWith 40 = .ok (.aload_n 0, 1) := by decide +kernel
theorem zd_Set_rowWith_41 : decode zc_Set_rowWith 41 = .ok (.getfield 9, 3) := by decide +kernel
theorem zd_Set_rowWith_44 : decode zc_Set_rowWith 44 = .ok (.iload 5, 2) := by decide +kernel
theorem zd_Set_rowWith_46 : decode zc_Set_rowWith 46 = .ok (.iload 4, 2) := by decide +kernel
theorem zd_Set_rowWith_48 : decode zc_Set_rowWith 48 = .ok (.iadd, 1) := by decide +kernel
theorem zd_Set_rowWith_49 : decode zc_Set_rowWith 49 = .ok (.laload, 1) := by decide +kernel
theorem zd_Set_rowWith_50 : decode zc_Set_rowWith 50 = .ok (.lreturn, 1) := by decide +kernel
theorem zd_Set_places_0 : decode zc_Set_places 0 = .ok (.iconst 1, 1) := by decide +kernel
theorem zd_Set_places_1 : decode zc_Set_places 1 = .ok (.istore_n 1, 1) := by decide +kernel
theorem zd_Set_places_2 : decode zc_Set_places 2 = .ok (.iconst 0, 1) := by decide +kernel
theorem zd_Set_places_3 : decode zc_Set_places 3 = .ok (.istore_n 2, 1) := by decide +kernel
theorem zd_Set_places_4 : decode zc_Set_places 4 = .ok (.iload_n 2, 1) := by decide +kernel
theorem zd_Set_places_5 : decode zc_Set_places 5 = .ok (.aload_n 0, 1) := by decide +kernel
theorem zd_Set_places_6 : decode zc_Set_places 6 = .ok (.getfield 15, 3) := by decide +kernel
theorem zd_Set_places_9 : decode zc_Set_places 9 = .ok (.if_icmp .ge 77, 3) := by decide +kernel
theorem zd_Set_places_12 : decode zc_Set_places 12 = .ok (.iload_n 2, 1) := by decide +kernel
theorem zd_Set_places_13 : decode zc_Set_places 13 = .ok (.ifCond .ne 7, 3) := by decide +kernel
theorem zd_Set_places_16 : decode zc_Set_places 16 = .ok (.iconst 0, 1) := by decide +kernel
theorem zd_Set_places_17 : decode zc_Set_places 17 = .ok (.goto 20, 3) := by decide +kernel
theorem zd_Set_places_20 : decode zc_Set_places 20 = .ok (.aload_n 0, 1) := by decide +kernel
theorem zd_Set_places_21 : decode zc_Set_places 21 = .ok (.getfield 9, 3) := by decide +kernel
theorem zd_Set_places_24 : decode zc_Set_places 24 = .ok (.iload_n 2, 1) := by decide +kernel
theorem zd_Set_places_25 : decode zc_Set_places 25 = .ok (.iconst 1, 1) := by decide +kernel
theorem zd_Set_places_26 : decode zc_Set_places 26 = .ok (.isub, 1) := by decide +kernel
theorem zd_Set_places_27 : decode zc_Set_places 27 = .ok (.laload, 1) := by decide +kernel
theorem zd_Set_places_28 : decode zc_Set_places 28 = .ok (.aload_n 0, 1) := by decide +kernel
theorem zd_Set_places_29 : decode zc_Set_places 29 = .ok (.getfield 9, 3) := by decide +kernel
theorem zd_Set_places_32 : decode zc_Set_places 32 = .ok (.iload_n 2, 1) := by decide +kernel
theorem zd_Set_places_33 : decode zc_Set_places 33 = .ok (.laload, 1) := by decide +kernel
theorem zd_Set_places_34 : decode zc_Set_places 34 = .ok (.invokestatic 35, 3) := by decide +kernel
theorem zd_Set_places_37 : decode zc_Set_places 37 = .ok (.istore_n 3, 1) := by decide +kernel
theorem zd_Set_places_38 : decode zc_Set_places 38 = .ok (.aload_n 0, 1) := by decide +kernel
theorem zd_Set_places_39 : decode zc_Set_places 39 = .ok (.getfield 9, 3) := by decide +kernel
theorem zd_Set_places_42 : decode zc_Set_places 42 = .ok (.iload_n 2, 1) := by decide +kernel
theorem zd_Set_places_43 : decode zc_Set_places 43 = .ok (.laload, 1) := by decide +kernel
theorem zd_Set_places_44 : decode zc_Set_places 44 = .ok (.invokestatic 39, 3) := by decide +kernel
theorem zd_Set_places_47 : decode zc_Set_places 47 = .ok (.istore 4, 2) := by decide +kernel
theorem zd_Set_places_49 : decode zc_Set_places 49 = .ok (.iload_n 3, 1) := by decide +kernel
theorem zd_Set_places_50 : decode zc_Set_places 50 = .ok (.iconst 1, 1) := by decide +kernel
theorem zd_Set_places_51 : decode zc_Set_places 51 = .ok (.iadd, 1) := by decide +kernel
theorem zd_Set_places_52 : decode zc_Set_places 52 = .ok (.istore 5, 2) := by decide +kernel
theorem zd_Set_places_54 : decode zc_Set_places 54 = .ok (.iload 5, 2) := by decide +kernel
theorem zd_Set_places_56 : decode zc_Set_places 56 = .ok (.iload 4, 2) := by decide +kernel
theorem zd_Set_places_58 : decode zc_Set_places 58 = .ok (.if_icmp .gt 22, 3) := by decide +kernel
theorem zd_Set_places_61 : decode zc_Set_places 61 = .ok (.aload_n 0, 1) := by decide +kernel
theorem zd_Set_places_62 : decode zc_Set_places 62 = .ok (.iload_n 2, 1) := by decide +kernel
theorem zd_Set_places_63 : decode zc_Set_places 63 = .ok (.iload 5, 2) := by decide +kernel
theorem zd_Set_places_65 : decode zc_Set_places 65 = .ok (.invokevirtual 42, 3) := by decide +kernel
theorem zd_Set_places_68 : decode zc_Set_places 68 = .ok (.ifCond .eq 6, 3) := by decide +kernel
theorem zd_Set_places_71 : decode zc_Set_places 71 = .ok (.iinc 1 1, 3) := by decide +kernel
theorem zd_Set_places_74 : decode zc_Set_places 74 = .ok (.iinc 5 1, 3) := by decide +kernel
theorem zd_Set_places_77 : decode zc_Set_places 77 = .ok (.goto (-23), 3) := by decide +kernel
theorem zd_Set_places_80 : decode zc_Set_places 80 = .ok (.iinc 2 1, 3) := by decide +kernel
theorem zd_Set_places_83 : decode zc_Set_places 83 = .ok (.goto (-79), 3) := by decide +kernel
theorem zd_Set_places_86 : decode zc_Set_places 86 = .ok (.iload_n 1, 1) := by decide +kernel
theorem zd_Set_places_87 : decode zc_Set_places 87 = .ok (.ireturn, 1) := by decide +kernel
theorem zd_Set_placesAlong_0 : decode zc_Set_placesAlong 0 = .ok (.lload_n 1, 1) := by decide +kernel
theorem zd_Set_placesAlong_1 : decode zc_Set_placesAlong 1 = .ok (.invokestatic 39, 3) := by decide +kernel
theorem zd_Set_placesAlong_4 : decode zc_Set_placesAlong 4 = .ok (.istore 4, 2) := by decide +kernel
theorem zd_Set_placesAlong_6 : decode zc_Set_placesAlong 6 = .ok (.iconst 0, 1) := by decide +kernel
theorem zd_Set_placesAlong_7 : decode zc_Set_placesAlong 7 = .ok (.istore 5, 2) := by decide +kernel
theorem zd_Set_placesAlong_9 : decode zc_Set_placesAlong 9 = .ok (.iload_n 3, 1) := by decide +kernel
theorem zd_Set_placesAlong_10 : decode zc_Set_placesAlong 10 = .ok (.istore 6, 2) := by decide +kernel
theorem zd_Set_placesAlong_12 : decode zc_Set_placesAlong 12 = .ok (.iload 6, 2) := by decide +kernel
theorem zd_Set_placesAlong_14 : decode zc_Set_placesAlong 14 = .ok (.iload 4, 2) := by decide +kernel
theorem zd_Set_placesAlong_16 : decode zc_Set_placesAlong 16 = .ok (.if_icmp .gt 22, 3) := by decide +kernel
theorem zd_Set_placesAlong_19 : decode zc_Set_placesAlong 19 = .ok (.aload_n 0, 1) := by decide +kernel
theorem zd_Set_placesAlong_20 : decode zc_Set_placesAlong 20 = .ok (.lload_n 1, 1) := by decide +kernel
theorem zd_Set_placesAlong_21 : decode zc_Set_placesAlong 21 = .ok (.iload 6, 2) := by decide +kernel
theorem zd_Set_placesAlong_23 : decode zc_Set_placesAlong 23 = .ok (.invokevirtual 46, 3) := by decide +kernel
theorem zd_Set_placesAlong_26 : decode zc_Set_placesAlong 26 = .ok (.ifCond .eq 6, 3) := by decide +kernel
theorem zd_Set_placesAlong_29 : decode zc_Set_placesAlong 29 = .ok (.iinc 5 1, 3) := by decide +kernel
theorem zd_Set_placesAlong_32 : decode zc_Set_placesAlong 32 = .ok (.iinc 6 1, 3) := by decide +kernel
theorem zd_Set_placesAlong_35 : decode zc_Set_placesAlong 35 = .ok (.goto (-23), 3) := by decide +kernel
theorem zd_Set_placesAlong_38 : decode zc_Set_placesAlong 38 = .ok (.iload 5, 2) := by decide +kernel
theorem zd_Set_placesAlong_40 : decode zc_Set_placesAlong 40 = .ok (.ireturn, 1) := by decide +kernel
theorem zd_Set_isPlaceAlong_0 : decode zc_Set_isPlaceAlong 0 = .ok (.iload_n 3, 1) := by decide +kernel
theorem zd_Set_isPlaceAlong_1 : decode zc_Set_isPlaceAlong 1 = .ok (.ifCond .ne 5, 3) := by decide +kernel
theorem zd_Set_isPlaceAlong_4 : decode zc_Set_isPlaceAlong 4 = .ok (.iconst 1, 1) := by decide +kernel
theorem zd_Set_isPlaceAlong_5 : decode zc_Set_isPlaceAlong 5 = .ok (.ireturn, 1) := by decide +kernel
theorem zd_Set_isPlaceAlong_6 : decode zc_Set_isPlaceAlong 6 = .ok (.lload_n 1, 1) := by decide +kernel
theorem zd_Set_isPlaceAlong_7 : decode zc_Set_isPlaceAlong 7 = .ok (.iload_n 3, 1) := by decide +kernel
theorem zd_Set_isPlaceAlong_8 : decode zc_Set_isPlaceAlong 8 = .ok (.invokestatic 50, 3) := by decide +kernel
theorem zd_Set_isPlaceAlong_11 : decode zc_Set_isPlaceAlong 11 = .ok (.lstore 4, 2) := by decide +kernel
theorem zd_Set_isPlaceAlong_13 : decode zc_Set_isPlaceAlong 13 = .ok (.aload_n 0, 1) := by decide +kernel
theorem zd_Set_isPlaceAlong_14 : decode zc_Set_isPlaceAlong 14 = .ok (.lload 4, 2) := by decide +kernel
theorem zd_Set_isPlaceAlong_16 : decode zc_Set_isPlaceAlong 16 = .ok (.invokevirtual 25, 3) := by decide +kernel
theorem zd_Set_isPlaceAlong_19 : decode zc_Set_isPlaceAlong 19 = .ok (.istore 6, 2) := by decide +kernel
theorem zd_Set_isPlaceAlong_21 : decode zc_Set_isPlaceAlong 21 = .ok (.iload 6, 2) := by decide +kernel
theorem zd_Set_isPlaceAlong_23 : decode zc_Set_isPlaceAlong 23 = .ok (.aload_n 0, 1) := by decide +kernel
theorem zd_Set_isPlaceAlong_24 : decode zc_Set_isPlaceAlong 24 = .ok (.getfield 15, 3) := by decide +kernel
theorem zd_Set_isPlaceAlong_27 : decode zc_Set_isPlaceAlong 27 = .ok (.if_icmp .ge 29, 3) := by decide +kernel
theorem zd_Set_isPlaceAlong_30 : decode zc_Set_isPlaceAlong 30 = .ok (.aload_n 0, 1) := by decide +kernel
theorem zd_Set_isPlaceAlong_31 : decode zc_Set_isPlaceAlong 31 = .ok (.iload 6, 2) := by decide +kernel
theorem zd_Set_isPlaceAlong_33 : decode zc_Set_isPlaceAlong 33 = .ok (.lload 4, 2) := by decide +kernel
theorem zd_Set_isPlaceAlong_35 : decode zc_Set_isPlaceAlong 35 = .ok (.iload_n 3, 1) := by decide +kernel
theorem zd_Set_isPlaceAlong_36 : decode zc_Set_isPlaceAlong 36 = .ok (.invokevirtual 29, 3) := by decide +kernel
theorem zd_Set_isPlaceAlong_39 : decode zc_Set_isPlaceAlong 39 = .ok (.ifCond .eq 17, 3) := by decide +kernel
theorem zd_Set_isPlaceAlong_42 : decode zc_Set_isPlaceAlong 42 = .ok (.aload_n 0, 1) := by decide +kernel
theorem zd_Set_isPlaceAlong_43 : decode zc_Set_isPlaceAlong 43 = .ok (.iload 6, 2) := by decide +kernel
theorem zd_Set_isPlaceAlong_45 : decode zc_Set_isPlaceAlong 45 = .ok (.iload_n 3, 1) := by decide +kernel
theorem zd_Set_isPlaceAlong_46 : decode zc_Set_isPlaceAlong 46 = .ok (.invokevirtual 42, 3) := by decide +kernel
theorem zd_Set_isPlaceAlong_49 : decode zc_Set_isPlaceAlong 49 = .ok (.ifCond .eq 7, 3) := by decide +kernel
theorem zd_Set_isPlaceAlong_52 : decode zc_Set_isPlaceAlong 52 = .ok (.iconst 1, 1) := by decide +kernel
theorem zd_Set_isPlaceAlong_53 : decode zc_Set_isPlaceAlong 53 = .ok (.goto 4, 3) := by decide +kernel
theorem zd_Set_isPlaceAlong_56 : decode zc_Set_isPlaceAlong 56 = .ok (.iconst 0, 1) := by decide +kernel
theorem zd_Set_isPlaceAlong_57 : decode zc_Set_isPlaceAlong 57 = .ok (.ireturn, 1) := by decide +kernel
theorem zd_Set_hasBeginning_0 : decode zc_Set_hasBeginning 0 = .ok (.aload_n 0, 1) := by decide +kernel
theorem zd_Set_hasBeginning_1 : decode zc_Set_hasBeginning 1 = .ok (.getfield 9, 3) := by decide +kernel
theorem zd_Set_hasBeginning_4 : decode zc_Set_hasBeginning 4 = .ok (.iload_n 1, 1) := by decide +kernel
theorem zd_Set_hasBeginning_5 : decode zc_Set_hasBeginning 5 = .ok (.laload, 1) := by decide +kernel
theorem zd_Set_hasBeginning_6 : decode zc_Set_hasBeginning 6 = .ok (.iload 4, 2) := by decide +kernel
theorem zd_Set_hasBeginning_8 : decode zc_Set_hasBeginning 8 = .ok (.invokestatic 50, 3) := by decide +kernel
theorem zd_Set_hasBeginning_11 : decode zc_Set_hasBeginning 11 = .ok (.lload_n 2, 1) := by decide +kernel
theorem zd_Set_hasBeginning_12 : decode zc_Set_hasBeginning 12 = .ok (.lcmp, 1) := by decide +kernel
theorem zd_Set_hasBeginning_13 : decode zc_Set_hasBeginning 13 = .ok (.ifCond .ne 7, 3) := by decide +kernel
theorem zd_Set_hasBeginning_16 : decode zc_Set_hasBeginning 16 = .ok (.iconst 1, 1) := by decide +kernel
theorem zd_Set_hasBeginning_17 : decode zc_Set_hasBeginning 17 = .ok (.goto 4, 3) := by decide +kernel
theorem zd_Set_hasBeginning_20 : decode zc_Set_hasBeginning 20 = .ok (.iconst 0, 1) := by decide +kernel
theorem zd_Set_hasBeginning_21 : decode zc_Set_hasBeginning 21 = .ok (.ireturn, 1) := by decide +kernel
theorem zd_Set_isPlace_0 : decode zc_Set_isPlace 0 = .ok (.aload_n 0, 1) := by decide +kernel
theorem zd_Set_isPlace_1 : decode zc_Set_isPlace 1 = .ok (.getfield 9, 3) := by decide +kernel
theorem zd_Set_isPlace_4 : decode zc_Set_isPlace 4 = .ok (.iload_n 1, 1) := by decide +kernel
theorem zd_Set_isPlace_5 : decode zc_Set_isPlace 5 = .ok (.laload, 1) := by decide +kernel
theorem zd_Set_isPlace_6 : decode zc_Set_isPlace 6 = .ok (.iload_n 2, 1) := by decide +kernel
theorem zd_Set_isPlace_7 : decode zc_Set_isPlace 7 = .ok (.invokestatic 50, 3) := by decide +kernel
theorem zd_Set_isPlace_10 : decode zc_Set_isPlace 10 = .ok (.lstore_n 3, 1) := by decide +kernel
theorem zd_Set_isPlace_11 : decode zc_Set_isPlace 11 = .ok (.aload_n 0, 1) := by decide +kernel
theorem zd_Set_isPlace_12 : decode zc_Set_isPlace 12 = .ok (.getfield 9, 3) := by decide +kernel
theorem zd_Set_isPlace_15 : decode zc_Set_isPlace 15 = .ok (.iload_n 1, 1) := by decide +kernel
theorem zd_Set_isPlace_16 : decode zc_Set_isPlace 16 = .ok (.laload, 1) := by decide +kernel
theorem zd_Set_isPlace_17 : decode zc_Set_isPlace 17 = .ok (.lload_n 3, 1) := by decide +kernel
theorem zd_Set_isPlace_18 : decode zc_Set_isPlace 18 = .ok (.lcmp, 1) := by decide +kernel
theorem zd_Set_isPlace_19 : decode zc_Set_isPlace 19 = .ok (.ifCond .ne 5, 3) := by decide +kernel
theorem zd_Set_isPlace_22 : decode zc_Set_isPlace 22 = .ok (.iconst 1, 1) := by decide +kernel
theorem zd_Set_isPlace_23 : decode zc_Set_isPlace 23 = .ok (.ireturn, 1) := by decide +kernel
theorem zd_Set_isPlace_24 : decode zc_Set_isPlace 24 = .ok (.iload_n 1, 1) := by decide +kernel
theorem zd_Set_isPlace_25 : decode zc_Set_isPlace 25 = .ok (.istore 5, 2) := by decide +kernel
theorem zd_Set_isPlace_27 : decode zc_Set_isPlace 27 = .ok (.iload 5, 2) := by decide +kernel
theorem zd_Set_isPlace_29 : decode zc_Set_isPlace 29 = .ok (.iconst 1, 1) := by decide +kernel
theorem zd_Set_isPlace_30 : decode zc_Set_isPlace 30 = .ok (.iadd, 1) := by decide +kernel
theorem zd_Set_isPlace_31 : decode zc_Set_isPlace 31 = .ok (.aload_n 0, 1) := by decide +kernel
theorem zd_Set_isPlace_32 : decode zc_Set_isPlace 32 = .ok (.getfield 15, 3) := by decide +kernel
theorem zd_Set_isPlace_35 : decode zc_Set_isPlace 35 = .ok (.if_icmp .ge 22, 3) := by decide +kernel
theorem zd_Set_isPlace_38 : decode zc_Set_isPlace 38 = .ok (.aload_n 0, 1) := by decide +kernel
theorem zd_Set_isPlace_39 : decode zc_Set_isPlace 39 = .ok (.iload 5, 2) := by decide +kernel
theorem zd_Set_isPlace_41 : decode zc_Set_isPlace 41 = .ok (.iconst 1, 1) := by decide +kernel
theorem zd_Set_isPlace_42 : decode zc_Set_isPlace 42 = .ok (.iadd, 1) := by decide +kernel
theorem zd_Set_isPlace_43 : decode zc_Set_isPlace 43 = .ok (.lload_n 3, 1) := by decide +kernel
theorem zd_Set_isPlace_44 : decode zc_Set_isPlace 44 = .ok (.iload_n 2, 1) := by decide +kernel
theorem zd_Set_isPlace_45 : decode zc_Set_isPlace 45 = .ok (.invokevirtual 29, 3) := by decide +kernel
theorem zd_Set_isPlace_48 : decode zc_Set_isPlace 48 = .ok (.ifCond .eq 9, 3) := by decide +kernel
theorem zd_Set_isPlace_51 : decode zc_Set_isPlace 51 = .ok (.iinc 5 1, 3) := by decide +kernel
theorem zd_Set_isPlace_54 : decode zc_Set_isPlace 54 = .ok (.goto (-27), 3) := by decide +kernel
theorem zd_Set_isPlace_57 : decode zc_Set_isPlace 57 = .ok (.aload_n 0, 1) := by decide +kernel
theorem zd_Set_isPlace_58 : decode zc_Set_isPlace 58 = .ok (.getfield 9, 3) := by decide +kernel
theorem zd_Set_isPlace_61 : decode zc_Set_isPlace 61 = .ok (.iload_n 1, 1) := by decide +kernel
theorem zd_Set_isPlace_62 : decode zc_Set_isPlace 62 = .ok (.laload, 1) := by decide +kernel
theorem zd_Set_isPlace_63 : decode zc_Set_isPlace 63 = .ok (.iload_n 2, 1) := by decide +kernel
theorem zd_Set_isPlace_64 : decode zc_Set_isPlace 64 = .ok (.iconst 1, 1) := by decide +kernel
theorem zd_Set_isPlace_65 : decode zc_Set_isPlace 65 = .ok (.iadd, 1) := by decide +kernel
theorem zd_Set_isPlace_66 : decode zc_Set_isPlace 66 = .ok (.invokestatic 50, 3) := by decide +kernel
theorem zd_Set_isPlace_69 : decode zc_Set_isPlace 69 = .ok (.aload_n 0, 1) := by decide +kernel
theorem zd_Set_isPlace_70 : decode zc_Set_isPlace 70 = .ok (.getfield 9, 3) := by decide +kernel
theorem zd_Set_isPlace_73 : decode zc_Set_isPlace 73 = .ok (.iload 5, 2) := by decide +kernel
theorem zd_Set_isPlace_75 : decode zc_Set_isPlace 75 = .ok (.laload, 1) := by decide +kernel
theorem zd_Set_isPlace_76 : decode zc_Set_isPlace 76 = .ok (.iload_n 2, 1) := by decide +kernel
theorem zd_Set_isPlace_77 : decode zc_Set_isPlace 77 = .ok (.iconst 1, 1) := by decide +kernel
theorem zd_Set_isPlace_78 : decode zc_Set_isPlace 78 = .ok (.iadd, 1) := by decide +kernel
theorem zd_Set_isPlace_79 : decode zc_Set_isPlace 79 = .ok (.invokestatic 50, 3) := by decide +kernel
theorem zd_Set_isPlace_82 : decode zc_Set_isPlace 82 = .ok (.lcmp, 1) := by decide +kernel
theorem zd_Set_isPlace_83 : decode zc_Set_isPlace 83 = .ok (.ifCond .eq 7, 3) := by decide +kernel
theorem zd_Set_isPlace_86 : decode zc_Set_isPlace 86 = .ok (.iconst 1, 1) := by decide +kernel
theorem zd_Set_isPlace_87 : decode zc_Set_isPlace 87 = .ok (.goto 4, 3) := by decide +kernel
theorem zd_Set_isPlace_90 : decode zc_Set_isPlace 90 = .ok (.iconst 0, 1) := by decide +kernel
theorem zd_Set_isPlace_91 : decode zc_Set_isPlace 91 = .ok (.ireturn, 1) := by decide +kernel

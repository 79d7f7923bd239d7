theorem dX0_init_0 : decode cX0_init 0 = .ok (.aload_n 0, 1) := by decide +kernel
theorem dX0_init_1 : decode cX0_init 1 = .ok (.invokespecial 3, 3) := by decide +kernel
theorem dX0_init_4 : decode cX0_init 4 = .ok (.aload_n 0, 1) := by decide +kernel
theorem dX0_init_5 : decode cX0_init 5 = .ok (.sipush 3600, 3) := by decide +kernel
theorem dX0_init_8 : decode cX0_init 8 = .ok (.newarray .int, 2) := by decide +kernel
theorem dX0_init_10 : decode cX0_init 10 = .ok (.putfield 9, 3) := by decide +kernel
theorem dX0_init_13 : decode cX0_init 13 = .ok (.return_, 1) := by decide +kernel
theorem dX0_copy_0 : decode cX0_copy 0 = .ok (.aload_n 0, 1) := by decide +kernel
theorem dX0_copy_1 : decode cX0_copy 1 = .ok (.aload_n 1, 1) := by decide +kernel
theorem dX0_copy_2 : decode cX0_copy 2 = .ok (.getfield 15, 3) := by decide +kernel
theorem dX0_copy_5 : decode cX0_copy 5 = .ok (.putfield 15, 3) := by decide +kernel
theorem dX0_copy_8 : decode cX0_copy 8 = .ok (.aload_n 1, 1) := by decide +kernel
theorem dX0_copy_9 : decode cX0_copy 9 = .ok (.getfield 9, 3) := by decide +kernel
theorem dX0_copy_12 : decode cX0_copy 12 = .ok (.iconst 0, 1) := by decide +kernel
theorem dX0_copy_13 : decode cX0_copy 13 = .ok (.aload_n 0, 1) := by decide +kernel
theorem dX0_copy_14 : decode cX0_copy 14 = .ok (.getfield 9, 3) := by decide +kernel
theorem dX0_copy_17 : decode cX0_copy 17 = .ok (.iconst 0, 1) := by decide +kernel
theorem dX0_copy_18 : decode cX0_copy 18 = .ok (.aload_n 1, 1) := by decide +kernel
theorem dX0_copy_19 : decode cX0_copy 19 = .ok (.invokevirtual 19, 3) := by decide +kernel
theorem dX0_copy_22 : decode cX0_copy 22 = .ok (.bipush 6, 2) := by decide +kernel
theorem dX0_copy_24 : decode cX0_copy 24 = .ok (.imul, 1) := by decide +kernel
theorem dX0_copy_25 : decode cX0_copy 25 = .ok (.invokestatic 23, 3) := by decide +kernel
theorem dX0_copy_28 : decode cX0_copy 28 = .ok (.return_, 1) := by decide +kernel
theorem dX0_kept_0 : decode cX0_kept 0 = .ok (.aload_n 0, 1) := by decide +kernel
theorem dX0_kept_1 : decode cX0_kept 1 = .ok (.getfield 15, 3) := by decide +kernel
theorem dX0_kept_4 : decode cX0_kept 4 = .ok (.sipush 600, 3) := by decide +kernel
theorem dX0_kept_7 : decode cX0_kept 7 = .ok (.invokestatic 29, 3) := by decide +kernel
theorem dX0_kept_10 : decode cX0_kept 10 = .ok (.ireturn, 1) := by decide +kernel
theorem dX0_write_0 : decode cX0_write 0 = .ok (.aload_n 0, 1) := by decide +kernel
theorem dX0_write_1 : decode cX0_write 1 = .ok (.invokevirtual 19, 3) := by decide +kernel
theorem dX0_write_4 : decode cX0_write 4 = .ok (.bipush 6, 2) := by decide +kernel
theorem dX0_write_6 : decode cX0_write 6 = .ok (.imul, 1) := by decide +kernel
theorem dX0_write_7 : decode cX0_write 7 = .ok (.istore 7, 2) := by decide +kernel
theorem dX0_write_9 : decode cX0_write 9 = .ok (.aload_n 0, 1) := by decide +kernel
theorem dX0_write_10 : decode cX0_write 10 = .ok (.dup, 1) := by decide +kernel
theorem dX0_write_11 : decode cX0_write 11 = .ok (.getfield 15, 3) := by decide +kernel
theorem dX0_write_14 : decode cX0_write 14 = .ok (.iconst 1, 1) := by decide +kernel
theorem dX0_write_15 : decode cX0_write 15 = .ok (.iadd, 1) := by decide +kernel
theorem dX0_write_16 : decode cX0_write 16 = .ok (.putfield 15, 3) := by decide +kernel
theorem dX0_write_19 : decode cX0_write 19 = .ok (.iload 7, 2) := by decide +kernel
theorem dX0_write_21 : decode cX0_write 21 = .ok (.bipush 6, 2) := by decide +kernel
theorem dX0_write_23 : decode cX0_write 23 = .ok (.iadd, 1) := by decide +kernel
theorem dX0_write_24 : decode cX0_write 24 = .ok (.aload_n 0, 1) := by decide +kernel
theorem dX0_write_25 : decode cX0_write 25 = .ok (.getfield 9, 3) := by decide +kernel
theorem dX0_write_28 : decode cX0_write 28 = .ok (.arraylength, 1) := by decide +kernel
theorem dX0_write_29 : decode cX0_write 29 = .ok (.if_icmp .le 4, 3) := by decide +kernel
theorem dX0_write_33 : decode cX0_write 33 = .ok (.aload_n 0, 1) := by decide +kernel
theorem dX0_write_34 : decode cX0_write 34 = .ok (.getfield 9, 3) := by decide +kernel
theorem dX0_write_37 : decode cX0_write 37 = .ok (.iload 7, 2) := by decide +kernel
theorem dX0_write_39 : decode cX0_write 39 = .ok (.iload_n 1, 1) := by decide +kernel
theorem dX0_write_40 : decode cX0_write 40 = .ok (.iastore, 1) := by decide +kernel
theorem dX0_write_41 : decode cX0_write 41 = .ok (.aload_n 0, 1) := by decide +kernel
theorem dX0_write_42 : decode cX0_write 42 = .ok (.getfield 9, 3) := by decide +kernel
theorem dX0_write_45 : decode cX0_write 45 = .ok (.iload 7, 2) := by decide +kernel
theorem dX0_write_47 : decode cX0_write 47 = .ok (.iconst 1, 1) := by decide +kernel
theorem dX0_write_48 : decode cX0_write 48 = .ok (.iadd, 1) := by decide +kernel
theorem dX0_write_49 : decode cX0_write 49 = .ok (.iload_n 2, 1) := by decide +kernel
theorem dX0_write_50 : decode cX0_write 50 = .ok (.iastore, 1) := by decide +kernel
theorem dX0_write_51 : decode cX0_write 51 = .ok (.aload_n 0, 1) := by decide +kernel
theorem dX0_write_52 : decode cX0_write 52 = .ok (.getfield 9, 3) := by decide +kernel
theorem dX0_write_55 : decode cX0_write 55 = .ok (.iload 7, 2) := by decide +kernel
theorem dX0_write_57 : decode cX0_write 57 = .ok (.iconst 2, 1) := by decide +kernel
theorem dX0_write_58 : decode cX0_write 58 = .ok (.iadd, 1) := by decide +kernel
theorem dX0_write_59 : decode cX0_write 59 = .ok (.iload_n 3, 1) := by decide +kernel
theorem dX0_write_60 : decode cX0_write 60 = .ok (.iastore, 1) := by decide +kernel
theorem dX0_write_61 : decode cX0_write 61 = .ok (.aload_n 0, 1) := by decide +kernel
theorem dX0_write_62 : decode cX0_write 62 = .ok (.getfield 9, 3) := by decide +kernel
theorem dX0_write_65 : decode cX0_write 65 = .ok (.iload 7, 2) := by decide +kernel
theorem dX0_write_67 : decode cX0_write 67 = .ok (.iconst 3, 1) := by decide +kernel
theorem dX0_write_68 : decode cX0_write 68 = .ok (.iadd, 1) := by decide +kernel
theorem dX0_write_69 : decode cX0_write 69 = .ok (.iload 4, 2) := by decide +kernel
theorem dX0_write_71 : decode cX0_write 71 = .ok (.iastore, 1) := by decide +kernel
theorem dX0_write_72 : decode cX0_write 72 = .ok (.aload_n 0, 1) := by decide +kernel
theorem dX0_write_73 : decode cX0_write 73 = .ok (.getfield 9, 3) := by decide +kernel
theorem dX0_write_76 : decode cX0_write 76 = .ok (.iload 7, 2) := by decide +kernel
theorem dX0_write_78 : decode cX0_write 78 = .ok (.iconst 4, 1) := by decide +kernel
theorem dX0_write_79 : decode cX0_write 79 = .ok (.iadd, 1) := by decide +kernel
theorem dX0_write_80 : decode cX0_write 80 = .ok (.iload 5, 2) := by decide +kernel
theorem dX0_write_82 : decode cX0_write 82 = .ok (.iastore, 1) := by decide +kernel
theorem dX0_write_83 : decode cX0_write 83 = .ok (.aload_n 0, 1) := by decide +kernel
theorem dX0_write_84 : decode cX0_write 84 = .ok (.getfield 9, 3) := by decide +kernel
theorem dX0_write_87 : decode cX0_write 87 = .ok (.iload 7, 2) := by decide +kernel
theorem dX0_write_89 : decode cX0_write 89 = .ok (.iconst 5, 1) := by decide +kernel
theorem dX0_write_90 : decode cX0_write 90 = .ok (.iadd, 1) := by decide +kernel
theorem dX0_write_91 : decode cX0_write 91 = .ok (.iload 6, 2) := by decide +kernel
theorem dX0_write_93 : decode cX0_write 93 = .ok (.iastore, 1) := by decide +kernel
theorem dX0_write_94 : decode cX0_write 94 = .ok (.return_, 1) := by decide +kernel
theorem dX0_number_0 : decode cX0_number 0 = .ok (.iload_n 1, 1) := by decide +kernel
theorem dX0_number_1 : decode cX0_number 1 = .ok (.aload_n 0, 1) := by decide +kernel
theorem dX0_number_2 : decode cX0_number 2 = .ok (.invokevirtual 19, 3) := by decide +kernel
theorem dX0_number_5 : decode cX0_number 5 = .ok (.invokestatic 35, 3) := by decide +kernel
theorem dX0_number_8 : decode cX0_number 8 = .ok (.ifCond .eq 26, 3) := by decide +kernel
theorem dX0_number_34 : decode cX0_number 34 = .ok (.iconst (-1), 1) := by decide +kernel
theorem dX0_number_35 : decode cX0_number 35 = .ok (.ireturn, 1) := by decide +kernel
theorem dX1_init_0 : decode cX1_init 0 = .ok (.aload_n 0, 1) := by decide +kernel
theorem dX1_init_1 : decode cX1_init 1 = .ok (.invokespecial 3, 3) := by decide +kernel
theorem dX1_init_4 : decode cX1_init 4 = .ok (.aload_n 0, 1) := by decide +kernel
theorem dX1_init_5 : decode cX1_init 5 = .ok (.bipush 27, 2) := by decide +kernel
theorem dX1_init_7 : decode cX1_init 7 = .ok (.newarray .int, 2) := by decide +kernel
theorem dX1_init_9 : decode cX1_init 9 = .ok (.putfield 9, 3) := by decide +kernel
theorem dX1_init_12 : decode cX1_init 12 = .ok (.return_, 1) := by decide +kernel
theorem dX1_passDay_0 : decode cX1_passDay 0 = .ok (.iconst 0, 1) := by decide +kernel
theorem dX1_passDay_1 : decode cX1_passDay 1 = .ok (.istore_n 2, 1) := by decide +kernel
theorem dX1_passDay_2 : decode cX1_passDay 2 = .ok (.iload_n 2, 1) := by decide +kernel
theorem dX1_passDay_3 : decode cX1_passDay 3 = .ok (.bipush 6, 2) := by decide +kernel
theorem dX1_passDay_5 : decode cX1_passDay 5 = .ok (.if_icmp .ge 32, 3) := by decide +kernel
theorem dX1_passDay_8 : decode cX1_passDay 8 = .ok (.aload_n 1, 1) := by decide +kernel
theorem dX1_passDay_9 : decode cX1_passDay 9 = .ok (.iload_n 2, 1) := by decide +kernel
theorem dX1_passDay_10 : decode cX1_passDay 10 = .ok (.invokevirtual 15, 3) := by decide +kernel
theorem dX1_passDay_13 : decode cX1_passDay 13 = .ok (.astore_n 3, 1) := by decide +kernel
theorem dX1_passDay_14 : decode cX1_passDay 14 = .ok (.aload_n 3, 1) := by decide +kernel
theorem dX1_passDay_15 : decode cX1_passDay 15 = .ok (.ifnull 16, 3) := by decide +kernel
theorem dX1_passDay_31 : decode cX1_passDay 31 = .ok (.iinc 2 1, 3) := by decide +kernel
theorem dX1_passDay_34 : decode cX1_passDay 34 = .ok (.goto (-32), 3) := by decide +kernel
theorem dX1_passDay_37 : decode cX1_passDay 37 = .ok (.iconst 0, 1) := by decide +kernel
theorem dX1_passDay_38 : decode cX1_passDay 38 = .ok (.istore_n 2, 1) := by decide +kernel
theorem dX1_passDay_39 : decode cX1_passDay 39 = .ok (.iload_n 2, 1) := by decide +kernel
theorem dX1_passDay_40 : decode cX1_passDay 40 = .ok (.bipush 6, 2) := by decide +kernel
theorem dX1_passDay_42 : decode cX1_passDay 42 = .ok (.if_icmp .ge 31, 3) := by decide +kernel
theorem dX1_passDay_45 : decode cX1_passDay 45 = .ok (.aload_n 1, 1) := by decide +kernel
theorem dX1_passDay_46 : decode cX1_passDay 46 = .ok (.iload_n 2, 1) := by decide +kernel
theorem dX1_passDay_47 : decode cX1_passDay 47 = .ok (.invokevirtual 15, 3) := by decide +kernel
theorem dX1_passDay_50 : decode cX1_passDay 50 = .ok (.astore_n 3, 1) := by decide +kernel
theorem dX1_passDay_51 : decode cX1_passDay 51 = .ok (.aload_n 3, 1) := by decide +kernel
theorem dX1_passDay_52 : decode cX1_passDay 52 = .ok (.ifnull 15, 3) := by decide +kernel
theorem dX1_passDay_67 : decode cX1_passDay 67 = .ok (.iinc 2 1, 3) := by decide +kernel
theorem dX1_passDay_70 : decode cX1_passDay 70 = .ok (.goto (-31), 3) := by decide +kernel
theorem dX1_passDay_73 : decode cX1_passDay 73 = .ok (.aload_n 1, 1) := by decide +kernel
theorem dX1_passDay_74 : decode cX1_passDay 74 = .ok (.dup, 1) := by decide +kernel
theorem dX1_passDay_75 : decode cX1_passDay 75 = .ok (.getfield 35, 3) := by decide +kernel
theorem dX1_passDay_78 : decode cX1_passDay 78 = .ok (.iconst 1, 1) := by decide +kernel
theorem dX1_passDay_79 : decode cX1_passDay 79 = .ok (.iadd, 1) := by decide +kernel
theorem dX1_passDay_80 : decode cX1_passDay 80 = .ok (.putfield 35, 3) := by decide +kernel
theorem dX1_passDay_83 : decode cX1_passDay 83 = .ok (.return_, 1) := by decide +kernel
theorem dX2_init_0 : decode cX2_init 0 = .ok (.aload_n 0, 1) := by decide +kernel
theorem dX2_init_1 : decode cX2_init 1 = .ok (.invokespecial 3, 3) := by decide +kernel
theorem dX2_init_4 : decode cX2_init 4 = .ok (.aload_n 0, 1) := by decide +kernel
theorem dX2_init_5 : decode cX2_init 5 = .ok (.getstatic 9, 3) := by decide +kernel
theorem dX2_init_8 : decode cX2_init 8 = .ok (.putfield 13, 3) := by decide +kernel
theorem dX2_init_11 : decode cX2_init 11 = .ok (.aload_n 0, 1) := by decide +kernel
theorem dX2_init_12 : decode cX2_init 12 = .ok (.bipush 26, 2) := by decide +kernel
theorem dX2_init_14 : decode cX2_init 14 = .ok (.newarray .int, 2) := by decide +kernel
theorem dX2_init_16 : decode cX2_init 16 = .ok (.putfield 18, 3) := by decide +kernel
theorem dX2_init_19 : decode cX2_init 19 = .ok (.aload_n 0, 1) := by decide +kernel
theorem dX2_init_20 : decode cX2_init 20 = .ok (.bipush 20, 2) := by decide +kernel
theorem dX2_init_22 : decode cX2_init 22 = .ok (.newarray .int, 2) := by decide +kernel
theorem dX2_init_24 : decode cX2_init 24 = .ok (.putfield 21, 3) := by decide +kernel
theorem dX2_init_27 : decode cX2_init 27 = .ok (.aload_n 0, 1) := by decide +kernel
theorem dX2_init_28 : decode cX2_init 28 = .ok (.iload_n 1, 1) := by decide +kernel
theorem dX2_init_29 : decode cX2_init 29 = .ok (.putfield 24, 3) := by decide +kernel
theorem dX2_init_32 : decode cX2_init 32 = .ok (.return_, 1) := by decide +kernel
theorem dX2_make_0 : decode cX2_make 0 = .ok (.aload_n 0, 1) := by decide +kernel
theorem dX2_make_1 : decode cX2_make 1 = .ok (.iload_n 1, 1) := by decide +kernel
theorem dX2_make_2 : decode cX2_make 2 = .ok (.putfield 28, 3) := by decide +kernel
theorem dX2_make_5 : decode cX2_make 5 = .ok (.aload_n 0, 1) := by decide +kernel
theorem dX2_make_6 : decode cX2_make 6 = .ok (.iload_n 2, 1) := by decide +kernel
theorem dX2_make_7 : decode cX2_make 7 = .ok (.putfield 31, 3) := by decide +kernel
theorem dX2_make_10 : decode cX2_make 10 = .ok (.return_, 1) := by decide +kernel
theorem dX2_copy_0 : decode cX2_copy 0 = .ok (.aload_n 0, 1) := by decide +kernel
theorem dX2_copy_1 : decode cX2_copy 1 = .ok (.aload_n 1, 1) := by decide +kernel
theorem dX2_copy_2 : decode cX2_copy 2 = .ok (.getfield 28, 3) := by decide +kernel
theorem dX2_copy_5 : decode cX2_copy 5 = .ok (.putfield 28, 3) := by decide +kernel
theorem dX2_copy_8 : decode cX2_copy 8 = .ok (.aload_n 0, 1) := by decide +kernel
theorem dX2_copy_9 : decode cX2_copy 9 = .ok (.aload_n 1, 1) := by decide +kernel
theorem dX2_copy_10 : decode cX2_copy 10 = .ok (.getfield 31, 3) := by decide +kernel
theorem dX2_copy_13 : decode cX2_copy 13 = .ok (.putfield 31, 3) := by decide +kernel
theorem dX2_copy_16 : decode cX2_copy 16 = .ok (.aload_n 0, 1) := by decide +kernel
theorem dX2_copy_17 : decode cX2_copy 17 = .ok (.aload_n 1, 1) := by decide +kernel
theorem dX2_copy_18 : decode cX2_copy 18 = .ok (.getfield 34, 3) := by decide +kernel
theorem dX2_copy_21 : decode cX2_copy 21 = .ok (.putfield 34, 3) := by decide +kernel
theorem dX2_copy_24 : decode cX2_copy 24 = .ok (.aload_n 0, 1) := by decide +kernel
theorem dX2_copy_25 : decode cX2_copy 25 = .ok (.aload_n 1, 1) := by decide +kernel
theorem dX2_copy_26 : decode cX2_copy 26 = .ok (.getfield 37, 3) := by decide +kernel
theorem dX2_copy_29 : decode cX2_copy 29 = .ok (.putfield 37, 3) := by decide +kernel
theorem dX2_copy_32 : decode cX2_copy 32 = .ok (.aload_n 0, 1) := by decide +kernel
theorem dX2_copy_33 : decode cX2_copy 33 = .ok (.aload_n 1, 1) := by decide +kernel
theorem dX2_copy_34 : decode cX2_copy 34 = .ok (.getfield 40, 3) := by decide +kernel
theorem dX2_copy_37 : decode cX2_copy 37 = .ok (.putfield 40, 3) := by decide +kernel
theorem dX2_copy_40 : decode cX2_copy 40 = .ok (.aload_n 0, 1) := by decide +kernel
theorem dX2_copy_41 : decode cX2_copy 41 = .ok (.aload_n 1, 1) := by decide +kernel
theorem dX2_copy_42 : decode cX2_copy 42 = .ok (.getfield 43, 3) := by decide +kernel
theorem dX2_copy_45 : decode cX2_copy 45 = .ok (.putfield 43, 3) := by decide +kernel
theorem dX2_copy_48 : decode cX2_copy 48 = .ok (.aload_n 0, 1) := by decide +kernel
theorem dX2_copy_49 : decode cX2_copy 49 = .ok (.aload_n 1, 1) := by decide +kernel
theorem dX2_copy_50 : decode cX2_copy 50 = .ok (.getfield 46, 3) := by decide +kernel
theorem dX2_copy_53 : decode cX2_copy 53 = .ok (.putfield 46, 3) := by decide +kernel
theorem dX2_copy_56 : decode cX2_copy 56 = .ok (.aload_n 0, 1) := by decide +kernel
theorem dX2_copy_57 : decode cX2_copy 57 = .ok (.aload_n 1, 1) := by decide +kernel
theorem dX2_copy_58 : decode cX2_copy 58 = .ok (.getfield 13, 3) := by decide +kernel
theorem dX2_copy_61 : decode cX2_copy 61 = .ok (.putfield 13, 3) := by decide +kernel
theorem dX2_copy_64 : decode cX2_copy 64 = .ok (.aload_n 1, 1) := by decide +kernel
theorem dX2_copy_65 : decode cX2_copy 65 = .ok (.getfield 18, 3) := by decide +kernel
theorem dX2_copy_68 : decode cX2_copy 68 = .ok (.iconst 0, 1) := by decide +kernel
theorem dX2_copy_69 : decode cX2_copy 69 = .ok (.aload_n 0, 1) := by decide +kernel
theorem dX2_copy_70 : decode cX2_copy 70 = .ok (.getfield 18, 3) := by decide +kernel
theorem dX2_copy_73 : decode cX2_copy 73 = .ok (.iconst 0, 1) := by decide +kernel
theorem dX2_copy_74 : decode cX2_copy 74 = .ok (.bipush 26, 2) := by decide +kernel
theorem dX2_copy_76 : decode cX2_copy 76 = .ok (.invokestatic 49, 3) := by decide +kernel
theorem dX2_copy_79 : decode cX2_copy 79 = .ok (.aload_n 1, 1) := by decide +kernel
theorem dX2_copy_80 : decode cX2_copy 80 = .ok (.getfield 21, 3) := by decide +kernel
theorem dX2_copy_83 : decode cX2_copy 83 = .ok (.iconst 0, 1) := by decide +kernel
theorem dX2_copy_84 : decode cX2_copy 84 = .ok (.aload_n 0, 1) := by decide +kernel
theorem dX2_copy_85 : decode cX2_copy 85 = .ok (.getfield 21, 3) := by decide +kernel
theorem dX2_copy_88 : decode cX2_copy 88 = .ok (.iconst 0, 1) := by decide +kernel
theorem dX2_copy_89 : decode cX2_copy 89 = .ok (.bipush 20, 2) := by decide +kernel
theorem dX2_copy_91 : decode cX2_copy 91 = .ok (.invokestatic 49, 3) := by decide +kernel
theorem dX2_copy_94 : decode cX2_copy 94 = .ok (.return_, 1) := by decide +kernel
theorem dX3_init_0 : decode cX3_init 0 = .ok (.aload_n 0, 1) := by decide +kernel
theorem dX3_init_1 : decode cX3_init 1 = .ok (.invokespecial 3, 3) := by decide +kernel
theorem dX3_init_4 : decode cX3_init 4 = .ok (.aload_n 0, 1) := by decide +kernel
theorem dX3_init_5 : decode cX3_init 5 = .ok (.iconst 0, 1) := by decide +kernel
theorem dX3_init_6 : decode cX3_init 6 = .ok (.putfield 9, 3) := by decide +kernel
theorem dX3_init_9 : decode cX3_init 9 = .ok (.aload_n 0, 1) := by decide +kernel
theorem dX3_init_10 : decode cX3_init 10 = .ok (.iconst (-1), 1) := by decide +kernel
theorem dX3_init_11 : decode cX3_init 11 = .ok (.putfield 15, 3) := by decide +kernel
theorem dX3_init_14 : decode cX3_init 14 = .ok (.aload_n 0, 1) := by decide +kernel
theorem dX3_init_15 : decode cX3_init 15 = .ok (.new 18, 3) := by decide +kernel
theorem dX3_init_18 : decode cX3_init 18 = .ok (.dup, 1) := by decide +kernel
theorem dX3_init_19 : decode cX3_init 19 = .ok (.invokespecial 20, 3) := by decide +kernel
theorem dX3_init_22 : decode cX3_init 22 = .ok (.putfield 21, 3) := by decide +kernel
theorem dX3_init_25 : decode cX3_init 25 = .ok (.aload_n 0, 1) := by decide +kernel
theorem dX3_init_26 : decode cX3_init 26 = .ok (.sipush 1002, 3) := by decide +kernel
theorem dX3_init_29 : decode cX3_init 29 = .ok (.newarray .int, 2) := by decide +kernel
theorem dX3_init_31 : decode cX3_init 31 = .ok (.putfield 25, 3) := by decide +kernel
theorem dX3_init_34 : decode cX3_init 34 = .ok (.return_, 1) := by decide +kernel
theorem dX4_init_0 : decode cX4_init 0 = .ok (.aload_n 0, 1) := by decide +kernel
theorem dX4_init_1 : decode cX4_init 1 = .ok (.invokespecial 3, 3) := by decide +kernel
theorem dX4_init_4 : decode cX4_init 4 = .ok (.aload_n 0, 1) := by decide +kernel
theorem dX4_init_5 : decode cX4_init 5 = .ok (.bipush 22, 2) := by decide +kernel
theorem dX4_init_7 : decode cX4_init 7 = .ok (.newarray .int, 2) := by decide +kernel
theorem dX4_init_9 : decode cX4_init 9 = .ok (.putfield 9, 3) := by decide +kernel
theorem dX4_init_12 : decode cX4_init 12 = .ok (.aload_n 0, 1) := by decide +kernel
theorem dX4_init_13 : decode cX4_init 13 = .ok (.bipush 22, 2) := by decide +kernel
theorem dX4_init_15 : decode cX4_init 15 = .ok (.newarray .int, 2) := by decide +kernel
theorem dX4_init_17 : decode cX4_init 17 = .ok (.putfield 15, 3) := by decide +kernel
theorem dX4_init_20 : decode cX4_init 20 = .ok (.aload_n 0, 1) := by decide +kernel
theorem dX4_init_21 : decode cX4_init 21 = .ok (.bipush 22, 2) := by decide +kernel
theorem dX4_init_23 : decode cX4_init 23 = .ok (.newarray .int, 2) := by decide +kernel
theorem dX4_init_25 : decode cX4_init 25 = .ok (.putfield 18, 3) := by decide +kernel
theorem dX4_init_28 : decode cX4_init 28 = .ok (.aload_n 0, 1) := by decide +kernel
theorem dX4_init_29 : decode cX4_init 29 = .ok (.bipush 64, 2) := by decide +kernel
theorem dX4_init_31 : decode cX4_init 31 = .ok (.newarray .int, 2) := by decide +kernel
theorem dX4_init_33 : decode cX4_init 33 = .ok (.putfield 21, 3) := by decide +kernel
theorem dX4_init_36 : decode cX4_init 36 = .ok (.aload_n 0, 1) := by decide +kernel
theorem dX4_init_37 : decode cX4_init 37 = .ok (.bipush 64, 2) := by decide +kernel
theorem dX4_init_39 : decode cX4_init 39 = .ok (.newarray .int, 2) := by decide +kernel
theorem dX4_init_41 : decode cX4_init 41 = .ok (.putfield 24, 3) := by decide +kernel
theorem dX4_init_44 : decode cX4_init 44 = .ok (.aload_n 0, 1) := by decide +kernel
theorem dX4_init_45 : decode cX4_init 45 = .ok (.bipush 64, 2) := by decide +kernel
theorem dX4_init_47 : decode cX4_init 47 = .ok (.newarray .int, 2) := by decide +kernel
theorem dX4_init_49 : decode cX4_init 49 = .ok (.putfield 27, 3) := by decide +kernel
theorem dX4_init_52 : decode cX4_init 52 = .ok (.aload_n 0, 1) := by decide +kernel
theorem dX4_init_53 : decode cX4_init 53 = .ok (.iconst (-1), 1) := by decide +kernel
theorem dX4_init_54 : decode cX4_init 54 = .ok (.putfield 30, 3) := by decide +kernel
theorem dX4_init_57 : decode cX4_init 57 = .ok (.aload_n 0, 1) := by decide +kernel
theorem dX4_init_58 : decode cX4_init 58 = .ok (.getfield 9, 3) := by decide +kernel
theorem dX4_init_61 : decode cX4_init 61 = .ok (.iconst (-1), 1) := by decide +kernel
theorem dX4_init_62 : decode cX4_init 62 = .ok (.invokestatic 34, 3) := by decide +kernel
theorem dX4_init_65 : decode cX4_init 65 = .ok (.aload_n 0, 1) := by decide +kernel
theorem dX4_init_66 : decode cX4_init 66 = .ok (.getfield 15, 3) := by decide +kernel
theorem dX4_init_69 : decode cX4_init 69 = .ok (.iconst (-1), 1) := by decide +kernel
theorem dX4_init_70 : decode cX4_init 70 = .ok (.invokestatic 34, 3) := by decide +kernel
theorem dX4_init_73 : decode cX4_init 73 = .ok (.return_, 1) := by decide +kernel
theorem dX4_copy_0 : decode cX4_copy 0 = .ok (.aload_n 1, 1) := by decide +kernel
theorem dX4_copy_1 : decode cX4_copy 1 = .ok (.getfield 9, 3) := by decide +kernel
theorem dX4_copy_4 : decode cX4_copy 4 = .ok (.iconst 0, 1) := by decide +kernel
theorem dX4_copy_5 : decode cX4_copy 5 = .ok (.aload_n 0, 1) := by decide +kernel
theorem dX4_copy_6 : decode cX4_copy 6 = .ok (.getfield 9, 3) := by decide +kernel
theorem dX4_copy_9 : decode cX4_copy 9 = .ok (.iconst 0, 1) := by decide +kernel
theorem dX4_copy_10 : decode cX4_copy 10 = .ok (.bipush 22, 2) := by decide +kernel
theorem dX4_copy_12 : decode cX4_copy 12 = .ok (.invokestatic 40, 3) := by decide +kernel
theorem dX4_copy_15 : decode cX4_copy 15 = .ok (.aload_n 1, 1) := by decide +kernel
theorem dX4_copy_16 : decode cX4_copy 16 = .ok (.getfield 15, 3) := by decide +kernel
theorem dX4_copy_19 : decode cX4_copy 19 = .ok (.iconst 0, 1) := by decide +kernel
theorem dX4_copy_20 : decode cX4_copy 20 = .ok (.aload_n 0, 1) := by decide +kernel
theorem dX4_copy_21 : decode cX4_copy 21 = .ok (.getfield 15, 3) := by decide +kernel
theorem dX4_copy_24 : decode cX4_copy 24 = .ok (.iconst 0, 1) := by decide +kernel
theorem dX4_copy_25 : decode cX4_copy 25 = .ok (.bipush 22, 2) := by decide +kernel
theorem dX4_copy_27 : decode cX4_copy 27 = .ok (.invokestatic 40, 3) := by decide +kernel
theorem dX4_copy_30 : decode cX4_copy 30 = .ok (.aload_n 1, 1) := by decide +kernel
theorem dX4_copy_31 : decode cX4_copy 31 = .ok (.getfield 18, 3) := by decide +kernel
theorem dX4_copy_34 : decode cX4_copy 34 = .ok (.iconst 0, 1) := by decide +kernel
theorem dX4_copy_35 : decode cX4_copy 35 = .ok (.aload_n 0, 1) := by decide +kernel
theorem dX4_copy_36 : decode cX4_copy 36 = .ok (.getfield 18, 3) := by decide +kernel
theorem dX4_copy_39 : decode cX4_copy 39 = .ok (.iconst 0, 1) := by decide +kernel
theorem dX4_copy_40 : decode cX4_copy 40 = .ok (.bipush 22, 2) := by decide +kernel
theorem dX4_copy_42 : decode cX4_copy 42 = .ok (.invokestatic 40, 3) := by decide +kernel
theorem dX4_copy_45 : decode cX4_copy 45 = .ok (.aload_n 0, 1) := by decide +kernel
theorem dX4_copy_46 : decode cX4_copy 46 = .ok (.getfield 21, 3) := by decide +kernel
theorem dX4_copy_49 : decode cX4_copy 49 = .ok (.arraylength, 1) := by decide +kernel
theorem dX4_copy_50 : decode cX4_copy 50 = .ok (.aload_n 1, 1) := by decide +kernel
theorem dX4_copy_51 : decode cX4_copy 51 = .ok (.getfield 46, 3) := by decide +kernel
theorem dX4_copy_54 : decode cX4_copy 54 = .ok (.if_icmp .ge 36, 3) := by decide +kernel
theorem dX4_copy_90 : decode cX4_copy 90 = .ok (.aload_n 1, 1) := by decide +kernel
theorem dX4_copy_91 : decode cX4_copy 91 = .ok (.getfield 21, 3) := by decide +kernel
theorem dX4_copy_94 : decode cX4_copy 94 = .ok (.iconst 0, 1) := by decide +kernel
theorem dX4_copy_95 : decode cX4_copy 95 = .ok (.aload_n 0, 1) := by decide +kernel
theorem dX4_copy_96 : decode cX4_copy 96 = .ok (.getfield 21, 3) := by decide +kernel
theorem dX4_copy_99 : decode cX4_copy 99 = .ok (.iconst 0, 1) := by decide +kernel
theorem dX4_copy_100 : decode cX4_copy 100 = .ok (.aload_n 1, 1) := by decide +kernel
theorem dX4_copy_101 : decode cX4_copy 101 = .ok (.getfield 46, 3) := by decide +kernel
theorem dX4_copy_104 : decode cX4_copy 104 = .ok (.invokestatic 40, 3) := by decide +kernel
theorem dX4_copy_107 : decode cX4_copy 107 = .ok (.aload_n 1, 1) := by decide +kernel
theorem dX4_copy_108 : decode cX4_copy 108 = .ok (.getfield 24, 3) := by decide +kernel
theorem dX4_copy_111 : decode cX4_copy 111 = .ok (.iconst 0, 1) := by decide +kernel
theorem dX4_copy_112 : decode cX4_copy 112 = .ok (.aload_n 0, 1) := by decide +kernel
theorem dX4_copy_113 : decode cX4_copy 113 = .ok (.getfield 24, 3) := by decide +kernel
theorem dX4_copy_116 : decode cX4_copy 116 = .ok (.iconst 0, 1) := by decide +kernel
theorem dX4_copy_117 : decode cX4_copy 117 = .ok (.aload_n 1, 1) := by decide +kernel
theorem dX4_copy_118 : decode cX4_copy 118 = .ok (.getfield 46, 3) := by decide +kernel
theorem dX4_copy_121 : decode cX4_copy 121 = .ok (.invokestatic 40, 3) := by decide +kernel
theorem dX4_copy_124 : decode cX4_copy 124 = .ok (.aload_n 1, 1) := by decide +kernel
theorem dX4_copy_125 : decode cX4_copy 125 = .ok (.getfield 27, 3) := by decide +kernel
theorem dX4_copy_128 : decode cX4_copy 128 = .ok (.iconst 0, 1) := by decide +kernel
theorem dX4_copy_129 : decode cX4_copy 129 = .ok (.aload_n 0, 1) := by decide +kernel
theorem dX4_copy_130 : decode cX4_copy 130 = .ok (.getfield 27, 3) := by decide +kernel
theorem dX4_copy_133 : decode cX4_copy 133 = .ok (.iconst 0, 1) := by decide +kernel
theorem dX4_copy_134 : decode cX4_copy 134 = .ok (.aload_n 1, 1) := by decide +kernel
theorem dX4_copy_135 : decode cX4_copy 135 = .ok (.getfield 46, 3) := by decide +kernel
theorem dX4_copy_138 : decode cX4_copy 138 = .ok (.invokestatic 40, 3) := by decide +kernel
theorem dX4_copy_141 : decode cX4_copy 141 = .ok (.aload_n 0, 1) := by decide +kernel
theorem dX4_copy_142 : decode cX4_copy 142 = .ok (.aload_n 1, 1) := by decide +kernel
theorem dX4_copy_143 : decode cX4_copy 143 = .ok (.getfield 46, 3) := by decide +kernel
theorem dX4_copy_146 : decode cX4_copy 146 = .ok (.putfield 46, 3) := by decide +kernel
theorem dX4_copy_149 : decode cX4_copy 149 = .ok (.aload_n 0, 1) := by decide +kernel
theorem dX4_copy_150 : decode cX4_copy 150 = .ok (.aload_n 1, 1) := by decide +kernel
theorem dX4_copy_151 : decode cX4_copy 151 = .ok (.getfield 30, 3) := by decide +kernel
theorem dX4_copy_154 : decode cX4_copy 154 = .ok (.putfield 30, 3) := by decide +kernel
theorem dX4_copy_157 : decode cX4_copy 157 = .ok (.return_, 1) := by decide +kernel
theorem dX4_amount_0 : decode cX4_amount 0 = .ok (.iload_n 1, 1) := by decide +kernel
theorem dX4_amount_1 : decode cX4_amount 1 = .ok (.bipush 22, 2) := by decide +kernel
theorem dX4_amount_3 : decode cX4_amount 3 = .ok (.invokestatic 49, 3) := by decide +kernel
theorem dX4_amount_6 : decode cX4_amount 6 = .ok (.ifCond .eq 12, 3) := by decide +kernel
theorem dX4_amount_9 : decode cX4_amount 9 = .ok (.aload_n 0, 1) := by decide +kernel
theorem dX4_amount_10 : decode cX4_amount 10 = .ok (.getfield 18, 3) := by decide +kernel
theorem dX4_amount_13 : decode cX4_amount 13 = .ok (.iload_n 1, 1) := by decide +kernel
theorem dX4_amount_14 : decode cX4_amount 14 = .ok (.iaload, 1) := by decide +kernel
theorem dX4_amount_15 : decode cX4_amount 15 = .ok (.goto 4, 3) := by decide +kernel
theorem dX4_amount_18 : decode cX4_amount 18 = .ok (.iconst 0, 1) := by decide +kernel
theorem dX4_amount_19 : decode cX4_amount 19 = .ok (.ireturn, 1) := by decide +kernel
theorem dX4_amountIn_0 : decode cX4_amountIn 0 = .ok (.iconst 0, 1) := by decide +kernel
theorem dX4_amountIn_1 : decode cX4_amountIn 1 = .ok (.istore_n 3, 1) := by decide +kernel
theorem dX4_amountIn_2 : decode cX4_amountIn 2 = .ok (.iload_n 1, 1) := by decide +kernel
theorem dX4_amountIn_3 : decode cX4_amountIn 3 = .ok (.istore 4, 2) := by decide +kernel
theorem dX4_amountIn_5 : decode cX4_amountIn 5 = .ok (.iload 4, 2) := by decide +kernel
theorem dX4_amountIn_7 : decode cX4_amountIn 7 = .ok (.iload_n 2, 1) := by decide +kernel
theorem dX4_amountIn_8 : decode cX4_amountIn 8 = .ok (.if_icmp .ge 18, 3) := by decide +kernel
theorem dX4_amountIn_11 : decode cX4_amountIn 11 = .ok (.iload_n 3, 1) := by decide +kernel
theorem dX4_amountIn_12 : decode cX4_amountIn 12 = .ok (.aload_n 0, 1) := by decide +kernel
theorem dX4_amountIn_13 : decode cX4_amountIn 13 = .ok (.iload 4, 2) := by decide +kernel
theorem dX4_amountIn_15 : decode cX4_amountIn 15 = .ok (.invokevirtual 53, 3) := by decide +kernel
theorem dX4_amountIn_18 : decode cX4_amountIn 18 = .ok (.iadd, 1) := by decide +kernel
theorem dX4_amountIn_19 : decode cX4_amountIn 19 = .ok (.istore_n 3, 1) := by decide +kernel
theorem dX4_amountIn_20 : decode cX4_amountIn 20 = .ok (.iinc 4 1, 3) := by decide +kernel
theorem dX4_amountIn_23 : decode cX4_amountIn 23 = .ok (.goto (-18), 3) := by decide +kernel
theorem dX4_amountIn_26 : decode cX4_amountIn 26 = .ok (.iload_n 3, 1) := by decide +kernel
theorem dX4_amountIn_27 : decode cX4_amountIn 27 = .ok (.ireturn, 1) := by decide +kernel
theorem dX4_firstLot_0 : decode cX4_firstLot 0 = .ok (.iload_n 1, 1) := by decide +kernel
theorem dX4_firstLot_1 : decode cX4_firstLot 1 = .ok (.bipush 22, 2) := by decide +kernel
theorem dX4_firstLot_3 : decode cX4_firstLot 3 = .ok (.invokestatic 49, 3) := by decide +kernel
theorem dX4_firstLot_6 : decode cX4_firstLot 6 = .ok (.ifCond .eq 12, 3) := by decide +kernel
theorem dX4_firstLot_9 : decode cX4_firstLot 9 = .ok (.aload_n 0, 1) := by decide +kernel
theorem dX4_firstLot_10 : decode cX4_firstLot 10 = .ok (.getfield 9, 3) := by decide +kernel
theorem dX4_firstLot_13 : decode cX4_firstLot 13 = .ok (.iload_n 1, 1) := by decide +kernel
theorem dX4_firstLot_14 : decode cX4_firstLot 14 = .ok (.iaload, 1) := by decide +kernel
theorem dX4_firstLot_15 : decode cX4_firstLot 15 = .ok (.goto 4, 3) := by decide +kernel
theorem dX4_firstLot_18 : decode cX4_firstLot 18 = .ok (.iconst (-1), 1) := by decide +kernel
theorem dX4_firstLot_19 : decode cX4_firstLot 19 = .ok (.istore_n 2, 1) := by decide +kernel
theorem dX4_firstLot_20 : decode cX4_firstLot 20 = .ok (.iload_n 2, 1) := by decide +kernel
theorem dX4_firstLot_21 : decode cX4_firstLot 21 = .ok (.aload_n 0, 1) := by decide +kernel
theorem dX4_firstLot_22 : decode cX4_firstLot 22 = .ok (.getfield 46, 3) := by decide +kernel
theorem dX4_firstLot_25 : decode cX4_firstLot 25 = .ok (.invokestatic 49, 3) := by decide +kernel
theorem dX4_firstLot_28 : decode cX4_firstLot 28 = .ok (.ifCond .eq 12, 3) := by decide +kernel
theorem dX4_firstLot_40 : decode cX4_firstLot 40 = .ok (.iconst (-1), 1) := by decide +kernel
theorem dX4_firstLot_41 : decode cX4_firstLot 41 = .ok (.ireturn, 1) := by decide +kernel
theorem dX4_add_0 : decode cX4_add 0 = .ok (.iload_n 1, 1) := by decide +kernel
theorem dX4_add_1 : decode cX4_add 1 = .ok (.bipush 22, 2) := by decide +kernel
theorem dX4_add_3 : decode cX4_add 3 = .ok (.invokestatic 49, 3) := by decide +kernel
theorem dX4_add_6 : decode cX4_add 6 = .ok (.ifCond .eq 7, 3) := by decide +kernel
theorem dX4_add_9 : decode cX4_add 9 = .ok (.iload_n 3, 1) := by decide +kernel
theorem dX4_add_10 : decode cX4_add 10 = .ok (.ifCond .gt 4, 3) := by decide +kernel
theorem dX4_add_14 : decode cX4_add 14 = .ok (.aload_n 0, 1) := by decide +kernel
theorem dX4_add_15 : decode cX4_add 15 = .ok (.getfield 18, 3) := by decide +kernel
theorem dX4_add_18 : decode cX4_add 18 = .ok (.iload_n 1, 1) := by decide +kernel
theorem dX4_add_19 : decode cX4_add 19 = .ok (.dup2, 1) := by decide +kernel
theorem dX4_add_20 : decode cX4_add 20 = .ok (.iaload, 1) := by decide +kernel
theorem dX4_add_21 : decode cX4_add 21 = .ok (.iload_n 3, 1) := by decide +kernel
theorem dX4_add_22 : decode cX4_add 22 = .ok (.iadd, 1) := by decide +kernel
theorem dX4_add_23 : decode cX4_add 23 = .ok (.iastore, 1) := by decide +kernel
theorem dX4_add_24 : decode cX4_add 24 = .ok (.aload_n 0, 1) := by decide +kernel
theorem dX4_add_25 : decode cX4_add 25 = .ok (.getfield 15, 3) := by decide +kernel
theorem dX4_add_28 : decode cX4_add 28 = .ok (.iload_n 1, 1) := by decide +kernel
theorem dX4_add_29 : decode cX4_add 29 = .ok (.iaload, 1) := by decide +kernel
theorem dX4_add_30 : decode cX4_add 30 = .ok (.istore 4, 2) := by decide +kernel
theorem dX4_add_32 : decode cX4_add 32 = .ok (.iload 4, 2) := by decide +kernel
theorem dX4_add_34 : decode cX4_add 34 = .ok (.aload_n 0, 1) := by decide +kernel
theorem dX4_add_35 : decode cX4_add 35 = .ok (.getfield 46, 3) := by decide +kernel
theorem dX4_add_38 : decode cX4_add 38 = .ok (.invokestatic 49, 3) := by decide +kernel
theorem dX4_add_41 : decode cX4_add 41 = .ok (.ifCond .eq 26, 3) := by decide +kernel
theorem dX4_add_67 : decode cX4_add 67 = .ok (.aload_n 0, 1) := by decide +kernel
theorem dX4_add_68 : decode cX4_add 68 = .ok (.iload_n 2, 1) := by decide +kernel
theorem dX4_add_69 : decode cX4_add 69 = .ok (.iload_n 3, 1) := by decide +kernel
theorem dX4_add_70 : decode cX4_add 70 = .ok (.invokevirtual 57, 3) := by decide +kernel
theorem dX4_add_73 : decode cX4_add 73 = .ok (.istore 5, 2) := by decide +kernel
theorem dX4_add_75 : decode cX4_add 75 = .ok (.iload 4, 2) := by decide +kernel
theorem dX4_add_77 : decode cX4_add 77 = .ok (.aload_n 0, 1) := by decide +kernel
theorem dX4_add_78 : decode cX4_add 78 = .ok (.getfield 46, 3) := by decide +kernel
theorem dX4_add_81 : decode cX4_add 81 = .ok (.invokestatic 49, 3) := by decide +kernel
theorem dX4_add_84 : decode cX4_add 84 = .ok (.ifCond .eq 15, 3) := by decide +kernel
theorem dX4_add_99 : decode cX4_add 99 = .ok (.aload_n 0, 1) := by decide +kernel
theorem dX4_add_100 : decode cX4_add 100 = .ok (.getfield 9, 3) := by decide +kernel
theorem dX4_add_103 : decode cX4_add 103 = .ok (.iload_n 1, 1) := by decide +kernel
theorem dX4_add_104 : decode cX4_add 104 = .ok (.iload 5, 2) := by decide +kernel
theorem dX4_add_106 : decode cX4_add 106 = .ok (.iastore, 1) := by decide +kernel
theorem dX4_add_107 : decode cX4_add 107 = .ok (.aload_n 0, 1) := by decide +kernel
theorem dX4_add_108 : decode cX4_add 108 = .ok (.getfield 15, 3) := by decide +kernel
theorem dX4_add_111 : decode cX4_add 111 = .ok (.iload_n 1, 1) := by decide +kernel
theorem dX4_add_112 : decode cX4_add 112 = .ok (.iload 5, 2) := by decide +kernel
theorem dX4_add_114 : decode cX4_add 114 = .ok (.iastore, 1) := by decide +kernel
theorem dX4_add_115 : decode cX4_add 115 = .ok (.return_, 1) := by decide +kernel
theorem dX4_freshRun_0 : decode cX4_freshRun 0 = .ok (.aload_n 0, 1) := by decide +kernel
theorem dX4_freshRun_1 : decode cX4_freshRun 1 = .ok (.getfield 30, 3) := by decide +kernel
theorem dX4_freshRun_4 : decode cX4_freshRun 4 = .ok (.istore_n 3, 1) := by decide +kernel
theorem dX4_freshRun_5 : decode cX4_freshRun 5 = .ok (.iload_n 3, 1) := by decide +kernel
theorem dX4_freshRun_6 : decode cX4_freshRun 6 = .ok (.aload_n 0, 1) := by decide +kernel
theorem dX4_freshRun_7 : decode cX4_freshRun 7 = .ok (.getfield 46, 3) := by decide +kernel
theorem dX4_freshRun_10 : decode cX4_freshRun 10 = .ok (.invokestatic 49, 3) := by decide +kernel
theorem dX4_freshRun_13 : decode cX4_freshRun 13 = .ok (.ifCond .eq 16, 3) := by decide +kernel
theorem dX4_freshRun_29 : decode cX4_freshRun 29 = .ok (.aload_n 0, 1) := by decide +kernel
theorem dX4_freshRun_30 : decode cX4_freshRun 30 = .ok (.getfield 46, 3) := by decide +kernel
theorem dX4_freshRun_33 : decode cX4_freshRun 33 = .ok (.istore_n 3, 1) := by decide +kernel
theorem dX4_freshRun_34 : decode cX4_freshRun 34 = .ok (.aload_n 0, 1) := by decide +kernel
theorem dX4_freshRun_35 : decode cX4_freshRun 35 = .ok (.dup, 1) := by decide +kernel
theorem dX4_freshRun_36 : decode cX4_freshRun 36 = .ok (.getfield 46, 3) := by decide +kernel
theorem dX4_freshRun_39 : decode cX4_freshRun 39 = .ok (.iconst 1, 1) := by decide +kernel
theorem dX4_freshRun_40 : decode cX4_freshRun 40 = .ok (.iadd, 1) := by decide +kernel
theorem dX4_freshRun_41 : decode cX4_freshRun 41 = .ok (.putfield 46, 3) := by decide +kernel
theorem dX4_freshRun_44 : decode cX4_freshRun 44 = .ok (.iload_n 3, 1) := by decide +kernel
theorem dX4_freshRun_45 : decode cX4_freshRun 45 = .ok (.aload_n 0, 1) := by decide +kernel
theorem dX4_freshRun_46 : decode cX4_freshRun 46 = .ok (.getfield 21, 3) := by decide +kernel
theorem dX4_freshRun_49 : decode cX4_freshRun 49 = .ok (.arraylength, 1) := by decide +kernel
theorem dX4_freshRun_50 : decode cX4_freshRun 50 = .ok (.if_icmp .lt 54, 3) := by decide +kernel
theorem dX4_freshRun_104 : decode cX4_freshRun 104 = .ok (.aload_n 0, 1) := by decide +kernel
theorem dX4_freshRun_105 : decode cX4_freshRun 105 = .ok (.getfield 21, 3) := by decide +kernel
theorem dX4_freshRun_108 : decode cX4_freshRun 108 = .ok (.iload_n 3, 1) := by decide +kernel
theorem dX4_freshRun_109 : decode cX4_freshRun 109 = .ok (.iload_n 1, 1) := by decide +kernel
theorem dX4_freshRun_110 : decode cX4_freshRun 110 = .ok (.iastore, 1) := by decide +kernel
theorem dX4_freshRun_111 : decode cX4_freshRun 111 = .ok (.aload_n 0, 1) := by decide +kernel
theorem dX4_freshRun_112 : decode cX4_freshRun 112 = .ok (.getfield 24, 3) := by decide +kernel
theorem dX4_freshRun_115 : decode cX4_freshRun 115 = .ok (.iload_n 3, 1) := by decide +kernel
theorem dX4_freshRun_116 : decode cX4_freshRun 116 = .ok (.iload_n 2, 1) := by decide +kernel
theorem dX4_freshRun_117 : decode cX4_freshRun 117 = .ok (.iastore, 1) := by decide +kernel
theorem dX4_freshRun_118 : decode cX4_freshRun 118 = .ok (.aload_n 0, 1) := by decide +kernel
theorem dX4_freshRun_119 : decode cX4_freshRun 119 = .ok (.getfield 27, 3) := by decide +kernel
theorem dX4_freshRun_122 : decode cX4_freshRun 122 = .ok (.iload_n 3, 1) := by decide +kernel
theorem dX4_freshRun_123 : decode cX4_freshRun 123 = .ok (.iconst (-1), 1) := by decide +kernel
theorem dX4_freshRun_124 : decode cX4_freshRun 124 = .ok (.iastore, 1) := by decide +kernel
theorem dX4_freshRun_125 : decode cX4_freshRun 125 = .ok (.iload_n 3, 1) := by decide +kernel
theorem dX4_freshRun_126 : decode cX4_freshRun 126 = .ok (.ireturn, 1) := by decide +kernel
theorem dX5_init_0 : decode cX5_init 0 = .ok (.aload_n 0, 1) := by decide +kernel
theorem dX5_init_1 : decode cX5_init 1 = .ok (.invokespecial 3, 3) := by decide +kernel
theorem dX5_init_4 : decode cX5_init 4 = .ok (.aload_n 0, 1) := by decide +kernel
theorem dX5_init_5 : decode cX5_init 5 = .ok (.sipush 501, 3) := by decide +kernel
theorem dX5_init_8 : decode cX5_init 8 = .ok (.newarray .int, 2) := by decide +kernel
theorem dX5_init_10 : decode cX5_init 10 = .ok (.putfield 9, 3) := by decide +kernel
theorem dX5_init_13 : decode cX5_init 13 = .ok (.aload_n 0, 1) := by decide +kernel
theorem dX5_init_14 : decode cX5_init 14 = .ok (.sipush 501, 3) := by decide +kernel
theorem dX5_init_17 : decode cX5_init 17 = .ok (.newarray .int, 2) := by decide +kernel
theorem dX5_init_19 : decode cX5_init 19 = .ok (.putfield 15, 3) := by decide +kernel
theorem dX5_init_22 : decode cX5_init 22 = .ok (.aload_n 0, 1) := by decide +kernel
theorem dX5_init_23 : decode cX5_init 23 = .ok (.sipush 501, 3) := by decide +kernel
theorem dX5_init_26 : decode cX5_init 26 = .ok (.newarray .int, 2) := by decide +kernel
theorem dX5_init_28 : decode cX5_init 28 = .ok (.putfield 18, 3) := by decide +kernel
theorem dX5_init_31 : decode cX5_init 31 = .ok (.return_, 1) := by decide +kernel
theorem dX6_init_0 : decode cX6_init 0 = .ok (.aload_n 0, 1) := by decide +kernel
theorem dX6_init_1 : decode cX6_init 1 = .ok (.invokespecial 3, 3) := by decide +kernel
theorem dX6_init_4 : decode cX6_init 4 = .ok (.aload_n 0, 1) := by decide +kernel
theorem dX6_init_5 : decode cX6_init 5 = .ok (.new 9, 3) := by decide +kernel
theorem dX6_init_8 : decode cX6_init 8 = .ok (.dup, 1) := by decide +kernel
theorem dX6_init_9 : decode cX6_init 9 = .ok (.invokespecial 11, 3) := by decide +kernel
theorem dX6_init_12 : decode cX6_init 12 = .ok (.putfield 12, 3) := by decide +kernel
theorem dX6_init_15 : decode cX6_init 15 = .ok (.aload_n 0, 1) := by decide +kernel
theorem dX6_init_16 : decode cX6_init 16 = .ok (.new 18, 3) := by decide +kernel
theorem dX6_init_19 : decode cX6_init 19 = .ok (.dup, 1) := by decide +kernel
theorem dX6_init_20 : decode cX6_init 20 = .ok (.invokespecial 20, 3) := by decide +kernel
theorem dX6_init_23 : decode cX6_init 23 = .ok (.putfield 21, 3) := by decide +kernel
theorem dX6_init_26 : decode cX6_init 26 = .ok (.aload_n 0, 1) := by decide +kernel
theorem dX6_init_27 : decode cX6_init 27 = .ok (.sipush 400, 3) := by decide +kernel
theorem dX6_init_30 : decode cX6_init 30 = .ok (.newarray .boolean, 2) := by decide +kernel
theorem dX6_init_32 : decode cX6_init 32 = .ok (.putfield 25, 3) := by decide +kernel
theorem dX6_init_35 : decode cX6_init 35 = .ok (.aload_n 0, 1) := by decide +kernel
theorem dX6_init_36 : decode cX6_init 36 = .ok (.bipush 16, 2) := by decide +kernel
theorem dX6_init_38 : decode cX6_init 38 = .ok (.newarray .int, 2) := by decide +kernel
theorem dX6_init_40 : decode cX6_init 40 = .ok (.putfield 29, 3) := by decide +kernel
theorem dX6_init_43 : decode cX6_init 43 = .ok (.aload_n 0, 1) := by decide +kernel
theorem dX6_init_44 : decode cX6_init 44 = .ok (.bipush 20, 2) := by decide +kernel
theorem dX6_init_46 : decode cX6_init 46 = .ok (.newarray .int, 2) := by decide +kernel
theorem dX6_init_48 : decode cX6_init 48 = .ok (.putfield 33, 3) := by decide +kernel
theorem dX6_init_51 : decode cX6_init 51 = .ok (.aload_n 0, 1) := by decide +kernel
theorem dX6_init_52 : decode cX6_init 52 = .ok (.bipush 6, 2) := by decide +kernel
theorem dX6_init_54 : decode cX6_init 54 = .ok (.anewarray 36, 3) := by decide +kernel
theorem dX6_init_57 : decode cX6_init 57 = .ok (.putfield 38, 3) := by decide +kernel
theorem dX6_init_60 : decode cX6_init 60 = .ok (.aload_n 0, 1) := by decide +kernel
theorem dX6_init_61 : decode cX6_init 61 = .ok (.getfield 29, 3) := by decide +kernel
theorem dX6_init_64 : decode cX6_init 64 = .ok (.iconst (-1), 1) := by decide +kernel
theorem dX6_init_65 : decode cX6_init 65 = .ok (.invokestatic 42, 3) := by decide +kernel
theorem dX6_init_68 : decode cX6_init 68 = .ok (.iconst 0, 1) := by decide +kernel
theorem dX6_init_69 : decode cX6_init 69 = .ok (.istore_n 1, 1) := by decide +kernel
theorem dX6_init_70 : decode cX6_init 70 = .ok (.iload_n 1, 1) := by decide +kernel
theorem dX6_init_71 : decode cX6_init 71 = .ok (.bipush 6, 2) := by decide +kernel
theorem dX6_init_73 : decode cX6_init 73 = .ok (.if_icmp .ge 23, 3) := by decide +kernel
theorem dX6_init_76 : decode cX6_init 76 = .ok (.aload_n 0, 1) := by decide +kernel
theorem dX6_init_77 : decode cX6_init 77 = .ok (.getfield 38, 3) := by decide +kernel
theorem dX6_init_80 : decode cX6_init 80 = .ok (.iload_n 1, 1) := by decide +kernel
theorem dX6_init_81 : decode cX6_init 81 = .ok (.new 36, 3) := by decide +kernel
theorem dX6_init_84 : decode cX6_init 84 = .ok (.dup, 1) := by decide +kernel
theorem dX6_init_85 : decode cX6_init 85 = .ok (.iload_n 1, 1) := by decide +kernel
theorem dX6_init_86 : decode cX6_init 86 = .ok (.invokespecial 48, 3) := by decide +kernel
theorem dX6_init_89 : decode cX6_init 89 = .ok (.aastore, 1) := by decide +kernel
theorem dX6_init_90 : decode cX6_init 90 = .ok (.iinc 1 1, 3) := by decide +kernel
theorem dX6_init_93 : decode cX6_init 93 = .ok (.goto (-23), 3) := by decide +kernel
theorem dX6_init_96 : decode cX6_init 96 = .ok (.return_, 1) := by decide +kernel
theorem dX6_copy_0 : decode cX6_copy 0 = .ok (.aload_n 0, 1) := by decide +kernel
theorem dX6_copy_1 : decode cX6_copy 1 = .ok (.aload_n 1, 1) := by decide +kernel
theorem dX6_copy_2 : decode cX6_copy 2 = .ok (.getfield 51, 3) := by decide +kernel
theorem dX6_copy_5 : decode cX6_copy 5 = .ok (.putfield 51, 3) := by decide +kernel
theorem dX6_copy_8 : decode cX6_copy 8 = .ok (.aload_n 0, 1) := by decide +kernel
theorem dX6_copy_9 : decode cX6_copy 9 = .ok (.aload_n 1, 1) := by decide +kernel
theorem dX6_copy_10 : decode cX6_copy 10 = .ok (.getfield 55, 3) := by decide +kernel
theorem dX6_copy_13 : decode cX6_copy 13 = .ok (.putfield 55, 3) := by decide +kernel
theorem dX6_copy_16 : decode cX6_copy 16 = .ok (.aload_n 0, 1) := by decide +kernel
theorem dX6_copy_17 : decode cX6_copy 17 = .ok (.aload_n 1, 1) := by decide +kernel
theorem dX6_copy_18 : decode cX6_copy 18 = .ok (.getfield 58, 3) := by decide +kernel
theorem dX6_copy_21 : decode cX6_copy 21 = .ok (.putfield 58, 3) := by decide +kernel
theorem dX6_copy_24 : decode cX6_copy 24 = .ok (.aload_n 0, 1) := by decide +kernel
theorem dX6_copy_25 : decode cX6_copy 25 = .ok (.getfield 12, 3) := by decide +kernel
theorem dX6_copy_28 : decode cX6_copy 28 = .ok (.aload_n 1, 1) := by decide +kernel
theorem dX6_copy_29 : decode cX6_copy 29 = .ok (.getfield 12, 3) := by decide +kernel
theorem dX6_copy_32 : decode cX6_copy 32 = .ok (.invokevirtual 61, 3) := by decide +kernel
theorem dX6_copy_35 : decode cX6_copy 35 = .ok (.aload_n 0, 1) := by decide +kernel
theorem dX6_copy_36 : decode cX6_copy 36 = .ok (.getfield 21, 3) := by decide +kernel
theorem dX6_copy_39 : decode cX6_copy 39 = .ok (.aload_n 1, 1) := by decide +kernel
theorem dX6_copy_40 : decode cX6_copy 40 = .ok (.getfield 21, 3) := by decide +kernel
theorem dX6_copy_43 : decode cX6_copy 43 = .ok (.invokevirtual 65, 3) := by decide +kernel
theorem dX6_copy_46 : decode cX6_copy 46 = .ok (.aload_n 1, 1) := by decide +kernel
theorem dX6_copy_47 : decode cX6_copy 47 = .ok (.getfield 25, 3) := by decide +kernel
theorem dX6_copy_50 : decode cX6_copy 50 = .ok (.iconst 0, 1) := by decide +kernel
theorem dX6_copy_51 : decode cX6_copy 51 = .ok (.aload_n 0, 1) := by decide +kernel
theorem dX6_copy_52 : decode cX6_copy 52 = .ok (.getfield 25, 3) := by decide +kernel
theorem dX6_copy_55 : decode cX6_copy 55 = .ok (.iconst 0, 1) := by decide +kernel
theorem dX6_copy_56 : decode cX6_copy 56 = .ok (.sipush 400, 3) := by decide +kernel
theorem dX6_copy_59 : decode cX6_copy 59 = .ok (.invokestatic 68, 3) := by decide +kernel
theorem dX6_copy_62 : decode cX6_copy 62 = .ok (.aload_n 1, 1) := by decide +kernel
theorem dX6_copy_63 : decode cX6_copy 63 = .ok (.getfield 29, 3) := by decide +kernel
theorem dX6_copy_66 : decode cX6_copy 66 = .ok (.iconst 0, 1) := by decide +kernel
theorem dX6_copy_67 : decode cX6_copy 67 = .ok (.aload_n 0, 1) := by decide +kernel
theorem dX6_copy_68 : decode cX6_copy 68 = .ok (.getfield 29, 3) := by decide +kernel
theorem dX6_copy_71 : decode cX6_copy 71 = .ok (.iconst 0, 1) := by decide +kernel
theorem dX6_copy_72 : decode cX6_copy 72 = .ok (.bipush 16, 2) := by decide +kernel
theorem dX6_copy_74 : decode cX6_copy 74 = .ok (.invokestatic 68, 3) := by decide +kernel
theorem dX6_copy_77 : decode cX6_copy 77 = .ok (.aload_n 1, 1) := by decide +kernel
theorem dX6_copy_78 : decode cX6_copy 78 = .ok (.getfield 33, 3) := by decide +kernel
theorem dX6_copy_81 : decode cX6_copy 81 = .ok (.iconst 0, 1) := by decide +kernel
theorem dX6_copy_82 : decode cX6_copy 82 = .ok (.aload_n 0, 1) := by decide +kernel
theorem dX6_copy_83 : decode cX6_copy 83 = .ok (.getfield 33, 3) := by decide +kernel
theorem dX6_copy_86 : decode cX6_copy 86 = .ok (.iconst 0, 1) := by decide +kernel
theorem dX6_copy_87 : decode cX6_copy 87 = .ok (.bipush 20, 2) := by decide +kernel
theorem dX6_copy_89 : decode cX6_copy 89 = .ok (.invokestatic 68, 3) := by decide +kernel
theorem dX6_copy_92 : decode cX6_copy 92 = .ok (.iconst 0, 1) := by decide +kernel
theorem dX6_copy_93 : decode cX6_copy 93 = .ok (.istore_n 2, 1) := by decide +kernel
theorem dX6_copy_94 : decode cX6_copy 94 = .ok (.iload_n 2, 1) := by decide +kernel
theorem dX6_copy_95 : decode cX6_copy 95 = .ok (.bipush 6, 2) := by decide +kernel
theorem dX6_copy_97 : decode cX6_copy 97 = .ok (.if_icmp .ge 24, 3) := by decide +kernel
theorem dX6_copy_100 : decode cX6_copy 100 = .ok (.aload_n 0, 1) := by decide +kernel
theorem dX6_copy_101 : decode cX6_copy 101 = .ok (.getfield 38, 3) := by decide +kernel
theorem dX6_copy_104 : decode cX6_copy 104 = .ok (.iload_n 2, 1) := by decide +kernel
theorem dX6_copy_105 : decode cX6_copy 105 = .ok (.aaload, 1) := by decide +kernel
theorem dX6_copy_106 : decode cX6_copy 106 = .ok (.aload_n 1, 1) := by decide +kernel
theorem dX6_copy_107 : decode cX6_copy 107 = .ok (.getfield 38, 3) := by decide +kernel
theorem dX6_copy_110 : decode cX6_copy 110 = .ok (.iload_n 2, 1) := by decide +kernel
theorem dX6_copy_111 : decode cX6_copy 111 = .ok (.aaload, 1) := by decide +kernel
theorem dX6_copy_112 : decode cX6_copy 112 = .ok (.invokevirtual 74, 3) := by decide +kernel
theorem dX6_copy_115 : decode cX6_copy 115 = .ok (.iinc 2 1, 3) := by decide +kernel
theorem dX6_copy_118 : decode cX6_copy 118 = .ok (.goto (-24), 3) := by decide +kernel
theorem dX6_copy_121 : decode cX6_copy 121 = .ok (.return_, 1) := by decide +kernel
theorem dX6_partyOf_0 : decode cX6_partyOf 0 = .ok (.iload_n 1, 1) := by decide +kernel
theorem dX6_partyOf_1 : decode cX6_partyOf 1 = .ok (.aload_n 0, 1) := by decide +kernel
theorem dX6_partyOf_2 : decode cX6_partyOf 2 = .ok (.getfield 58, 3) := by decide +kernel
theorem dX6_partyOf_5 : decode cX6_partyOf 5 = .ok (.invokestatic 77, 3) := by decide +kernel
theorem dX6_partyOf_8 : decode cX6_partyOf 8 = .ok (.ifCond .eq 21, 3) := by decide +kernel
theorem dX6_partyOf_29 : decode cX6_partyOf 29 = .ok (.aconst_null, 1) := by decide +kernel
theorem dX6_partyOf_30 : decode cX6_partyOf 30 = .ok (.areturn, 1) := by decide +kernel
theorem dX6_makeParty_0 : decode cX6_makeParty 0 = .ok (.aload_n 0, 1) := by decide +kernel
theorem dX6_makeParty_1 : decode cX6_makeParty 1 = .ok (.getfield 58, 3) := by decide +kernel
theorem dX6_makeParty_4 : decode cX6_makeParty 4 = .ok (.bipush 6, 2) := by decide +kernel
theorem dX6_makeParty_6 : decode cX6_makeParty 6 = .ok (.invokestatic 77, 3) := by decide +kernel
theorem dX6_makeParty_9 : decode cX6_makeParty 9 = .ok (.ifCond .ne 5, 3) := by decide +kernel
theorem dX6_makeParty_14 : decode cX6_makeParty 14 = .ok (.aload_n 0, 1) := by decide +kernel
theorem dX6_makeParty_15 : decode cX6_makeParty 15 = .ok (.getfield 38, 3) := by decide +kernel
theorem dX6_makeParty_18 : decode cX6_makeParty 18 = .ok (.aload_n 0, 1) := by decide +kernel
theorem dX6_makeParty_19 : decode cX6_makeParty 19 = .ok (.getfield 58, 3) := by decide +kernel
theorem dX6_makeParty_22 : decode cX6_makeParty 22 = .ok (.aaload, 1) := by decide +kernel
theorem dX6_makeParty_23 : decode cX6_makeParty 23 = .ok (.iload_n 1, 1) := by decide +kernel
theorem dX6_makeParty_24 : decode cX6_makeParty 24 = .ok (.iload_n 2, 1) := by decide +kernel
theorem dX6_makeParty_25 : decode cX6_makeParty 25 = .ok (.invokevirtual 81, 3) := by decide +kernel
theorem dX6_makeParty_28 : decode cX6_makeParty 28 = .ok (.aload_n 0, 1) := by decide +kernel
theorem dX6_makeParty_29 : decode cX6_makeParty 29 = .ok (.dup, 1) := by decide +kernel
theorem dX6_makeParty_30 : decode cX6_makeParty 30 = .ok (.getfield 58, 3) := by decide +kernel
theorem dX6_makeParty_33 : decode cX6_makeParty 33 = .ok (.iconst 1, 1) := by decide +kernel
theorem dX6_makeParty_34 : decode cX6_makeParty 34 = .ok (.iadd, 1) := by decide +kernel
theorem dX6_makeParty_35 : decode cX6_makeParty 35 = .ok (.putfield 58, 3) := by decide +kernel
theorem dX6_makeParty_38 : decode cX6_makeParty 38 = .ok (.aload_n 0, 1) := by decide +kernel
theorem dX6_makeParty_39 : decode cX6_makeParty 39 = .ok (.getfield 58, 3) := by decide +kernel
theorem dX6_makeParty_42 : decode cX6_makeParty 42 = .ok (.iconst 1, 1) := by decide +kernel
theorem dX6_makeParty_43 : decode cX6_makeParty 43 = .ok (.isub, 1) := by decide +kernel
theorem dX6_makeParty_44 : decode cX6_makeParty 44 = .ok (.ireturn, 1) := by decide +kernel
theorem dX6_makeLot_0 : decode cX6_makeLot 0 = .ok (.aload_n 0, 1) := by decide +kernel
theorem dX6_makeLot_1 : decode cX6_makeLot 1 = .ok (.getfield 55, 3) := by decide +kernel
theorem dX6_makeLot_4 : decode cX6_makeLot 4 = .ok (.bipush 20, 2) := by decide +kernel
theorem dX6_makeLot_6 : decode cX6_makeLot 6 = .ok (.invokestatic 77, 3) := by decide +kernel
theorem dX6_makeLot_9 : decode cX6_makeLot 9 = .ok (.ifCond .ne 5, 3) := by decide +kernel
theorem dX6_makeLot_14 : decode cX6_makeLot 14 = .ok (.aload_n 0, 1) := by decide +kernel
theorem dX6_makeLot_15 : decode cX6_makeLot 15 = .ok (.getfield 55, 3) := by decide +kernel
theorem dX6_makeLot_18 : decode cX6_makeLot 18 = .ok (.istore_n 2, 1) := by decide +kernel
theorem dX6_makeLot_19 : decode cX6_makeLot 19 = .ok (.aload_n 0, 1) := by decide +kernel
theorem dX6_makeLot_20 : decode cX6_makeLot 20 = .ok (.dup, 1) := by decide +kernel
theorem dX6_makeLot_21 : decode cX6_makeLot 21 = .ok (.getfield 55, 3) := by decide +kernel
theorem dX6_makeLot_24 : decode cX6_makeLot 24 = .ok (.iconst 1, 1) := by decide +kernel
theorem dX6_makeLot_25 : decode cX6_makeLot 25 = .ok (.iadd, 1) := by decide +kernel
theorem dX6_makeLot_26 : decode cX6_makeLot 26 = .ok (.putfield 55, 3) := by decide +kernel
theorem dX6_makeLot_29 : decode cX6_makeLot 29 = .ok (.aload_n 0, 1) := by decide +kernel
theorem dX6_makeLot_30 : decode cX6_makeLot 30 = .ok (.getfield 33, 3) := by decide +kernel
theorem dX6_makeLot_33 : decode cX6_makeLot 33 = .ok (.iload_n 2, 1) := by decide +kernel
theorem dX6_makeLot_34 : decode cX6_makeLot 34 = .ok (.iload_n 1, 1) := by decide +kernel
theorem dX6_makeLot_35 : decode cX6_makeLot 35 = .ok (.iastore, 1) := by decide +kernel
theorem dX6_makeLot_36 : decode cX6_makeLot 36 = .ok (.aload_n 0, 1) := by decide +kernel
theorem dX6_makeLot_37 : decode cX6_makeLot 37 = .ok (.getfield 12, 3) := by decide +kernel
theorem dX6_makeLot_40 : decode cX6_makeLot 40 = .ok (.iconst 0, 1) := by decide +kernel
theorem dX6_makeLot_41 : decode cX6_makeLot 41 = .ok (.iload_n 2, 1) := by decide +kernel
theorem dX6_makeLot_42 : decode cX6_makeLot 42 = .ok (.iload_n 1, 1) := by decide +kernel
theorem dX6_makeLot_43 : decode cX6_makeLot 43 = .ok (.invokevirtual 85, 3) := by decide +kernel
theorem dX6_makeLot_46 : decode cX6_makeLot 46 = .ok (.aload_n 0, 1) := by decide +kernel
theorem dX6_makeLot_47 : decode cX6_makeLot 47 = .ok (.getfield 21, 3) := by decide +kernel
theorem dX6_makeLot_50 : decode cX6_makeLot 50 = .ok (.iconst 0, 1) := by decide +kernel
theorem dX6_makeLot_51 : decode cX6_makeLot 51 = .ok (.aload_n 0, 1) := by decide +kernel
theorem dX6_makeLot_52 : decode cX6_makeLot 52 = .ok (.getfield 51, 3) := by decide +kernel
theorem dX6_makeLot_55 : decode cX6_makeLot 55 = .ok (.iconst (-1), 1) := by decide +kernel
theorem dX6_makeLot_56 : decode cX6_makeLot 56 = .ok (.iconst 0, 1) := by decide +kernel
theorem dX6_makeLot_57 : decode cX6_makeLot 57 = .ok (.iload_n 2, 1) := by decide +kernel
theorem dX6_makeLot_58 : decode cX6_makeLot 58 = .ok (.iload_n 1, 1) := by decide +kernel
theorem dX6_makeLot_59 : decode cX6_makeLot 59 = .ok (.invokevirtual 89, 3) := by decide +kernel
theorem dX6_makeLot_62 : decode cX6_makeLot 62 = .ok (.iload_n 2, 1) := by decide +kernel
theorem dX6_makeLot_63 : decode cX6_makeLot 63 = .ok (.ireturn, 1) := by decide +kernel
theorem dX6_setStorm_0 : decode cX6_setStorm 0 = .ok (.iload_n 1, 1) := by decide +kernel
theorem dX6_setStorm_1 : decode cX6_setStorm 1 = .ok (.sipush 400, 3) := by decide +kernel
theorem dX6_setStorm_4 : decode cX6_setStorm 4 = .ok (.invokestatic 77, 3) := by decide +kernel
theorem dX6_setStorm_7 : decode cX6_setStorm 7 = .ok (.ifCond .eq 13, 3) := by decide +kernel
theorem dX6_setStorm_10 : decode cX6_setStorm 10 = .ok (.aload_n 0, 1) := by decide +kernel
theorem dX6_setStorm_11 : decode cX6_setStorm 11 = .ok (.getfield 25, 3) := by decide +kernel
theorem dX6_setStorm_14 : decode cX6_setStorm 14 = .ok (.iload_n 1, 1) := by decide +kernel
theorem dX6_setStorm_15 : decode cX6_setStorm 15 = .ok (.baload, 1) := by decide +kernel
theorem dX6_setStorm_16 : decode cX6_setStorm 16 = .ok (.iload_n 2, 1) := by decide +kernel
theorem dX6_setStorm_17 : decode cX6_setStorm 17 = .ok (.if_icmp .ne 5, 3) := by decide +kernel
theorem dX6_setStorm_20 : decode cX6_setStorm 20 = .ok (.iconst 0, 1) := by decide +kernel
theorem dX6_setStorm_21 : decode cX6_setStorm 21 = .ok (.ireturn, 1) := by decide +kernel
theorem dX6_setStorm_22 : decode cX6_setStorm 22 = .ok (.aload_n 0, 1) := by decide +kernel
theorem dX6_setStorm_23 : decode cX6_setStorm 23 = .ok (.getfield 25, 3) := by decide +kernel
theorem dX6_setStorm_26 : decode cX6_setStorm 26 = .ok (.iload_n 1, 1) := by decide +kernel
theorem dX6_setStorm_27 : decode cX6_setStorm 27 = .ok (.iload_n 2, 1) := by decide +kernel
theorem dX6_setStorm_28 : decode cX6_setStorm 28 = .ok (.bastore, 1) := by decide +kernel
theorem dX6_setStorm_29 : decode cX6_setStorm 29 = .ok (.iconst 1, 1) := by decide +kernel
theorem dX6_setStorm_30 : decode cX6_setStorm 30 = .ok (.ireturn, 1) := by decide +kernel
theorem dX6_canPass_0 : decode cX6_canPass 0 = .ok (.iload_n 1, 1) := by decide +kernel
theorem dX6_canPass_1 : decode cX6_canPass 1 = .ok (.iconst 1, 1) := by decide +kernel
theorem dX6_canPass_2 : decode cX6_canPass 2 = .ok (.if_icmp .lt 25, 3) := by decide +kernel
theorem dX6_canPass_5 : decode cX6_canPass 5 = .ok (.iload_n 1, 1) := by decide +kernel
theorem dX6_canPass_6 : decode cX6_canPass 6 = .ok (.bipush 50, 2) := by decide +kernel
theorem dX6_canPass_8 : decode cX6_canPass 8 = .ok (.if_icmp .gt 19, 3) := by decide +kernel
theorem dX6_canPass_11 : decode cX6_canPass 11 = .ok (.aload_n 0, 1) := by decide +kernel
theorem dX6_canPass_12 : decode cX6_canPass 12 = .ok (.getfield 51, 3) := by decide +kernel
theorem dX6_canPass_15 : decode cX6_canPass 15 = .ok (.iload_n 1, 1) := by decide +kernel
theorem dX6_canPass_16 : decode cX6_canPass 16 = .ok (.iadd, 1) := by decide +kernel
theorem dX6_canPass_17 : decode cX6_canPass 17 = .ok (.sipush 400, 3) := by decide +kernel
theorem dX6_canPass_20 : decode cX6_canPass 20 = .ok (.if_icmp .gt 7, 3) := by decide +kernel
theorem dX6_canPass_23 : decode cX6_canPass 23 = .ok (.iconst 1, 1) := by decide +kernel
theorem dX6_canPass_24 : decode cX6_canPass 24 = .ok (.goto 4, 3) := by decide +kernel
theorem dX6_canPass_27 : decode cX6_canPass 27 = .ok (.iconst 0, 1) := by decide +kernel
theorem dX6_canPass_28 : decode cX6_canPass 28 = .ok (.ireturn, 1) := by decide +kernel
theorem dX6_letterAt_0 : decode cX6_letterAt 0 = .ok (.iload_n 1, 1) := by decide +kernel
theorem dX6_letterAt_1 : decode cX6_letterAt 1 = .ok (.bipush 16, 2) := by decide +kernel
theorem dX6_letterAt_3 : decode cX6_letterAt 3 = .ok (.invokestatic 77, 3) := by decide +kernel
theorem dX6_letterAt_6 : decode cX6_letterAt 6 = .ok (.ifCond .eq 12, 3) := by decide +kernel
theorem dX6_letterAt_9 : decode cX6_letterAt 9 = .ok (.aload_n 0, 1) := by decide +kernel
theorem dX6_letterAt_10 : decode cX6_letterAt 10 = .ok (.getfield 29, 3) := by decide +kernel
theorem dX6_letterAt_13 : decode cX6_letterAt 13 = .ok (.iload_n 1, 1) := by decide +kernel
theorem dX6_letterAt_14 : decode cX6_letterAt 14 = .ok (.iaload, 1) := by decide +kernel
theorem dX6_letterAt_15 : decode cX6_letterAt 15 = .ok (.goto 4, 3) := by decide +kernel
theorem dX6_letterAt_18 : decode cX6_letterAt 18 = .ok (.iconst (-1), 1) := by decide +kernel
theorem dX6_letterAt_19 : decode cX6_letterAt 19 = .ok (.ireturn, 1) := by decide +kernel
theorem dX6_isHungryOfThoseIn_0 : decode cX6_isHungryOfThoseIn 0 = .ok (.iconst 0, 1) := by decide +kernel
theorem dX6_isHungryOfThoseIn_1 : decode cX6_isHungryOfThoseIn 1 = .ok (.istore_n 2, 1) := by decide +kernel
theorem dX6_isHungryOfThoseIn_2 : decode cX6_isHungryOfThoseIn 2 = .ok (.iconst 0, 1) := by decide +kernel
theorem dX6_isHungryOfThoseIn_3 : decode cX6_isHungryOfThoseIn 3 = .ok (.istore_n 3, 1) := by decide +kernel
theorem dX6_isHungryOfThoseIn_4 : decode cX6_isHungryOfThoseIn 4 = .ok (.iload_n 3, 1) := by decide +kernel
theorem dX6_isHungryOfThoseIn_5 : decode cX6_isHungryOfThoseIn 5 = .ok (.aload_n 0, 1) := by decide +kernel
theorem dX6_isHungryOfThoseIn_6 : decode cX6_isHungryOfThoseIn 6 = .ok (.getfield 58, 3) := by decide +kernel
theorem dX6_isHungryOfThoseIn_9 : decode cX6_isHungryOfThoseIn 9 = .ok (.if_icmp .ge 49, 3) := by decide +kernel
theorem dX6_isHungryOfThoseIn_58 : decode cX6_isHungryOfThoseIn 58 = .ok (.iload_n 2, 1) := by decide +kernel
theorem dX6_isHungryOfThoseIn_59 : decode cX6_isHungryOfThoseIn 59 = .ok (.ireturn, 1) := by decide +kernel
theorem dX6_lostParties_0 : decode cX6_lostParties 0 = .ok (.iconst 0, 1) := by decide +kernel
theorem dX6_lostParties_1 : decode cX6_lostParties 1 = .ok (.istore_n 1, 1) := by decide +kernel
theorem dX6_lostParties_2 : decode cX6_lostParties 2 = .ok (.iconst 0, 1) := by decide +kernel
theorem dX6_lostParties_3 : decode cX6_lostParties 3 = .ok (.istore_n 2, 1) := by decide +kernel
theorem dX6_lostParties_4 : decode cX6_lostParties 4 = .ok (.iload_n 2, 1) := by decide +kernel
theorem dX6_lostParties_5 : decode cX6_lostParties 5 = .ok (.aload_n 0, 1) := by decide +kernel
theorem dX6_lostParties_6 : decode cX6_lostParties 6 = .ok (.getfield 58, 3) := by decide +kernel
theorem dX6_lostParties_9 : decode cX6_lostParties 9 = .ok (.if_icmp .ge 35, 3) := by decide +kernel
theorem dX6_lostParties_44 : decode cX6_lostParties 44 = .ok (.iload_n 1, 1) := by decide +kernel
theorem dX6_lostParties_45 : decode cX6_lostParties 45 = .ok (.ireturn, 1) := by decide +kernel
theorem dX6_partiesAt_0 : decode cX6_partiesAt 0 = .ok (.iconst 0, 1) := by decide +kernel
theorem dX6_partiesAt_1 : decode cX6_partiesAt 1 = .ok (.istore_n 2, 1) := by decide +kernel
theorem dX6_partiesAt_2 : decode cX6_partiesAt 2 = .ok (.iconst 0, 1) := by decide +kernel
theorem dX6_partiesAt_3 : decode cX6_partiesAt 3 = .ok (.istore_n 3, 1) := by decide +kernel
theorem dX6_partiesAt_4 : decode cX6_partiesAt 4 = .ok (.iload_n 3, 1) := by decide +kernel
theorem dX6_partiesAt_5 : decode cX6_partiesAt 5 = .ok (.aload_n 0, 1) := by decide +kernel
theorem dX6_partiesAt_6 : decode cX6_partiesAt 6 = .ok (.getfield 58, 3) := by decide +kernel
theorem dX6_partiesAt_9 : decode cX6_partiesAt 9 = .ok (.if_icmp .ge 48, 3) := by decide +kernel
theorem dX6_partiesAt_57 : decode cX6_partiesAt 57 = .ok (.iload_n 2, 1) := by decide +kernel
theorem dX6_partiesAt_58 : decode cX6_partiesAt 58 = .ok (.ireturn, 1) := by decide +kernel
theorem dX6_landed_0 : decode cX6_landed 0 = .ok (.iconst 0, 1) := by decide +kernel
theorem dX6_landed_1 : decode cX6_landed 1 = .ok (.istore_n 1, 1) := by decide +kernel
theorem dX6_landed_2 : decode cX6_landed 2 = .ok (.iconst 0, 1) := by decide +kernel
theorem dX6_landed_3 : decode cX6_landed 3 = .ok (.istore_n 2, 1) := by decide +kernel
theorem dX6_landed_4 : decode cX6_landed 4 = .ok (.iload_n 2, 1) := by decide +kernel
theorem dX6_landed_5 : decode cX6_landed 5 = .ok (.aload_n 0, 1) := by decide +kernel
theorem dX6_landed_6 : decode cX6_landed 6 = .ok (.getfield 55, 3) := by decide +kernel
theorem dX6_landed_9 : decode cX6_landed 9 = .ok (.if_icmp .ge 24, 3) := by decide +kernel
theorem dX6_landed_33 : decode cX6_landed 33 = .ok (.iload_n 1, 1) := by decide +kernel
theorem dX6_landed_34 : decode cX6_landed 34 = .ok (.ireturn, 1) := by decide +kernel
theorem dX6_eaten_0 : decode cX6_eaten 0 = .ok (.iconst 0, 1) := by decide +kernel
theorem dX6_eaten_1 : decode cX6_eaten 1 = .ok (.istore_n 1, 1) := by decide +kernel
theorem dX6_eaten_2 : decode cX6_eaten 2 = .ok (.iconst 0, 1) := by decide +kernel
theorem dX6_eaten_3 : decode cX6_eaten 3 = .ok (.istore_n 2, 1) := by decide +kernel
theorem dX6_eaten_4 : decode cX6_eaten 4 = .ok (.iload_n 2, 1) := by decide +kernel
theorem dX6_eaten_5 : decode cX6_eaten 5 = .ok (.aload_n 0, 1) := by decide +kernel
theorem dX6_eaten_6 : decode cX6_eaten 6 = .ok (.getfield 58, 3) := by decide +kernel
theorem dX6_eaten_9 : decode cX6_eaten 9 = .ok (.if_icmp .ge 27, 3) := by decide +kernel
theorem dX6_eaten_36 : decode cX6_eaten 36 = .ok (.iload_n 1, 1) := by decide +kernel
theorem dX6_eaten_37 : decode cX6_eaten 37 = .ok (.ireturn, 1) := by decide +kernel
theorem dX6_inStores_0 : decode cX6_inStores 0 = .ok (.aload_n 0, 1) := by decide +kernel
theorem dX6_inStores_1 : decode cX6_inStores 1 = .ok (.getfield 12, 3) := by decide +kernel
theorem dX6_inStores_4 : decode cX6_inStores 4 = .ok (.iconst 0, 1) := by decide +kernel
theorem dX6_inStores_5 : decode cX6_inStores 5 = .ok (.bipush 16, 2) := by decide +kernel
theorem dX6_inStores_7 : decode cX6_inStores 7 = .ok (.invokevirtual 142, 3) := by decide +kernel
theorem dX6_inStores_10 : decode cX6_inStores 10 = .ok (.ireturn, 1) := by decide +kernel
theorem dX6_carried_0 : decode cX6_carried 0 = .ok (.aload_n 0, 1) := by decide +kernel
theorem dX6_carried_1 : decode cX6_carried 1 = .ok (.getfield 12, 3) := by decide +kernel
theorem dX6_carried_4 : decode cX6_carried 4 = .ok (.bipush 16, 2) := by decide +kernel
theorem dX6_carried_6 : decode cX6_carried 6 = .ok (.bipush 22, 2) := by decide +kernel
theorem dX6_carried_8 : decode cX6_carried 8 = .ok (.invokevirtual 142, 3) := by decide +kernel
theorem dX6_carried_11 : decode cX6_carried 11 = .ok (.ireturn, 1) := by decide +kernel
theorem dX7_init_0 : decode cX7_init 0 = .ok (.aload_n 0, 1) := by decide +kernel
theorem dX7_init_1 : decode cX7_init 1 = .ok (.invokespecial 3, 3) := by decide +kernel
theorem dX7_init_4 : decode cX7_init 4 = .ok (.aload_n 0, 1) := by decide +kernel
theorem dX7_init_5 : decode cX7_init 5 = .ok (.sipush 500, 3) := by decide +kernel
theorem dX7_init_8 : decode cX7_init 8 = .ok (.newarray .int, 2) := by decide +kernel
theorem dX7_init_10 : decode cX7_init 10 = .ok (.putfield 9, 3) := by decide +kernel
theorem dX7_init_13 : decode cX7_init 13 = .ok (.aload_n 0, 1) := by decide +kernel
theorem dX7_init_14 : decode cX7_init 14 = .ok (.new 13, 3) := by decide +kernel
theorem dX7_init_17 : decode cX7_init 17 = .ok (.dup, 1) := by decide +kernel
theorem dX7_init_18 : decode cX7_init 18 = .ok (.invokespecial 15, 3) := by decide +kernel
theorem dX7_init_21 : decode cX7_init 21 = .ok (.putfield 16, 3) := by decide +kernel
theorem dX7_init_24 : decode cX7_init 24 = .ok (.aload_n 0, 1) := by decide +kernel
theorem dX7_init_25 : decode cX7_init 25 = .ok (.new 20, 3) := by decide +kernel
theorem dX7_init_28 : decode cX7_init 28 = .ok (.dup, 1) := by decide +kernel
theorem dX7_init_29 : decode cX7_init 29 = .ok (.invokespecial 22, 3) := by decide +kernel
theorem dX7_init_32 : decode cX7_init 32 = .ok (.putfield 23, 3) := by decide +kernel
theorem dX7_init_35 : decode cX7_init 35 = .ok (.aload_n 0, 1) := by decide +kernel
theorem dX7_init_36 : decode cX7_init 36 = .ok (.new 27, 3) := by decide +kernel
theorem dX7_init_39 : decode cX7_init 39 = .ok (.dup, 1) := by decide +kernel
theorem dX7_init_40 : decode cX7_init 40 = .ok (.invokespecial 29, 3) := by decide +kernel
theorem dX7_init_43 : decode cX7_init 43 = .ok (.putfield 30, 3) := by decide +kernel
theorem dX7_init_46 : decode cX7_init 46 = .ok (.aload_n 0, 1) := by decide +kernel
theorem dX7_init_47 : decode cX7_init 47 = .ok (.iconst 3, 1) := by decide +kernel
theorem dX7_init_48 : decode cX7_init 48 = .ok (.anewarray 27, 3) := by decide +kernel
theorem dX7_init_51 : decode cX7_init 51 = .ok (.putfield 34, 3) := by decide +kernel
theorem dX7_init_54 : decode cX7_init 54 = .ok (.return_, 1) := by decide +kernel
theorem dX7_feed_0 : decode cX7_feed 0 = .ok (.aload_n 0, 1) := by decide +kernel
theorem dX7_feed_1 : decode cX7_feed 1 = .ok (.getfield 38, 3) := by decide +kernel
theorem dX7_feed_4 : decode cX7_feed 4 = .ok (.bipush 20, 2) := by decide +kernel
theorem dX7_feed_6 : decode cX7_feed 6 = .ok (.iadd, 1) := by decide +kernel
theorem dX7_feed_7 : decode cX7_feed 7 = .ok (.sipush 500, 3) := by decide +kernel
theorem dX7_feed_10 : decode cX7_feed 10 = .ok (.if_icmp .le 5, 3) := by decide +kernel
theorem dX7_feed_15 : decode cX7_feed 15 = .ok (.aload_n 0, 1) := by decide +kernel
theorem dX7_feed_16 : decode cX7_feed 16 = .ok (.iload_n 1, 1) := by decide +kernel
theorem dX7_feed_17 : decode cX7_feed 17 = .ok (.invokevirtual 42, 3) := by decide +kernel
theorem dX7_feed_20 : decode cX7_feed 20 = .ok (.aload_n 0, 1) := by decide +kernel
theorem dX7_feed_21 : decode cX7_feed 21 = .ok (.iload_n 2, 1) := by decide +kernel
theorem dX7_feed_22 : decode cX7_feed 22 = .ok (.invokevirtual 42, 3) := by decide +kernel
theorem dX7_feed_25 : decode cX7_feed 25 = .ok (.aload_n 0, 1) := by decide +kernel
theorem dX7_feed_26 : decode cX7_feed 26 = .ok (.iload_n 3, 1) := by decide +kernel
theorem dX7_feed_27 : decode cX7_feed 27 = .ok (.invokevirtual 42, 3) := by decide +kernel
theorem dX7_feed_30 : decode cX7_feed 30 = .ok (.aload_n 0, 1) := by decide +kernel
theorem dX7_feed_31 : decode cX7_feed 31 = .ok (.iload 4, 2) := by decide +kernel
theorem dX7_feed_33 : decode cX7_feed 33 = .ok (.invokevirtual 42, 3) := by decide +kernel
theorem dX7_feed_36 : decode cX7_feed 36 = .ok (.aload_n 0, 1) := by decide +kernel
theorem dX7_feed_37 : decode cX7_feed 37 = .ok (.iload 5, 2) := by decide +kernel
theorem dX7_feed_39 : decode cX7_feed 39 = .ok (.invokevirtual 42, 3) := by decide +kernel
theorem dX7_feed_42 : decode cX7_feed 42 = .ok (.aload_n 0, 1) := by decide +kernel
theorem dX7_feed_43 : decode cX7_feed 43 = .ok (.getfield 38, 3) := by decide +kernel
theorem dX7_feed_46 : decode cX7_feed 46 = .ok (.ireturn, 1) := by decide +kernel
theorem dX7_end_0 : decode cX7_end 0 = .ok (.iload_n 1, 1) := by decide +kernel
theorem dX7_end_1 : decode cX7_end 1 = .ok (.ifCond .lt 11, 3) := by decide +kernel
theorem dX7_end_4 : decode cX7_end 4 = .ok (.iload_n 1, 1) := by decide +kernel
theorem dX7_end_5 : decode cX7_end 5 = .ok (.aload_n 0, 1) := by decide +kernel
theorem dX7_end_6 : decode cX7_end 6 = .ok (.getfield 38, 3) := by decide +kernel
theorem dX7_end_9 : decode cX7_end 9 = .ok (.if_icmp .le 5, 3) := by decide +kernel
theorem dX7_end_12 : decode cX7_end 12 = .ok (.iconst (-1), 1) := by decide +kernel
theorem dX7_end_13 : decode cX7_end 13 = .ok (.ireturn, 1) := by decide +kernel
theorem dX7_end_14 : decode cX7_end 14 = .ok (.aload_n 0, 1) := by decide +kernel
theorem dX7_end_15 : decode cX7_end 15 = .ok (.iload_n 1, 1) := by decide +kernel
theorem dX7_end_16 : decode cX7_end 16 = .ok (.putfield 38, 3) := by decide +kernel
theorem dX7_end_19 : decode cX7_end 19 = .ok (.iload_n 1, 1) := by decide +kernel
theorem dX7_end_20 : decode cX7_end 20 = .ok (.ireturn, 1) := by decide +kernel
theorem dX7_party_0 : decode cX7_party 0 = .ok (.iload_n 1, 1) := by decide +kernel
theorem dX7_party_1 : decode cX7_party 1 = .ok (.iconst 1, 1) := by decide +kernel
theorem dX7_party_2 : decode cX7_party 2 = .ok (.if_icmp .lt 21, 3) := by decide +kernel
theorem dX7_party_5 : decode cX7_party 5 = .ok (.iload_n 1, 1) := by decide +kernel
theorem dX7_party_6 : decode cX7_party 6 = .ok (.bipush 6, 2) := by decide +kernel
theorem dX7_party_8 : decode cX7_party 8 = .ok (.if_icmp .gt 15, 3) := by decide +kernel
theorem dX7_party_11 : decode cX7_party 11 = .ok (.iload_n 2, 1) := by decide +kernel
theorem dX7_party_12 : decode cX7_party 12 = .ok (.iconst 1, 1) := by decide +kernel
theorem dX7_party_13 : decode cX7_party 13 = .ok (.if_icmp .lt 10, 3) := by decide +kernel
theorem dX7_party_16 : decode cX7_party 16 = .ok (.iload_n 2, 1) := by decide +kernel
theorem dX7_party_17 : decode cX7_party 17 = .ok (.sipush 200, 3) := by decide +kernel
theorem dX7_party_20 : decode cX7_party 20 = .ok (.if_icmp .le 5, 3) := by decide +kernel
theorem dX7_party_23 : decode cX7_party 23 = .ok (.iconst (-1), 1) := by decide +kernel
theorem dX7_party_24 : decode cX7_party 24 = .ok (.ireturn, 1) := by decide +kernel
theorem dX7_party_25 : decode cX7_party 25 = .ok (.aload_n 0, 1) := by decide +kernel
theorem dX7_party_26 : decode cX7_party 26 = .ok (.getfield 30, 3) := by decide +kernel
theorem dX7_party_29 : decode cX7_party 29 = .ok (.iload_n 1, 1) := by decide +kernel
theorem dX7_party_30 : decode cX7_party 30 = .ok (.iload_n 2, 1) := by decide +kernel
theorem dX7_party_31 : decode cX7_party 31 = .ok (.invokevirtual 46, 3) := by decide +kernel
theorem dX7_party_34 : decode cX7_party 34 = .ok (.ireturn, 1) := by decide +kernel
theorem dX7_orders_0 : decode cX7_orders 0 = .ok (.aload_n 0, 1) := by decide +kernel
theorem dX7_orders_1 : decode cX7_orders 1 = .ok (.getfield 30, 3) := by decide +kernel
theorem dX7_orders_4 : decode cX7_orders 4 = .ok (.iload_n 1, 1) := by decide +kernel
theorem dX7_orders_5 : decode cX7_orders 5 = .ok (.invokevirtual 50, 3) := by decide +kernel
theorem dX7_orders_8 : decode cX7_orders 8 = .ok (.astore_n 2, 1) := by decide +kernel
theorem dX7_orders_9 : decode cX7_orders 9 = .ok (.aload_n 2, 1) := by decide +kernel
theorem dX7_orders_10 : decode cX7_orders 10 = .ok (.ifnull 10, 3) := by decide +kernel
theorem dX7_orders_20 : decode cX7_orders 20 = .ok (.bipush (-2), 2) := by decide +kernel
theorem dX7_orders_22 : decode cX7_orders 22 = .ok (.ireturn, 1) := by decide +kernel
theorem dX7_fault_0 : decode cX7_fault 0 = .ok (.iload_n 1, 1) := by decide +kernel
theorem dX7_fault_1 : decode cX7_fault 1 = .ok (.lookupswitch 43 #[(0, 27), (1, 35)], 27) := by decide +kernel
theorem dX7_fault_28 : decode cX7_fault 28 = .ok (.aload_n 0, 1) := by decide +kernel
theorem dX7_fault_29 : decode cX7_fault 29 = .ok (.getfield 16, 3) := by decide +kernel
theorem dX7_fault_32 : decode cX7_fault 32 = .ok (.getfield 64, 3) := by decide +kernel
theorem dX7_fault_35 : decode cX7_fault 35 = .ok (.ireturn, 1) := by decide +kernel
theorem dX7_fault_36 : decode cX7_fault 36 = .ok (.aload_n 0, 1) := by decide +kernel
theorem dX7_fault_37 : decode cX7_fault 37 = .ok (.getfield 16, 3) := by decide +kernel
theorem dX7_fault_40 : decode cX7_fault 40 = .ok (.getfield 78, 3) := by decide +kernel
theorem dX7_fault_43 : decode cX7_fault 43 = .ok (.ireturn, 1) := by decide +kernel
theorem dX7_fault_44 : decode cX7_fault 44 = .ok (.iconst (-1), 1) := by decide +kernel
theorem dX7_fault_45 : decode cX7_fault 45 = .ok (.ireturn, 1) := by decide +kernel
theorem dX7_land_0 : decode cX7_land 0 = .ok (.iload_n 1, 1) := by decide +kernel
theorem dX7_land_1 : decode cX7_land 1 = .ok (.iconst 1, 1) := by decide +kernel
theorem dX7_land_2 : decode cX7_land 2 = .ok (.if_icmp .lt 10, 3) := by decide +kernel
theorem dX7_land_5 : decode cX7_land 5 = .ok (.iload_n 1, 1) := by decide +kernel
theorem dX7_land_6 : decode cX7_land 6 = .ok (.sipush 500, 3) := by decide +kernel
theorem dX7_land_9 : decode cX7_land 9 = .ok (.if_icmp .le 5, 3) := by decide +kernel
theorem dX7_land_12 : decode cX7_land 12 = .ok (.iconst (-1), 1) := by decide +kernel
theorem dX7_land_13 : decode cX7_land 13 = .ok (.ireturn, 1) := by decide +kernel
theorem dX7_land_14 : decode cX7_land 14 = .ok (.aload_n 0, 1) := by decide +kernel
theorem dX7_land_15 : decode cX7_land 15 = .ok (.getfield 30, 3) := by decide +kernel
theorem dX7_land_18 : decode cX7_land 18 = .ok (.iload_n 1, 1) := by decide +kernel
theorem dX7_land_19 : decode cX7_land 19 = .ok (.invokevirtual 81, 3) := by decide +kernel
theorem dX7_land_22 : decode cX7_land 22 = .ok (.ireturn, 1) := by decide +kernel
theorem dX7_storm_0 : decode cX7_storm 0 = .ok (.iload_n 1, 1) := by decide +kernel
theorem dX7_storm_1 : decode cX7_storm 1 = .ok (.aload_n 0, 1) := by decide +kernel
theorem dX7_storm_2 : decode cX7_storm 2 = .ok (.getfield 30, 3) := by decide +kernel
theorem dX7_storm_5 : decode cX7_storm 5 = .ok (.getfield 85, 3) := by decide +kernel
theorem dX7_storm_8 : decode cX7_storm 8 = .ok (.if_icmp .lt 19, 3) := by decide +kernel
theorem dX7_storm_11 : decode cX7_storm 11 = .ok (.aload_n 0, 1) := by decide +kernel
theorem dX7_storm_12 : decode cX7_storm 12 = .ok (.getfield 30, 3) := by decide +kernel
theorem dX7_storm_15 : decode cX7_storm 15 = .ok (.iload_n 1, 1) := by decide +kernel
theorem dX7_storm_16 : decode cX7_storm 16 = .ok (.iload_n 2, 1) := by decide +kernel
theorem dX7_storm_17 : decode cX7_storm 17 = .ok (.invokevirtual 88, 3) := by decide +kernel
theorem dX7_storm_20 : decode cX7_storm 20 = .ok (.ifCond .eq 7, 3) := by decide +kernel
theorem dX7_storm_23 : decode cX7_storm 23 = .ok (.iconst 1, 1) := by decide +kernel
theorem dX7_storm_24 : decode cX7_storm 24 = .ok (.goto 4, 3) := by decide +kernel
theorem dX7_storm_27 : decode cX7_storm 27 = .ok (.iconst 0, 1) := by decide +kernel
theorem dX7_storm_28 : decode cX7_storm 28 = .ok (.ireturn, 1) := by decide +kernel
theorem dX7_days_0 : decode cX7_days 0 = .ok (.aload_n 0, 1) := by decide +kernel
theorem dX7_days_1 : decode cX7_days 1 = .ok (.getfield 30, 3) := by decide +kernel
theorem dX7_days_4 : decode cX7_days 4 = .ok (.iload_n 1, 1) := by decide +kernel
theorem dX7_days_5 : decode cX7_days 5 = .ok (.invokevirtual 92, 3) := by decide +kernel
theorem dX7_days_8 : decode cX7_days 8 = .ok (.ifCond .ne 5, 3) := by decide +kernel
theorem dX7_days_11 : decode cX7_days 11 = .ok (.iconst (-1), 1) := by decide +kernel
theorem dX7_days_12 : decode cX7_days 12 = .ok (.ireturn, 1) := by decide +kernel
theorem dX7_days_13 : decode cX7_days 13 = .ok (.iconst 0, 1) := by decide +kernel
theorem dX7_days_14 : decode cX7_days 14 = .ok (.istore_n 2, 1) := by decide +kernel
theorem dX7_days_15 : decode cX7_days 15 = .ok (.iload_n 2, 1) := by decide +kernel
theorem dX7_days_16 : decode cX7_days 16 = .ok (.iload_n 1, 1) := by decide +kernel
theorem dX7_days_17 : decode cX7_days 17 = .ok (.if_icmp .ge 20, 3) := by decide +kernel
theorem dX7_days_20 : decode cX7_days 20 = .ok (.aload_n 0, 1) := by decide +kernel
theorem dX7_days_21 : decode cX7_days 21 = .ok (.getfield 23, 3) := by decide +kernel
theorem dX7_days_24 : decode cX7_days 24 = .ok (.aload_n 0, 1) := by decide +kernel
theorem dX7_days_25 : decode cX7_days 25 = .ok (.getfield 30, 3) := by decide +kernel
theorem dX7_days_28 : decode cX7_days 28 = .ok (.invokevirtual 96, 3) := by decide +kernel
theorem dX7_days_31 : decode cX7_days 31 = .ok (.iinc 2 1, 3) := by decide +kernel
theorem dX7_days_34 : decode cX7_days 34 = .ok (.goto (-19), 3) := by decide +kernel
theorem dX7_days_37 : decode cX7_days 37 = .ok (.aload_n 0, 1) := by decide +kernel
theorem dX7_days_38 : decode cX7_days 38 = .ok (.getfield 30, 3) := by decide +kernel
theorem dX7_days_41 : decode cX7_days 41 = .ok (.getfield 85, 3) := by decide +kernel
theorem dX7_days_44 : decode cX7_days 44 = .ok (.ireturn, 1) := by decide +kernel
theorem dX7_ahead_0 : decode cX7_ahead 0 = .ok (.aload_n 0, 1) := by decide +kernel
theorem dX7_ahead_1 : decode cX7_ahead 1 = .ok (.getfield 30, 3) := by decide +kernel
theorem dX7_ahead_4 : decode cX7_ahead 4 = .ok (.iload_n 1, 1) := by decide +kernel
theorem dX7_ahead_5 : decode cX7_ahead 5 = .ok (.invokevirtual 92, 3) := by decide +kernel
theorem dX7_ahead_8 : decode cX7_ahead 8 = .ok (.ifCond .eq 12, 3) := by decide +kernel
theorem dX7_ahead_11 : decode cX7_ahead 11 = .ok (.iload_n 2, 1) := by decide +kernel
theorem dX7_ahead_12 : decode cX7_ahead 12 = .ok (.ifCond .lt 8, 3) := by decide +kernel
theorem dX7_ahead_15 : decode cX7_ahead 15 = .ok (.iload_n 2, 1) := by decide +kernel
theorem dX7_ahead_16 : decode cX7_ahead 16 = .ok (.iconst 2, 1) := by decide +kernel
theorem dX7_ahead_17 : decode cX7_ahead 17 = .ok (.if_icmp .le 6, 3) := by decide +kernel
theorem dX7_ahead_20 : decode cX7_ahead 20 = .ok (.bipush (-2), 2) := by decide +kernel
theorem dX7_ahead_22 : decode cX7_ahead 22 = .ok (.ireturn, 1) := by decide +kernel
theorem dX7_ahead_23 : decode cX7_ahead 23 = .ok (.aload_n 0, 1) := by decide +kernel
theorem dX7_ahead_24 : decode cX7_ahead 24 = .ok (.getfield 100, 3) := by decide +kernel
theorem dX7_ahead_27 : decode cX7_ahead 27 = .ok (.ifnonnull 14, 3) := by decide +kernel
theorem dX7_ahead_30 : decode cX7_ahead 30 = .ok (.aload_n 0, 1) := by decide +kernel
theorem dX7_ahead_31 : decode cX7_ahead 31 = .ok (.new 27, 3) := by decide +kernel
theorem dX7_ahead_34 : decode cX7_ahead 34 = .ok (.dup, 1) := by decide +kernel
theorem dX7_ahead_35 : decode cX7_ahead 35 = .ok (.invokespecial 29, 3) := by decide +kernel
theorem dX7_ahead_38 : decode cX7_ahead 38 = .ok (.putfield 100, 3) := by decide +kernel
theorem dX7_ahead_41 : decode cX7_ahead 41 = .ok (.aload_n 0, 1) := by decide +kernel
theorem dX7_ahead_42 : decode cX7_ahead 42 = .ok (.getfield 100, 3) := by decide +kernel
theorem dX7_ahead_45 : decode cX7_ahead 45 = .ok (.aload_n 0, 1) := by decide +kernel
theorem dX7_ahead_46 : decode cX7_ahead 46 = .ok (.getfield 30, 3) := by decide +kernel
theorem dX7_ahead_49 : decode cX7_ahead 49 = .ok (.invokevirtual 103, 3) := by decide +kernel
theorem dX7_ahead_52 : decode cX7_ahead 52 = .ok (.iconst (-1), 1) := by decide +kernel
theorem dX7_ahead_53 : decode cX7_ahead 53 = .ok (.istore_n 3, 1) := by decide +kernel
theorem dX7_ahead_54 : decode cX7_ahead 54 = .ok (.iconst 0, 1) := by decide +kernel
theorem dX7_ahead_55 : decode cX7_ahead 55 = .ok (.istore 4, 2) := by decide +kernel
theorem dX7_ahead_57 : decode cX7_ahead 57 = .ok (.iload 4, 2) := by decide +kernel
theorem dX7_ahead_59 : decode cX7_ahead 59 = .ok (.iload_n 1, 1) := by decide +kernel
theorem dX7_ahead_60 : decode cX7_ahead 60 = .ok (.if_icmp .ge 51, 3) := by decide +kernel
theorem dX7_ahead_63 : decode cX7_ahead 63 = .ok (.aload_n 0, 1) := by decide +kernel
theorem dX7_ahead_64 : decode cX7_ahead 64 = .ok (.getfield 100, 3) := by decide +kernel
theorem dX7_ahead_67 : decode cX7_ahead 67 = .ok (.getfield 85, 3) := by decide +kernel
theorem dX7_ahead_70 : decode cX7_ahead 70 = .ok (.istore 5, 2) := by decide +kernel
theorem dX7_ahead_72 : decode cX7_ahead 72 = .ok (.aload_n 0, 1) := by decide +kernel
theorem dX7_ahead_73 : decode cX7_ahead 73 = .ok (.getfield 23, 3) := by decide +kernel
theorem dX7_ahead_76 : decode cX7_ahead 76 = .ok (.aload_n 0, 1) := by decide +kernel
theorem dX7_ahead_77 : decode cX7_ahead 77 = .ok (.getfield 100, 3) := by decide +kernel
theorem dX7_ahead_80 : decode cX7_ahead 80 = .ok (.invokevirtual 96, 3) := by decide +kernel
theorem dX7_ahead_83 : decode cX7_ahead 83 = .ok (.iload_n 3, 1) := by decide +kernel
theorem dX7_ahead_84 : decode cX7_ahead 84 = .ok (.iconst (-1), 1) := by decide +kernel
theorem dX7_ahead_85 : decode cX7_ahead 85 = .ok (.if_icmp .ne 20, 3) := by decide +kernel
theorem dX7_ahead_88 : decode cX7_ahead 88 = .ok (.aload_n 0, 1) := by decide +kernel
theorem dX7_ahead_89 : decode cX7_ahead 89 = .ok (.getfield 100, 3) := by decide +kernel
theorem dX7_ahead_92 : decode cX7_ahead 92 = .ok (.aload_n 0, 1) := by decide +kernel
theorem dX7_ahead_93 : decode cX7_ahead 93 = .ok (.getfield 30, 3) := by decide +kernel
theorem dX7_ahead_96 : decode cX7_ahead 96 = .ok (.invokevirtual 106, 3) := by decide +kernel
theorem dX7_ahead_99 : decode cX7_ahead 99 = .ok (.ifCond .eq 6, 3) := by decide +kernel
theorem dX7_ahead_105 : decode cX7_ahead 105 = .ok (.iinc 4 1, 3) := by decide +kernel
theorem dX7_ahead_108 : decode cX7_ahead 108 = .ok (.goto (-51), 3) := by decide +kernel
theorem dX7_ahead_111 : decode cX7_ahead 111 = .ok (.iload_n 2, 1) := by decide +kernel
theorem dX7_ahead_112 : decode cX7_ahead 112 = .ok (.ifCond .ne 5, 3) := by decide +kernel
theorem dX7_ahead_115 : decode cX7_ahead 115 = .ok (.iload_n 3, 1) := by decide +kernel
theorem dX7_ahead_116 : decode cX7_ahead 116 = .ok (.ireturn, 1) := by decide +kernel
theorem dX7_ahead_117 : decode cX7_ahead 117 = .ok (.iload_n 2, 1) := by decide +kernel
theorem dX7_ahead_118 : decode cX7_ahead 118 = .ok (.iconst 1, 1) := by decide +kernel
theorem dX7_ahead_119 : decode cX7_ahead 119 = .ok (.if_icmp .ne 13, 3) := by decide +kernel
theorem dX7_ahead_122 : decode cX7_ahead 122 = .ok (.aload_n 0, 1) := by decide +kernel
theorem dX7_ahead_123 : decode cX7_ahead 123 = .ok (.getfield 100, 3) := by decide +kernel
theorem dX7_ahead_126 : decode cX7_ahead 126 = .ok (.invokevirtual 110, 3) := by decide +kernel
theorem dX7_ahead_129 : decode cX7_ahead 129 = .ok (.goto 10, 3) := by decide +kernel
theorem dX7_ahead_132 : decode cX7_ahead 132 = .ok (.aload_n 0, 1) := by decide +kernel
theorem dX7_ahead_133 : decode cX7_ahead 133 = .ok (.getfield 100, 3) := by decide +kernel
theorem dX7_ahead_136 : decode cX7_ahead 136 = .ok (.invokevirtual 114, 3) := by decide +kernel
theorem dX7_ahead_139 : decode cX7_ahead 139 = .ok (.ireturn, 1) := by decide +kernel
theorem dX7_tell_0 : decode cX7_tell 0 = .ok (.aload_n 0, 1) := by decide +kernel
theorem dX7_tell_1 : decode cX7_tell 1 = .ok (.getfield 30, 3) := by decide +kernel
theorem dX7_tell_4 : decode cX7_tell 4 = .ok (.iload_n 1, 1) := by decide +kernel
theorem dX7_tell_5 : decode cX7_tell 5 = .ok (.invokevirtual 50, 3) := by decide +kernel
theorem dX7_tell_8 : decode cX7_tell 8 = .ok (.astore_n 3, 1) := by decide +kernel
theorem dX7_tell_9 : decode cX7_tell 9 = .ok (.aload_n 3, 1) := by decide +kernel
theorem dX7_tell_10 : decode cX7_tell 10 = .ok (.ifnonnull 5, 3) := by decide +kernel
theorem dX7_tell_13 : decode cX7_tell 13 = .ok (.iconst (-1), 1) := by decide +kernel
theorem dX7_tell_14 : decode cX7_tell 14 = .ok (.ireturn, 1) := by decide +kernel
theorem dX7_camp_0 : decode cX7_camp 0 = .ok (.iload_n 1, 1) := by decide +kernel
theorem dX7_camp_1 : decode cX7_camp 1 = .ok (.bipush 16, 2) := by decide +kernel
theorem dX7_camp_3 : decode cX7_camp 3 = .ok (.invokestatic 156, 3) := by decide +kernel
theorem dX7_camp_6 : decode cX7_camp 6 = .ok (.ifCond .ne 5, 3) := by decide +kernel
theorem dX7_camp_9 : decode cX7_camp 9 = .ok (.iconst (-1), 1) := by decide +kernel
theorem dX7_camp_10 : decode cX7_camp 10 = .ok (.ireturn, 1) := by decide +kernel
theorem dX7_camp_11 : decode cX7_camp 11 = .ok (.iload_n 2, 1) := by decide +kernel
theorem dX7_camp_12 : decode cX7_camp 12 = .ok (.tableswitch 74 0 3 #[32, 44, 53, 62], 32) := by decide +kernel
theorem dX7_camp_44 : decode cX7_camp 44 = .ok (.aload_n 0, 1) := by decide +kernel
theorem dX7_camp_45 : decode cX7_camp 45 = .ok (.getfield 30, 3) := by decide +kernel
theorem dX7_camp_48 : decode cX7_camp 48 = .ok (.getfield 123, 3) := by decide +kernel
theorem dX7_camp_51 : decode cX7_camp 51 = .ok (.iload_n 1, 1) := by decide +kernel
theorem dX7_camp_52 : decode cX7_camp 52 = .ok (.invokevirtual 130, 3) := by decide +kernel
theorem dX7_camp_55 : decode cX7_camp 55 = .ok (.ireturn, 1) := by decide +kernel
theorem dX7_camp_56 : decode cX7_camp 56 = .ok (.aload_n 0, 1) := by decide +kernel
theorem dX7_camp_57 : decode cX7_camp 57 = .ok (.getfield 30, 3) := by decide +kernel
theorem dX7_camp_60 : decode cX7_camp 60 = .ok (.iload_n 1, 1) := by decide +kernel
theorem dX7_camp_61 : decode cX7_camp 61 = .ok (.invokevirtual 160, 3) := by decide +kernel
theorem dX7_camp_64 : decode cX7_camp 64 = .ok (.ireturn, 1) := by decide +kernel
theorem dX7_camp_65 : decode cX7_camp 65 = .ok (.aload_n 0, 1) := by decide +kernel
theorem dX7_camp_66 : decode cX7_camp 66 = .ok (.getfield 30, 3) := by decide +kernel
theorem dX7_camp_69 : decode cX7_camp 69 = .ok (.iload_n 1, 1) := by decide +kernel
theorem dX7_camp_70 : decode cX7_camp 70 = .ok (.invokevirtual 163, 3) := by decide +kernel
theorem dX7_camp_73 : decode cX7_camp 73 = .ok (.ireturn, 1) := by decide +kernel
theorem dX7_camp_74 : decode cX7_camp 74 = .ok (.aload_n 0, 1) := by decide +kernel
theorem dX7_camp_75 : decode cX7_camp 75 = .ok (.getfield 30, 3) := by decide +kernel
theorem dX7_camp_78 : decode cX7_camp 78 = .ok (.getfield 123, 3) := by decide +kernel
theorem dX7_camp_81 : decode cX7_camp 81 = .ok (.iload_n 1, 1) := by decide +kernel
theorem dX7_camp_82 : decode cX7_camp 82 = .ok (.invokevirtual 166, 3) := by decide +kernel
theorem dX7_camp_85 : decode cX7_camp 85 = .ok (.ireturn, 1) := by decide +kernel
theorem dX7_camp_86 : decode cX7_camp 86 = .ok (.iconst (-1), 1) := by decide +kernel
theorem dX7_camp_87 : decode cX7_camp 87 = .ok (.ireturn, 1) := by decide +kernel
theorem dX7_lot_0 : decode cX7_lot 0 = .ok (.iload_n 1, 1) := by decide +kernel
theorem dX7_lot_1 : decode cX7_lot 1 = .ok (.aload_n 0, 1) := by decide +kernel
theorem dX7_lot_2 : decode cX7_lot 2 = .ok (.getfield 30, 3) := by decide +kernel
theorem dX7_lot_5 : decode cX7_lot 5 = .ok (.getfield 169, 3) := by decide +kernel
theorem dX7_lot_8 : decode cX7_lot 8 = .ok (.invokestatic 156, 3) := by decide +kernel
theorem dX7_lot_11 : decode cX7_lot 11 = .ok (.ifCond .ne 5, 3) := by decide +kernel
theorem dX7_lot_14 : decode cX7_lot 14 = .ok (.iconst (-1), 1) := by decide +kernel
theorem dX7_lot_15 : decode cX7_lot 15 = .ok (.ireturn, 1) := by decide +kernel
theorem dX7_line_0 : decode cX7_line 0 = .ok (.aload_n 0, 1) := by decide +kernel
theorem dX7_line_1 : decode cX7_line 1 = .ok (.getfield 30, 3) := by decide +kernel
theorem dX7_line_4 : decode cX7_line 4 = .ok (.getfield 190, 3) := by decide +kernel
theorem dX7_line_7 : decode cX7_line 7 = .ok (.iload_n 1, 1) := by decide +kernel
theorem dX7_line_8 : decode cX7_line 8 = .ok (.iload_n 2, 1) := by decide +kernel
theorem dX7_line_9 : decode cX7_line 9 = .ok (.invokevirtual 194, 3) := by decide +kernel
theorem dX7_line_12 : decode cX7_line 12 = .ok (.ireturn, 1) := by decide +kernel
theorem dX7_count_0 : decode cX7_count 0 = .ok (.iload_n 1, 1) := by decide +kernel
theorem dX7_count_1 : decode cX7_count 1 = .ok (.tableswitch 126 0 8 #[51, 59, 67, 75, 86, 94, 102, 110, 118], 51) := by decide +kernel
theorem dX7_count_52 : decode cX7_count 52 = .ok (.aload_n 0, 1) := by decide +kernel
theorem dX7_count_53 : decode cX7_count 53 = .ok (.getfield 30, 3) := by decide +kernel
theorem dX7_count_56 : decode cX7_count 56 = .ok (.getfield 85, 3) := by decide +kernel
theorem dX7_count_59 : decode cX7_count 59 = .ok (.ireturn, 1) := by decide +kernel
theorem dX7_count_60 : decode cX7_count 60 = .ok (.aload_n 0, 1) := by decide +kernel
theorem dX7_count_61 : decode cX7_count 61 = .ok (.getfield 30, 3) := by decide +kernel
theorem dX7_count_64 : decode cX7_count 64 = .ok (.getfield 175, 3) := by decide +kernel
theorem dX7_count_67 : decode cX7_count 67 = .ok (.ireturn, 1) := by decide +kernel
theorem dX7_count_68 : decode cX7_count 68 = .ok (.aload_n 0, 1) := by decide +kernel
theorem dX7_count_69 : decode cX7_count 69 = .ok (.getfield 30, 3) := by decide +kernel
theorem dX7_count_72 : decode cX7_count 72 = .ok (.getfield 169, 3) := by decide +kernel
theorem dX7_count_75 : decode cX7_count 75 = .ok (.ireturn, 1) := by decide +kernel
theorem dX7_count_76 : decode cX7_count 76 = .ok (.aload_n 0, 1) := by decide +kernel
theorem dX7_count_77 : decode cX7_count 77 = .ok (.getfield 30, 3) := by decide +kernel
theorem dX7_count_80 : decode cX7_count 80 = .ok (.getfield 190, 3) := by decide +kernel
theorem dX7_count_83 : decode cX7_count 83 = .ok (.getfield 199, 3) := by decide +kernel
theorem dX7_count_86 : decode cX7_count 86 = .ok (.ireturn, 1) := by decide +kernel
theorem dX7_count_87 : decode cX7_count 87 = .ok (.aload_n 0, 1) := by decide +kernel
theorem dX7_count_88 : decode cX7_count 88 = .ok (.getfield 30, 3) := by decide +kernel
theorem dX7_count_91 : decode cX7_count 91 = .ok (.invokevirtual 202, 3) := by decide +kernel
theorem dX7_count_94 : decode cX7_count 94 = .ok (.ireturn, 1) := by decide +kernel
theorem dX7_count_95 : decode cX7_count 95 = .ok (.aload_n 0, 1) := by decide +kernel
theorem dX7_count_96 : decode cX7_count 96 = .ok (.getfield 30, 3) := by decide +kernel
theorem dX7_count_99 : decode cX7_count 99 = .ok (.invokevirtual 205, 3) := by decide +kernel
theorem dX7_count_102 : decode cX7_count 102 = .ok (.ireturn, 1) := by decide +kernel
theorem dX7_count_103 : decode cX7_count 103 = .ok (.aload_n 0, 1) := by decide +kernel
theorem dX7_count_104 : decode cX7_count 104 = .ok (.getfield 30, 3) := by decide +kernel
theorem dX7_count_107 : decode cX7_count 107 = .ok (.invokevirtual 114, 3) := by decide +kernel
theorem dX7_count_110 : decode cX7_count 110 = .ok (.ireturn, 1) := by decide +kernel
theorem dX7_count_111 : decode cX7_count 111 = .ok (.aload_n 0, 1) := by decide +kernel
theorem dX7_count_112 : decode cX7_count 112 = .ok (.getfield 30, 3) := by decide +kernel
theorem dX7_count_115 : decode cX7_count 115 = .ok (.invokevirtual 208, 3) := by decide +kernel
theorem dX7_count_118 : decode cX7_count 118 = .ok (.ireturn, 1) := by decide +kernel
theorem dX7_count_119 : decode cX7_count 119 = .ok (.aload_n 0, 1) := by decide +kernel
theorem dX7_count_120 : decode cX7_count 120 = .ok (.getfield 30, 3) := by decide +kernel
theorem dX7_count_123 : decode cX7_count 123 = .ok (.invokevirtual 110, 3) := by decide +kernel
theorem dX7_count_126 : decode cX7_count 126 = .ok (.ireturn, 1) := by decide +kernel
theorem dX7_count_127 : decode cX7_count 127 = .ok (.iconst (-1), 1) := by decide +kernel
theorem dX7_count_128 : decode cX7_count 128 = .ok (.ireturn, 1) := by decide +kernel
theorem dX7_need_0 : decode cX7_need 0 = .ok (.iload_n 1, 1) := by decide +kernel
theorem dX7_need_1 : decode cX7_need 1 = .ok (.invokestatic 211, 3) := by decide +kernel
theorem dX7_need_4 : decode cX7_need 4 = .ok (.ifCond .eq 12, 3) := by decide +kernel
theorem dX7_need_7 : decode cX7_need 7 = .ok (.iload_n 2, 1) := by decide +kernel
theorem dX7_need_8 : decode cX7_need 8 = .ok (.bipush 16, 2) := by decide +kernel
theorem dX7_need_10 : decode cX7_need 10 = .ok (.invokestatic 156, 3) := by decide +kernel
theorem dX7_need_13 : decode cX7_need 13 = .ok (.ifCond .ne 5, 3) := by decide +kernel
theorem dX7_need_16 : decode cX7_need 16 = .ok (.iconst (-1), 1) := by decide +kernel
theorem dX7_need_17 : decode cX7_need 17 = .ok (.ireturn, 1) := by decide +kernel
theorem dX7_need_18 : decode cX7_need 18 = .ok (.iconst 0, 1) := by decide +kernel
theorem dX7_need_19 : decode cX7_need 19 = .ok (.istore_n 3, 1) := by decide +kernel
theorem dX7_need_20 : decode cX7_need 20 = .ok (.iconst 0, 1) := by decide +kernel
theorem dX7_need_21 : decode cX7_need 21 = .ok (.istore 4, 2) := by decide +kernel
theorem dX7_need_23 : decode cX7_need 23 = .ok (.iload 4, 2) := by decide +kernel
theorem dX7_need_25 : decode cX7_need 25 = .ok (.iload_n 2, 1) := by decide +kernel
theorem dX7_need_26 : decode cX7_need 26 = .ok (.if_icmp .ge 15, 3) := by decide +kernel
theorem dX7_need_29 : decode cX7_need 29 = .ok (.iload_n 3, 1) := by decide +kernel
theorem dX7_need_30 : decode cX7_need 30 = .ok (.iload_n 1, 1) := by decide +kernel
theorem dX7_need_31 : decode cX7_need 31 = .ok (.invokestatic 214, 3) := by decide +kernel
theorem dX7_need_34 : decode cX7_need 34 = .ok (.istore_n 3, 1) := by decide +kernel
theorem dX7_need_35 : decode cX7_need 35 = .ok (.iinc 4 1, 3) := by decide +kernel
theorem dX7_need_38 : decode cX7_need 38 = .ok (.goto (-15), 3) := by decide +kernel
theorem dX7_need_41 : decode cX7_need 41 = .ok (.iload_n 3, 1) := by decide +kernel
theorem dX7_need_42 : decode cX7_need 42 = .ok (.ireturn, 1) := by decide +kernel
theorem dX7_far_0 : decode cX7_far 0 = .ok (.iload_n 1, 1) := by decide +kernel
theorem dX7_far_1 : decode cX7_far 1 = .ok (.invokestatic 211, 3) := by decide +kernel
theorem dX7_far_4 : decode cX7_far 4 = .ok (.ifCond .eq 13, 3) := by decide +kernel
theorem dX7_far_7 : decode cX7_far 7 = .ok (.iload_n 2, 1) := by decide +kernel
theorem dX7_far_8 : decode cX7_far 8 = .ok (.ifCond .lt 9, 3) := by decide +kernel
theorem dX7_far_11 : decode cX7_far 11 = .ok (.iload_n 2, 1) := by decide +kernel
theorem dX7_far_12 : decode cX7_far 12 = .ok (.ldc 217, 2) := by decide +kernel
theorem dX7_far_14 : decode cX7_far 14 = .ok (.if_icmp .le 5, 3) := by decide +kernel
theorem dX7_far_17 : decode cX7_far 17 = .ok (.iconst (-1), 1) := by decide +kernel
theorem dX7_far_18 : decode cX7_far 18 = .ok (.ireturn, 1) := by decide +kernel
theorem dX7_far_19 : decode cX7_far 19 = .ok (.iconst 0, 1) := by decide +kernel
theorem dX7_far_20 : decode cX7_far 20 = .ok (.istore_n 3, 1) := by decide +kernel
theorem dX7_far_21 : decode cX7_far 21 = .ok (.iconst 0, 1) := by decide +kernel
theorem dX7_far_22 : decode cX7_far 22 = .ok (.iload_n 1, 1) := by decide +kernel
theorem dX7_far_23 : decode cX7_far 23 = .ok (.invokestatic 214, 3) := by decide +kernel
theorem dX7_far_26 : decode cX7_far 26 = .ok (.istore 4, 2) := by decide +kernel
theorem dX7_far_28 : decode cX7_far 28 = .ok (.iconst 1, 1) := by decide +kernel
theorem dX7_far_29 : decode cX7_far 29 = .ok (.istore 5, 2) := by decide +kernel
theorem dX7_far_31 : decode cX7_far 31 = .ok (.iload 5, 2) := by decide +kernel
theorem dX7_far_33 : decode cX7_far 33 = .ok (.bipush 16, 2) := by decide +kernel
theorem dX7_far_35 : decode cX7_far 35 = .ok (.if_icmp .ge 26, 3) := by decide +kernel
theorem dX7_far_38 : decode cX7_far 38 = .ok (.iload 4, 2) := by decide +kernel
theorem dX7_far_40 : decode cX7_far 40 = .ok (.iload_n 2, 1) := by decide +kernel
theorem dX7_far_41 : decode cX7_far 41 = .ok (.if_icmp .gt 20, 3) := by decide +kernel
theorem dX7_far_44 : decode cX7_far 44 = .ok (.iload 5, 2) := by decide +kernel
theorem dX7_far_46 : decode cX7_far 46 = .ok (.istore_n 3, 1) := by decide +kernel
theorem dX7_far_47 : decode cX7_far 47 = .ok (.iload 4, 2) := by decide +kernel
theorem dX7_far_49 : decode cX7_far 49 = .ok (.iload_n 1, 1) := by decide +kernel
theorem dX7_far_50 : decode cX7_far 50 = .ok (.invokestatic 214, 3) := by decide +kernel
theorem dX7_far_53 : decode cX7_far 53 = .ok (.istore 4, 2) := by decide +kernel
theorem dX7_far_55 : decode cX7_far 55 = .ok (.iinc 5 1, 3) := by decide +kernel
theorem dX7_far_58 : decode cX7_far 58 = .ok (.goto (-27), 3) := by decide +kernel
theorem dX7_far_61 : decode cX7_far 61 = .ok (.iload_n 3, 1) := by decide +kernel
theorem dX7_far_62 : decode cX7_far 62 = .ok (.ireturn, 1) := by decide +kernel
theorem dX7_image_0 : decode cX7_image 0 = .ok (.iload_n 1, 1) := by decide +kernel
theorem dX7_image_1 : decode cX7_image 1 = .ok (.iconst 3, 1) := by decide +kernel
theorem dX7_image_2 : decode cX7_image 2 = .ok (.invokestatic 156, 3) := by decide +kernel
theorem dX7_image_5 : decode cX7_image 5 = .ok (.ifCond .ne 5, 3) := by decide +kernel
theorem dX7_image_8 : decode cX7_image 8 = .ok (.iconst 0, 1) := by decide +kernel
theorem dX7_image_9 : decode cX7_image 9 = .ok (.ireturn, 1) := by decide +kernel
theorem dX7_image_10 : decode cX7_image 10 = .ok (.aload_n 0, 1) := by decide +kernel
theorem dX7_image_11 : decode cX7_image 11 = .ok (.getfield 34, 3) := by decide +kernel
theorem dX7_image_14 : decode cX7_image 14 = .ok (.iload_n 1, 1) := by decide +kernel
theorem dX7_image_15 : decode cX7_image 15 = .ok (.aaload, 1) := by decide +kernel
theorem dX7_image_16 : decode cX7_image 16 = .ok (.astore_n 2, 1) := by decide +kernel
theorem dX7_image_17 : decode cX7_image 17 = .ok (.aload_n 2, 1) := by decide +kernel
theorem dX7_image_18 : decode cX7_image 18 = .ok (.ifnonnull 18, 3) := by decide +kernel
theorem dX7_image_21 : decode cX7_image 21 = .ok (.new 27, 3) := by decide +kernel
theorem dX7_image_24 : decode cX7_image 24 = .ok (.dup, 1) := by decide +kernel
theorem dX7_image_25 : decode cX7_image 25 = .ok (.invokespecial 29, 3) := by decide +kernel
theorem dX7_image_28 : decode cX7_image 28 = .ok (.astore_n 2, 1) := by decide +kernel
theorem dX7_image_29 : decode cX7_image 29 = .ok (.aload_n 0, 1) := by decide +kernel
theorem dX7_image_30 : decode cX7_image 30 = .ok (.getfield 34, 3) := by decide +kernel
theorem dX7_image_33 : decode cX7_image 33 = .ok (.iload_n 1, 1) := by decide +kernel
theorem dX7_image_34 : decode cX7_image 34 = .ok (.aload_n 2, 1) := by decide +kernel
theorem dX7_image_35 : decode cX7_image 35 = .ok (.aastore, 1) := by decide +kernel
theorem dX7_image_36 : decode cX7_image 36 = .ok (.aload_n 2, 1) := by decide +kernel
theorem dX7_image_37 : decode cX7_image 37 = .ok (.aload_n 0, 1) := by decide +kernel
theorem dX7_image_38 : decode cX7_image 38 = .ok (.getfield 30, 3) := by decide +kernel
theorem dX7_image_41 : decode cX7_image 41 = .ok (.invokevirtual 103, 3) := by decide +kernel
theorem dX7_image_44 : decode cX7_image 44 = .ok (.iconst 1, 1) := by decide +kernel
theorem dX7_image_45 : decode cX7_image 45 = .ok (.ireturn, 1) := by decide +kernel
theorem dX7_again_0 : decode cX7_again 0 = .ok (.iload_n 1, 1) := by decide +kernel
theorem dX7_again_1 : decode cX7_again 1 = .ok (.iconst 3, 1) := by decide +kernel
theorem dX7_again_2 : decode cX7_again 2 = .ok (.invokestatic 156, 3) := by decide +kernel
theorem dX7_again_5 : decode cX7_again 5 = .ok (.ifCond .ne 5, 3) := by decide +kernel
theorem dX7_again_8 : decode cX7_again 8 = .ok (.iconst 0, 1) := by decide +kernel
theorem dX7_again_9 : decode cX7_again 9 = .ok (.ireturn, 1) := by decide +kernel
theorem dX7_again_10 : decode cX7_again 10 = .ok (.aload_n 0, 1) := by decide +kernel
theorem dX7_again_11 : decode cX7_again 11 = .ok (.getfield 34, 3) := by decide +kernel
theorem dX7_again_14 : decode cX7_again 14 = .ok (.iload_n 1, 1) := by decide +kernel
theorem dX7_again_15 : decode cX7_again 15 = .ok (.aaload, 1) := by decide +kernel
theorem dX7_again_16 : decode cX7_again 16 = .ok (.astore_n 2, 1) := by decide +kernel
theorem dX7_again_17 : decode cX7_again 17 = .ok (.aload_n 2, 1) := by decide +kernel
theorem dX7_again_18 : decode cX7_again 18 = .ok (.ifnonnull 5, 3) := by decide +kernel
theorem dX7_again_21 : decode cX7_again 21 = .ok (.iconst 0, 1) := by decide +kernel
theorem dX7_again_22 : decode cX7_again 22 = .ok (.ireturn, 1) := by decide +kernel
theorem dX7_putBytes_0 : decode cX7_putBytes 0 = .ok (.bipush 24, 2) := by decide +kernel
theorem dX7_putBytes_2 : decode cX7_putBytes 2 = .ok (.istore_n 2, 1) := by decide +kernel
theorem dX7_putBytes_3 : decode cX7_putBytes 3 = .ok (.iload_n 2, 1) := by decide +kernel
theorem dX7_putBytes_4 : decode cX7_putBytes 4 = .ok (.ifCond .lt 50, 3) := by decide +kernel
theorem dX7_putBytes_7 : decode cX7_putBytes 7 = .ok (.aload_n 0, 1) := by decide +kernel
theorem dX7_putBytes_8 : decode cX7_putBytes 8 = .ok (.getfield 38, 3) := by decide +kernel
theorem dX7_putBytes_11 : decode cX7_putBytes 11 = .ok (.aload_n 0, 1) := by decide +kernel
theorem dX7_putBytes_12 : decode cX7_putBytes 12 = .ok (.getfield 9, 3) := by decide +kernel
theorem dX7_putBytes_15 : decode cX7_putBytes 15 = .ok (.arraylength, 1) := by decide +kernel
theorem dX7_putBytes_16 : decode cX7_putBytes 16 = .ok (.invokestatic 156, 3) := by decide +kernel
theorem dX7_putBytes_19 : decode cX7_putBytes 19 = .ok (.ifCond .eq 29, 3) := by decide +kernel
theorem dX7_putBytes_22 : decode cX7_putBytes 22 = .ok (.aload_n 0, 1) := by decide +kernel
theorem dX7_putBytes_23 : decode cX7_putBytes 23 = .ok (.getfield 9, 3) := by decide +kernel
theorem dX7_putBytes_26 : decode cX7_putBytes 26 = .ok (.aload_n 0, 1) := by decide +kernel
theorem dX7_putBytes_27 : decode cX7_putBytes 27 = .ok (.getfield 38, 3) := by decide +kernel
theorem dX7_putBytes_30 : decode cX7_putBytes 30 = .ok (.iload_n 1, 1) := by decide +kernel
theorem dX7_putBytes_31 : decode cX7_putBytes 31 = .ok (.iload_n 2, 1) := by decide +kernel
theorem dX7_putBytes_32 : decode cX7_putBytes 32 = .ok (.iushr, 1) := by decide +kernel
theorem dX7_putBytes_33 : decode cX7_putBytes 33 = .ok (.sipush 255, 3) := by decide +kernel
theorem dX7_putBytes_36 : decode cX7_putBytes 36 = .ok (.iand, 1) := by decide +kernel
theorem dX7_putBytes_37 : decode cX7_putBytes 37 = .ok (.iastore, 1) := by decide +kernel
theorem dX7_putBytes_38 : decode cX7_putBytes 38 = .ok (.aload_n 0, 1) := by decide +kernel
theorem dX7_putBytes_39 : decode cX7_putBytes 39 = .ok (.dup, 1) := by decide +kernel
theorem dX7_putBytes_40 : decode cX7_putBytes 40 = .ok (.getfield 38, 3) := by decide +kernel
theorem dX7_putBytes_43 : decode cX7_putBytes 43 = .ok (.iconst 1, 1) := by decide +kernel
theorem dX7_putBytes_44 : decode cX7_putBytes 44 = .ok (.iadd, 1) := by decide +kernel
theorem dX7_putBytes_45 : decode cX7_putBytes 45 = .ok (.putfield 38, 3) := by decide +kernel
theorem dX7_putBytes_48 : decode cX7_putBytes 48 = .ok (.iinc 2 (-8), 3) := by decide +kernel
theorem dX7_putBytes_51 : decode cX7_putBytes 51 = .ok (.goto (-48), 3) := by decide +kernel
theorem dX7_putBytes_54 : decode cX7_putBytes 54 = .ok (.return_, 1) := by decide +kernel
theorem dX7_isCarryOfNeed_0 : decode cX7_isCarryOfNeed 0 = .ok (.iload_n 0, 1) := by decide +kernel
theorem dX7_isCarryOfNeed_1 : decode cX7_isCarryOfNeed 1 = .ok (.iconst 3, 1) := by decide +kernel
theorem dX7_isCarryOfNeed_2 : decode cX7_isCarryOfNeed 2 = .ok (.if_icmp .lt 14, 3) := by decide +kernel
theorem dX7_isCarryOfNeed_5 : decode cX7_isCarryOfNeed 5 = .ok (.iload_n 0, 1) := by decide +kernel
theorem dX7_isCarryOfNeed_6 : decode cX7_isCarryOfNeed 6 = .ok (.sipush 200, 3) := by decide +kernel
theorem dX7_isCarryOfNeed_9 : decode cX7_isCarryOfNeed 9 = .ok (.if_icmp .gt 7, 3) := by decide +kernel
theorem dX7_isCarryOfNeed_12 : decode cX7_isCarryOfNeed 12 = .ok (.iconst 1, 1) := by decide +kernel
theorem dX7_isCarryOfNeed_13 : decode cX7_isCarryOfNeed 13 = .ok (.goto 4, 3) := by decide +kernel
theorem dX7_isCarryOfNeed_16 : decode cX7_isCarryOfNeed 16 = .ok (.iconst 0, 1) := by decide +kernel
theorem dX7_isCarryOfNeed_17 : decode cX7_isCarryOfNeed 17 = .ok (.ireturn, 1) := by decide +kernel
theorem dX7_needBehind_0 : decode cX7_needBehind 0 = .ok (.iconst 1, 1) := by decide +kernel
theorem dX7_needBehind_1 : decode cX7_needBehind 1 = .ok (.iload_n 1, 1) := by decide +kernel
theorem dX7_needBehind_2 : decode cX7_needBehind 2 = .ok (.iconst 2, 1) := by decide +kernel
theorem dX7_needBehind_3 : decode cX7_needBehind 3 = .ok (.isub, 1) := by decide +kernel
theorem dX7_needBehind_4 : decode cX7_needBehind 4 = .ok (.invokestatic 218, 3) := by decide +kernel
theorem dX7_needBehind_7 : decode cX7_needBehind 7 = .ok (.istore_n 2, 1) := by decide +kernel
theorem dX7_needBehind_8 : decode cX7_needBehind 8 = .ok (.iconst 1, 1) := by decide +kernel
theorem dX7_needBehind_9 : decode cX7_needBehind 9 = .ok (.iload_n 0, 1) := by decide +kernel
theorem dX7_needBehind_10 : decode cX7_needBehind 10 = .ok (.iload_n 2, 1) := by decide +kernel
theorem dX7_needBehind_11 : decode cX7_needBehind 11 = .ok (.iadd, 1) := by decide +kernel
theorem dX7_needBehind_12 : decode cX7_needBehind 12 = .ok (.iconst 1, 1) := by decide +kernel
theorem dX7_needBehind_13 : decode cX7_needBehind 13 = .ok (.isub, 1) := by decide +kernel
theorem dX7_needBehind_14 : decode cX7_needBehind 14 = .ok (.iload_n 2, 1) := by decide +kernel
theorem dX7_needBehind_15 : decode cX7_needBehind 15 = .ok (.idiv, 1) := by decide +kernel
theorem dX7_needBehind_16 : decode cX7_needBehind 16 = .ok (.invokestatic 218, 3) := by decide +kernel
theorem dX7_needBehind_19 : decode cX7_needBehind 19 = .ok (.istore_n 3, 1) := by decide +kernel
theorem dX7_needBehind_20 : decode cX7_needBehind 20 = .ok (.iload_n 0, 1) := by decide +kernel
theorem dX7_needBehind_21 : decode cX7_needBehind 21 = .ok (.iconst 2, 1) := by decide +kernel
theorem dX7_needBehind_22 : decode cX7_needBehind 22 = .ok (.iload_n 3, 1) := by decide +kernel
theorem dX7_needBehind_23 : decode cX7_needBehind 23 = .ok (.imul, 1) := by decide +kernel
theorem dX7_needBehind_24 : decode cX7_needBehind 24 = .ok (.iadd, 1) := by decide +kernel
theorem dX7_needBehind_25 : decode cX7_needBehind 25 = .ok (.ireturn, 1) := by decide +kernel
theorem dX7_within_0 : decode cX7_within 0 = .ok (.iload_n 0, 1) := by decide +kernel
theorem dX7_within_1 : decode cX7_within 1 = .ok (.ifCond .lt 12, 3) := by decide +kernel
theorem dX7_within_4 : decode cX7_within 4 = .ok (.iload_n 0, 1) := by decide +kernel
theorem dX7_within_5 : decode cX7_within 5 = .ok (.iload_n 1, 1) := by decide +kernel
theorem dX7_within_6 : decode cX7_within 6 = .ok (.if_icmp .ge 7, 3) := by decide +kernel
theorem dX7_within_9 : decode cX7_within 9 = .ok (.iconst 1, 1) := by decide +kernel
theorem dX7_within_10 : decode cX7_within 10 = .ok (.goto 4, 3) := by decide +kernel
theorem dX7_within_13 : decode cX7_within 13 = .ok (.iconst 0, 1) := by decide +kernel
theorem dX7_within_14 : decode cX7_within 14 = .ok (.ireturn, 1) := by decide +kernel
theorem dJ7_fill_53178_0 : decode cJ7_fill_53178 0 = .ok (.iconst 0, 1) := by decide +kernel
theorem dJ7_fill_53178_1 : decode cJ7_fill_53178 1 = .ok (.istore_n 2, 1) := by decide +kernel
theorem dJ7_fill_53178_2 : decode cJ7_fill_53178 2 = .ok (.aload_n 0, 1) := by decide +kernel
theorem dJ7_fill_53178_3 : decode cJ7_fill_53178 3 = .ok (.arraylength, 1) := by decide +kernel
theorem dJ7_fill_53178_4 : decode cJ7_fill_53178 4 = .ok (.istore_n 3, 1) := by decide +kernel
theorem dJ7_fill_53178_5 : decode cJ7_fill_53178 5 = .ok (.iload_n 2, 1) := by decide +kernel
theorem dJ7_fill_53178_6 : decode cJ7_fill_53178 6 = .ok (.iload_n 3, 1) := by decide +kernel
theorem dJ7_fill_53178_7 : decode cJ7_fill_53178 7 = .ok (.if_icmp .ge 13, 3) := by decide +kernel
theorem dJ7_fill_53178_10 : decode cJ7_fill_53178 10 = .ok (.aload_n 0, 1) := by decide +kernel
theorem dJ7_fill_53178_11 : decode cJ7_fill_53178 11 = .ok (.iload_n 2, 1) := by decide +kernel
theorem dJ7_fill_53178_12 : decode cJ7_fill_53178 12 = .ok (.iload_n 1, 1) := by decide +kernel
theorem dJ7_fill_53178_13 : decode cJ7_fill_53178 13 = .ok (.iastore, 1) := by decide +kernel
theorem dJ7_fill_53178_14 : decode cJ7_fill_53178 14 = .ok (.iinc 2 1, 3) := by decide +kernel
theorem dJ7_fill_53178_17 : decode cJ7_fill_53178 17 = .ok (.goto (-12), 3) := by decide +kernel
theorem dJ7_fill_53178_20 : decode cJ7_fill_53178 20 = .ok (.return_, 1) := by decide +kernel
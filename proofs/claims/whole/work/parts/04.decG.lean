theorem dG_add_0 : decode prog_1_method_6_code 0 = .ok (.aload_n 0, 1) := by decide +kernel
theorem dG_add_1 : decode prog_1_method_6_code 1 = .ok (.getfield 36, 3) := by decide +kernel
theorem dG_add_4 : decode prog_1_method_6_code 4 = .ok (.istore 4, 2) := by decide +kernel
theorem dG_add_6 : decode prog_1_method_6_code 6 = .ok (.aload_n 0, 1) := by decide +kernel
theorem dG_add_7 : decode prog_1_method_6_code 7 = .ok (.iconst 0, 1) := by decide +kernel
theorem dG_add_8 : decode prog_1_method_6_code 8 = .ok (.putfield 36, 3) := by decide +kernel
theorem dG_add_11 : decode prog_1_method_6_code 11 = .ok (.aload_n 0, 1) := by decide +kernel
theorem dG_add_12 : decode prog_1_method_6_code 12 = .ok (.getfield 19, 3) := by decide +kernel
theorem dG_add_15 : decode prog_1_method_6_code 15 = .ok (.iload_n 1, 1) := by decide +kernel
theorem dG_add_16 : decode prog_1_method_6_code 16 = .ok (.invokevirtual 72, 3) := by decide +kernel
theorem dG_add_19 : decode prog_1_method_6_code 19 = .ok (.astore 5, 2) := by decide +kernel
theorem dG_add_21 : decode prog_1_method_6_code 21 = .ok (.aload 5, 2) := by decide +kernel
theorem dG_add_23 : decode prog_1_method_6_code 23 = .ok (.ifnull 32, 3) := by decide +kernel
theorem dG_add_26 : decode prog_1_method_6_code 26 = .ok (.aload_n 0, 1) := by decide +kernel
theorem dG_add_27 : decode prog_1_method_6_code 27 = .ok (.getfield 19, 3) := by decide +kernel
theorem dG_add_30 : decode prog_1_method_6_code 30 = .ok (.invokevirtual 76, 3) := by decide +kernel
theorem dG_add_33 : decode prog_1_method_6_code 33 = .ok (.ifCond .ne 22, 3) := by decide +kernel
theorem dG_add_36 : decode prog_1_method_6_code 36 = .ok (.aload 5, 2) := by decide +kernel
theorem dG_add_38 : decode prog_1_method_6_code 38 = .ok (.invokevirtual 80, 3) := by decide +kernel
theorem dG_add_41 : decode prog_1_method_6_code 41 = .ok (.ifCond .eq 14, 3) := by decide +kernel
theorem dG_add_44 : decode prog_1_method_6_code 44 = .ok (.aload_n 0, 1) := by decide +kernel
theorem dG_add_45 : decode prog_1_method_6_code 45 = .ok (.iload_n 2, 1) := by decide +kernel
theorem dG_add_46 : decode prog_1_method_6_code 46 = .ok (.iload_n 3, 1) := by decide +kernel
theorem dG_add_47 : decode prog_1_method_6_code 47 = .ok (.iload 4, 2) := by decide +kernel
theorem dG_add_49 : decode prog_1_method_6_code 49 = .ok (.invokevirtual 85, 3) := by decide +kernel
theorem dG_add_52 : decode prog_1_method_6_code 52 = .ok (.ifCond .ne 5, 3) := by decide +kernel
theorem dG_add_55 : decode prog_1_method_6_code 55 = .ok (.iconst (-1), 1) := by decide +kernel
theorem dG_add_56 : decode prog_1_method_6_code 56 = .ok (.ireturn, 1) := by decide +kernel
theorem dG_add_57 : decode prog_1_method_6_code 57 = .ok (.aload_n 0, 1) := by decide +kernel
theorem dG_add_58 : decode prog_1_method_6_code 58 = .ok (.invokevirtual 62, 3) := by decide +kernel
theorem dG_add_61 : decode prog_1_method_6_code 61 = .ok (.aload_n 0, 1) := by decide +kernel
theorem dG_add_62 : decode prog_1_method_6_code 62 = .ok (.getfield 19, 3) := by decide +kernel
theorem dG_add_65 : decode prog_1_method_6_code 65 = .ok (.aload 5, 2) := by decide +kernel
theorem dG_add_67 : decode prog_1_method_6_code 67 = .ok (.iload_n 2, 1) := by decide +kernel
theorem dG_add_68 : decode prog_1_method_6_code 68 = .ok (.iload_n 3, 1) := by decide +kernel
theorem dG_add_69 : decode prog_1_method_6_code 69 = .ok (.aload_n 0, 1) := by decide +kernel
theorem dG_add_70 : decode prog_1_method_6_code 70 = .ok (.getfield 32, 3) := by decide +kernel
theorem dG_add_73 : decode prog_1_method_6_code 73 = .ok (.iload 4, 2) := by decide +kernel
theorem dG_add_75 : decode prog_1_method_6_code 75 = .ok (.invokevirtual 89, 3) := by decide +kernel
theorem dG_add_78 : decode prog_1_method_6_code 78 = .ok (.ireturn, 1) := by decide +kernel
theorem dG_clear_0 : decode prog_1_method_4_code 0 = .ok (.aload_n 0, 1) := by decide +kernel
theorem dG_clear_1 : decode prog_1_method_4_code 1 = .ok (.getfield 19, 3) := by decide +kernel
theorem dG_clear_4 : decode prog_1_method_4_code 4 = .ok (.invokevirtual 65, 3) := by decide +kernel
theorem dG_clear_7 : decode prog_1_method_4_code 7 = .ok (.aload_n 0, 1) := by decide +kernel
theorem dG_clear_8 : decode prog_1_method_4_code 8 = .ok (.iconst 0, 1) := by decide +kernel
theorem dG_clear_9 : decode prog_1_method_4_code 9 = .ok (.putfield 36, 3) := by decide +kernel
theorem dG_clear_12 : decode prog_1_method_4_code 12 = .ok (.aload_n 0, 1) := by decide +kernel
theorem dG_clear_13 : decode prog_1_method_4_code 13 = .ok (.lconst 0, 1) := by decide +kernel
theorem dG_clear_14 : decode prog_1_method_4_code 14 = .ok (.putfield 40, 3) := by decide +kernel
theorem dG_clear_17 : decode prog_1_method_4_code 17 = .ok (.aload_n 0, 1) := by decide +kernel
theorem dG_clear_18 : decode prog_1_method_4_code 18 = .ok (.lconst 0, 1) := by decide +kernel
theorem dG_clear_19 : decode prog_1_method_4_code 19 = .ok (.putfield 44, 3) := by decide +kernel
theorem dG_clear_22 : decode prog_1_method_4_code 22 = .ok (.aload_n 0, 1) := by decide +kernel
theorem dG_clear_23 : decode prog_1_method_4_code 23 = .ok (.invokevirtual 62, 3) := by decide +kernel
theorem dG_clear_26 : decode prog_1_method_4_code 26 = .ok (.return_, 1) := by decide +kernel
theorem dG_compared_0 : decode prog_1_method_13_code 0 = .ok (.aload_n 0, 1) := by decide +kernel
theorem dG_compared_1 : decode prog_1_method_13_code 1 = .ok (.getfield 19, 3) := by decide +kernel
theorem dG_compared_4 : decode prog_1_method_13_code 4 = .ok (.iload_n 1, 1) := by decide +kernel
theorem dG_compared_5 : decode prog_1_method_13_code 5 = .ok (.invokevirtual 72, 3) := by decide +kernel
theorem dG_compared_8 : decode prog_1_method_13_code 8 = .ok (.astore_n 3, 1) := by decide +kernel
theorem dG_compared_9 : decode prog_1_method_13_code 9 = .ok (.aload_n 0, 1) := by decide +kernel
theorem dG_compared_10 : decode prog_1_method_13_code 10 = .ok (.getfield 47, 3) := by decide +kernel
theorem dG_compared_13 : decode prog_1_method_13_code 13 = .ok (.ifCond .eq 19, 3) := by decide +kernel
theorem dG_compared_16 : decode prog_1_method_13_code 16 = .ok (.aload_n 3, 1) := by decide +kernel
theorem dG_compared_17 : decode prog_1_method_13_code 17 = .ok (.ifnull 15, 3) := by decide +kernel
theorem dG_compared_20 : decode prog_1_method_13_code 20 = .ok (.iload_n 2, 1) := by decide +kernel
theorem dG_compared_21 : decode prog_1_method_13_code 21 = .ok (.ifCond .lt 11, 3) := by decide +kernel
theorem dG_compared_24 : decode prog_1_method_13_code 24 = .ok (.iload_n 2, 1) := by decide +kernel
theorem dG_compared_25 : decode prog_1_method_13_code 25 = .ok (.aload_n 3, 1) := by decide +kernel
theorem dG_compared_26 : decode prog_1_method_13_code 26 = .ok (.getfield 141, 3) := by decide +kernel
theorem dG_compared_29 : decode prog_1_method_13_code 29 = .ok (.if_icmp .lt 5, 3) := by decide +kernel
theorem dG_compared_32 : decode prog_1_method_13_code 32 = .ok (.iconst 0, 1) := by decide +kernel
theorem dG_compared_33 : decode prog_1_method_13_code 33 = .ok (.ireturn, 1) := by decide +kernel
theorem dG_compared_34 : decode prog_1_method_13_code 34 = .ok (.aload_n 3, 1) := by decide +kernel
theorem dG_compared_35 : decode prog_1_method_13_code 35 = .ok (.iload_n 2, 1) := by decide +kernel
theorem dG_compared_36 : decode prog_1_method_13_code 36 = .ok (.aload_n 0, 1) := by decide +kernel
theorem dG_compared_37 : decode prog_1_method_13_code 37 = .ok (.aload_n 3, 1) := by decide +kernel
theorem dG_compared_38 : decode prog_1_method_13_code 38 = .ok (.invokevirtual 147, 3) := by decide +kernel
theorem dG_compared_41 : decode prog_1_method_13_code 41 = .ok (.invokevirtual 151, 3) := by decide +kernel
theorem dG_compared_44 : decode prog_1_method_13_code 44 = .ok (.ireturn, 1) := by decide +kernel
theorem dG_fits_0 : decode prog_1_method_17_code 0 = .ok (.iload_n 1, 1) := by decide +kernel
theorem dG_fits_1 : decode prog_1_method_17_code 1 = .ok (.ifCond .lt 9, 3) := by decide +kernel
theorem dG_fits_4 : decode prog_1_method_17_code 4 = .ok (.iload_n 1, 1) := by decide +kernel
theorem dG_fits_5 : decode prog_1_method_17_code 5 = .ok (.bipush 12, 2) := by decide +kernel
theorem dG_fits_7 : decode prog_1_method_17_code 7 = .ok (.if_icmp .le 5, 3) := by decide +kernel
theorem dG_fits_10 : decode prog_1_method_17_code 10 = .ok (.iconst 0, 1) := by decide +kernel
theorem dG_fits_11 : decode prog_1_method_17_code 11 = .ok (.ireturn, 1) := by decide +kernel
theorem dG_fits_12 : decode prog_1_method_17_code 12 = .ok (.iload_n 1, 1) := by decide +kernel
theorem dG_fits_13 : decode prog_1_method_17_code 13 = .ok (.bipush 12, 2) := by decide +kernel
theorem dG_fits_15 : decode prog_1_method_17_code 15 = .ok (.if_icmp .ne 32, 3) := by decide +kernel
theorem dG_fits_18 : decode prog_1_method_17_code 18 = .ok (.aload_n 0, 1) := by decide +kernel
theorem dG_fits_19 : decode prog_1_method_17_code 19 = .ok (.getfield 10, 3) := by decide +kernel
theorem dG_fits_22 : decode prog_1_method_17_code 22 = .ok (.iload_n 2, 1) := by decide +kernel
theorem dG_fits_23 : decode prog_1_method_17_code 23 = .ok (.invokevirtual 161, 3) := by decide +kernel
theorem dG_fits_26 : decode prog_1_method_17_code 26 = .ok (.ifCond .eq 19, 3) := by decide +kernel
theorem dG_fits_29 : decode prog_1_method_17_code 29 = .ok (.iload_n 3, 1) := by decide +kernel
theorem dG_fits_30 : decode prog_1_method_17_code 30 = .ok (.aload_n 0, 1) := by decide +kernel
theorem dG_fits_31 : decode prog_1_method_17_code 31 = .ok (.getfield 10, 3) := by decide +kernel
theorem dG_fits_34 : decode prog_1_method_17_code 34 = .ok (.iload_n 2, 1) := by decide +kernel
theorem dG_fits_35 : decode prog_1_method_17_code 35 = .ok (.invokevirtual 164, 3) := by decide +kernel
theorem dG_fits_38 : decode prog_1_method_17_code 38 = .ok (.if_icmp .ne 7, 3) := by decide +kernel
theorem dG_fits_41 : decode prog_1_method_17_code 41 = .ok (.iconst 1, 1) := by decide +kernel
theorem dG_fits_42 : decode prog_1_method_17_code 42 = .ok (.goto 4, 3) := by decide +kernel
theorem dG_fits_45 : decode prog_1_method_17_code 45 = .ok (.iconst 0, 1) := by decide +kernel
theorem dG_fits_46 : decode prog_1_method_17_code 46 = .ok (.ireturn, 1) := by decide +kernel
theorem dG_fits_47 : decode prog_1_method_17_code 47 = .ok (.iload_n 3, 1) := by decide +kernel
theorem dG_fits_48 : decode prog_1_method_17_code 48 = .ok (.getstatic 167, 3) := by decide +kernel
theorem dG_fits_51 : decode prog_1_method_17_code 51 = .ok (.iload_n 1, 1) := by decide +kernel
theorem dG_fits_52 : decode prog_1_method_17_code 52 = .ok (.iaload, 1) := by decide +kernel
theorem dG_fits_53 : decode prog_1_method_17_code 53 = .ok (.if_icmp .lt 16, 3) := by decide +kernel
theorem dG_fits_56 : decode prog_1_method_17_code 56 = .ok (.iload_n 3, 1) := by decide +kernel
theorem dG_fits_57 : decode prog_1_method_17_code 57 = .ok (.getstatic 170, 3) := by decide +kernel
theorem dG_fits_60 : decode prog_1_method_17_code 60 = .ok (.iload_n 1, 1) := by decide +kernel
theorem dG_fits_61 : decode prog_1_method_17_code 61 = .ok (.iaload, 1) := by decide +kernel
theorem dG_fits_62 : decode prog_1_method_17_code 62 = .ok (.if_icmp .gt 7, 3) := by decide +kernel
theorem dG_fits_65 : decode prog_1_method_17_code 65 = .ok (.iconst 1, 1) := by decide +kernel
theorem dG_fits_66 : decode prog_1_method_17_code 66 = .ok (.goto 4, 3) := by decide +kernel
theorem dG_fits_69 : decode prog_1_method_17_code 69 = .ok (.iconst 0, 1) := by decide +kernel
theorem dG_fits_70 : decode prog_1_method_17_code 70 = .ok (.ireturn, 1) := by decide +kernel
theorem dG_forgetOrdering_0 : decode prog_1_method_16_code 0 = .ok (.aload_n 0, 1) := by decide +kernel
theorem dG_forgetOrdering_1 : decode prog_1_method_16_code 1 = .ok (.iconst 0, 1) := by decide +kernel
theorem dG_forgetOrdering_2 : decode prog_1_method_16_code 2 = .ok (.putfield 47, 3) := by decide +kernel
theorem dG_forgetOrdering_5 : decode prog_1_method_16_code 5 = .ok (.aload_n 0, 1) := by decide +kernel
theorem dG_forgetOrdering_6 : decode prog_1_method_16_code 6 = .ok (.iconst (-1), 1) := by decide +kernel
theorem dG_forgetOrdering_7 : decode prog_1_method_16_code 7 = .ok (.putfield 51, 3) := by decide +kernel
theorem dG_forgetOrdering_10 : decode prog_1_method_16_code 10 = .ok (.return_, 1) := by decide +kernel
theorem dG_given_0 : decode prog_1_method_7_code 0 = .ok (.iload_n 1, 1) := by decide +kernel
theorem dG_given_1 : decode prog_1_method_7_code 1 = .ok (.invokestatic 68, 3) := by decide +kernel
theorem dG_given_4 : decode prog_1_method_7_code 4 = .ok (.ifCond .eq 15, 3) := by decide +kernel
theorem dG_given_7 : decode prog_1_method_7_code 7 = .ok (.aload_n 0, 1) := by decide +kernel
theorem dG_given_8 : decode prog_1_method_7_code 8 = .ok (.getfield 40, 3) := by decide +kernel
theorem dG_given_11 : decode prog_1_method_7_code 11 = .ok (.iload_n 1, 1) := by decide +kernel
theorem dG_given_12 : decode prog_1_method_7_code 12 = .ok (.invokestatic 93, 3) := by decide +kernel
theorem dG_given_15 : decode prog_1_method_7_code 15 = .ok (.iload_n 2, 1) := by decide +kernel
theorem dG_given_16 : decode prog_1_method_7_code 16 = .ok (.if_icmp .ne 5, 3) := by decide +kernel
theorem dG_given_19 : decode prog_1_method_7_code 19 = .ok (.iconst 0, 1) := by decide +kernel
theorem dG_given_20 : decode prog_1_method_7_code 20 = .ok (.ireturn, 1) := by decide +kernel
theorem dG_given_21 : decode prog_1_method_7_code 21 = .ok (.aload_n 0, 1) := by decide +kernel
theorem dG_given_22 : decode prog_1_method_7_code 22 = .ok (.dup, 1) := by decide +kernel
theorem dG_given_23 : decode prog_1_method_7_code 23 = .ok (.getfield 40, 3) := by decide +kernel
theorem dG_given_26 : decode prog_1_method_7_code 26 = .ok (.lconst 1, 1) := by decide +kernel
theorem dG_given_27 : decode prog_1_method_7_code 27 = .ok (.iload_n 1, 1) := by decide +kernel
theorem dG_given_28 : decode prog_1_method_7_code 28 = .ok (.lshl, 1) := by decide +kernel
theorem dG_given_29 : decode prog_1_method_7_code 29 = .ok (.lxor, 1) := by decide +kernel
theorem dG_given_30 : decode prog_1_method_7_code 30 = .ok (.putfield 40, 3) := by decide +kernel
theorem dG_given_33 : decode prog_1_method_7_code 33 = .ok (.aload_n 0, 1) := by decide +kernel
theorem dG_given_34 : decode prog_1_method_7_code 34 = .ok (.invokevirtual 62, 3) := by decide +kernel
theorem dG_given_37 : decode prog_1_method_7_code 37 = .ok (.iconst 1, 1) := by decide +kernel
theorem dG_given_38 : decode prog_1_method_7_code 38 = .ok (.ireturn, 1) := by decide +kernel
theorem dG_ground_0 : decode prog_1_method_14_code 0 = .ok (.aload_n 0, 1) := by decide +kernel
theorem dG_ground_1 : decode prog_1_method_14_code 1 = .ok (.getfield 19, 3) := by decide +kernel
theorem dG_ground_4 : decode prog_1_method_14_code 4 = .ok (.iload_n 1, 1) := by decide +kernel
theorem dG_ground_5 : decode prog_1_method_14_code 5 = .ok (.invokevirtual 72, 3) := by decide +kernel
theorem dG_ground_8 : decode prog_1_method_14_code 8 = .ok (.astore_n 3, 1) := by decide +kernel
theorem dG_ground_9 : decode prog_1_method_14_code 9 = .ok (.aload_n 0, 1) := by decide +kernel
theorem dG_ground_10 : decode prog_1_method_14_code 10 = .ok (.getfield 47, 3) := by decide +kernel
theorem dG_ground_13 : decode prog_1_method_14_code 13 = .ok (.ifCond .eq 29, 3) := by decide +kernel
theorem dG_ground_16 : decode prog_1_method_14_code 16 = .ok (.aload_n 3, 1) := by decide +kernel
theorem dG_ground_17 : decode prog_1_method_14_code 17 = .ok (.ifnull 25, 3) := by decide +kernel
theorem dG_ground_20 : decode prog_1_method_14_code 20 = .ok (.iload_n 2, 1) := by decide +kernel
theorem dG_ground_21 : decode prog_1_method_14_code 21 = .ok (.invokestatic 68, 3) := by decide +kernel
theorem dG_ground_24 : decode prog_1_method_14_code 24 = .ok (.ifCond .eq 18, 3) := by decide +kernel
theorem dG_ground_27 : decode prog_1_method_14_code 27 = .ok (.aload_n 3, 1) := by decide +kernel
theorem dG_ground_28 : decode prog_1_method_14_code 28 = .ok (.getfield 155, 3) := by decide +kernel
theorem dG_ground_31 : decode prog_1_method_14_code 31 = .ok (.iload_n 2, 1) := by decide +kernel
theorem dG_ground_32 : decode prog_1_method_14_code 32 = .ok (.invokestatic 93, 3) := by decide +kernel
theorem dG_ground_35 : decode prog_1_method_14_code 35 = .ok (.ifCond .eq 7, 3) := by decide +kernel
theorem dG_ground_38 : decode prog_1_method_14_code 38 = .ok (.iconst 1, 1) := by decide +kernel
theorem dG_ground_39 : decode prog_1_method_14_code 39 = .ok (.goto 4, 3) := by decide +kernel
theorem dG_ground_42 : decode prog_1_method_14_code 42 = .ok (.iconst 0, 1) := by decide +kernel
theorem dG_ground_43 : decode prog_1_method_14_code 43 = .ok (.ireturn, 1) := by decide +kernel
theorem dG_hasPlace_0 : decode prog_1_method_22_code 0 = .ok (.iload_n 0, 1) := by decide +kernel
theorem dG_hasPlace_1 : decode prog_1_method_22_code 1 = .ok (.iload_n 1, 1) := by decide +kernel
theorem dG_hasPlace_2 : decode prog_1_method_22_code 2 = .ok (.iushr, 1) := by decide +kernel
theorem dG_hasPlace_3 : decode prog_1_method_22_code 3 = .ok (.iconst 1, 1) := by decide +kernel
theorem dG_hasPlace_4 : decode prog_1_method_22_code 4 = .ok (.iand, 1) := by decide +kernel
theorem dG_hasPlace_5 : decode prog_1_method_22_code 5 = .ok (.ifCond .eq 7, 3) := by decide +kernel
theorem dG_hasPlace_8 : decode prog_1_method_22_code 8 = .ok (.iconst 1, 1) := by decide +kernel
theorem dG_hasPlace_9 : decode prog_1_method_22_code 9 = .ok (.goto 4, 3) := by decide +kernel
theorem dG_hasPlace_12 : decode prog_1_method_22_code 12 = .ok (.iconst 0, 1) := by decide +kernel
theorem dG_hasPlace_13 : decode prog_1_method_22_code 13 = .ok (.ireturn, 1) := by decide +kernel
theorem dG_holds_0 : decode prog_1_method_20_code 0 = .ok (.lload_n 0, 1) := by decide +kernel
theorem dG_holds_1 : decode prog_1_method_20_code 1 = .ok (.iload_n 2, 1) := by decide +kernel
theorem dG_holds_2 : decode prog_1_method_20_code 2 = .ok (.lushr, 1) := by decide +kernel
theorem dG_holds_3 : decode prog_1_method_20_code 3 = .ok (.lconst 1, 1) := by decide +kernel
theorem dG_holds_4 : decode prog_1_method_20_code 4 = .ok (.land, 1) := by decide +kernel
theorem dG_holds_5 : decode prog_1_method_20_code 5 = .ok (.lconst 0, 1) := by decide +kernel
theorem dG_holds_6 : decode prog_1_method_20_code 6 = .ok (.lcmp, 1) := by decide +kernel
theorem dG_holds_7 : decode prog_1_method_20_code 7 = .ok (.ifCond .eq 7, 3) := by decide +kernel
theorem dG_holds_10 : decode prog_1_method_20_code 10 = .ok (.iconst 1, 1) := by decide +kernel
theorem dG_holds_11 : decode prog_1_method_20_code 11 = .ok (.goto 4, 3) := by decide +kernel
theorem dG_holds_14 : decode prog_1_method_20_code 14 = .ok (.iconst 0, 1) := by decide +kernel
theorem dG_holds_15 : decode prog_1_method_20_code 15 = .ok (.ireturn, 1) := by decide +kernel
theorem dG_init_0 : decode prog_1_method_1_code 0 = .ok (.aload_n 0, 1) := by decide +kernel
theorem dG_init_1 : decode prog_1_method_1_code 1 = .ok (.invokespecial 1, 3) := by decide +kernel
theorem dG_init_4 : decode prog_1_method_1_code 4 = .ok (.aload_n 0, 1) := by decide +kernel
theorem dG_init_5 : decode prog_1_method_1_code 5 = .ok (.new 7, 3) := by decide +kernel
theorem dG_init_8 : decode prog_1_method_1_code 8 = .ok (.dup, 1) := by decide +kernel
theorem dG_init_9 : decode prog_1_method_1_code 9 = .ok (.invokespecial 9, 3) := by decide +kernel
theorem dG_init_12 : decode prog_1_method_1_code 12 = .ok (.putfield 10, 3) := by decide +kernel
theorem dG_init_15 : decode prog_1_method_1_code 15 = .ok (.aload_n 0, 1) := by decide +kernel
theorem dG_init_16 : decode prog_1_method_1_code 16 = .ok (.new 16, 3) := by decide +kernel
theorem dG_init_19 : decode prog_1_method_1_code 19 = .ok (.dup, 1) := by decide +kernel
theorem dG_init_20 : decode prog_1_method_1_code 20 = .ok (.invokespecial 18, 3) := by decide +kernel
theorem dG_init_23 : decode prog_1_method_1_code 23 = .ok (.putfield 19, 3) := by decide +kernel
theorem dG_init_26 : decode prog_1_method_1_code 26 = .ok (.aload_n 0, 1) := by decide +kernel
theorem dG_init_27 : decode prog_1_method_1_code 27 = .ok (.new 23, 3) := by decide +kernel
theorem dG_init_30 : decode prog_1_method_1_code 30 = .ok (.dup, 1) := by decide +kernel
theorem dG_init_31 : decode prog_1_method_1_code 31 = .ok (.aload_n 0, 1) := by decide +kernel
theorem dG_init_32 : decode prog_1_method_1_code 32 = .ok (.getfield 10, 3) := by decide +kernel
theorem dG_init_35 : decode prog_1_method_1_code 35 = .ok (.invokespecial 25, 3) := by decide +kernel
theorem dG_init_38 : decode prog_1_method_1_code 38 = .ok (.putfield 28, 3) := by decide +kernel
theorem dG_init_41 : decode prog_1_method_1_code 41 = .ok (.aload_n 0, 1) := by decide +kernel
theorem dG_init_42 : decode prog_1_method_1_code 42 = .ok (.bipush 7, 2) := by decide +kernel
theorem dG_init_44 : decode prog_1_method_1_code 44 = .ok (.newarray .int, 2) := by decide +kernel
theorem dG_init_46 : decode prog_1_method_1_code 46 = .ok (.putfield 32, 3) := by decide +kernel
theorem dG_init_49 : decode prog_1_method_1_code 49 = .ok (.aload_n 0, 1) := by decide +kernel
theorem dG_init_50 : decode prog_1_method_1_code 50 = .ok (.iconst 0, 1) := by decide +kernel
theorem dG_init_51 : decode prog_1_method_1_code 51 = .ok (.putfield 36, 3) := by decide +kernel
theorem dG_init_54 : decode prog_1_method_1_code 54 = .ok (.aload_n 0, 1) := by decide +kernel
theorem dG_init_55 : decode prog_1_method_1_code 55 = .ok (.lconst 0, 1) := by decide +kernel
theorem dG_init_56 : decode prog_1_method_1_code 56 = .ok (.putfield 40, 3) := by decide +kernel
theorem dG_init_59 : decode prog_1_method_1_code 59 = .ok (.aload_n 0, 1) := by decide +kernel
theorem dG_init_60 : decode prog_1_method_1_code 60 = .ok (.lconst 0, 1) := by decide +kernel
theorem dG_init_61 : decode prog_1_method_1_code 61 = .ok (.putfield 44, 3) := by decide +kernel
theorem dG_init_64 : decode prog_1_method_1_code 64 = .ok (.aload_n 0, 1) := by decide +kernel
theorem dG_init_65 : decode prog_1_method_1_code 65 = .ok (.iconst 0, 1) := by decide +kernel
theorem dG_init_66 : decode prog_1_method_1_code 66 = .ok (.putfield 47, 3) := by decide +kernel
theorem dG_init_69 : decode prog_1_method_1_code 69 = .ok (.aload_n 0, 1) := by decide +kernel
theorem dG_init_70 : decode prog_1_method_1_code 70 = .ok (.iconst (-1), 1) := by decide +kernel
theorem dG_init_71 : decode prog_1_method_1_code 71 = .ok (.putfield 51, 3) := by decide +kernel
theorem dG_init_74 : decode prog_1_method_1_code 74 = .ok (.return_, 1) := by decide +kernel
theorem dG_isVariable_0 : decode prog_1_method_19_code 0 = .ok (.iload_n 0, 1) := by decide +kernel
theorem dG_isVariable_1 : decode prog_1_method_19_code 1 = .ok (.ifCond .lt 13, 3) := by decide +kernel
theorem dG_isVariable_4 : decode prog_1_method_19_code 4 = .ok (.iload_n 0, 1) := by decide +kernel
theorem dG_isVariable_5 : decode prog_1_method_19_code 5 = .ok (.bipush 60, 2) := by decide +kernel
theorem dG_isVariable_7 : decode prog_1_method_19_code 7 = .ok (.if_icmp .ge 7, 3) := by decide +kernel
theorem dG_isVariable_10 : decode prog_1_method_19_code 10 = .ok (.iconst 1, 1) := by decide +kernel
theorem dG_isVariable_11 : decode prog_1_method_19_code 11 = .ok (.goto 4, 3) := by decide +kernel
theorem dG_isVariable_14 : decode prog_1_method_19_code 14 = .ok (.iconst 0, 1) := by decide +kernel
theorem dG_isVariable_15 : decode prog_1_method_19_code 15 = .ok (.ireturn, 1) := by decide +kernel
theorem dG_leastOf_0 : decode prog_1_method_21_code 0 = .ok (.iconst 0, 1) := by decide +kernel
theorem dG_leastOf_1 : decode prog_1_method_21_code 1 = .ok (.istore_n 2, 1) := by decide +kernel
theorem dG_leastOf_2 : decode prog_1_method_21_code 2 = .ok (.iload_n 2, 1) := by decide +kernel
theorem dG_leastOf_3 : decode prog_1_method_21_code 3 = .ok (.bipush 60, 2) := by decide +kernel
theorem dG_leastOf_5 : decode prog_1_method_21_code 5 = .ok (.if_icmp .ge 19, 3) := by decide +kernel
theorem dG_leastOf_8 : decode prog_1_method_21_code 8 = .ok (.lload_n 0, 1) := by decide +kernel
theorem dG_leastOf_9 : decode prog_1_method_21_code 9 = .ok (.iload_n 2, 1) := by decide +kernel
theorem dG_leastOf_10 : decode prog_1_method_21_code 10 = .ok (.invokestatic 93, 3) := by decide +kernel
theorem dG_leastOf_13 : decode prog_1_method_21_code 13 = .ok (.ifCond .eq 5, 3) := by decide +kernel
theorem dG_leastOf_16 : decode prog_1_method_21_code 16 = .ok (.iload_n 2, 1) := by decide +kernel
theorem dG_leastOf_17 : decode prog_1_method_21_code 17 = .ok (.ireturn, 1) := by decide +kernel
theorem dG_leastOf_18 : decode prog_1_method_21_code 18 = .ok (.iinc 2 1, 3) := by decide +kernel
theorem dG_leastOf_21 : decode prog_1_method_21_code 21 = .ok (.goto (-19), 3) := by decide +kernel
theorem dG_leastOf_24 : decode prog_1_method_21_code 24 = .ok (.iconst (-1), 1) := by decide +kernel
theorem dG_leastOf_25 : decode prog_1_method_21_code 25 = .ok (.ireturn, 1) := by decide +kernel
theorem dG_madeAt_0 : decode prog_1_method_18_code 0 = .ok (.aload_n 1, 1) := by decide +kernel
theorem dG_madeAt_1 : decode prog_1_method_18_code 1 = .ok (.getfield 123, 3) := by decide +kernel
theorem dG_madeAt_4 : decode prog_1_method_18_code 4 = .ok (.bipush 12, 2) := by decide +kernel
theorem dG_madeAt_6 : decode prog_1_method_18_code 6 = .ok (.if_icmp .ne 19, 3) := by decide +kernel
theorem dG_madeAt_9 : decode prog_1_method_18_code 9 = .ok (.aload_n 0, 1) := by decide +kernel
theorem dG_madeAt_10 : decode prog_1_method_18_code 10 = .ok (.getfield 10, 3) := by decide +kernel
theorem dG_madeAt_13 : decode prog_1_method_18_code 13 = .ok (.aload_n 1, 1) := by decide +kernel
theorem dG_madeAt_14 : decode prog_1_method_18_code 14 = .ok (.getfield 173, 3) := by decide +kernel
theorem dG_madeAt_17 : decode prog_1_method_18_code 17 = .ok (.aload_n 1, 1) := by decide +kernel
theorem dG_madeAt_18 : decode prog_1_method_18_code 18 = .ok (.getfield 138, 3) := by decide +kernel
theorem dG_madeAt_21 : decode prog_1_method_18_code 21 = .ok (.invokevirtual 176, 3) := by decide +kernel
theorem dG_madeAt_24 : decode prog_1_method_18_code 24 = .ok (.ireturn, 1) := by decide +kernel
theorem dG_madeAt_25 : decode prog_1_method_18_code 25 = .ok (.aload_n 1, 1) := by decide +kernel
theorem dG_madeAt_26 : decode prog_1_method_18_code 26 = .ok (.getfield 123, 3) := by decide +kernel
theorem dG_madeAt_29 : decode prog_1_method_18_code 29 = .ok (.bipush 8, 2) := by decide +kernel
theorem dG_madeAt_31 : decode prog_1_method_18_code 31 = .ok (.if_icmp .ne 16, 3) := by decide +kernel
theorem dG_madeAt_34 : decode prog_1_method_18_code 34 = .ok (.aload_n 1, 1) := by decide +kernel
theorem dG_madeAt_35 : decode prog_1_method_18_code 35 = .ok (.getfield 138, 3) := by decide +kernel
theorem dG_madeAt_38 : decode prog_1_method_18_code 38 = .ok (.iconst 1, 1) := by decide +kernel
theorem dG_madeAt_39 : decode prog_1_method_18_code 39 = .ok (.if_icmp .ne 8, 3) := by decide +kernel
theorem dG_madeAt_42 : decode prog_1_method_18_code 42 = .ok (.bipush (-2), 2) := by decide +kernel
theorem dG_madeAt_44 : decode prog_1_method_18_code 44 = .ok (.goto 4, 3) := by decide +kernel
theorem dG_madeAt_47 : decode prog_1_method_18_code 47 = .ok (.iconst 0, 1) := by decide +kernel
theorem dG_madeAt_48 : decode prog_1_method_18_code 48 = .ok (.ireturn, 1) := by decide +kernel
theorem dG_mode_0 : decode prog_1_method_3_code 0 = .ok (.aload_n 0, 1) := by decide +kernel
theorem dG_mode_1 : decode prog_1_method_3_code 1 = .ok (.getfield 10, 3) := by decide +kernel
theorem dG_mode_4 : decode prog_1_method_3_code 4 = .ok (.iload_n 1, 1) := by decide +kernel
theorem dG_mode_5 : decode prog_1_method_3_code 5 = .ok (.iload_n 2, 1) := by decide +kernel
theorem dG_mode_6 : decode prog_1_method_3_code 6 = .ok (.invokevirtual 58, 3) := by decide +kernel
theorem dG_mode_9 : decode prog_1_method_3_code 9 = .ok (.istore_n 3, 1) := by decide +kernel
theorem dG_mode_10 : decode prog_1_method_3_code 10 = .ok (.iload_n 3, 1) := by decide +kernel
theorem dG_mode_11 : decode prog_1_method_3_code 11 = .ok (.iconst (-1), 1) := by decide +kernel
theorem dG_mode_12 : decode prog_1_method_3_code 12 = .ok (.if_icmp .eq 7, 3) := by decide +kernel
theorem dG_mode_15 : decode prog_1_method_3_code 15 = .ok (.aload_n 0, 1) := by decide +kernel
theorem dG_mode_16 : decode prog_1_method_3_code 16 = .ok (.invokevirtual 62, 3) := by decide +kernel
theorem dG_mode_19 : decode prog_1_method_3_code 19 = .ok (.iload_n 3, 1) := by decide +kernel
theorem dG_mode_20 : decode prog_1_method_3_code 20 = .ok (.ireturn, 1) := by decide +kernel
theorem dG_node_0 : decode prog_1_method_12_code 0 = .ok (.aload_n 0, 1) := by decide +kernel
theorem dG_node_1 : decode prog_1_method_12_code 1 = .ok (.getfield 19, 3) := by decide +kernel
theorem dG_node_4 : decode prog_1_method_12_code 4 = .ok (.iload_n 1, 1) := by decide +kernel
theorem dG_node_5 : decode prog_1_method_12_code 5 = .ok (.invokevirtual 72, 3) := by decide +kernel
theorem dG_node_8 : decode prog_1_method_12_code 8 = .ok (.astore_n 3, 1) := by decide +kernel
theorem dG_node_9 : decode prog_1_method_12_code 9 = .ok (.aload_n 3, 1) := by decide +kernel
theorem dG_node_10 : decode prog_1_method_12_code 10 = .ok (.ifnonnull 5, 3) := by decide +kernel
theorem dG_node_13 : decode prog_1_method_12_code 13 = .ok (.iconst (-1), 1) := by decide +kernel
theorem dG_node_14 : decode prog_1_method_12_code 14 = .ok (.ireturn, 1) := by decide +kernel
theorem dG_node_15 : decode prog_1_method_12_code 15 = .ok (.iload_n 2, 1) := by decide +kernel
theorem dG_node_16 : decode prog_1_method_12_code 16 = .ok (.tableswitch 70 (-1) 2 #[32, 55, 60, 65], 32) := by decide +kernel
theorem dG_node_48 : decode prog_1_method_12_code 48 = .ok (.aload_n 0, 1) := by decide +kernel
theorem dG_node_49 : decode prog_1_method_12_code 49 = .ok (.getfield 47, 3) := by decide +kernel
theorem dG_node_52 : decode prog_1_method_12_code 52 = .ok (.ifCond .eq 17, 3) := by decide +kernel
theorem dG_node_55 : decode prog_1_method_12_code 55 = .ok (.aload_n 3, 1) := by decide +kernel
theorem dG_node_56 : decode prog_1_method_12_code 56 = .ok (.invokevirtual 135, 3) := by decide +kernel
theorem dG_node_59 : decode prog_1_method_12_code 59 = .ok (.ifCond .eq 10, 3) := by decide +kernel
theorem dG_node_62 : decode prog_1_method_12_code 62 = .ok (.aload_n 3, 1) := by decide +kernel
theorem dG_node_63 : decode prog_1_method_12_code 63 = .ok (.getfield 138, 3) := by decide +kernel
theorem dG_node_66 : decode prog_1_method_12_code 66 = .ok (.goto 4, 3) := by decide +kernel
theorem dG_node_69 : decode prog_1_method_12_code 69 = .ok (.iconst (-1), 1) := by decide +kernel
theorem dG_node_70 : decode prog_1_method_12_code 70 = .ok (.ireturn, 1) := by decide +kernel
theorem dG_node_71 : decode prog_1_method_12_code 71 = .ok (.aload_n 3, 1) := by decide +kernel
theorem dG_node_72 : decode prog_1_method_12_code 72 = .ok (.getfield 123, 3) := by decide +kernel
theorem dG_node_75 : decode prog_1_method_12_code 75 = .ok (.ireturn, 1) := by decide +kernel
theorem dG_node_76 : decode prog_1_method_12_code 76 = .ok (.aload_n 3, 1) := by decide +kernel
theorem dG_node_77 : decode prog_1_method_12_code 77 = .ok (.getfield 120, 3) := by decide +kernel
theorem dG_node_80 : decode prog_1_method_12_code 80 = .ok (.ireturn, 1) := by decide +kernel
theorem dG_node_81 : decode prog_1_method_12_code 81 = .ok (.aload_n 3, 1) := by decide +kernel
theorem dG_node_82 : decode prog_1_method_12_code 82 = .ok (.getfield 141, 3) := by decide +kernel
theorem dG_node_85 : decode prog_1_method_12_code 85 = .ok (.ireturn, 1) := by decide +kernel
theorem dG_node_86 : decode prog_1_method_12_code 86 = .ok (.iload_n 2, 1) := by decide +kernel
theorem dG_node_87 : decode prog_1_method_12_code 87 = .ok (.iconst 3, 1) := by decide +kernel
theorem dG_node_88 : decode prog_1_method_12_code 88 = .ok (.if_icmp .lt 24, 3) := by decide +kernel
theorem dG_node_91 : decode prog_1_method_12_code 91 = .ok (.iload_n 2, 1) := by decide +kernel
theorem dG_node_92 : decode prog_1_method_12_code 92 = .ok (.iconst 3, 1) := by decide +kernel
theorem dG_node_93 : decode prog_1_method_12_code 93 = .ok (.isub, 1) := by decide +kernel
theorem dG_node_94 : decode prog_1_method_12_code 94 = .ok (.aload_n 3, 1) := by decide +kernel
theorem dG_node_95 : decode prog_1_method_12_code 95 = .ok (.getfield 141, 3) := by decide +kernel
theorem dG_node_98 : decode prog_1_method_12_code 98 = .ok (.if_icmp .ge 14, 3) := by decide +kernel
theorem dG_node_101 : decode prog_1_method_12_code 101 = .ok (.aload_n 3, 1) := by decide +kernel
theorem dG_node_102 : decode prog_1_method_12_code 102 = .ok (.getfield 144, 3) := by decide +kernel
theorem dG_node_105 : decode prog_1_method_12_code 105 = .ok (.iload_n 2, 1) := by decide +kernel
theorem dG_node_106 : decode prog_1_method_12_code 106 = .ok (.iconst 3, 1) := by decide +kernel
theorem dG_node_107 : decode prog_1_method_12_code 107 = .ok (.isub, 1) := by decide +kernel
theorem dG_node_108 : decode prog_1_method_12_code 108 = .ok (.iaload, 1) := by decide +kernel
theorem dG_node_109 : decode prog_1_method_12_code 109 = .ok (.goto 4, 3) := by decide +kernel
theorem dG_node_112 : decode prog_1_method_12_code 112 = .ok (.iconst (-1), 1) := by decide +kernel
theorem dG_node_113 : decode prog_1_method_12_code 113 = .ok (.ireturn, 1) := by decide +kernel
theorem dG_order_0 : decode prog_1_method_9_code 0 = .ok (.aload_n 0, 1) := by decide +kernel
theorem dG_order_1 : decode prog_1_method_9_code 1 = .ok (.invokevirtual 62, 3) := by decide +kernel
theorem dG_order_4 : decode prog_1_method_9_code 4 = .ok (.aload_n 0, 1) := by decide +kernel
theorem dG_order_5 : decode prog_1_method_9_code 5 = .ok (.getfield 19, 3) := by decide +kernel
theorem dG_order_8 : decode prog_1_method_9_code 8 = .ok (.getfield 97, 3) := by decide +kernel
theorem dG_order_11 : decode prog_1_method_9_code 11 = .ok (.astore_n 1, 1) := by decide +kernel
theorem dG_order_12 : decode prog_1_method_9_code 12 = .ok (.aload_n 0, 1) := by decide +kernel
theorem dG_order_13 : decode prog_1_method_9_code 13 = .ok (.getfield 28, 3) := by decide +kernel
theorem dG_order_16 : decode prog_1_method_9_code 16 = .ok (.aload_n 1, 1) := by decide +kernel
theorem dG_order_17 : decode prog_1_method_9_code 17 = .ok (.aload_n 0, 1) := by decide +kernel
theorem dG_order_18 : decode prog_1_method_9_code 18 = .ok (.getfield 40, 3) := by decide +kernel
theorem dG_order_21 : decode prog_1_method_9_code 21 = .ok (.aload_n 0, 1) := by decide +kernel
theorem dG_order_22 : decode prog_1_method_9_code 22 = .ok (.getfield 44, 3) := by decide +kernel
theorem dG_order_25 : decode prog_1_method_9_code 25 = .ok (.invokevirtual 101, 3) := by decide +kernel
theorem dG_order_28 : decode prog_1_method_9_code 28 = .ok (.istore_n 2, 1) := by decide +kernel
theorem dG_order_29 : decode prog_1_method_9_code 29 = .ok (.aload_n 0, 1) := by decide +kernel
theorem dG_order_30 : decode prog_1_method_9_code 30 = .ok (.getfield 28, 3) := by decide +kernel
theorem dG_order_33 : decode prog_1_method_9_code 33 = .ok (.getfield 105, 3) := by decide +kernel
theorem dG_order_36 : decode prog_1_method_9_code 36 = .ok (.ifCond .eq 5, 3) := by decide +kernel
theorem dG_order_39 : decode prog_1_method_9_code 39 = .ok (.iconst 3, 1) := by decide +kernel
theorem dG_order_40 : decode prog_1_method_9_code 40 = .ok (.ireturn, 1) := by decide +kernel
theorem dG_order_41 : decode prog_1_method_9_code 41 = .ok (.iload_n 2, 1) := by decide +kernel
theorem dG_order_42 : decode prog_1_method_9_code 42 = .ok (.ifCond .ne 13, 3) := by decide +kernel
theorem dG_order_45 : decode prog_1_method_9_code 45 = .ok (.aload_n 0, 1) := by decide +kernel
theorem dG_order_46 : decode prog_1_method_9_code 46 = .ok (.aload_n 1, 1) := by decide +kernel
theorem dG_order_47 : decode prog_1_method_9_code 47 = .ok (.getfield 108, 3) := by decide +kernel
theorem dG_order_50 : decode prog_1_method_9_code 50 = .ok (.putfield 51, 3) := by decide +kernel
theorem dG_order_53 : decode prog_1_method_9_code 53 = .ok (.iconst 1, 1) := by decide +kernel
theorem dG_order_54 : decode prog_1_method_9_code 54 = .ok (.ireturn, 1) := by decide +kernel
theorem dG_order_55 : decode prog_1_method_9_code 55 = .ok (.aload_n 0, 1) := by decide +kernel
theorem dG_order_56 : decode prog_1_method_9_code 56 = .ok (.getfield 44, 3) := by decide +kernel
theorem dG_order_59 : decode prog_1_method_9_code 59 = .ok (.aload_n 1, 1) := by decide +kernel
theorem dG_order_60 : decode prog_1_method_9_code 60 = .ok (.getfield 111, 3) := by decide +kernel
theorem dG_order_63 : decode prog_1_method_9_code 63 = .ok (.ldc2_w 114, 3) := by decide +kernel
theorem dG_order_66 : decode prog_1_method_9_code 66 = .ok (.lxor, 1) := by decide +kernel
theorem dG_order_67 : decode prog_1_method_9_code 67 = .ok (.land, 1) := by decide +kernel
theorem dG_order_68 : decode prog_1_method_9_code 68 = .ok (.lstore_n 3, 1) := by decide +kernel
theorem dG_order_69 : decode prog_1_method_9_code 69 = .ok (.lload_n 3, 1) := by decide +kernel
theorem dG_order_70 : decode prog_1_method_9_code 70 = .ok (.lconst 0, 1) := by decide +kernel
theorem dG_order_71 : decode prog_1_method_9_code 71 = .ok (.lcmp, 1) := by decide +kernel
theorem dG_order_72 : decode prog_1_method_9_code 72 = .ok (.ifCond .eq 13, 3) := by decide +kernel
theorem dG_order_75 : decode prog_1_method_9_code 75 = .ok (.aload_n 0, 1) := by decide +kernel
theorem dG_order_76 : decode prog_1_method_9_code 76 = .ok (.lload_n 3, 1) := by decide +kernel
theorem dG_order_77 : decode prog_1_method_9_code 77 = .ok (.invokestatic 116, 3) := by decide +kernel
theorem dG_order_80 : decode prog_1_method_9_code 80 = .ok (.putfield 51, 3) := by decide +kernel
theorem dG_order_83 : decode prog_1_method_9_code 83 = .ok (.iconst 2, 1) := by decide +kernel
theorem dG_order_84 : decode prog_1_method_9_code 84 = .ok (.ireturn, 1) := by decide +kernel
theorem dG_order_85 : decode prog_1_method_9_code 85 = .ok (.aload_n 0, 1) := by decide +kernel
theorem dG_order_86 : decode prog_1_method_9_code 86 = .ok (.iconst 1, 1) := by decide +kernel
theorem dG_order_87 : decode prog_1_method_9_code 87 = .ok (.putfield 47, 3) := by decide +kernel
theorem dG_order_90 : decode prog_1_method_9_code 90 = .ok (.iconst 0, 1) := by decide +kernel
theorem dG_order_91 : decode prog_1_method_9_code 91 = .ok (.ireturn, 1) := by decide +kernel
theorem dG_outer_0 : decode prog_1_method_15_code 0 = .ok (.aload_n 0, 1) := by decide +kernel
theorem dG_outer_1 : decode prog_1_method_15_code 1 = .ok (.getfield 19, 3) := by decide +kernel
theorem dG_outer_4 : decode prog_1_method_15_code 4 = .ok (.iload_n 1, 1) := by decide +kernel
theorem dG_outer_5 : decode prog_1_method_15_code 5 = .ok (.invokevirtual 72, 3) := by decide +kernel
theorem dG_outer_8 : decode prog_1_method_15_code 8 = .ok (.astore_n 3, 1) := by decide +kernel
theorem dG_outer_9 : decode prog_1_method_15_code 9 = .ok (.aload_n 3, 1) := by decide +kernel
theorem dG_outer_10 : decode prog_1_method_15_code 10 = .ok (.ifnull 30, 3) := by decide +kernel
theorem dG_outer_13 : decode prog_1_method_15_code 13 = .ok (.iload_n 2, 1) := by decide +kernel
theorem dG_outer_14 : decode prog_1_method_15_code 14 = .ok (.invokestatic 68, 3) := by decide +kernel
theorem dG_outer_17 : decode prog_1_method_15_code 17 = .ok (.ifCond .eq 23, 3) := by decide +kernel
theorem dG_outer_20 : decode prog_1_method_15_code 20 = .ok (.aload_n 3, 1) := by decide +kernel
theorem dG_outer_21 : decode prog_1_method_15_code 21 = .ok (.getfield 158, 3) := by decide +kernel
theorem dG_outer_24 : decode prog_1_method_15_code 24 = .ok (.aload_n 0, 1) := by decide +kernel
theorem dG_outer_25 : decode prog_1_method_15_code 25 = .ok (.getfield 44, 3) := by decide +kernel
theorem dG_outer_28 : decode prog_1_method_15_code 28 = .ok (.lor, 1) := by decide +kernel
theorem dG_outer_29 : decode prog_1_method_15_code 29 = .ok (.iload_n 2, 1) := by decide +kernel
theorem dG_outer_30 : decode prog_1_method_15_code 30 = .ok (.invokestatic 93, 3) := by decide +kernel
theorem dG_outer_33 : decode prog_1_method_15_code 33 = .ok (.ifCond .eq 7, 3) := by decide +kernel
theorem dG_outer_36 : decode prog_1_method_15_code 36 = .ok (.iconst 1, 1) := by decide +kernel
theorem dG_outer_37 : decode prog_1_method_15_code 37 = .ok (.goto 4, 3) := by decide +kernel
theorem dG_outer_40 : decode prog_1_method_15_code 40 = .ok (.iconst 0, 1) := by decide +kernel
theorem dG_outer_41 : decode prog_1_method_15_code 41 = .ok (.ireturn, 1) := by decide +kernel
theorem dG_part_0 : decode prog_1_method_11_code 0 = .ok (.aload_n 0, 1) := by decide +kernel
theorem dG_part_1 : decode prog_1_method_11_code 1 = .ok (.getfield 19, 3) := by decide +kernel
theorem dG_part_4 : decode prog_1_method_11_code 4 = .ok (.iload_n 1, 1) := by decide +kernel
theorem dG_part_5 : decode prog_1_method_11_code 5 = .ok (.invokevirtual 72, 3) := by decide +kernel
theorem dG_part_8 : decode prog_1_method_11_code 8 = .ok (.astore_n 3, 1) := by decide +kernel
theorem dG_part_9 : decode prog_1_method_11_code 9 = .ok (.aload_n 0, 1) := by decide +kernel
theorem dG_part_10 : decode prog_1_method_11_code 10 = .ok (.getfield 47, 3) := by decide +kernel
theorem dG_part_13 : decode prog_1_method_11_code 13 = .ok (.ifCond .eq 19, 3) := by decide +kernel
theorem dG_part_16 : decode prog_1_method_11_code 16 = .ok (.aload_n 3, 1) := by decide +kernel
theorem dG_part_17 : decode prog_1_method_11_code 17 = .ok (.ifnull 15, 3) := by decide +kernel
theorem dG_part_20 : decode prog_1_method_11_code 20 = .ok (.iload_n 2, 1) := by decide +kernel
theorem dG_part_21 : decode prog_1_method_11_code 21 = .ok (.ifCond .lt 11, 3) := by decide +kernel
theorem dG_part_24 : decode prog_1_method_11_code 24 = .ok (.iload_n 2, 1) := by decide +kernel
theorem dG_part_25 : decode prog_1_method_11_code 25 = .ok (.aload_n 3, 1) := by decide +kernel
theorem dG_part_26 : decode prog_1_method_11_code 26 = .ok (.getfield 120, 3) := by decide +kernel
theorem dG_part_29 : decode prog_1_method_11_code 29 = .ok (.if_icmp .lt 5, 3) := by decide +kernel
theorem dG_part_32 : decode prog_1_method_11_code 32 = .ok (.iconst (-1), 1) := by decide +kernel
theorem dG_part_33 : decode prog_1_method_11_code 33 = .ok (.ireturn, 1) := by decide +kernel
theorem dG_part_34 : decode prog_1_method_11_code 34 = .ok (.aload_n 3, 1) := by decide +kernel
theorem dG_part_35 : decode prog_1_method_11_code 35 = .ok (.getfield 123, 3) := by decide +kernel
theorem dG_part_38 : decode prog_1_method_11_code 38 = .ok (.ifCond .ne 11, 3) := by decide +kernel
theorem dG_part_41 : decode prog_1_method_11_code 41 = .ok (.aload_n 3, 1) := by decide +kernel
theorem dG_part_42 : decode prog_1_method_11_code 42 = .ok (.iload_n 2, 1) := by decide +kernel
theorem dG_part_43 : decode prog_1_method_11_code 43 = .ok (.invokevirtual 126, 3) := by decide +kernel
theorem dG_part_46 : decode prog_1_method_11_code 46 = .ok (.goto 8, 3) := by decide +kernel
theorem dG_part_49 : decode prog_1_method_11_code 49 = .ok (.aload_n 3, 1) := by decide +kernel
theorem dG_part_50 : decode prog_1_method_11_code 50 = .ok (.iload_n 2, 1) := by decide +kernel
theorem dG_part_51 : decode prog_1_method_11_code 51 = .ok (.invokevirtual 129, 3) := by decide +kernel
theorem dG_part_54 : decode prog_1_method_11_code 54 = .ok (.astore 4, 2) := by decide +kernel
theorem dG_part_56 : decode prog_1_method_11_code 56 = .ok (.aload 4, 2) := by decide +kernel
theorem dG_part_58 : decode prog_1_method_11_code 58 = .ok (.ifnonnull 7, 3) := by decide +kernel
theorem dG_part_61 : decode prog_1_method_11_code 61 = .ok (.iconst (-1), 1) := by decide +kernel
theorem dG_part_62 : decode prog_1_method_11_code 62 = .ok (.goto 8, 3) := by decide +kernel
theorem dG_part_65 : decode prog_1_method_11_code 65 = .ok (.aload 4, 2) := by decide +kernel
theorem dG_part_67 : decode prog_1_method_11_code 67 = .ok (.getfield 132, 3) := by decide +kernel
theorem dG_part_70 : decode prog_1_method_11_code 70 = .ok (.ireturn, 1) := by decide +kernel
theorem dG_predicate_0 : decode prog_1_method_2_code 0 = .ok (.aload_n 0, 1) := by decide +kernel
theorem dG_predicate_1 : decode prog_1_method_2_code 1 = .ok (.getfield 10, 3) := by decide +kernel
theorem dG_predicate_4 : decode prog_1_method_2_code 4 = .ok (.iload_n 1, 1) := by decide +kernel
theorem dG_predicate_5 : decode prog_1_method_2_code 5 = .ok (.invokevirtual 54, 3) := by decide +kernel
theorem dG_predicate_8 : decode prog_1_method_2_code 8 = .ok (.ireturn, 1) := by decide +kernel
theorem dG_put_0 : decode prog_1_method_5_code 0 = .ok (.aload_n 0, 1) := by decide +kernel
theorem dG_put_1 : decode prog_1_method_5_code 1 = .ok (.getfield 36, 3) := by decide +kernel
theorem dG_put_4 : decode prog_1_method_5_code 4 = .ok (.bipush 7, 2) := by decide +kernel
theorem dG_put_6 : decode prog_1_method_5_code 6 = .ok (.if_icmp .ge 10, 3) := by decide +kernel
theorem dG_put_9 : decode prog_1_method_5_code 9 = .ok (.iload_n 1, 1) := by decide +kernel
theorem dG_put_10 : decode prog_1_method_5_code 10 = .ok (.invokestatic 68, 3) := by decide +kernel
theorem dG_put_13 : decode prog_1_method_5_code 13 = .ok (.ifCond .ne 5, 3) := by decide +kernel
theorem dG_put_16 : decode prog_1_method_5_code 16 = .ok (.iconst 0, 1) := by decide +kernel
theorem dG_put_17 : decode prog_1_method_5_code 17 = .ok (.ireturn, 1) := by decide +kernel
theorem dG_put_18 : decode prog_1_method_5_code 18 = .ok (.aload_n 0, 1) := by decide +kernel
theorem dG_put_19 : decode prog_1_method_5_code 19 = .ok (.getfield 32, 3) := by decide +kernel
theorem dG_put_22 : decode prog_1_method_5_code 22 = .ok (.aload_n 0, 1) := by decide +kernel
theorem dG_put_23 : decode prog_1_method_5_code 23 = .ok (.getfield 36, 3) := by decide +kernel
theorem dG_put_26 : decode prog_1_method_5_code 26 = .ok (.iload_n 1, 1) := by decide +kernel
theorem dG_put_27 : decode prog_1_method_5_code 27 = .ok (.iastore, 1) := by decide +kernel
theorem dG_put_28 : decode prog_1_method_5_code 28 = .ok (.aload_n 0, 1) := by decide +kernel
theorem dG_put_29 : decode prog_1_method_5_code 29 = .ok (.dup, 1) := by decide +kernel
theorem dG_put_30 : decode prog_1_method_5_code 30 = .ok (.getfield 36, 3) := by decide +kernel
theorem dG_put_33 : decode prog_1_method_5_code 33 = .ok (.iconst 1, 1) := by decide +kernel
theorem dG_put_34 : decode prog_1_method_5_code 34 = .ok (.iadd, 1) := by decide +kernel
theorem dG_put_35 : decode prog_1_method_5_code 35 = .ok (.putfield 36, 3) := by decide +kernel
theorem dG_put_38 : decode prog_1_method_5_code 38 = .ok (.iconst 1, 1) := by decide +kernel
theorem dG_put_39 : decode prog_1_method_5_code 39 = .ok (.ireturn, 1) := by decide +kernel
theorem dG_stuck_0 : decode prog_1_method_10_code 0 = .ok (.aload_n 0, 1) := by decide +kernel
theorem dG_stuck_1 : decode prog_1_method_10_code 1 = .ok (.getfield 51, 3) := by decide +kernel
theorem dG_stuck_4 : decode prog_1_method_10_code 4 = .ok (.ireturn, 1) := by decide +kernel
theorem dG_wanted_0 : decode prog_1_method_8_code 0 = .ok (.iload_n 1, 1) := by decide +kernel
theorem dG_wanted_1 : decode prog_1_method_8_code 1 = .ok (.invokestatic 68, 3) := by decide +kernel
theorem dG_wanted_4 : decode prog_1_method_8_code 4 = .ok (.ifCond .eq 15, 3) := by decide +kernel
theorem dG_wanted_7 : decode prog_1_method_8_code 7 = .ok (.aload_n 0, 1) := by decide +kernel
theorem dG_wanted_8 : decode prog_1_method_8_code 8 = .ok (.getfield 44, 3) := by decide +kernel
theorem dG_wanted_11 : decode prog_1_method_8_code 11 = .ok (.iload_n 1, 1) := by decide +kernel
theorem dG_wanted_12 : decode prog_1_method_8_code 12 = .ok (.invokestatic 93, 3) := by decide +kernel
theorem dG_wanted_15 : decode prog_1_method_8_code 15 = .ok (.iload_n 2, 1) := by decide +kernel
theorem dG_wanted_16 : decode prog_1_method_8_code 16 = .ok (.if_icmp .ne 5, 3) := by decide +kernel
theorem dG_wanted_19 : decode prog_1_method_8_code 19 = .ok (.iconst 0, 1) := by decide +kernel
theorem dG_wanted_20 : decode prog_1_method_8_code 20 = .ok (.ireturn, 1) := by decide +kernel
theorem dG_wanted_21 : decode prog_1_method_8_code 21 = .ok (.aload_n 0, 1) := by decide +kernel
theorem dG_wanted_22 : decode prog_1_method_8_code 22 = .ok (.dup, 1) := by decide +kernel
theorem dG_wanted_23 : decode prog_1_method_8_code 23 = .ok (.getfield 44, 3) := by decide +kernel
theorem dG_wanted_26 : decode prog_1_method_8_code 26 = .ok (.lconst 1, 1) := by decide +kernel
theorem dG_wanted_27 : decode prog_1_method_8_code 27 = .ok (.iload_n 1, 1) := by decide +kernel
theorem dG_wanted_28 : decode prog_1_method_8_code 28 = .ok (.lshl, 1) := by decide +kernel
theorem dG_wanted_29 : decode prog_1_method_8_code 29 = .ok (.lxor, 1) := by decide +kernel
theorem dG_wanted_30 : decode prog_1_method_8_code 30 = .ok (.putfield 44, 3) := by decide +kernel
theorem dG_wanted_33 : decode prog_1_method_8_code 33 = .ok (.aload_n 0, 1) := by decide +kernel
theorem dG_wanted_34 : decode prog_1_method_8_code 34 = .ok (.invokevirtual 62, 3) := by decide +kernel
theorem dG_wanted_37 : decode prog_1_method_8_code 37 = .ok (.iconst 1, 1) := by decide +kernel
theorem dG_wanted_38 : decode prog_1_method_8_code 38 = .ok (.ireturn, 1) := by decide +kernel

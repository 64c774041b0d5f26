theorem dP_argumentsOf_0 : decode prog_3_method_5_code 0 = .ok (.aload_n 0, 1) := by decide +kernel
theorem dP_argumentsOf_1 : decode prog_3_method_5_code 1 = .ok (.iload_n 1, 1) := by decide +kernel
theorem dP_argumentsOf_2 : decode prog_3_method_5_code 2 = .ok (.invokevirtual 25, 3) := by decide +kernel
theorem dP_argumentsOf_5 : decode prog_3_method_5_code 5 = .ok (.ifCond .eq 12, 3) := by decide +kernel
theorem dP_argumentsOf_8 : decode prog_3_method_5_code 8 = .ok (.aload_n 0, 1) := by decide +kernel
theorem dP_argumentsOf_9 : decode prog_3_method_5_code 9 = .ok (.getfield 9, 3) := by decide +kernel
theorem dP_argumentsOf_12 : decode prog_3_method_5_code 12 = .ok (.iload_n 1, 1) := by decide +kernel
theorem dP_argumentsOf_13 : decode prog_3_method_5_code 13 = .ok (.iaload, 1) := by decide +kernel
theorem dP_argumentsOf_14 : decode prog_3_method_5_code 14 = .ok (.goto 4, 3) := by decide +kernel
theorem dP_argumentsOf_17 : decode prog_3_method_5_code 17 = .ok (.iconst 0, 1) := by decide +kernel
theorem dP_argumentsOf_18 : decode prog_3_method_5_code 18 = .ok (.ireturn, 1) := by decide +kernel
theorem dP_define_0 : decode prog_3_method_2_code 0 = .ok (.aload_n 0, 1) := by decide +kernel
theorem dP_define_1 : decode prog_3_method_2_code 1 = .ok (.getfield 21, 3) := by decide +kernel
theorem dP_define_4 : decode prog_3_method_2_code 4 = .ok (.bipush 60, 2) := by decide +kernel
theorem dP_define_6 : decode prog_3_method_2_code 6 = .ok (.if_icmp .ge 13, 3) := by decide +kernel
theorem dP_define_9 : decode prog_3_method_2_code 9 = .ok (.iload_n 1, 1) := by decide +kernel
theorem dP_define_10 : decode prog_3_method_2_code 10 = .ok (.ifCond .lt 9, 3) := by decide +kernel
theorem dP_define_13 : decode prog_3_method_2_code 13 = .ok (.iload_n 1, 1) := by decide +kernel
theorem dP_define_14 : decode prog_3_method_2_code 14 = .ok (.bipush 6, 2) := by decide +kernel
theorem dP_define_16 : decode prog_3_method_2_code 16 = .ok (.if_icmp .le 5, 3) := by decide +kernel
theorem dP_define_19 : decode prog_3_method_2_code 19 = .ok (.iconst (-1), 1) := by decide +kernel
theorem dP_define_20 : decode prog_3_method_2_code 20 = .ok (.ireturn, 1) := by decide +kernel
theorem dP_define_21 : decode prog_3_method_2_code 21 = .ok (.aload_n 0, 1) := by decide +kernel
theorem dP_define_22 : decode prog_3_method_2_code 22 = .ok (.getfield 9, 3) := by decide +kernel
theorem dP_define_25 : decode prog_3_method_2_code 25 = .ok (.aload_n 0, 1) := by decide +kernel
theorem dP_define_26 : decode prog_3_method_2_code 26 = .ok (.getfield 21, 3) := by decide +kernel
theorem dP_define_29 : decode prog_3_method_2_code 29 = .ok (.iload_n 1, 1) := by decide +kernel
theorem dP_define_30 : decode prog_3_method_2_code 30 = .ok (.iastore, 1) := by decide +kernel
theorem dP_define_31 : decode prog_3_method_2_code 31 = .ok (.aload_n 0, 1) := by decide +kernel
theorem dP_define_32 : decode prog_3_method_2_code 32 = .ok (.dup, 1) := by decide +kernel
theorem dP_define_33 : decode prog_3_method_2_code 33 = .ok (.getfield 21, 3) := by decide +kernel
theorem dP_define_36 : decode prog_3_method_2_code 36 = .ok (.iconst 1, 1) := by decide +kernel
theorem dP_define_37 : decode prog_3_method_2_code 37 = .ok (.iadd, 1) := by decide +kernel
theorem dP_define_38 : decode prog_3_method_2_code 38 = .ok (.putfield 21, 3) := by decide +kernel
theorem dP_define_41 : decode prog_3_method_2_code 41 = .ok (.aload_n 0, 1) := by decide +kernel
theorem dP_define_42 : decode prog_3_method_2_code 42 = .ok (.getfield 21, 3) := by decide +kernel
theorem dP_define_45 : decode prog_3_method_2_code 45 = .ok (.iconst 1, 1) := by decide +kernel
theorem dP_define_46 : decode prog_3_method_2_code 46 = .ok (.isub, 1) := by decide +kernel
theorem dP_define_47 : decode prog_3_method_2_code 47 = .ok (.ireturn, 1) := by decide +kernel
theorem dP_defineMode_0 : decode prog_3_method_3_code 0 = .ok (.aload_n 0, 1) := by decide +kernel
theorem dP_defineMode_1 : decode prog_3_method_3_code 1 = .ok (.iload_n 1, 1) := by decide +kernel
theorem dP_defineMode_2 : decode prog_3_method_3_code 2 = .ok (.invokevirtual 25, 3) := by decide +kernel
theorem dP_defineMode_5 : decode prog_3_method_3_code 5 = .ok (.ifCond .eq 13, 3) := by decide +kernel
theorem dP_defineMode_8 : decode prog_3_method_3_code 8 = .ok (.aload_n 0, 1) := by decide +kernel
theorem dP_defineMode_9 : decode prog_3_method_3_code 9 = .ok (.getfield 15, 3) := by decide +kernel
theorem dP_defineMode_12 : decode prog_3_method_3_code 12 = .ok (.iload_n 1, 1) := by decide +kernel
theorem dP_defineMode_13 : decode prog_3_method_3_code 13 = .ok (.iaload, 1) := by decide +kernel
theorem dP_defineMode_14 : decode prog_3_method_3_code 14 = .ok (.iconst 4, 1) := by decide +kernel
theorem dP_defineMode_15 : decode prog_3_method_3_code 15 = .ok (.if_icmp .lt 5, 3) := by decide +kernel
theorem dP_defineMode_18 : decode prog_3_method_3_code 18 = .ok (.iconst (-1), 1) := by decide +kernel
theorem dP_defineMode_19 : decode prog_3_method_3_code 19 = .ok (.ireturn, 1) := by decide +kernel
theorem dP_defineMode_20 : decode prog_3_method_3_code 20 = .ok (.aload_n 0, 1) := by decide +kernel
theorem dP_defineMode_21 : decode prog_3_method_3_code 21 = .ok (.getfield 15, 3) := by decide +kernel
theorem dP_defineMode_24 : decode prog_3_method_3_code 24 = .ok (.iload_n 1, 1) := by decide +kernel
theorem dP_defineMode_25 : decode prog_3_method_3_code 25 = .ok (.iaload, 1) := by decide +kernel
theorem dP_defineMode_26 : decode prog_3_method_3_code 26 = .ok (.istore_n 3, 1) := by decide +kernel
theorem dP_defineMode_27 : decode prog_3_method_3_code 27 = .ok (.aload_n 0, 1) := by decide +kernel
theorem dP_defineMode_28 : decode prog_3_method_3_code 28 = .ok (.getfield 18, 3) := by decide +kernel
theorem dP_defineMode_31 : decode prog_3_method_3_code 31 = .ok (.iload_n 1, 1) := by decide +kernel
theorem dP_defineMode_32 : decode prog_3_method_3_code 32 = .ok (.iconst 4, 1) := by decide +kernel
theorem dP_defineMode_33 : decode prog_3_method_3_code 33 = .ok (.imul, 1) := by decide +kernel
theorem dP_defineMode_34 : decode prog_3_method_3_code 34 = .ok (.iload_n 3, 1) := by decide +kernel
theorem dP_defineMode_35 : decode prog_3_method_3_code 35 = .ok (.iadd, 1) := by decide +kernel
theorem dP_defineMode_36 : decode prog_3_method_3_code 36 = .ok (.iload_n 2, 1) := by decide +kernel
theorem dP_defineMode_37 : decode prog_3_method_3_code 37 = .ok (.iastore, 1) := by decide +kernel
theorem dP_defineMode_38 : decode prog_3_method_3_code 38 = .ok (.aload_n 0, 1) := by decide +kernel
theorem dP_defineMode_39 : decode prog_3_method_3_code 39 = .ok (.getfield 15, 3) := by decide +kernel
theorem dP_defineMode_42 : decode prog_3_method_3_code 42 = .ok (.iload_n 1, 1) := by decide +kernel
theorem dP_defineMode_43 : decode prog_3_method_3_code 43 = .ok (.iload_n 3, 1) := by decide +kernel
theorem dP_defineMode_44 : decode prog_3_method_3_code 44 = .ok (.iconst 1, 1) := by decide +kernel
theorem dP_defineMode_45 : decode prog_3_method_3_code 45 = .ok (.iadd, 1) := by decide +kernel
theorem dP_defineMode_46 : decode prog_3_method_3_code 46 = .ok (.iastore, 1) := by decide +kernel
theorem dP_defineMode_47 : decode prog_3_method_3_code 47 = .ok (.iload_n 3, 1) := by decide +kernel
theorem dP_defineMode_48 : decode prog_3_method_3_code 48 = .ok (.ireturn, 1) := by decide +kernel
theorem dP_has_0 : decode prog_3_method_4_code 0 = .ok (.iload_n 1, 1) := by decide +kernel
theorem dP_has_1 : decode prog_3_method_4_code 1 = .ok (.ifCond .lt 15, 3) := by decide +kernel
theorem dP_has_4 : decode prog_3_method_4_code 4 = .ok (.iload_n 1, 1) := by decide +kernel
theorem dP_has_5 : decode prog_3_method_4_code 5 = .ok (.aload_n 0, 1) := by decide +kernel
theorem dP_has_6 : decode prog_3_method_4_code 6 = .ok (.getfield 21, 3) := by decide +kernel
theorem dP_has_9 : decode prog_3_method_4_code 9 = .ok (.if_icmp .ge 7, 3) := by decide +kernel
theorem dP_has_12 : decode prog_3_method_4_code 12 = .ok (.iconst 1, 1) := by decide +kernel
theorem dP_has_13 : decode prog_3_method_4_code 13 = .ok (.goto 4, 3) := by decide +kernel
theorem dP_has_16 : decode prog_3_method_4_code 16 = .ok (.iconst 0, 1) := by decide +kernel
theorem dP_has_17 : decode prog_3_method_4_code 17 = .ok (.ireturn, 1) := by decide +kernel
theorem dP_init_0 : decode prog_3_method_1_code 0 = .ok (.aload_n 0, 1) := by decide +kernel
theorem dP_init_1 : decode prog_3_method_1_code 1 = .ok (.invokespecial 3, 3) := by decide +kernel
theorem dP_init_4 : decode prog_3_method_1_code 4 = .ok (.aload_n 0, 1) := by decide +kernel
theorem dP_init_5 : decode prog_3_method_1_code 5 = .ok (.bipush 60, 2) := by decide +kernel
theorem dP_init_7 : decode prog_3_method_1_code 7 = .ok (.newarray .int, 2) := by decide +kernel
theorem dP_init_9 : decode prog_3_method_1_code 9 = .ok (.putfield 9, 3) := by decide +kernel
theorem dP_init_12 : decode prog_3_method_1_code 12 = .ok (.aload_n 0, 1) := by decide +kernel
theorem dP_init_13 : decode prog_3_method_1_code 13 = .ok (.bipush 60, 2) := by decide +kernel
theorem dP_init_15 : decode prog_3_method_1_code 15 = .ok (.newarray .int, 2) := by decide +kernel
theorem dP_init_17 : decode prog_3_method_1_code 17 = .ok (.putfield 15, 3) := by decide +kernel
theorem dP_init_20 : decode prog_3_method_1_code 20 = .ok (.aload_n 0, 1) := by decide +kernel
theorem dP_init_21 : decode prog_3_method_1_code 21 = .ok (.sipush 240, 3) := by decide +kernel
theorem dP_init_24 : decode prog_3_method_1_code 24 = .ok (.newarray .int, 2) := by decide +kernel
theorem dP_init_26 : decode prog_3_method_1_code 26 = .ok (.putfield 18, 3) := by decide +kernel
theorem dP_init_29 : decode prog_3_method_1_code 29 = .ok (.aload_n 0, 1) := by decide +kernel
theorem dP_init_30 : decode prog_3_method_1_code 30 = .ok (.iconst 0, 1) := by decide +kernel
theorem dP_init_31 : decode prog_3_method_1_code 31 = .ok (.putfield 21, 3) := by decide +kernel
theorem dP_init_34 : decode prog_3_method_1_code 34 = .ok (.return_, 1) := by decide +kernel
theorem dP_modesOf_0 : decode prog_3_method_6_code 0 = .ok (.aload_n 0, 1) := by decide +kernel
theorem dP_modesOf_1 : decode prog_3_method_6_code 1 = .ok (.iload_n 1, 1) := by decide +kernel
theorem dP_modesOf_2 : decode prog_3_method_6_code 2 = .ok (.invokevirtual 25, 3) := by decide +kernel
theorem dP_modesOf_5 : decode prog_3_method_6_code 5 = .ok (.ifCond .eq 12, 3) := by decide +kernel
theorem dP_modesOf_8 : decode prog_3_method_6_code 8 = .ok (.aload_n 0, 1) := by decide +kernel
theorem dP_modesOf_9 : decode prog_3_method_6_code 9 = .ok (.getfield 15, 3) := by decide +kernel
theorem dP_modesOf_12 : decode prog_3_method_6_code 12 = .ok (.iload_n 1, 1) := by decide +kernel
theorem dP_modesOf_13 : decode prog_3_method_6_code 13 = .ok (.iaload, 1) := by decide +kernel
theorem dP_modesOf_14 : decode prog_3_method_6_code 14 = .ok (.goto 4, 3) := by decide +kernel
theorem dP_modesOf_17 : decode prog_3_method_6_code 17 = .ok (.iconst 0, 1) := by decide +kernel
theorem dP_modesOf_18 : decode prog_3_method_6_code 18 = .ok (.ireturn, 1) := by decide +kernel
theorem dP_outsOf_0 : decode prog_3_method_7_code 0 = .ok (.iload_n 2, 1) := by decide +kernel
theorem dP_outsOf_1 : decode prog_3_method_7_code 1 = .ok (.ifCond .lt 25, 3) := by decide +kernel
theorem dP_outsOf_4 : decode prog_3_method_7_code 4 = .ok (.iload_n 2, 1) := by decide +kernel
theorem dP_outsOf_5 : decode prog_3_method_7_code 5 = .ok (.aload_n 0, 1) := by decide +kernel
theorem dP_outsOf_6 : decode prog_3_method_7_code 6 = .ok (.iload_n 1, 1) := by decide +kernel
theorem dP_outsOf_7 : decode prog_3_method_7_code 7 = .ok (.invokevirtual 29, 3) := by decide +kernel
theorem dP_outsOf_10 : decode prog_3_method_7_code 10 = .ok (.if_icmp .ge 16, 3) := by decide +kernel
theorem dP_outsOf_13 : decode prog_3_method_7_code 13 = .ok (.aload_n 0, 1) := by decide +kernel
theorem dP_outsOf_14 : decode prog_3_method_7_code 14 = .ok (.getfield 18, 3) := by decide +kernel
theorem dP_outsOf_17 : decode prog_3_method_7_code 17 = .ok (.iload_n 1, 1) := by decide +kernel
theorem dP_outsOf_18 : decode prog_3_method_7_code 18 = .ok (.iconst 4, 1) := by decide +kernel
theorem dP_outsOf_19 : decode prog_3_method_7_code 19 = .ok (.imul, 1) := by decide +kernel
theorem dP_outsOf_20 : decode prog_3_method_7_code 20 = .ok (.iload_n 2, 1) := by decide +kernel
theorem dP_outsOf_21 : decode prog_3_method_7_code 21 = .ok (.iadd, 1) := by decide +kernel
theorem dP_outsOf_22 : decode prog_3_method_7_code 22 = .ok (.iaload, 1) := by decide +kernel
theorem dP_outsOf_23 : decode prog_3_method_7_code 23 = .ok (.goto 4, 3) := by decide +kernel
theorem dP_outsOf_26 : decode prog_3_method_7_code 26 = .ok (.iconst 0, 1) := by decide +kernel
theorem dP_outsOf_27 : decode prog_3_method_7_code 27 = .ok (.ireturn, 1) := by decide +kernel
theorem dT_find_0 : decode prog_4_method_4_code 0 = .ok (.iload_n 1, 1) := by decide +kernel
theorem dT_find_1 : decode prog_4_method_4_code 1 = .ok (.ifCond .lt 20, 3) := by decide +kernel
theorem dT_find_4 : decode prog_4_method_4_code 4 = .ok (.iload_n 1, 1) := by decide +kernel
theorem dT_find_5 : decode prog_4_method_4_code 5 = .ok (.aload_n 0, 1) := by decide +kernel
theorem dT_find_6 : decode prog_4_method_4_code 6 = .ok (.getfield 31, 3) := by decide +kernel
theorem dT_find_9 : decode prog_4_method_4_code 9 = .ok (.if_icmp .ge 12, 3) := by decide +kernel
theorem dT_find_12 : decode prog_4_method_4_code 12 = .ok (.aload_n 0, 1) := by decide +kernel
theorem dT_find_13 : decode prog_4_method_4_code 13 = .ok (.getfield 20, 3) := by decide +kernel
theorem dT_find_16 : decode prog_4_method_4_code 16 = .ok (.iload_n 1, 1) := by decide +kernel
theorem dT_find_17 : decode prog_4_method_4_code 17 = .ok (.aaload, 1) := by decide +kernel
theorem dT_find_18 : decode prog_4_method_4_code 18 = .ok (.goto 4, 3) := by decide +kernel
theorem dT_find_21 : decode prog_4_method_4_code 21 = .ok (.aconst_null, 1) := by decide +kernel
theorem dT_find_22 : decode prog_4_method_4_code 22 = .ok (.areturn, 1) := by decide +kernel
theorem dT_grow_0 : decode prog_4_method_5_code 0 = .ok (.aload_n 0, 1) := by decide +kernel
theorem dT_grow_1 : decode prog_4_method_5_code 1 = .ok (.invokevirtual 35, 3) := by decide +kernel
theorem dT_grow_4 : decode prog_4_method_5_code 4 = .ok (.ifCond .eq 5, 3) := by decide +kernel
theorem dT_grow_7 : decode prog_4_method_5_code 7 = .ok (.iconst (-1), 1) := by decide +kernel
theorem dT_grow_8 : decode prog_4_method_5_code 8 = .ok (.ireturn, 1) := by decide +kernel
theorem dT_grow_9 : decode prog_4_method_5_code 9 = .ok (.aload_n 0, 1) := by decide +kernel
theorem dT_grow_10 : decode prog_4_method_5_code 10 = .ok (.getfield 20, 3) := by decide +kernel
theorem dT_grow_13 : decode prog_4_method_5_code 13 = .ok (.aload_n 0, 1) := by decide +kernel
theorem dT_grow_14 : decode prog_4_method_5_code 14 = .ok (.getfield 31, 3) := by decide +kernel
theorem dT_grow_17 : decode prog_4_method_5_code 17 = .ok (.aaload, 1) := by decide +kernel
theorem dT_grow_18 : decode prog_4_method_5_code 18 = .ok (.astore 6, 2) := by decide +kernel
theorem dT_grow_20 : decode prog_4_method_5_code 20 = .ok (.aload 6, 2) := by decide +kernel
theorem dT_grow_22 : decode prog_4_method_5_code 22 = .ok (.ifnonnull 27, 3) := by decide +kernel
theorem dT_grow_25 : decode prog_4_method_5_code 25 = .ok (.new 9, 3) := by decide +kernel
theorem dT_grow_28 : decode prog_4_method_5_code 28 = .ok (.dup, 1) := by decide +kernel
theorem dT_grow_29 : decode prog_4_method_5_code 29 = .ok (.aload_n 0, 1) := by decide +kernel
theorem dT_grow_30 : decode prog_4_method_5_code 30 = .ok (.getfield 31, 3) := by decide +kernel
theorem dT_grow_33 : decode prog_4_method_5_code 33 = .ok (.invokespecial 11, 3) := by decide +kernel
theorem dT_grow_36 : decode prog_4_method_5_code 36 = .ok (.astore 6, 2) := by decide +kernel
theorem dT_grow_38 : decode prog_4_method_5_code 38 = .ok (.aload_n 0, 1) := by decide +kernel
theorem dT_grow_39 : decode prog_4_method_5_code 39 = .ok (.getfield 20, 3) := by decide +kernel
theorem dT_grow_42 : decode prog_4_method_5_code 42 = .ok (.aload_n 0, 1) := by decide +kernel
theorem dT_grow_43 : decode prog_4_method_5_code 43 = .ok (.getfield 31, 3) := by decide +kernel
theorem dT_grow_46 : decode prog_4_method_5_code 46 = .ok (.aload 6, 2) := by decide +kernel
theorem dT_grow_48 : decode prog_4_method_5_code 48 = .ok (.aastore, 1) := by decide +kernel
theorem dT_grow_49 : decode prog_4_method_5_code 49 = .ok (.aload 6, 2) := by decide +kernel
theorem dT_grow_51 : decode prog_4_method_5_code 51 = .ok (.iload_n 2, 1) := by decide +kernel
theorem dT_grow_52 : decode prog_4_method_5_code 52 = .ok (.iload_n 3, 1) := by decide +kernel
theorem dT_grow_53 : decode prog_4_method_5_code 53 = .ok (.invokevirtual 27, 3) := by decide +kernel
theorem dT_grow_56 : decode prog_4_method_5_code 56 = .ok (.aload 6, 2) := by decide +kernel
theorem dT_grow_58 : decode prog_4_method_5_code 58 = .ok (.aload_n 0, 1) := by decide +kernel
theorem dT_grow_59 : decode prog_4_method_5_code 59 = .ok (.getfield 14, 3) := by decide +kernel
theorem dT_grow_62 : decode prog_4_method_5_code 62 = .ok (.getfield 39, 3) := by decide +kernel
theorem dT_grow_65 : decode prog_4_method_5_code 65 = .ok (.putfield 43, 3) := by decide +kernel
theorem dT_grow_68 : decode prog_4_method_5_code 68 = .ok (.aload 6, 2) := by decide +kernel
theorem dT_grow_70 : decode prog_4_method_5_code 70 = .ok (.aload 4, 2) := by decide +kernel
theorem dT_grow_72 : decode prog_4_method_5_code 72 = .ok (.iload 5, 2) := by decide +kernel
theorem dT_grow_74 : decode prog_4_method_5_code 74 = .ok (.invokevirtual 46, 3) := by decide +kernel
theorem dT_grow_77 : decode prog_4_method_5_code 77 = .ok (.aload_n 1, 1) := by decide +kernel
theorem dT_grow_78 : decode prog_4_method_5_code 78 = .ok (.aload 6, 2) := by decide +kernel
theorem dT_grow_80 : decode prog_4_method_5_code 80 = .ok (.invokevirtual 50, 3) := by decide +kernel
theorem dT_grow_83 : decode prog_4_method_5_code 83 = .ok (.aload_n 0, 1) := by decide +kernel
theorem dT_grow_84 : decode prog_4_method_5_code 84 = .ok (.dup, 1) := by decide +kernel
theorem dT_grow_85 : decode prog_4_method_5_code 85 = .ok (.getfield 31, 3) := by decide +kernel
theorem dT_grow_88 : decode prog_4_method_5_code 88 = .ok (.iconst 1, 1) := by decide +kernel
theorem dT_grow_89 : decode prog_4_method_5_code 89 = .ok (.iadd, 1) := by decide +kernel
theorem dT_grow_90 : decode prog_4_method_5_code 90 = .ok (.putfield 31, 3) := by decide +kernel
theorem dT_grow_93 : decode prog_4_method_5_code 93 = .ok (.aload_n 0, 1) := by decide +kernel
theorem dT_grow_94 : decode prog_4_method_5_code 94 = .ok (.aload 6, 2) := by decide +kernel
theorem dT_grow_96 : decode prog_4_method_5_code 96 = .ok (.invokevirtual 54, 3) := by decide +kernel
theorem dT_grow_99 : decode prog_4_method_5_code 99 = .ok (.aload 6, 2) := by decide +kernel
theorem dT_grow_101 : decode prog_4_method_5_code 101 = .ok (.getfield 57, 3) := by decide +kernel
theorem dT_grow_104 : decode prog_4_method_5_code 104 = .ok (.ireturn, 1) := by decide +kernel
theorem dT_init_0 : decode prog_4_method_1_code 0 = .ok (.aload_n 0, 1) := by decide +kernel
theorem dT_init_1 : decode prog_4_method_1_code 1 = .ok (.invokespecial 3, 3) := by decide +kernel
theorem dT_init_4 : decode prog_4_method_1_code 4 = .ok (.aload_n 0, 1) := by decide +kernel
theorem dT_init_5 : decode prog_4_method_1_code 5 = .ok (.new 9, 3) := by decide +kernel
theorem dT_init_8 : decode prog_4_method_1_code 8 = .ok (.dup, 1) := by decide +kernel
theorem dT_init_9 : decode prog_4_method_1_code 9 = .ok (.iconst 0, 1) := by decide +kernel
theorem dT_init_10 : decode prog_4_method_1_code 10 = .ok (.invokespecial 11, 3) := by decide +kernel
theorem dT_init_13 : decode prog_4_method_1_code 13 = .ok (.putfield 14, 3) := by decide +kernel
theorem dT_init_16 : decode prog_4_method_1_code 16 = .ok (.aload_n 0, 1) := by decide +kernel
theorem dT_init_17 : decode prog_4_method_1_code 17 = .ok (.sipush 250, 3) := by decide +kernel
theorem dT_init_20 : decode prog_4_method_1_code 20 = .ok (.anewarray 9, 3) := by decide +kernel
theorem dT_init_23 : decode prog_4_method_1_code 23 = .ok (.putfield 20, 3) := by decide +kernel
theorem dT_init_26 : decode prog_4_method_1_code 26 = .ok (.aload_n 0, 1) := by decide +kernel
theorem dT_init_27 : decode prog_4_method_1_code 27 = .ok (.getfield 20, 3) := by decide +kernel
theorem dT_init_30 : decode prog_4_method_1_code 30 = .ok (.iconst 0, 1) := by decide +kernel
theorem dT_init_31 : decode prog_4_method_1_code 31 = .ok (.aload_n 0, 1) := by decide +kernel
theorem dT_init_32 : decode prog_4_method_1_code 32 = .ok (.getfield 14, 3) := by decide +kernel
theorem dT_init_35 : decode prog_4_method_1_code 35 = .ok (.aastore, 1) := by decide +kernel
theorem dT_init_36 : decode prog_4_method_1_code 36 = .ok (.aload_n 0, 1) := by decide +kernel
theorem dT_init_37 : decode prog_4_method_1_code 37 = .ok (.invokevirtual 24, 3) := by decide +kernel
theorem dT_init_40 : decode prog_4_method_1_code 40 = .ok (.return_, 1) := by decide +kernel
theorem dT_isFull_0 : decode prog_4_method_3_code 0 = .ok (.aload_n 0, 1) := by decide +kernel
theorem dT_isFull_1 : decode prog_4_method_3_code 1 = .ok (.getfield 31, 3) := by decide +kernel
theorem dT_isFull_4 : decode prog_4_method_3_code 4 = .ok (.sipush 250, 3) := by decide +kernel
theorem dT_isFull_7 : decode prog_4_method_3_code 7 = .ok (.if_icmp .lt 7, 3) := by decide +kernel
theorem dT_isFull_10 : decode prog_4_method_3_code 10 = .ok (.iconst 1, 1) := by decide +kernel
theorem dT_isFull_11 : decode prog_4_method_3_code 11 = .ok (.goto 4, 3) := by decide +kernel
theorem dT_isFull_14 : decode prog_4_method_3_code 14 = .ok (.iconst 0, 1) := by decide +kernel
theorem dT_isFull_15 : decode prog_4_method_3_code 15 = .ok (.ireturn, 1) := by decide +kernel
theorem dT_reset_0 : decode prog_4_method_2_code 0 = .ok (.aload_n 0, 1) := by decide +kernel
theorem dT_reset_1 : decode prog_4_method_2_code 1 = .ok (.getfield 14, 3) := by decide +kernel
theorem dT_reset_4 : decode prog_4_method_2_code 4 = .ok (.iconst 0, 1) := by decide +kernel
theorem dT_reset_5 : decode prog_4_method_2_code 5 = .ok (.iconst (-1), 1) := by decide +kernel
theorem dT_reset_6 : decode prog_4_method_2_code 6 = .ok (.invokevirtual 27, 3) := by decide +kernel
theorem dT_reset_9 : decode prog_4_method_2_code 9 = .ok (.aload_n 0, 1) := by decide +kernel
theorem dT_reset_10 : decode prog_4_method_2_code 10 = .ok (.iconst 1, 1) := by decide +kernel
theorem dT_reset_11 : decode prog_4_method_2_code 11 = .ok (.putfield 31, 3) := by decide +kernel
theorem dT_reset_14 : decode prog_4_method_2_code 14 = .ok (.return_, 1) := by decide +kernel
theorem dT_spreadVariables_0 : decode prog_4_method_6_code 0 = .ok (.aload_n 1, 1) := by decide +kernel
theorem dT_spreadVariables_1 : decode prog_4_method_6_code 1 = .ok (.getfield 60, 3) := by decide +kernel
theorem dT_spreadVariables_4 : decode prog_4_method_6_code 4 = .ok (.astore_n 2, 1) := by decide +kernel
theorem dT_spreadVariables_5 : decode prog_4_method_6_code 5 = .ok (.aload_n 1, 1) := by decide +kernel
theorem dT_spreadVariables_6 : decode prog_4_method_6_code 6 = .ok (.getfield 57, 3) := by decide +kernel
theorem dT_spreadVariables_9 : decode prog_4_method_6_code 9 = .ok (.iconst 1, 1) := by decide +kernel
theorem dT_spreadVariables_10 : decode prog_4_method_6_code 10 = .ok (.isub, 1) := by decide +kernel
theorem dT_spreadVariables_11 : decode prog_4_method_6_code 11 = .ok (.istore_n 3, 1) := by decide +kernel
theorem dT_spreadVariables_12 : decode prog_4_method_6_code 12 = .ok (.iload_n 3, 1) := by decide +kernel
theorem dT_spreadVariables_13 : decode prog_4_method_6_code 13 = .ok (.ifCond .lt 68, 3) := by decide +kernel
theorem dT_spreadVariables_16 : decode prog_4_method_6_code 16 = .ok (.aload_n 0, 1) := by decide +kernel
theorem dT_spreadVariables_17 : decode prog_4_method_6_code 17 = .ok (.getfield 20, 3) := by decide +kernel
theorem dT_spreadVariables_20 : decode prog_4_method_6_code 20 = .ok (.iload_n 3, 1) := by decide +kernel
theorem dT_spreadVariables_21 : decode prog_4_method_6_code 21 = .ok (.aaload, 1) := by decide +kernel
theorem dT_spreadVariables_22 : decode prog_4_method_6_code 22 = .ok (.astore 4, 2) := by decide +kernel
theorem dT_spreadVariables_24 : decode prog_4_method_6_code 24 = .ok (.aload 4, 2) := by decide +kernel
theorem dT_spreadVariables_26 : decode prog_4_method_6_code 26 = .ok (.ifnonnull 6, 3) := by decide +kernel
theorem dT_spreadVariables_29 : decode prog_4_method_6_code 29 = .ok (.goto 46, 3) := by decide +kernel
theorem dT_spreadVariables_32 : decode prog_4_method_6_code 32 = .ok (.aload 4, 2) := by decide +kernel
theorem dT_spreadVariables_34 : decode prog_4_method_6_code 34 = .ok (.aload_n 2, 1) := by decide +kernel
theorem dT_spreadVariables_35 : decode prog_4_method_6_code 35 = .ok (.if_acmp .ne 26, 3) := by decide +kernel
theorem dT_spreadVariables_38 : decode prog_4_method_6_code 38 = .ok (.aload 4, 2) := by decide +kernel
theorem dT_spreadVariables_40 : decode prog_4_method_6_code 40 = .ok (.dup, 1) := by decide +kernel
theorem dT_spreadVariables_41 : decode prog_4_method_6_code 41 = .ok (.getfield 39, 3) := by decide +kernel
theorem dT_spreadVariables_44 : decode prog_4_method_6_code 44 = .ok (.aload_n 1, 1) := by decide +kernel
theorem dT_spreadVariables_45 : decode prog_4_method_6_code 45 = .ok (.getfield 39, 3) := by decide +kernel
theorem dT_spreadVariables_48 : decode prog_4_method_6_code 48 = .ok (.lor, 1) := by decide +kernel
theorem dT_spreadVariables_49 : decode prog_4_method_6_code 49 = .ok (.putfield 39, 3) := by decide +kernel
theorem dT_spreadVariables_52 : decode prog_4_method_6_code 52 = .ok (.aload 4, 2) := by decide +kernel
theorem dT_spreadVariables_54 : decode prog_4_method_6_code 54 = .ok (.getfield 60, 3) := by decide +kernel
theorem dT_spreadVariables_57 : decode prog_4_method_6_code 57 = .ok (.astore_n 2, 1) := by decide +kernel
theorem dT_spreadVariables_58 : decode prog_4_method_6_code 58 = .ok (.goto 17, 3) := by decide +kernel
theorem dT_spreadVariables_61 : decode prog_4_method_6_code 61 = .ok (.aload 4, 2) := by decide +kernel
theorem dT_spreadVariables_63 : decode prog_4_method_6_code 63 = .ok (.dup, 1) := by decide +kernel
theorem dT_spreadVariables_64 : decode prog_4_method_6_code 64 = .ok (.getfield 43, 3) := by decide +kernel
theorem dT_spreadVariables_67 : decode prog_4_method_6_code 67 = .ok (.aload_n 1, 1) := by decide +kernel
theorem dT_spreadVariables_68 : decode prog_4_method_6_code 68 = .ok (.getfield 39, 3) := by decide +kernel
theorem dT_spreadVariables_71 : decode prog_4_method_6_code 71 = .ok (.lor, 1) := by decide +kernel
theorem dT_spreadVariables_72 : decode prog_4_method_6_code 72 = .ok (.putfield 43, 3) := by decide +kernel
theorem dT_spreadVariables_75 : decode prog_4_method_6_code 75 = .ok (.iinc 3 (-1), 3) := by decide +kernel
theorem dT_spreadVariables_78 : decode prog_4_method_6_code 78 = .ok (.goto (-66), 3) := by decide +kernel
theorem dT_spreadVariables_81 : decode prog_4_method_6_code 81 = .ok (.return_, 1) := by decide +kernel

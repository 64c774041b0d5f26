theorem dN_append_0 : decode prog_2_method_4_code 0 = .ok (.aload_n 1, 1) := by decide +kernel
theorem dN_append_1 : decode prog_2_method_4_code 1 = .ok (.aload_n 0, 1) := by decide +kernel
theorem dN_append_2 : decode prog_2_method_4_code 2 = .ok (.putfield 34, 3) := by decide +kernel
theorem dN_append_5 : decode prog_2_method_4_code 5 = .ok (.aload_n 1, 1) := by decide +kernel
theorem dN_append_6 : decode prog_2_method_4_code 6 = .ok (.aload_n 0, 1) := by decide +kernel
theorem dN_append_7 : decode prog_2_method_4_code 7 = .ok (.getfield 28, 3) := by decide +kernel
theorem dN_append_10 : decode prog_2_method_4_code 10 = .ok (.iconst 1, 1) := by decide +kernel
theorem dN_append_11 : decode prog_2_method_4_code 11 = .ok (.iadd, 1) := by decide +kernel
theorem dN_append_12 : decode prog_2_method_4_code 12 = .ok (.putfield 28, 3) := by decide +kernel
theorem dN_append_15 : decode prog_2_method_4_code 15 = .ok (.aload_n 0, 1) := by decide +kernel
theorem dN_append_16 : decode prog_2_method_4_code 16 = .ok (.getfield 41, 3) := by decide +kernel
theorem dN_append_19 : decode prog_2_method_4_code 19 = .ok (.ifnonnull 11, 3) := by decide +kernel
theorem dN_append_22 : decode prog_2_method_4_code 22 = .ok (.aload_n 0, 1) := by decide +kernel
theorem dN_append_23 : decode prog_2_method_4_code 23 = .ok (.aload_n 1, 1) := by decide +kernel
theorem dN_append_24 : decode prog_2_method_4_code 24 = .ok (.putfield 38, 3) := by decide +kernel
theorem dN_append_27 : decode prog_2_method_4_code 27 = .ok (.goto 11, 3) := by decide +kernel
theorem dN_append_30 : decode prog_2_method_4_code 30 = .ok (.aload_n 0, 1) := by decide +kernel
theorem dN_append_31 : decode prog_2_method_4_code 31 = .ok (.getfield 41, 3) := by decide +kernel
theorem dN_append_34 : decode prog_2_method_4_code 34 = .ok (.aload_n 1, 1) := by decide +kernel
theorem dN_append_35 : decode prog_2_method_4_code 35 = .ok (.putfield 44, 3) := by decide +kernel
theorem dN_append_38 : decode prog_2_method_4_code 38 = .ok (.aload_n 0, 1) := by decide +kernel
theorem dN_append_39 : decode prog_2_method_4_code 39 = .ok (.aload_n 1, 1) := by decide +kernel
theorem dN_append_40 : decode prog_2_method_4_code 40 = .ok (.putfield 41, 3) := by decide +kernel
theorem dN_append_43 : decode prog_2_method_4_code 43 = .ok (.aload_n 0, 1) := by decide +kernel
theorem dN_append_44 : decode prog_2_method_4_code 44 = .ok (.dup, 1) := by decide +kernel
theorem dN_append_45 : decode prog_2_method_4_code 45 = .ok (.getfield 31, 3) := by decide +kernel
theorem dN_append_48 : decode prog_2_method_4_code 48 = .ok (.iconst 1, 1) := by decide +kernel
theorem dN_append_49 : decode prog_2_method_4_code 49 = .ok (.iadd, 1) := by decide +kernel
theorem dN_append_50 : decode prog_2_method_4_code 50 = .ok (.putfield 31, 3) := by decide +kernel
theorem dN_append_53 : decode prog_2_method_4_code 53 = .ok (.return_, 1) := by decide +kernel
theorem dN_become_0 : decode prog_2_method_2_code 0 = .ok (.aload_n 0, 1) := by decide +kernel
theorem dN_become_1 : decode prog_2_method_2_code 1 = .ok (.iload_n 1, 1) := by decide +kernel
theorem dN_become_2 : decode prog_2_method_2_code 2 = .ok (.putfield 19, 3) := by decide +kernel
theorem dN_become_5 : decode prog_2_method_2_code 5 = .ok (.aload_n 0, 1) := by decide +kernel
theorem dN_become_6 : decode prog_2_method_2_code 6 = .ok (.iload_n 2, 1) := by decide +kernel
theorem dN_become_7 : decode prog_2_method_2_code 7 = .ok (.putfield 22, 3) := by decide +kernel
theorem dN_become_10 : decode prog_2_method_2_code 10 = .ok (.aload_n 0, 1) := by decide +kernel
theorem dN_become_11 : decode prog_2_method_2_code 11 = .ok (.iconst 0, 1) := by decide +kernel
theorem dN_become_12 : decode prog_2_method_2_code 12 = .ok (.putfield 25, 3) := by decide +kernel
theorem dN_become_15 : decode prog_2_method_2_code 15 = .ok (.aload_n 0, 1) := by decide +kernel
theorem dN_become_16 : decode prog_2_method_2_code 16 = .ok (.iconst 0, 1) := by decide +kernel
theorem dN_become_17 : decode prog_2_method_2_code 17 = .ok (.putfield 28, 3) := by decide +kernel
theorem dN_become_20 : decode prog_2_method_2_code 20 = .ok (.aload_n 0, 1) := by decide +kernel
theorem dN_become_21 : decode prog_2_method_2_code 21 = .ok (.iconst 0, 1) := by decide +kernel
theorem dN_become_22 : decode prog_2_method_2_code 22 = .ok (.putfield 31, 3) := by decide +kernel
theorem dN_become_25 : decode prog_2_method_2_code 25 = .ok (.aload_n 0, 1) := by decide +kernel
theorem dN_become_26 : decode prog_2_method_2_code 26 = .ok (.aconst_null, 1) := by decide +kernel
theorem dN_become_27 : decode prog_2_method_2_code 27 = .ok (.putfield 34, 3) := by decide +kernel
theorem dN_become_30 : decode prog_2_method_2_code 30 = .ok (.aload_n 0, 1) := by decide +kernel
theorem dN_become_31 : decode prog_2_method_2_code 31 = .ok (.aconst_null, 1) := by decide +kernel
theorem dN_become_32 : decode prog_2_method_2_code 32 = .ok (.putfield 38, 3) := by decide +kernel
theorem dN_become_35 : decode prog_2_method_2_code 35 = .ok (.aload_n 0, 1) := by decide +kernel
theorem dN_become_36 : decode prog_2_method_2_code 36 = .ok (.aconst_null, 1) := by decide +kernel
theorem dN_become_37 : decode prog_2_method_2_code 37 = .ok (.putfield 41, 3) := by decide +kernel
theorem dN_become_40 : decode prog_2_method_2_code 40 = .ok (.aload_n 0, 1) := by decide +kernel
theorem dN_become_41 : decode prog_2_method_2_code 41 = .ok (.aconst_null, 1) := by decide +kernel
theorem dN_become_42 : decode prog_2_method_2_code 42 = .ok (.putfield 44, 3) := by decide +kernel
theorem dN_become_45 : decode prog_2_method_2_code 45 = .ok (.aload_n 0, 1) := by decide +kernel
theorem dN_become_46 : decode prog_2_method_2_code 46 = .ok (.lconst 0, 1) := by decide +kernel
theorem dN_become_47 : decode prog_2_method_2_code 47 = .ok (.putfield 47, 3) := by decide +kernel
theorem dN_become_50 : decode prog_2_method_2_code 50 = .ok (.aload_n 0, 1) := by decide +kernel
theorem dN_become_51 : decode prog_2_method_2_code 51 = .ok (.lconst 0, 1) := by decide +kernel
theorem dN_become_52 : decode prog_2_method_2_code 52 = .ok (.putfield 51, 3) := by decide +kernel
theorem dN_become_55 : decode prog_2_method_2_code 55 = .ok (.return_, 1) := by decide +kernel
theorem dN_init_0 : decode prog_2_method_1_code 0 = .ok (.aload_n 0, 1) := by decide +kernel
theorem dN_init_1 : decode prog_2_method_1_code 1 = .ok (.invokespecial 3, 3) := by decide +kernel
theorem dN_init_4 : decode prog_2_method_1_code 4 = .ok (.aload_n 0, 1) := by decide +kernel
theorem dN_init_5 : decode prog_2_method_1_code 5 = .ok (.iload_n 1, 1) := by decide +kernel
theorem dN_init_6 : decode prog_2_method_1_code 6 = .ok (.putfield 9, 3) := by decide +kernel
theorem dN_init_9 : decode prog_2_method_1_code 9 = .ok (.aload_n 0, 1) := by decide +kernel
theorem dN_init_10 : decode prog_2_method_1_code 10 = .ok (.bipush 7, 2) := by decide +kernel
theorem dN_init_12 : decode prog_2_method_1_code 12 = .ok (.newarray .int, 2) := by decide +kernel
theorem dN_init_14 : decode prog_2_method_1_code 14 = .ok (.putfield 15, 3) := by decide +kernel
theorem dN_init_17 : decode prog_2_method_1_code 17 = .ok (.return_, 1) := by decide +kernel
theorem dN_isAtom_0 : decode prog_2_method_5_code 0 = .ok (.aload_n 0, 1) := by decide +kernel
theorem dN_isAtom_1 : decode prog_2_method_5_code 1 = .ok (.getfield 19, 3) := by decide +kernel
theorem dN_isAtom_4 : decode prog_2_method_5_code 4 = .ok (.iconst 3, 1) := by decide +kernel
theorem dN_isAtom_5 : decode prog_2_method_5_code 5 = .ok (.if_icmp .le 7, 3) := by decide +kernel
theorem dN_isAtom_8 : decode prog_2_method_5_code 8 = .ok (.iconst 1, 1) := by decide +kernel
theorem dN_isAtom_9 : decode prog_2_method_5_code 9 = .ok (.goto 4, 3) := by decide +kernel
theorem dN_isAtom_12 : decode prog_2_method_5_code 12 = .ok (.iconst 0, 1) := by decide +kernel
theorem dN_isAtom_13 : decode prog_2_method_5_code 13 = .ok (.ireturn, 1) := by decide +kernel
theorem dN_kthDone_0 : decode prog_2_method_8_code 0 = .ok (.aload_n 0, 1) := by decide +kernel
theorem dN_kthDone_1 : decode prog_2_method_8_code 1 = .ok (.getfield 58, 3) := by decide +kernel
theorem dN_kthDone_4 : decode prog_2_method_8_code 4 = .ok (.astore_n 2, 1) := by decide +kernel
theorem dN_kthDone_5 : decode prog_2_method_8_code 5 = .ok (.iconst 0, 1) := by decide +kernel
theorem dN_kthDone_6 : decode prog_2_method_8_code 6 = .ok (.istore_n 3, 1) := by decide +kernel
theorem dN_kthDone_7 : decode prog_2_method_8_code 7 = .ok (.iload_n 3, 1) := by decide +kernel
theorem dN_kthDone_8 : decode prog_2_method_8_code 8 = .ok (.iload_n 1, 1) := by decide +kernel
theorem dN_kthDone_9 : decode prog_2_method_8_code 9 = .ok (.if_icmp .ge 18, 3) := by decide +kernel
theorem dN_kthDone_12 : decode prog_2_method_8_code 12 = .ok (.aload_n 2, 1) := by decide +kernel
theorem dN_kthDone_13 : decode prog_2_method_8_code 13 = .ok (.ifnull 14, 3) := by decide +kernel
theorem dN_kthDone_16 : decode prog_2_method_8_code 16 = .ok (.aload_n 2, 1) := by decide +kernel
theorem dN_kthDone_17 : decode prog_2_method_8_code 17 = .ok (.getfield 61, 3) := by decide +kernel
theorem dN_kthDone_20 : decode prog_2_method_8_code 20 = .ok (.astore_n 2, 1) := by decide +kernel
theorem dN_kthDone_21 : decode prog_2_method_8_code 21 = .ok (.iinc 3 1, 3) := by decide +kernel
theorem dN_kthDone_24 : decode prog_2_method_8_code 24 = .ok (.goto (-17), 3) := by decide +kernel
theorem dN_kthDone_27 : decode prog_2_method_8_code 27 = .ok (.aload_n 2, 1) := by decide +kernel
theorem dN_kthDone_28 : decode prog_2_method_8_code 28 = .ok (.areturn, 1) := by decide +kernel
theorem dN_kthPart_0 : decode prog_2_method_7_code 0 = .ok (.aload_n 0, 1) := by decide +kernel
theorem dN_kthPart_1 : decode prog_2_method_7_code 1 = .ok (.getfield 38, 3) := by decide +kernel
theorem dN_kthPart_4 : decode prog_2_method_7_code 4 = .ok (.astore_n 2, 1) := by decide +kernel
theorem dN_kthPart_5 : decode prog_2_method_7_code 5 = .ok (.iconst 0, 1) := by decide +kernel
theorem dN_kthPart_6 : decode prog_2_method_7_code 6 = .ok (.istore_n 3, 1) := by decide +kernel
theorem dN_kthPart_7 : decode prog_2_method_7_code 7 = .ok (.iload_n 3, 1) := by decide +kernel
theorem dN_kthPart_8 : decode prog_2_method_7_code 8 = .ok (.iload_n 1, 1) := by decide +kernel
theorem dN_kthPart_9 : decode prog_2_method_7_code 9 = .ok (.if_icmp .ge 18, 3) := by decide +kernel
theorem dN_kthPart_12 : decode prog_2_method_7_code 12 = .ok (.aload_n 2, 1) := by decide +kernel
theorem dN_kthPart_13 : decode prog_2_method_7_code 13 = .ok (.ifnull 14, 3) := by decide +kernel
theorem dN_kthPart_16 : decode prog_2_method_7_code 16 = .ok (.aload_n 2, 1) := by decide +kernel
theorem dN_kthPart_17 : decode prog_2_method_7_code 17 = .ok (.getfield 44, 3) := by decide +kernel
theorem dN_kthPart_20 : decode prog_2_method_7_code 20 = .ok (.astore_n 2, 1) := by decide +kernel
theorem dN_kthPart_21 : decode prog_2_method_7_code 21 = .ok (.iinc 3 1, 3) := by decide +kernel
theorem dN_kthPart_24 : decode prog_2_method_7_code 24 = .ok (.goto (-17), 3) := by decide +kernel
theorem dN_kthPart_27 : decode prog_2_method_7_code 27 = .ok (.aload_n 2, 1) := by decide +kernel
theorem dN_kthPart_28 : decode prog_2_method_7_code 28 = .ok (.areturn, 1) := by decide +kernel
theorem dN_meets_0 : decode prog_2_method_11_code 0 = .ok (.iload_n 2, 1) := by decide +kernel
theorem dN_meets_1 : decode prog_2_method_11_code 1 = .ok (.iload_n 1, 1) := by decide +kernel
theorem dN_meets_2 : decode prog_2_method_11_code 2 = .ok (.invokestatic 64, 3) := by decide +kernel
theorem dN_meets_5 : decode prog_2_method_11_code 5 = .ok (.ifCond .ne 5, 3) := by decide +kernel
theorem dN_meets_8 : decode prog_2_method_11_code 8 = .ok (.iconst 0, 1) := by decide +kernel
theorem dN_meets_9 : decode prog_2_method_11_code 9 = .ok (.ireturn, 1) := by decide +kernel
theorem dN_meets_10 : decode prog_2_method_11_code 10 = .ok (.aload_n 0, 1) := by decide +kernel
theorem dN_meets_11 : decode prog_2_method_11_code 11 = .ok (.getfield 68, 3) := by decide +kernel
theorem dN_meets_14 : decode prog_2_method_11_code 14 = .ok (.lstore_n 3, 1) := by decide +kernel
theorem dN_meets_15 : decode prog_2_method_11_code 15 = .ok (.iconst 0, 1) := by decide +kernel
theorem dN_meets_16 : decode prog_2_method_11_code 16 = .ok (.istore 5, 2) := by decide +kernel
theorem dN_meets_18 : decode prog_2_method_11_code 18 = .ok (.iload 5, 2) := by decide +kernel
theorem dN_meets_20 : decode prog_2_method_11_code 20 = .ok (.iload_n 1, 1) := by decide +kernel
theorem dN_meets_21 : decode prog_2_method_11_code 21 = .ok (.if_icmp .ge 18, 3) := by decide +kernel
theorem dN_meets_24 : decode prog_2_method_11_code 24 = .ok (.lload_n 3, 1) := by decide +kernel
theorem dN_meets_25 : decode prog_2_method_11_code 25 = .ok (.aload_n 0, 1) := by decide +kernel
theorem dN_meets_26 : decode prog_2_method_11_code 26 = .ok (.iload 5, 2) := by decide +kernel
theorem dN_meets_28 : decode prog_2_method_11_code 28 = .ok (.invokevirtual 71, 3) := by decide +kernel
theorem dN_meets_31 : decode prog_2_method_11_code 31 = .ok (.lor, 1) := by decide +kernel
theorem dN_meets_32 : decode prog_2_method_11_code 32 = .ok (.lstore_n 3, 1) := by decide +kernel
theorem dN_meets_33 : decode prog_2_method_11_code 33 = .ok (.iinc 5 1, 3) := by decide +kernel
theorem dN_meets_36 : decode prog_2_method_11_code 36 = .ok (.goto (-18), 3) := by decide +kernel
theorem dN_meets_39 : decode prog_2_method_11_code 39 = .ok (.aload_n 0, 1) := by decide +kernel
theorem dN_meets_40 : decode prog_2_method_11_code 40 = .ok (.iload_n 1, 1) := by decide +kernel
theorem dN_meets_41 : decode prog_2_method_11_code 41 = .ok (.invokevirtual 71, 3) := by decide +kernel
theorem dN_meets_44 : decode prog_2_method_11_code 44 = .ok (.lload_n 3, 1) := by decide +kernel
theorem dN_meets_45 : decode prog_2_method_11_code 45 = .ok (.land, 1) := by decide +kernel
theorem dN_meets_46 : decode prog_2_method_11_code 46 = .ok (.lconst 0, 1) := by decide +kernel
theorem dN_meets_47 : decode prog_2_method_11_code 47 = .ok (.lcmp, 1) := by decide +kernel
theorem dN_meets_48 : decode prog_2_method_11_code 48 = .ok (.ifCond .eq 7, 3) := by decide +kernel
theorem dN_meets_51 : decode prog_2_method_11_code 51 = .ok (.iconst 1, 1) := by decide +kernel
theorem dN_meets_52 : decode prog_2_method_11_code 52 = .ok (.goto 4, 3) := by decide +kernel
theorem dN_meets_55 : decode prog_2_method_11_code 55 = .ok (.iconst 0, 1) := by decide +kernel
theorem dN_meets_56 : decode prog_2_method_11_code 56 = .ok (.ireturn, 1) := by decide +kernel
theorem dN_takeVariables_0 : decode prog_2_method_3_code 0 = .ok (.iconst 0, 1) := by decide +kernel
theorem dN_takeVariables_1 : decode prog_2_method_3_code 1 = .ok (.istore_n 3, 1) := by decide +kernel
theorem dN_takeVariables_2 : decode prog_2_method_3_code 2 = .ok (.iload_n 3, 1) := by decide +kernel
theorem dN_takeVariables_3 : decode prog_2_method_3_code 3 = .ok (.iload_n 2, 1) := by decide +kernel
theorem dN_takeVariables_4 : decode prog_2_method_3_code 4 = .ok (.if_icmp .ge 48, 3) := by decide +kernel
theorem dN_takeVariables_7 : decode prog_2_method_3_code 7 = .ok (.iload_n 3, 1) := by decide +kernel
theorem dN_takeVariables_8 : decode prog_2_method_3_code 8 = .ok (.bipush 7, 2) := by decide +kernel
theorem dN_takeVariables_10 : decode prog_2_method_3_code 10 = .ok (.if_icmp .ge 42, 3) := by decide +kernel
theorem dN_takeVariables_13 : decode prog_2_method_3_code 13 = .ok (.aload_n 0, 1) := by decide +kernel
theorem dN_takeVariables_14 : decode prog_2_method_3_code 14 = .ok (.getfield 15, 3) := by decide +kernel
theorem dN_takeVariables_17 : decode prog_2_method_3_code 17 = .ok (.iload_n 3, 1) := by decide +kernel
theorem dN_takeVariables_18 : decode prog_2_method_3_code 18 = .ok (.aload_n 1, 1) := by decide +kernel
theorem dN_takeVariables_19 : decode prog_2_method_3_code 19 = .ok (.iload_n 3, 1) := by decide +kernel
theorem dN_takeVariables_20 : decode prog_2_method_3_code 20 = .ok (.iaload, 1) := by decide +kernel
theorem dN_takeVariables_21 : decode prog_2_method_3_code 21 = .ok (.iastore, 1) := by decide +kernel
theorem dN_takeVariables_22 : decode prog_2_method_3_code 22 = .ok (.aload_n 0, 1) := by decide +kernel
theorem dN_takeVariables_23 : decode prog_2_method_3_code 23 = .ok (.dup, 1) := by decide +kernel
theorem dN_takeVariables_24 : decode prog_2_method_3_code 24 = .ok (.getfield 47, 3) := by decide +kernel
theorem dN_takeVariables_27 : decode prog_2_method_3_code 27 = .ok (.lconst 1, 1) := by decide +kernel
theorem dN_takeVariables_28 : decode prog_2_method_3_code 28 = .ok (.aload_n 1, 1) := by decide +kernel
theorem dN_takeVariables_29 : decode prog_2_method_3_code 29 = .ok (.iload_n 3, 1) := by decide +kernel
theorem dN_takeVariables_30 : decode prog_2_method_3_code 30 = .ok (.iaload, 1) := by decide +kernel
theorem dN_takeVariables_31 : decode prog_2_method_3_code 31 = .ok (.lshl, 1) := by decide +kernel
theorem dN_takeVariables_32 : decode prog_2_method_3_code 32 = .ok (.lor, 1) := by decide +kernel
theorem dN_takeVariables_33 : decode prog_2_method_3_code 33 = .ok (.putfield 47, 3) := by decide +kernel
theorem dN_takeVariables_36 : decode prog_2_method_3_code 36 = .ok (.aload_n 0, 1) := by decide +kernel
theorem dN_takeVariables_37 : decode prog_2_method_3_code 37 = .ok (.dup, 1) := by decide +kernel
theorem dN_takeVariables_38 : decode prog_2_method_3_code 38 = .ok (.getfield 25, 3) := by decide +kernel
theorem dN_takeVariables_41 : decode prog_2_method_3_code 41 = .ok (.iconst 1, 1) := by decide +kernel
theorem dN_takeVariables_42 : decode prog_2_method_3_code 42 = .ok (.iadd, 1) := by decide +kernel
theorem dN_takeVariables_43 : decode prog_2_method_3_code 43 = .ok (.putfield 25, 3) := by decide +kernel
theorem dN_takeVariables_46 : decode prog_2_method_3_code 46 = .ok (.iinc 3 1, 3) := by decide +kernel
theorem dN_takeVariables_49 : decode prog_2_method_3_code 49 = .ok (.goto (-47), 3) := by decide +kernel
theorem dN_takeVariables_52 : decode prog_2_method_3_code 52 = .ok (.return_, 1) := by decide +kernel
theorem dN_takesPart_0 : decode prog_2_method_6_code 0 = .ok (.aload_n 0, 1) := by decide +kernel
theorem dN_takesPart_1 : decode prog_2_method_6_code 1 = .ok (.invokevirtual 54, 3) := by decide +kernel
theorem dN_takesPart_4 : decode prog_2_method_6_code 4 = .ok (.ifCond .ne 12, 3) := by decide +kernel
theorem dN_takesPart_7 : decode prog_2_method_6_code 7 = .ok (.aload_n 0, 1) := by decide +kernel
theorem dN_takesPart_8 : decode prog_2_method_6_code 8 = .ok (.getfield 28, 3) := by decide +kernel
theorem dN_takesPart_11 : decode prog_2_method_6_code 11 = .ok (.bipush 20, 2) := by decide +kernel
theorem dN_takesPart_13 : decode prog_2_method_6_code 13 = .ok (.if_icmp .lt 5, 3) := by decide +kernel
theorem dN_takesPart_16 : decode prog_2_method_6_code 16 = .ok (.iconst 0, 1) := by decide +kernel
theorem dN_takesPart_17 : decode prog_2_method_6_code 17 = .ok (.ireturn, 1) := by decide +kernel
theorem dN_takesPart_18 : decode prog_2_method_6_code 18 = .ok (.aload_n 0, 1) := by decide +kernel
theorem dN_takesPart_19 : decode prog_2_method_6_code 19 = .ok (.getfield 19, 3) := by decide +kernel
theorem dN_takesPart_22 : decode prog_2_method_6_code 22 = .ok (.iconst 2, 1) := by decide +kernel
theorem dN_takesPart_23 : decode prog_2_method_6_code 23 = .ok (.if_icmp .ne 11, 3) := by decide +kernel
theorem dN_takesPart_26 : decode prog_2_method_6_code 26 = .ok (.aload_n 0, 1) := by decide +kernel
theorem dN_takesPart_27 : decode prog_2_method_6_code 27 = .ok (.getfield 31, 3) := by decide +kernel
theorem dN_takesPart_30 : decode prog_2_method_6_code 30 = .ok (.iconst 1, 1) := by decide +kernel
theorem dN_takesPart_31 : decode prog_2_method_6_code 31 = .ok (.if_icmp .ge 23, 3) := by decide +kernel
theorem dN_takesPart_34 : decode prog_2_method_6_code 34 = .ok (.aload_n 0, 1) := by decide +kernel
theorem dN_takesPart_35 : decode prog_2_method_6_code 35 = .ok (.getfield 19, 3) := by decide +kernel
theorem dN_takesPart_38 : decode prog_2_method_6_code 38 = .ok (.iconst 3, 1) := by decide +kernel
theorem dN_takesPart_39 : decode prog_2_method_6_code 39 = .ok (.if_icmp .ne 11, 3) := by decide +kernel
theorem dN_takesPart_42 : decode prog_2_method_6_code 42 = .ok (.aload_n 0, 1) := by decide +kernel
theorem dN_takesPart_43 : decode prog_2_method_6_code 43 = .ok (.getfield 31, 3) := by decide +kernel
theorem dN_takesPart_46 : decode prog_2_method_6_code 46 = .ok (.iconst 3, 1) := by decide +kernel
theorem dN_takesPart_47 : decode prog_2_method_6_code 47 = .ok (.if_icmp .ge 7, 3) := by decide +kernel
theorem dN_takesPart_50 : decode prog_2_method_6_code 50 = .ok (.iconst 1, 1) := by decide +kernel
theorem dN_takesPart_51 : decode prog_2_method_6_code 51 = .ok (.goto 4, 3) := by decide +kernel
theorem dN_takesPart_54 : decode prog_2_method_6_code 54 = .ok (.iconst 0, 1) := by decide +kernel
theorem dN_takesPart_55 : decode prog_2_method_6_code 55 = .ok (.ireturn, 1) := by decide +kernel
theorem dN_variableAt_0 : decode prog_2_method_10_code 0 = .ok (.iload_n 1, 1) := by decide +kernel
theorem dN_variableAt_1 : decode prog_2_method_10_code 1 = .ok (.ifCond .lt 22, 3) := by decide +kernel
theorem dN_variableAt_4 : decode prog_2_method_10_code 4 = .ok (.iload_n 1, 1) := by decide +kernel
theorem dN_variableAt_5 : decode prog_2_method_10_code 5 = .ok (.aload_n 0, 1) := by decide +kernel
theorem dN_variableAt_6 : decode prog_2_method_10_code 6 = .ok (.getfield 25, 3) := by decide +kernel
theorem dN_variableAt_9 : decode prog_2_method_10_code 9 = .ok (.if_icmp .ge 14, 3) := by decide +kernel
theorem dN_variableAt_12 : decode prog_2_method_10_code 12 = .ok (.lconst 1, 1) := by decide +kernel
theorem dN_variableAt_13 : decode prog_2_method_10_code 13 = .ok (.aload_n 0, 1) := by decide +kernel
theorem dN_variableAt_14 : decode prog_2_method_10_code 14 = .ok (.getfield 15, 3) := by decide +kernel
theorem dN_variableAt_17 : decode prog_2_method_10_code 17 = .ok (.iload_n 1, 1) := by decide +kernel
theorem dN_variableAt_18 : decode prog_2_method_10_code 18 = .ok (.iaload, 1) := by decide +kernel
theorem dN_variableAt_19 : decode prog_2_method_10_code 19 = .ok (.lshl, 1) := by decide +kernel
theorem dN_variableAt_20 : decode prog_2_method_10_code 20 = .ok (.goto 4, 3) := by decide +kernel
theorem dN_variableAt_23 : decode prog_2_method_10_code 23 = .ok (.lconst 0, 1) := by decide +kernel
theorem dN_variableAt_24 : decode prog_2_method_10_code 24 = .ok (.lreturn, 1) := by decide +kernel
theorem dN_variablesFrom_0 : decode prog_2_method_9_code 0 = .ok (.lconst 0, 1) := by decide +kernel
theorem dN_variablesFrom_1 : decode prog_2_method_9_code 1 = .ok (.lstore_n 2, 1) := by decide +kernel
theorem dN_variablesFrom_2 : decode prog_2_method_9_code 2 = .ok (.iload_n 1, 1) := by decide +kernel
theorem dN_variablesFrom_3 : decode prog_2_method_9_code 3 = .ok (.istore 4, 2) := by decide +kernel
theorem dN_variablesFrom_5 : decode prog_2_method_9_code 5 = .ok (.iload 4, 2) := by decide +kernel
theorem dN_variablesFrom_7 : decode prog_2_method_9_code 7 = .ok (.aload_n 0, 1) := by decide +kernel
theorem dN_variablesFrom_8 : decode prog_2_method_9_code 8 = .ok (.getfield 25, 3) := by decide +kernel
theorem dN_variablesFrom_11 : decode prog_2_method_9_code 11 = .ok (.if_icmp .ge 21, 3) := by decide +kernel
theorem dN_variablesFrom_14 : decode prog_2_method_9_code 14 = .ok (.lload_n 2, 1) := by decide +kernel
theorem dN_variablesFrom_15 : decode prog_2_method_9_code 15 = .ok (.lconst 1, 1) := by decide +kernel
theorem dN_variablesFrom_16 : decode prog_2_method_9_code 16 = .ok (.aload_n 0, 1) := by decide +kernel
theorem dN_variablesFrom_17 : decode prog_2_method_9_code 17 = .ok (.getfield 15, 3) := by decide +kernel
theorem dN_variablesFrom_20 : decode prog_2_method_9_code 20 = .ok (.iload 4, 2) := by decide +kernel
theorem dN_variablesFrom_22 : decode prog_2_method_9_code 22 = .ok (.iaload, 1) := by decide +kernel
theorem dN_variablesFrom_23 : decode prog_2_method_9_code 23 = .ok (.lshl, 1) := by decide +kernel
theorem dN_variablesFrom_24 : decode prog_2_method_9_code 24 = .ok (.lor, 1) := by decide +kernel
theorem dN_variablesFrom_25 : decode prog_2_method_9_code 25 = .ok (.lstore_n 2, 1) := by decide +kernel
theorem dN_variablesFrom_26 : decode prog_2_method_9_code 26 = .ok (.iinc 4 1, 3) := by decide +kernel
theorem dN_variablesFrom_29 : decode prog_2_method_9_code 29 = .ok (.goto (-24), 3) := by decide +kernel
theorem dN_variablesFrom_32 : decode prog_2_method_9_code 32 = .ok (.lload_n 2, 1) := by decide +kernel
theorem dN_variablesFrom_33 : decode prog_2_method_9_code 33 = .ok (.lreturn, 1) := by decide +kernel

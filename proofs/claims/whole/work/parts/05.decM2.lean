theorem dM_compare_0 : decode prog_7_method_24_code 0 = .ok (.lload_n 3, 1) := by decide +kernel
theorem dM_compare_1 : decode prog_7_method_24_code 1 = .ok (.lstore 5, 2) := by decide +kernel
theorem dM_compare_3 : decode prog_7_method_24_code 3 = .ok (.iconst 0, 1) := by decide +kernel
theorem dM_compare_4 : decode prog_7_method_24_code 4 = .ok (.istore 7, 2) := by decide +kernel
theorem dM_compare_6 : decode prog_7_method_24_code 6 = .ok (.iload 7, 2) := by decide +kernel
theorem dM_compare_8 : decode prog_7_method_24_code 8 = .ok (.aload_n 0, 1) := by decide +kernel
theorem dM_compare_9 : decode prog_7_method_24_code 9 = .ok (.getfield 43, 3) := by decide +kernel
theorem dM_compare_12 : decode prog_7_method_24_code 12 = .ok (.iload_n 1, 1) := by decide +kernel
theorem dM_compare_13 : decode prog_7_method_24_code 13 = .ok (.iaload, 1) := by decide +kernel
theorem dM_compare_14 : decode prog_7_method_24_code 14 = .ok (.if_icmp .ge 105, 3) := by decide +kernel
theorem dM_compare_17 : decode prog_7_method_24_code 17 = .ok (.aload_n 0, 1) := by decide +kernel
theorem dM_compare_18 : decode prog_7_method_24_code 18 = .ok (.getfield 19, 3) := by decide +kernel
theorem dM_compare_21 : decode prog_7_method_24_code 21 = .ok (.iload_n 1, 1) := by decide +kernel
theorem dM_compare_22 : decode prog_7_method_24_code 22 = .ok (.iaload, 1) := by decide +kernel
theorem dM_compare_23 : decode prog_7_method_24_code 23 = .ok (.bipush 8, 2) := by decide +kernel
theorem dM_compare_25 : decode prog_7_method_24_code 25 = .ok (.if_icmp .ne 16, 3) := by decide +kernel
theorem dM_compare_28 : decode prog_7_method_24_code 28 = .ok (.iload 7, 2) := by decide +kernel
theorem dM_compare_30 : decode prog_7_method_24_code 30 = .ok (.ifCond .le 7, 3) := by decide +kernel
theorem dM_compare_33 : decode prog_7_method_24_code 33 = .ok (.iconst 1, 1) := by decide +kernel
theorem dM_compare_34 : decode prog_7_method_24_code 34 = .ok (.goto 22, 3) := by decide +kernel
theorem dM_compare_37 : decode prog_7_method_24_code 37 = .ok (.iconst 0, 1) := by decide +kernel
theorem dM_compare_38 : decode prog_7_method_24_code 38 = .ok (.goto 18, 3) := by decide +kernel
theorem dM_compare_41 : decode prog_7_method_24_code 41 = .ok (.iload_n 2, 1) := by decide +kernel
theorem dM_compare_42 : decode prog_7_method_24_code 42 = .ok (.iload 7, 2) := by decide +kernel
theorem dM_compare_44 : decode prog_7_method_24_code 44 = .ok (.ishr, 1) := by decide +kernel
theorem dM_compare_45 : decode prog_7_method_24_code 45 = .ok (.iconst 1, 1) := by decide +kernel
theorem dM_compare_46 : decode prog_7_method_24_code 46 = .ok (.iand, 1) := by decide +kernel
theorem dM_compare_47 : decode prog_7_method_24_code 47 = .ok (.iconst 1, 1) := by decide +kernel
theorem dM_compare_48 : decode prog_7_method_24_code 48 = .ok (.if_icmp .ne 7, 3) := by decide +kernel
theorem dM_compare_51 : decode prog_7_method_24_code 51 = .ok (.iconst 1, 1) := by decide +kernel
theorem dM_compare_52 : decode prog_7_method_24_code 52 = .ok (.goto 4, 3) := by decide +kernel
theorem dM_compare_55 : decode prog_7_method_24_code 55 = .ok (.iconst 0, 1) := by decide +kernel
theorem dM_compare_56 : decode prog_7_method_24_code 56 = .ok (.istore 8, 2) := by decide +kernel
theorem dM_compare_58 : decode prog_7_method_24_code 58 = .ok (.iload 8, 2) := by decide +kernel
theorem dM_compare_60 : decode prog_7_method_24_code 60 = .ok (.ifCond .ne 6, 3) := by decide +kernel
theorem dM_compare_63 : decode prog_7_method_24_code 63 = .ok (.goto 50, 3) := by decide +kernel
theorem dM_compare_66 : decode prog_7_method_24_code 66 = .ok (.aload_n 0, 1) := by decide +kernel
theorem dM_compare_67 : decode prog_7_method_24_code 67 = .ok (.getfield 46, 3) := by decide +kernel
theorem dM_compare_70 : decode prog_7_method_24_code 70 = .ok (.bipush 7, 2) := by decide +kernel
theorem dM_compare_72 : decode prog_7_method_24_code 72 = .ok (.iload_n 1, 1) := by decide +kernel
theorem dM_compare_73 : decode prog_7_method_24_code 73 = .ok (.imul, 1) := by decide +kernel
theorem dM_compare_74 : decode prog_7_method_24_code 74 = .ok (.iload 7, 2) := by decide +kernel
theorem dM_compare_76 : decode prog_7_method_24_code 76 = .ok (.iadd, 1) := by decide +kernel
theorem dM_compare_77 : decode prog_7_method_24_code 77 = .ok (.iaload, 1) := by decide +kernel
theorem dM_compare_78 : decode prog_7_method_24_code 78 = .ok (.istore 9, 2) := by decide +kernel
theorem dM_compare_80 : decode prog_7_method_24_code 80 = .ok (.aload_n 0, 1) := by decide +kernel
theorem dM_compare_81 : decode prog_7_method_24_code 81 = .ok (.lload 5, 2) := by decide +kernel
theorem dM_compare_83 : decode prog_7_method_24_code 83 = .ok (.iload 9, 2) := by decide +kernel
theorem dM_compare_85 : decode prog_7_method_24_code 85 = .ok (.invokevirtual 163, 3) := by decide +kernel
theorem dM_compare_88 : decode prog_7_method_24_code 88 = .ok (.ifCond .eq 16, 3) := by decide +kernel
theorem dM_compare_91 : decode prog_7_method_24_code 91 = .ok (.aload_n 0, 1) := by decide +kernel
theorem dM_compare_92 : decode prog_7_method_24_code 92 = .ok (.getfield 81, 3) := by decide +kernel
theorem dM_compare_95 : decode prog_7_method_24_code 95 = .ok (.iload_n 1, 1) := by decide +kernel
theorem dM_compare_96 : decode prog_7_method_24_code 96 = .ok (.dup2, 1) := by decide +kernel
theorem dM_compare_97 : decode prog_7_method_24_code 97 = .ok (.iaload, 1) := by decide +kernel
theorem dM_compare_98 : decode prog_7_method_24_code 98 = .ok (.iconst 1, 1) := by decide +kernel
theorem dM_compare_99 : decode prog_7_method_24_code 99 = .ok (.iload 7, 2) := by decide +kernel
theorem dM_compare_101 : decode prog_7_method_24_code 101 = .ok (.ishl, 1) := by decide +kernel
theorem dM_compare_102 : decode prog_7_method_24_code 102 = .ok (.ior, 1) := by decide +kernel
theorem dM_compare_103 : decode prog_7_method_24_code 103 = .ok (.iastore, 1) := by decide +kernel
theorem dM_compare_104 : decode prog_7_method_24_code 104 = .ok (.lload 5, 2) := by decide +kernel
theorem dM_compare_106 : decode prog_7_method_24_code 106 = .ok (.lconst 1, 1) := by decide +kernel
theorem dM_compare_107 : decode prog_7_method_24_code 107 = .ok (.iload 9, 2) := by decide +kernel
theorem dM_compare_109 : decode prog_7_method_24_code 109 = .ok (.lshl, 1) := by decide +kernel
theorem dM_compare_110 : decode prog_7_method_24_code 110 = .ok (.lor, 1) := by decide +kernel
theorem dM_compare_111 : decode prog_7_method_24_code 111 = .ok (.lstore 5, 2) := by decide +kernel
theorem dM_compare_113 : decode prog_7_method_24_code 113 = .ok (.iinc 7 1, 3) := by decide +kernel
theorem dM_compare_116 : decode prog_7_method_24_code 116 = .ok (.goto (-110), 3) := by decide +kernel
theorem dM_compare_119 : decode prog_7_method_24_code 119 = .ok (.return_, 1) := by decide +kernel
theorem dM_compared_0 : decode prog_7_method_38_code 0 = .ok (.aload_n 0, 1) := by decide +kernel
theorem dM_compared_1 : decode prog_7_method_38_code 1 = .ok (.iconst 0, 1) := by decide +kernel
theorem dM_compared_2 : decode prog_7_method_38_code 2 = .ok (.putfield 115, 3) := by decide +kernel
theorem dM_compared_5 : decode prog_7_method_38_code 5 = .ok (.aload_n 0, 1) := by decide +kernel
theorem dM_compared_6 : decode prog_7_method_38_code 6 = .ok (.getfield 138, 3) := by decide +kernel
theorem dM_compared_9 : decode prog_7_method_38_code 9 = .ok (.ifCond .eq 53, 3) := by decide +kernel
theorem dM_compared_12 : decode prog_7_method_38_code 12 = .ok (.aload_n 0, 1) := by decide +kernel
theorem dM_compared_13 : decode prog_7_method_38_code 13 = .ok (.iload_n 1, 1) := by decide +kernel
theorem dM_compared_14 : decode prog_7_method_38_code 14 = .ok (.invokevirtual 149, 3) := by decide +kernel
theorem dM_compared_17 : decode prog_7_method_38_code 17 = .ok (.ifCond .eq 45, 3) := by decide +kernel
theorem dM_compared_20 : decode prog_7_method_38_code 20 = .ok (.aload_n 0, 1) := by decide +kernel
theorem dM_compared_21 : decode prog_7_method_38_code 21 = .ok (.getfield 19, 3) := by decide +kernel
theorem dM_compared_24 : decode prog_7_method_38_code 24 = .ok (.iload_n 1, 1) := by decide +kernel
theorem dM_compared_25 : decode prog_7_method_38_code 25 = .ok (.iaload, 1) := by decide +kernel
theorem dM_compared_26 : decode prog_7_method_38_code 26 = .ok (.iconst 3, 1) := by decide +kernel
theorem dM_compared_27 : decode prog_7_method_38_code 27 = .ok (.if_icmp .le 35, 3) := by decide +kernel
theorem dM_compared_30 : decode prog_7_method_38_code 30 = .ok (.iload_n 2, 1) := by decide +kernel
theorem dM_compared_31 : decode prog_7_method_38_code 31 = .ok (.ifCond .lt 31, 3) := by decide +kernel
theorem dM_compared_34 : decode prog_7_method_38_code 34 = .ok (.iload_n 2, 1) := by decide +kernel
theorem dM_compared_35 : decode prog_7_method_38_code 35 = .ok (.aload_n 0, 1) := by decide +kernel
theorem dM_compared_36 : decode prog_7_method_38_code 36 = .ok (.getfield 43, 3) := by decide +kernel
theorem dM_compared_39 : decode prog_7_method_38_code 39 = .ok (.iload_n 1, 1) := by decide +kernel
theorem dM_compared_40 : decode prog_7_method_38_code 40 = .ok (.iaload, 1) := by decide +kernel
theorem dM_compared_41 : decode prog_7_method_38_code 41 = .ok (.if_icmp .ge 21, 3) := by decide +kernel
theorem dM_compared_44 : decode prog_7_method_38_code 44 = .ok (.aload_n 0, 1) := by decide +kernel
theorem dM_compared_45 : decode prog_7_method_38_code 45 = .ok (.getfield 81, 3) := by decide +kernel
theorem dM_compared_48 : decode prog_7_method_38_code 48 = .ok (.iload_n 1, 1) := by decide +kernel
theorem dM_compared_49 : decode prog_7_method_38_code 49 = .ok (.iaload, 1) := by decide +kernel
theorem dM_compared_50 : decode prog_7_method_38_code 50 = .ok (.iload_n 2, 1) := by decide +kernel
theorem dM_compared_51 : decode prog_7_method_38_code 51 = .ok (.ishr, 1) := by decide +kernel
theorem dM_compared_52 : decode prog_7_method_38_code 52 = .ok (.iconst 1, 1) := by decide +kernel
theorem dM_compared_53 : decode prog_7_method_38_code 53 = .ok (.iand, 1) := by decide +kernel
theorem dM_compared_54 : decode prog_7_method_38_code 54 = .ok (.iconst 1, 1) := by decide +kernel
theorem dM_compared_55 : decode prog_7_method_38_code 55 = .ok (.if_icmp .ne 7, 3) := by decide +kernel
theorem dM_compared_58 : decode prog_7_method_38_code 58 = .ok (.iconst 1, 1) := by decide +kernel
theorem dM_compared_59 : decode prog_7_method_38_code 59 = .ok (.goto 4, 3) := by decide +kernel
theorem dM_compared_62 : decode prog_7_method_38_code 62 = .ok (.iconst 0, 1) := by decide +kernel
theorem dM_compared_63 : decode prog_7_method_38_code 63 = .ok (.ireturn, 1) := by decide +kernel
theorem dM_ended_0 : decode prog_7_method_27_code 0 = .ok (.aload_n 0, 1) := by decide +kernel
theorem dM_ended_1 : decode prog_7_method_27_code 1 = .ok (.dup, 1) := by decide +kernel
theorem dM_ended_2 : decode prog_7_method_27_code 2 = .ok (.getfield 193, 3) := by decide +kernel
theorem dM_ended_5 : decode prog_7_method_27_code 5 = .ok (.iconst 1, 1) := by decide +kernel
theorem dM_ended_6 : decode prog_7_method_27_code 6 = .ok (.isub, 1) := by decide +kernel
theorem dM_ended_7 : decode prog_7_method_27_code 7 = .ok (.putfield 193, 3) := by decide +kernel
theorem dM_ended_10 : decode prog_7_method_27_code 10 = .ok (.aload_n 0, 1) := by decide +kernel
theorem dM_ended_11 : decode prog_7_method_27_code 11 = .ok (.getfield 68, 3) := by decide +kernel
theorem dM_ended_14 : decode prog_7_method_27_code 14 = .ok (.iload_n 1, 1) := by decide +kernel
theorem dM_ended_15 : decode prog_7_method_27_code 15 = .ok (.iload_n 2, 1) := by decide +kernel
theorem dM_ended_16 : decode prog_7_method_27_code 16 = .ok (.bastore, 1) := by decide +kernel
theorem dM_ended_17 : decode prog_7_method_27_code 17 = .ok (.aload_n 0, 1) := by decide +kernel
theorem dM_ended_18 : decode prog_7_method_27_code 18 = .ok (.getfield 65, 3) := by decide +kernel
theorem dM_ended_21 : decode prog_7_method_27_code 21 = .ok (.iload_n 1, 1) := by decide +kernel
theorem dM_ended_22 : decode prog_7_method_27_code 22 = .ok (.lload_n 3, 1) := by decide +kernel
theorem dM_ended_23 : decode prog_7_method_27_code 23 = .ok (.lastore, 1) := by decide +kernel
theorem dM_ended_24 : decode prog_7_method_27_code 24 = .ok (.return_, 1) := by decide +kernel
theorem dM_given_0 : decode prog_7_method_15_code 0 = .ok (.aload_n 0, 1) := by decide +kernel
theorem dM_given_1 : decode prog_7_method_15_code 1 = .ok (.iconst 0, 1) := by decide +kernel
theorem dM_given_2 : decode prog_7_method_15_code 2 = .ok (.putfield 115, 3) := by decide +kernel
theorem dM_given_5 : decode prog_7_method_15_code 5 = .ok (.iload_n 1, 1) := by decide +kernel
theorem dM_given_6 : decode prog_7_method_15_code 6 = .ok (.invokestatic 145, 3) := by decide +kernel
theorem dM_given_9 : decode prog_7_method_15_code 9 = .ok (.ifCond .eq 25, 3) := by decide +kernel
theorem dM_given_12 : decode prog_7_method_15_code 12 = .ok (.aload_n 0, 1) := by decide +kernel
theorem dM_given_13 : decode prog_7_method_15_code 13 = .ok (.getfield 124, 3) := by decide +kernel
theorem dM_given_16 : decode prog_7_method_15_code 16 = .ok (.iload_n 1, 1) := by decide +kernel
theorem dM_given_17 : decode prog_7_method_15_code 17 = .ok (.lshr, 1) := by decide +kernel
theorem dM_given_18 : decode prog_7_method_15_code 18 = .ok (.lconst 1, 1) := by decide +kernel
theorem dM_given_19 : decode prog_7_method_15_code 19 = .ok (.land, 1) := by decide +kernel
theorem dM_given_20 : decode prog_7_method_15_code 20 = .ok (.lconst 1, 1) := by decide +kernel
theorem dM_given_21 : decode prog_7_method_15_code 21 = .ok (.lcmp, 1) := by decide +kernel
theorem dM_given_22 : decode prog_7_method_15_code 22 = .ok (.ifCond .ne 7, 3) := by decide +kernel
theorem dM_given_25 : decode prog_7_method_15_code 25 = .ok (.iconst 1, 1) := by decide +kernel
theorem dM_given_26 : decode prog_7_method_15_code 26 = .ok (.goto 4, 3) := by decide +kernel
theorem dM_given_29 : decode prog_7_method_15_code 29 = .ok (.iconst 0, 1) := by decide +kernel
theorem dM_given_30 : decode prog_7_method_15_code 30 = .ok (.iload_n 2, 1) := by decide +kernel
theorem dM_given_31 : decode prog_7_method_15_code 31 = .ok (.if_icmp .ne 5, 3) := by decide +kernel
theorem dM_given_34 : decode prog_7_method_15_code 34 = .ok (.iconst 0, 1) := by decide +kernel
theorem dM_given_35 : decode prog_7_method_15_code 35 = .ok (.ireturn, 1) := by decide +kernel
theorem dM_given_36 : decode prog_7_method_15_code 36 = .ok (.aload_n 0, 1) := by decide +kernel
theorem dM_given_37 : decode prog_7_method_15_code 37 = .ok (.aload_n 0, 1) := by decide +kernel
theorem dM_given_38 : decode prog_7_method_15_code 38 = .ok (.getfield 124, 3) := by decide +kernel
theorem dM_given_41 : decode prog_7_method_15_code 41 = .ok (.lconst 1, 1) := by decide +kernel
theorem dM_given_42 : decode prog_7_method_15_code 42 = .ok (.iload_n 1, 1) := by decide +kernel
theorem dM_given_43 : decode prog_7_method_15_code 43 = .ok (.lshl, 1) := by decide +kernel
theorem dM_given_44 : decode prog_7_method_15_code 44 = .ok (.lxor, 1) := by decide +kernel
theorem dM_given_45 : decode prog_7_method_15_code 45 = .ok (.putfield 124, 3) := by decide +kernel
theorem dM_given_48 : decode prog_7_method_15_code 48 = .ok (.aload_n 0, 1) := by decide +kernel
theorem dM_given_49 : decode prog_7_method_15_code 49 = .ok (.invokevirtual 135, 3) := by decide +kernel
theorem dM_given_52 : decode prog_7_method_15_code 52 = .ok (.iconst 1, 1) := by decide +kernel
theorem dM_given_53 : decode prog_7_method_15_code 53 = .ok (.ireturn, 1) := by decide +kernel
theorem dM_goesOn_0 : decode prog_7_method_28_code 0 = .ok (.aload_n 0, 1) := by decide +kernel
theorem dM_goesOn_1 : decode prog_7_method_28_code 1 = .ok (.getfield 193, 3) := by decide +kernel
theorem dM_goesOn_4 : decode prog_7_method_28_code 4 = .ok (.iconst 1, 1) := by decide +kernel
theorem dM_goesOn_5 : decode prog_7_method_28_code 5 = .ok (.isub, 1) := by decide +kernel
theorem dM_goesOn_6 : decode prog_7_method_28_code 6 = .ok (.istore_n 1, 1) := by decide +kernel
theorem dM_goesOn_7 : decode prog_7_method_28_code 7 = .ok (.aload_n 0, 1) := by decide +kernel
theorem dM_goesOn_8 : decode prog_7_method_28_code 8 = .ok (.getfield 87, 3) := by decide +kernel
theorem dM_goesOn_11 : decode prog_7_method_28_code 11 = .ok (.iload_n 1, 1) := by decide +kernel
theorem dM_goesOn_12 : decode prog_7_method_28_code 12 = .ok (.iaload, 1) := by decide +kernel
theorem dM_goesOn_13 : decode prog_7_method_28_code 13 = .ok (.istore_n 2, 1) := by decide +kernel
theorem dM_goesOn_14 : decode prog_7_method_28_code 14 = .ok (.aload_n 0, 1) := by decide +kernel
theorem dM_goesOn_15 : decode prog_7_method_28_code 15 = .ok (.getfield 19, 3) := by decide +kernel
theorem dM_goesOn_18 : decode prog_7_method_28_code 18 = .ok (.iload_n 2, 1) := by decide +kernel
theorem dM_goesOn_19 : decode prog_7_method_28_code 19 = .ok (.iaload, 1) := by decide +kernel
theorem dM_goesOn_20 : decode prog_7_method_28_code 20 = .ok (.tableswitch 49 0 2 #[28, 35, 42], 28) := by decide +kernel
theorem dM_goesOn_48 : decode prog_7_method_28_code 48 = .ok (.aload_n 0, 1) := by decide +kernel
theorem dM_goesOn_49 : decode prog_7_method_28_code 49 = .ok (.iload_n 1, 1) := by decide +kernel
theorem dM_goesOn_50 : decode prog_7_method_28_code 50 = .ok (.iload_n 2, 1) := by decide +kernel
theorem dM_goesOn_51 : decode prog_7_method_28_code 51 = .ok (.invokevirtual 196, 3) := by decide +kernel
theorem dM_goesOn_54 : decode prog_7_method_28_code 54 = .ok (.ireturn, 1) := by decide +kernel
theorem dM_goesOn_55 : decode prog_7_method_28_code 55 = .ok (.aload_n 0, 1) := by decide +kernel
theorem dM_goesOn_56 : decode prog_7_method_28_code 56 = .ok (.iload_n 1, 1) := by decide +kernel
theorem dM_goesOn_57 : decode prog_7_method_28_code 57 = .ok (.iload_n 2, 1) := by decide +kernel
theorem dM_goesOn_58 : decode prog_7_method_28_code 58 = .ok (.invokevirtual 198, 3) := by decide +kernel
theorem dM_goesOn_61 : decode prog_7_method_28_code 61 = .ok (.ireturn, 1) := by decide +kernel
theorem dM_goesOn_62 : decode prog_7_method_28_code 62 = .ok (.aload_n 0, 1) := by decide +kernel
theorem dM_goesOn_63 : decode prog_7_method_28_code 63 = .ok (.iload_n 1, 1) := by decide +kernel
theorem dM_goesOn_64 : decode prog_7_method_28_code 64 = .ok (.iload_n 2, 1) := by decide +kernel
theorem dM_goesOn_65 : decode prog_7_method_28_code 65 = .ok (.invokevirtual 201, 3) := by decide +kernel
theorem dM_goesOn_68 : decode prog_7_method_28_code 68 = .ok (.ireturn, 1) := by decide +kernel
theorem dM_goesOn_69 : decode prog_7_method_28_code 69 = .ok (.aload_n 0, 1) := by decide +kernel
theorem dM_goesOn_70 : decode prog_7_method_28_code 70 = .ok (.iload_n 1, 1) := by decide +kernel
theorem dM_goesOn_71 : decode prog_7_method_28_code 71 = .ok (.iload_n 2, 1) := by decide +kernel
theorem dM_goesOn_72 : decode prog_7_method_28_code 72 = .ok (.invokevirtual 204, 3) := by decide +kernel
theorem dM_goesOn_75 : decode prog_7_method_28_code 75 = .ok (.ireturn, 1) := by decide +kernel
theorem dM_ground_0 : decode prog_7_method_39_code 0 = .ok (.aload_n 0, 1) := by decide +kernel
theorem dM_ground_1 : decode prog_7_method_39_code 1 = .ok (.iconst 0, 1) := by decide +kernel
theorem dM_ground_2 : decode prog_7_method_39_code 2 = .ok (.putfield 115, 3) := by decide +kernel
theorem dM_ground_5 : decode prog_7_method_39_code 5 = .ok (.aload_n 0, 1) := by decide +kernel
theorem dM_ground_6 : decode prog_7_method_39_code 6 = .ok (.getfield 138, 3) := by decide +kernel
theorem dM_ground_9 : decode prog_7_method_39_code 9 = .ok (.ifCond .eq 36, 3) := by decide +kernel
theorem dM_ground_12 : decode prog_7_method_39_code 12 = .ok (.aload_n 0, 1) := by decide +kernel
theorem dM_ground_13 : decode prog_7_method_39_code 13 = .ok (.iload_n 1, 1) := by decide +kernel
theorem dM_ground_14 : decode prog_7_method_39_code 14 = .ok (.invokevirtual 149, 3) := by decide +kernel
theorem dM_ground_17 : decode prog_7_method_39_code 17 = .ok (.ifCond .eq 28, 3) := by decide +kernel
theorem dM_ground_20 : decode prog_7_method_39_code 20 = .ok (.iload_n 2, 1) := by decide +kernel
theorem dM_ground_21 : decode prog_7_method_39_code 21 = .ok (.invokestatic 145, 3) := by decide +kernel
theorem dM_ground_24 : decode prog_7_method_39_code 24 = .ok (.ifCond .eq 21, 3) := by decide +kernel
theorem dM_ground_27 : decode prog_7_method_39_code 27 = .ok (.aload_n 0, 1) := by decide +kernel
theorem dM_ground_28 : decode prog_7_method_39_code 28 = .ok (.aload_n 0, 1) := by decide +kernel
theorem dM_ground_29 : decode prog_7_method_39_code 29 = .ok (.getfield 62, 3) := by decide +kernel
theorem dM_ground_32 : decode prog_7_method_39_code 32 = .ok (.iload_n 1, 1) := by decide +kernel
theorem dM_ground_33 : decode prog_7_method_39_code 33 = .ok (.laload, 1) := by decide +kernel
theorem dM_ground_34 : decode prog_7_method_39_code 34 = .ok (.iload_n 2, 1) := by decide +kernel
theorem dM_ground_35 : decode prog_7_method_39_code 35 = .ok (.invokevirtual 163, 3) := by decide +kernel
theorem dM_ground_38 : decode prog_7_method_39_code 38 = .ok (.ifCond .eq 7, 3) := by decide +kernel
theorem dM_ground_41 : decode prog_7_method_39_code 41 = .ok (.iconst 1, 1) := by decide +kernel
theorem dM_ground_42 : decode prog_7_method_39_code 42 = .ok (.goto 4, 3) := by decide +kernel
theorem dM_ground_45 : decode prog_7_method_39_code 45 = .ok (.iconst 0, 1) := by decide +kernel
theorem dM_ground_46 : decode prog_7_method_39_code 46 = .ok (.ireturn, 1) := by decide +kernel
theorem dM_hasRow_0 : decode prog_7_method_12_code 0 = .ok (.iload_n 1, 1) := by decide +kernel
theorem dM_hasRow_1 : decode prog_7_method_12_code 1 = .ok (.bipush 6, 2) := by decide +kernel
theorem dM_hasRow_3 : decode prog_7_method_12_code 3 = .ok (.if_icmp .ge 16, 3) := by decide +kernel
theorem dM_hasRow_6 : decode prog_7_method_12_code 6 = .ok (.aload_n 0, 1) := by decide +kernel
theorem dM_hasRow_7 : decode prog_7_method_12_code 7 = .ok (.getfield 121, 3) := by decide +kernel
theorem dM_hasRow_10 : decode prog_7_method_12_code 10 = .ok (.ifCond .ne 7, 3) := by decide +kernel
theorem dM_hasRow_13 : decode prog_7_method_12_code 13 = .ok (.iconst 1, 1) := by decide +kernel
theorem dM_hasRow_14 : decode prog_7_method_12_code 14 = .ok (.goto 4, 3) := by decide +kernel
theorem dM_hasRow_17 : decode prog_7_method_12_code 17 = .ok (.iconst 0, 1) := by decide +kernel
theorem dM_hasRow_18 : decode prog_7_method_12_code 18 = .ok (.ireturn, 1) := by decide +kernel
theorem dM_hasRow_19 : decode prog_7_method_12_code 19 = .ok (.iload_n 1, 1) := by decide +kernel
theorem dM_hasRow_20 : decode prog_7_method_12_code 20 = .ok (.tableswitch 118 6 11 #[40, 40, 54, 76, 90, 103], 40) := by decide +kernel
theorem dM_hasRow_60 : decode prog_7_method_12_code 60 = .ok (.aload_n 0, 1) := by decide +kernel
theorem dM_hasRow_61 : decode prog_7_method_12_code 61 = .ok (.getfield 121, 3) := by decide +kernel
theorem dM_hasRow_64 : decode prog_7_method_12_code 64 = .ok (.iconst 2, 1) := by decide +kernel
theorem dM_hasRow_65 : decode prog_7_method_12_code 65 = .ok (.if_icmp .ne 7, 3) := by decide +kernel
theorem dM_hasRow_68 : decode prog_7_method_12_code 68 = .ok (.iconst 1, 1) := by decide +kernel
theorem dM_hasRow_69 : decode prog_7_method_12_code 69 = .ok (.goto 4, 3) := by decide +kernel
theorem dM_hasRow_72 : decode prog_7_method_12_code 72 = .ok (.iconst 0, 1) := by decide +kernel
theorem dM_hasRow_73 : decode prog_7_method_12_code 73 = .ok (.ireturn, 1) := by decide +kernel
theorem dM_hasRow_74 : decode prog_7_method_12_code 74 = .ok (.aload_n 0, 1) := by decide +kernel
theorem dM_hasRow_75 : decode prog_7_method_12_code 75 = .ok (.getfield 121, 3) := by decide +kernel
theorem dM_hasRow_78 : decode prog_7_method_12_code 78 = .ok (.ifCond .le 16, 3) := by decide +kernel
theorem dM_hasRow_81 : decode prog_7_method_12_code 81 = .ok (.aload_n 0, 1) := by decide +kernel
theorem dM_hasRow_82 : decode prog_7_method_12_code 82 = .ok (.getfield 121, 3) := by decide +kernel
theorem dM_hasRow_85 : decode prog_7_method_12_code 85 = .ok (.bipush 6, 2) := by decide +kernel
theorem dM_hasRow_87 : decode prog_7_method_12_code 87 = .ok (.if_icmp .ge 7, 3) := by decide +kernel
theorem dM_hasRow_90 : decode prog_7_method_12_code 90 = .ok (.iconst 1, 1) := by decide +kernel
theorem dM_hasRow_91 : decode prog_7_method_12_code 91 = .ok (.goto 4, 3) := by decide +kernel
theorem dM_hasRow_94 : decode prog_7_method_12_code 94 = .ok (.iconst 0, 1) := by decide +kernel
theorem dM_hasRow_95 : decode prog_7_method_12_code 95 = .ok (.ireturn, 1) := by decide +kernel
theorem dM_hasRow_96 : decode prog_7_method_12_code 96 = .ok (.aload_n 0, 1) := by decide +kernel
theorem dM_hasRow_97 : decode prog_7_method_12_code 97 = .ok (.getfield 121, 3) := by decide +kernel
theorem dM_hasRow_100 : decode prog_7_method_12_code 100 = .ok (.iconst 1, 1) := by decide +kernel
theorem dM_hasRow_101 : decode prog_7_method_12_code 101 = .ok (.if_icmp .ne 7, 3) := by decide +kernel
theorem dM_hasRow_104 : decode prog_7_method_12_code 104 = .ok (.iconst 1, 1) := by decide +kernel
theorem dM_hasRow_105 : decode prog_7_method_12_code 105 = .ok (.goto 4, 3) := by decide +kernel
theorem dM_hasRow_108 : decode prog_7_method_12_code 108 = .ok (.iconst 0, 1) := by decide +kernel
theorem dM_hasRow_109 : decode prog_7_method_12_code 109 = .ok (.ireturn, 1) := by decide +kernel
theorem dM_hasRow_110 : decode prog_7_method_12_code 110 = .ok (.aload_n 0, 1) := by decide +kernel
theorem dM_hasRow_111 : decode prog_7_method_12_code 111 = .ok (.getfield 121, 3) := by decide +kernel
theorem dM_hasRow_114 : decode prog_7_method_12_code 114 = .ok (.ifCond .le 7, 3) := by decide +kernel
theorem dM_hasRow_117 : decode prog_7_method_12_code 117 = .ok (.iconst 1, 1) := by decide +kernel
theorem dM_hasRow_118 : decode prog_7_method_12_code 118 = .ok (.goto 4, 3) := by decide +kernel
theorem dM_hasRow_121 : decode prog_7_method_12_code 121 = .ok (.iconst 0, 1) := by decide +kernel
theorem dM_hasRow_122 : decode prog_7_method_12_code 122 = .ok (.ireturn, 1) := by decide +kernel
theorem dM_hasRow_123 : decode prog_7_method_12_code 123 = .ok (.aload_n 0, 1) := by decide +kernel
theorem dM_hasRow_124 : decode prog_7_method_12_code 124 = .ok (.getfield 121, 3) := by decide +kernel
theorem dM_hasRow_127 : decode prog_7_method_12_code 127 = .ok (.bipush 7, 2) := by decide +kernel
theorem dM_hasRow_129 : decode prog_7_method_12_code 129 = .ok (.if_icmp .ge 7, 3) := by decide +kernel
theorem dM_hasRow_132 : decode prog_7_method_12_code 132 = .ok (.iconst 1, 1) := by decide +kernel
theorem dM_hasRow_133 : decode prog_7_method_12_code 133 = .ok (.goto 4, 3) := by decide +kernel
theorem dM_hasRow_136 : decode prog_7_method_12_code 136 = .ok (.iconst 0, 1) := by decide +kernel
theorem dM_hasRow_137 : decode prog_7_method_12_code 137 = .ok (.ireturn, 1) := by decide +kernel
theorem dM_hasRow_138 : decode prog_7_method_12_code 138 = .ok (.iload_n 2, 1) := by decide +kernel
theorem dM_hasRow_139 : decode prog_7_method_12_code 139 = .ok (.ifCond .lt 28, 3) := by decide +kernel
theorem dM_hasRow_142 : decode prog_7_method_12_code 142 = .ok (.iload_n 2, 1) := by decide +kernel
theorem dM_hasRow_143 : decode prog_7_method_12_code 143 = .ok (.aload_n 0, 1) := by decide +kernel
theorem dM_hasRow_144 : decode prog_7_method_12_code 144 = .ok (.getfield 142, 3) := by decide +kernel
theorem dM_hasRow_147 : decode prog_7_method_12_code 147 = .ok (.if_icmp .ge 20, 3) := by decide +kernel
theorem dM_hasRow_150 : decode prog_7_method_12_code 150 = .ok (.aload_n 0, 1) := by decide +kernel
theorem dM_hasRow_151 : decode prog_7_method_12_code 151 = .ok (.getfield 121, 3) := by decide +kernel
theorem dM_hasRow_154 : decode prog_7_method_12_code 154 = .ok (.aload_n 0, 1) := by decide +kernel
theorem dM_hasRow_155 : decode prog_7_method_12_code 155 = .ok (.getfield 7, 3) := by decide +kernel
theorem dM_hasRow_158 : decode prog_7_method_12_code 158 = .ok (.iload_n 2, 1) := by decide +kernel
theorem dM_hasRow_159 : decode prog_7_method_12_code 159 = .ok (.iaload, 1) := by decide +kernel
theorem dM_hasRow_160 : decode prog_7_method_12_code 160 = .ok (.if_icmp .ne 7, 3) := by decide +kernel
theorem dM_hasRow_163 : decode prog_7_method_12_code 163 = .ok (.iconst 1, 1) := by decide +kernel
theorem dM_hasRow_164 : decode prog_7_method_12_code 164 = .ok (.goto 4, 3) := by decide +kernel
theorem dM_hasRow_167 : decode prog_7_method_12_code 167 = .ok (.iconst 0, 1) := by decide +kernel
theorem dM_hasRow_168 : decode prog_7_method_12_code 168 = .ok (.ireturn, 1) := by decide +kernel
theorem dM_init_0 : decode prog_7_method_1_code 0 = .ok (.aload_n 0, 1) := by decide +kernel
theorem dM_init_1 : decode prog_7_method_1_code 1 = .ok (.invokespecial 1, 3) := by decide +kernel
theorem dM_init_4 : decode prog_7_method_1_code 4 = .ok (.aload_n 0, 1) := by decide +kernel
theorem dM_init_5 : decode prog_7_method_1_code 5 = .ok (.bipush 60, 2) := by decide +kernel
theorem dM_init_7 : decode prog_7_method_1_code 7 = .ok (.newarray .int, 2) := by decide +kernel
theorem dM_init_9 : decode prog_7_method_1_code 9 = .ok (.putfield 7, 3) := by decide +kernel
theorem dM_init_12 : decode prog_7_method_1_code 12 = .ok (.aload_n 0, 1) := by decide +kernel
theorem dM_init_13 : decode prog_7_method_1_code 13 = .ok (.bipush 60, 2) := by decide +kernel
theorem dM_init_15 : decode prog_7_method_1_code 15 = .ok (.newarray .int, 2) := by decide +kernel
theorem dM_init_17 : decode prog_7_method_1_code 17 = .ok (.putfield 13, 3) := by decide +kernel
theorem dM_init_20 : decode prog_7_method_1_code 20 = .ok (.aload_n 0, 1) := by decide +kernel
theorem dM_init_21 : decode prog_7_method_1_code 21 = .ok (.sipush 240, 3) := by decide +kernel
theorem dM_init_24 : decode prog_7_method_1_code 24 = .ok (.newarray .int, 2) := by decide +kernel
theorem dM_init_26 : decode prog_7_method_1_code 26 = .ok (.putfield 16, 3) := by decide +kernel
theorem dM_init_29 : decode prog_7_method_1_code 29 = .ok (.aload_n 0, 1) := by decide +kernel
theorem dM_init_30 : decode prog_7_method_1_code 30 = .ok (.sipush 250, 3) := by decide +kernel
theorem dM_init_33 : decode prog_7_method_1_code 33 = .ok (.newarray .int, 2) := by decide +kernel
theorem dM_init_35 : decode prog_7_method_1_code 35 = .ok (.putfield 19, 3) := by decide +kernel
theorem dM_init_38 : decode prog_7_method_1_code 38 = .ok (.aload_n 0, 1) := by decide +kernel
theorem dM_init_39 : decode prog_7_method_1_code 39 = .ok (.sipush 250, 3) := by decide +kernel
theorem dM_init_42 : decode prog_7_method_1_code 42 = .ok (.newarray .int, 2) := by decide +kernel
theorem dM_init_44 : decode prog_7_method_1_code 44 = .ok (.putfield 22, 3) := by decide +kernel
theorem dM_init_47 : decode prog_7_method_1_code 47 = .ok (.aload_n 0, 1) := by decide +kernel
theorem dM_init_48 : decode prog_7_method_1_code 48 = .ok (.sipush 250, 3) := by decide +kernel
theorem dM_init_51 : decode prog_7_method_1_code 51 = .ok (.newarray .int, 2) := by decide +kernel
theorem dM_init_53 : decode prog_7_method_1_code 53 = .ok (.putfield 25, 3) := by decide +kernel
theorem dM_init_56 : decode prog_7_method_1_code 56 = .ok (.aload_n 0, 1) := by decide +kernel
theorem dM_init_57 : decode prog_7_method_1_code 57 = .ok (.sipush 250, 3) := by decide +kernel
theorem dM_init_60 : decode prog_7_method_1_code 60 = .ok (.newarray .int, 2) := by decide +kernel
theorem dM_init_62 : decode prog_7_method_1_code 62 = .ok (.putfield 28, 3) := by decide +kernel
theorem dM_init_65 : decode prog_7_method_1_code 65 = .ok (.aload_n 0, 1) := by decide +kernel
theorem dM_init_66 : decode prog_7_method_1_code 66 = .ok (.sipush 250, 3) := by decide +kernel
theorem dM_init_69 : decode prog_7_method_1_code 69 = .ok (.newarray .int, 2) := by decide +kernel
theorem dM_init_71 : decode prog_7_method_1_code 71 = .ok (.putfield 31, 3) := by decide +kernel
theorem dM_init_74 : decode prog_7_method_1_code 74 = .ok (.aload_n 0, 1) := by decide +kernel
theorem dM_init_75 : decode prog_7_method_1_code 75 = .ok (.sipush 250, 3) := by decide +kernel
theorem dM_init_78 : decode prog_7_method_1_code 78 = .ok (.newarray .int, 2) := by decide +kernel
theorem dM_init_80 : decode prog_7_method_1_code 80 = .ok (.putfield 34, 3) := by decide +kernel
theorem dM_init_83 : decode prog_7_method_1_code 83 = .ok (.aload_n 0, 1) := by decide +kernel
theorem dM_init_84 : decode prog_7_method_1_code 84 = .ok (.sipush 250, 3) := by decide +kernel
theorem dM_init_87 : decode prog_7_method_1_code 87 = .ok (.newarray .int, 2) := by decide +kernel
theorem dM_init_89 : decode prog_7_method_1_code 89 = .ok (.putfield 37, 3) := by decide +kernel
theorem dM_init_92 : decode prog_7_method_1_code 92 = .ok (.aload_n 0, 1) := by decide +kernel
theorem dM_init_93 : decode prog_7_method_1_code 93 = .ok (.sipush 250, 3) := by decide +kernel
theorem dM_init_96 : decode prog_7_method_1_code 96 = .ok (.newarray .int, 2) := by decide +kernel
theorem dM_init_98 : decode prog_7_method_1_code 98 = .ok (.putfield 40, 3) := by decide +kernel
theorem dM_init_101 : decode prog_7_method_1_code 101 = .ok (.aload_n 0, 1) := by decide +kernel
theorem dM_init_102 : decode prog_7_method_1_code 102 = .ok (.sipush 250, 3) := by decide +kernel
theorem dM_init_105 : decode prog_7_method_1_code 105 = .ok (.newarray .int, 2) := by decide +kernel
theorem dM_init_107 : decode prog_7_method_1_code 107 = .ok (.putfield 43, 3) := by decide +kernel
theorem dM_init_110 : decode prog_7_method_1_code 110 = .ok (.aload_n 0, 1) := by decide +kernel
theorem dM_init_111 : decode prog_7_method_1_code 111 = .ok (.sipush 1750, 3) := by decide +kernel
theorem dM_init_114 : decode prog_7_method_1_code 114 = .ok (.newarray .int, 2) := by decide +kernel
theorem dM_init_116 : decode prog_7_method_1_code 116 = .ok (.putfield 46, 3) := by decide +kernel
theorem dM_init_119 : decode prog_7_method_1_code 119 = .ok (.aload_n 0, 1) := by decide +kernel
theorem dM_init_120 : decode prog_7_method_1_code 120 = .ok (.bipush 7, 2) := by decide +kernel
theorem dM_init_122 : decode prog_7_method_1_code 122 = .ok (.newarray .int, 2) := by decide +kernel
theorem dM_init_124 : decode prog_7_method_1_code 124 = .ok (.putfield 49, 3) := by decide +kernel
theorem dM_init_127 : decode prog_7_method_1_code 127 = .ok (.aload_n 0, 1) := by decide +kernel
theorem dM_init_128 : decode prog_7_method_1_code 128 = .ok (.sipush 15000, 3) := by decide +kernel
theorem dM_init_131 : decode prog_7_method_1_code 131 = .ok (.newarray .int, 2) := by decide +kernel
theorem dM_init_133 : decode prog_7_method_1_code 133 = .ok (.putfield 52, 3) := by decide +kernel
theorem dM_init_136 : decode prog_7_method_1_code 136 = .ok (.aload_n 0, 1) := by decide +kernel
theorem dM_init_137 : decode prog_7_method_1_code 137 = .ok (.sipush 250, 3) := by decide +kernel
theorem dM_init_140 : decode prog_7_method_1_code 140 = .ok (.newarray .long, 2) := by decide +kernel
theorem dM_init_142 : decode prog_7_method_1_code 142 = .ok (.putfield 55, 3) := by decide +kernel
theorem dM_init_145 : decode prog_7_method_1_code 145 = .ok (.aload_n 0, 1) := by decide +kernel
theorem dM_init_146 : decode prog_7_method_1_code 146 = .ok (.sipush 250, 3) := by decide +kernel
theorem dM_init_149 : decode prog_7_method_1_code 149 = .ok (.newarray .long, 2) := by decide +kernel
theorem dM_init_151 : decode prog_7_method_1_code 151 = .ok (.putfield 59, 3) := by decide +kernel
theorem dM_init_154 : decode prog_7_method_1_code 154 = .ok (.aload_n 0, 1) := by decide +kernel
theorem dM_init_155 : decode prog_7_method_1_code 155 = .ok (.sipush 250, 3) := by decide +kernel
theorem dM_init_158 : decode prog_7_method_1_code 158 = .ok (.newarray .long, 2) := by decide +kernel
theorem dM_init_160 : decode prog_7_method_1_code 160 = .ok (.putfield 62, 3) := by decide +kernel
theorem dM_init_163 : decode prog_7_method_1_code 163 = .ok (.aload_n 0, 1) := by decide +kernel
theorem dM_init_164 : decode prog_7_method_1_code 164 = .ok (.sipush 250, 3) := by decide +kernel
theorem dM_init_167 : decode prog_7_method_1_code 167 = .ok (.newarray .long, 2) := by decide +kernel
theorem dM_init_169 : decode prog_7_method_1_code 169 = .ok (.putfield 65, 3) := by decide +kernel
theorem dM_init_172 : decode prog_7_method_1_code 172 = .ok (.aload_n 0, 1) := by decide +kernel
theorem dM_init_173 : decode prog_7_method_1_code 173 = .ok (.sipush 250, 3) := by decide +kernel
theorem dM_init_176 : decode prog_7_method_1_code 176 = .ok (.newarray .boolean, 2) := by decide +kernel
theorem dM_init_178 : decode prog_7_method_1_code 178 = .ok (.putfield 68, 3) := by decide +kernel
theorem dM_init_181 : decode prog_7_method_1_code 181 = .ok (.aload_n 0, 1) := by decide +kernel
theorem dM_init_182 : decode prog_7_method_1_code 182 = .ok (.sipush 250, 3) := by decide +kernel
theorem dM_init_185 : decode prog_7_method_1_code 185 = .ok (.newarray .boolean, 2) := by decide +kernel
theorem dM_init_187 : decode prog_7_method_1_code 187 = .ok (.putfield 72, 3) := by decide +kernel
theorem dM_init_190 : decode prog_7_method_1_code 190 = .ok (.aload_n 0, 1) := by decide +kernel
theorem dM_init_191 : decode prog_7_method_1_code 191 = .ok (.sipush 250, 3) := by decide +kernel
theorem dM_init_194 : decode prog_7_method_1_code 194 = .ok (.newarray .int, 2) := by decide +kernel
theorem dM_init_196 : decode prog_7_method_1_code 196 = .ok (.putfield 75, 3) := by decide +kernel
theorem dM_init_199 : decode prog_7_method_1_code 199 = .ok (.aload_n 0, 1) := by decide +kernel
theorem dM_init_200 : decode prog_7_method_1_code 200 = .ok (.sipush 250, 3) := by decide +kernel
theorem dM_init_203 : decode prog_7_method_1_code 203 = .ok (.newarray .int, 2) := by decide +kernel
theorem dM_init_205 : decode prog_7_method_1_code 205 = .ok (.putfield 78, 3) := by decide +kernel
theorem dM_init_208 : decode prog_7_method_1_code 208 = .ok (.aload_n 0, 1) := by decide +kernel
theorem dM_init_209 : decode prog_7_method_1_code 209 = .ok (.sipush 250, 3) := by decide +kernel
theorem dM_init_212 : decode prog_7_method_1_code 212 = .ok (.newarray .int, 2) := by decide +kernel
theorem dM_init_214 : decode prog_7_method_1_code 214 = .ok (.putfield 81, 3) := by decide +kernel
theorem dM_init_217 : decode prog_7_method_1_code 217 = .ok (.aload_n 0, 1) := by decide +kernel
theorem dM_init_218 : decode prog_7_method_1_code 218 = .ok (.sipush 250, 3) := by decide +kernel
theorem dM_init_221 : decode prog_7_method_1_code 221 = .ok (.newarray .int, 2) := by decide +kernel
theorem dM_init_223 : decode prog_7_method_1_code 223 = .ok (.putfield 84, 3) := by decide +kernel
theorem dM_init_226 : decode prog_7_method_1_code 226 = .ok (.aload_n 0, 1) := by decide +kernel
theorem dM_init_227 : decode prog_7_method_1_code 227 = .ok (.bipush 40, 2) := by decide +kernel
theorem dM_init_229 : decode prog_7_method_1_code 229 = .ok (.newarray .int, 2) := by decide +kernel
theorem dM_init_231 : decode prog_7_method_1_code 231 = .ok (.putfield 87, 3) := by decide +kernel
theorem dM_init_234 : decode prog_7_method_1_code 234 = .ok (.aload_n 0, 1) := by decide +kernel
theorem dM_init_235 : decode prog_7_method_1_code 235 = .ok (.bipush 40, 2) := by decide +kernel
theorem dM_init_237 : decode prog_7_method_1_code 237 = .ok (.newarray .int, 2) := by decide +kernel
theorem dM_init_239 : decode prog_7_method_1_code 239 = .ok (.putfield 90, 3) := by decide +kernel
theorem dM_init_242 : decode prog_7_method_1_code 242 = .ok (.aload_n 0, 1) := by decide +kernel
theorem dM_init_243 : decode prog_7_method_1_code 243 = .ok (.bipush 40, 2) := by decide +kernel
theorem dM_init_245 : decode prog_7_method_1_code 245 = .ok (.newarray .int, 2) := by decide +kernel
theorem dM_init_247 : decode prog_7_method_1_code 247 = .ok (.putfield 93, 3) := by decide +kernel
theorem dM_init_250 : decode prog_7_method_1_code 250 = .ok (.aload_n 0, 1) := by decide +kernel
theorem dM_init_251 : decode prog_7_method_1_code 251 = .ok (.bipush 40, 2) := by decide +kernel
theorem dM_init_253 : decode prog_7_method_1_code 253 = .ok (.newarray .int, 2) := by decide +kernel
theorem dM_init_255 : decode prog_7_method_1_code 255 = .ok (.putfield 96, 3) := by decide +kernel
theorem dM_init_258 : decode prog_7_method_1_code 258 = .ok (.aload_n 0, 1) := by decide +kernel
theorem dM_init_259 : decode prog_7_method_1_code 259 = .ok (.bipush 40, 2) := by decide +kernel
theorem dM_init_261 : decode prog_7_method_1_code 261 = .ok (.newarray .long, 2) := by decide +kernel
theorem dM_init_263 : decode prog_7_method_1_code 263 = .ok (.putfield 99, 3) := by decide +kernel
theorem dM_init_266 : decode prog_7_method_1_code 266 = .ok (.aload_n 0, 1) := by decide +kernel
theorem dM_init_267 : decode prog_7_method_1_code 267 = .ok (.bipush 40, 2) := by decide +kernel
theorem dM_init_269 : decode prog_7_method_1_code 269 = .ok (.newarray .long, 2) := by decide +kernel
theorem dM_init_271 : decode prog_7_method_1_code 271 = .ok (.putfield 102, 3) := by decide +kernel
theorem dM_init_274 : decode prog_7_method_1_code 274 = .ok (.aload_n 0, 1) := by decide +kernel
theorem dM_init_275 : decode prog_7_method_1_code 275 = .ok (.bipush 40, 2) := by decide +kernel
theorem dM_init_277 : decode prog_7_method_1_code 277 = .ok (.newarray .long, 2) := by decide +kernel
theorem dM_init_279 : decode prog_7_method_1_code 279 = .ok (.putfield 105, 3) := by decide +kernel
theorem dM_init_282 : decode prog_7_method_1_code 282 = .ok (.aload_n 0, 1) := by decide +kernel
theorem dM_init_283 : decode prog_7_method_1_code 283 = .ok (.iconst (-1), 1) := by decide +kernel
theorem dM_init_284 : decode prog_7_method_1_code 284 = .ok (.putfield 108, 3) := by decide +kernel
theorem dM_init_287 : decode prog_7_method_1_code 287 = .ok (.aload_n 0, 1) := by decide +kernel
theorem dM_init_288 : decode prog_7_method_1_code 288 = .ok (.invokevirtual 112, 3) := by decide +kernel
theorem dM_init_291 : decode prog_7_method_1_code 291 = .ok (.return_, 1) := by decide +kernel
theorem dM_isIn_0 : decode prog_7_method_19_code 0 = .ok (.lload_n 1, 1) := by decide +kernel
theorem dM_isIn_1 : decode prog_7_method_19_code 1 = .ok (.iload_n 3, 1) := by decide +kernel
theorem dM_isIn_2 : decode prog_7_method_19_code 2 = .ok (.lshr, 1) := by decide +kernel
theorem dM_isIn_3 : decode prog_7_method_19_code 3 = .ok (.lconst 1, 1) := by decide +kernel
theorem dM_isIn_4 : decode prog_7_method_19_code 4 = .ok (.land, 1) := by decide +kernel
theorem dM_isIn_5 : decode prog_7_method_19_code 5 = .ok (.lconst 1, 1) := by decide +kernel
theorem dM_isIn_6 : decode prog_7_method_19_code 6 = .ok (.lcmp, 1) := by decide +kernel
theorem dM_isIn_7 : decode prog_7_method_19_code 7 = .ok (.ifCond .ne 7, 3) := by decide +kernel
theorem dM_isIn_10 : decode prog_7_method_19_code 10 = .ok (.iconst 1, 1) := by decide +kernel
theorem dM_isIn_11 : decode prog_7_method_19_code 11 = .ok (.goto 4, 3) := by decide +kernel
theorem dM_isIn_14 : decode prog_7_method_19_code 14 = .ok (.iconst 0, 1) := by decide +kernel
theorem dM_isIn_15 : decode prog_7_method_19_code 15 = .ok (.ireturn, 1) := by decide +kernel
theorem dM_isNode_0 : decode prog_7_method_10_code 0 = .ok (.iload_n 1, 1) := by decide +kernel
theorem dM_isNode_1 : decode prog_7_method_10_code 1 = .ok (.ifCond .lt 15, 3) := by decide +kernel
theorem dM_isNode_4 : decode prog_7_method_10_code 4 = .ok (.iload_n 1, 1) := by decide +kernel
theorem dM_isNode_5 : decode prog_7_method_10_code 5 = .ok (.aload_n 0, 1) := by decide +kernel
theorem dM_isNode_6 : decode prog_7_method_10_code 6 = .ok (.getfield 118, 3) := by decide +kernel
theorem dM_isNode_9 : decode prog_7_method_10_code 9 = .ok (.if_icmp .ge 7, 3) := by decide +kernel
theorem dM_isNode_12 : decode prog_7_method_10_code 12 = .ok (.iconst 1, 1) := by decide +kernel
theorem dM_isNode_13 : decode prog_7_method_10_code 13 = .ok (.goto 4, 3) := by decide +kernel
theorem dM_isNode_16 : decode prog_7_method_10_code 16 = .ok (.iconst 0, 1) := by decide +kernel
theorem dM_isNode_17 : decode prog_7_method_10_code 17 = .ok (.ireturn, 1) := by decide +kernel
theorem dM_isParent_0 : decode prog_7_method_11_code 0 = .ok (.aload_n 0, 1) := by decide +kernel
theorem dM_isParent_1 : decode prog_7_method_11_code 1 = .ok (.getfield 118, 3) := by decide +kernel
theorem dM_isParent_4 : decode prog_7_method_11_code 4 = .ok (.sipush 250, 3) := by decide +kernel
theorem dM_isParent_7 : decode prog_7_method_11_code 7 = .ok (.if_icmp .eq 32, 3) := by decide +kernel
theorem dM_isParent_10 : decode prog_7_method_11_code 10 = .ok (.aload_n 0, 1) := by decide +kernel
theorem dM_isParent_11 : decode prog_7_method_11_code 11 = .ok (.iload_n 1, 1) := by decide +kernel
theorem dM_isParent_12 : decode prog_7_method_11_code 12 = .ok (.invokevirtual 149, 3) := by decide +kernel
theorem dM_isParent_15 : decode prog_7_method_11_code 15 = .ok (.ifCond .eq 24, 3) := by decide +kernel
theorem dM_isParent_18 : decode prog_7_method_11_code 18 = .ok (.aload_n 0, 1) := by decide +kernel
theorem dM_isParent_19 : decode prog_7_method_11_code 19 = .ok (.getfield 19, 3) := by decide +kernel
theorem dM_isParent_22 : decode prog_7_method_11_code 22 = .ok (.iload_n 1, 1) := by decide +kernel
theorem dM_isParent_23 : decode prog_7_method_11_code 23 = .ok (.iaload, 1) := by decide +kernel
theorem dM_isParent_24 : decode prog_7_method_11_code 24 = .ok (.iconst 3, 1) := by decide +kernel
theorem dM_isParent_25 : decode prog_7_method_11_code 25 = .ok (.if_icmp .gt 14, 3) := by decide +kernel
theorem dM_isParent_28 : decode prog_7_method_11_code 28 = .ok (.aload_n 0, 1) := by decide +kernel
theorem dM_isParent_29 : decode prog_7_method_11_code 29 = .ok (.getfield 22, 3) := by decide +kernel
theorem dM_isParent_32 : decode prog_7_method_11_code 32 = .ok (.iload_n 1, 1) := by decide +kernel
theorem dM_isParent_33 : decode prog_7_method_11_code 33 = .ok (.iaload, 1) := by decide +kernel
theorem dM_isParent_34 : decode prog_7_method_11_code 34 = .ok (.bipush 20, 2) := by decide +kernel
theorem dM_isParent_36 : decode prog_7_method_11_code 36 = .ok (.if_icmp .ne 5, 3) := by decide +kernel
theorem dM_isParent_39 : decode prog_7_method_11_code 39 = .ok (.iconst 0, 1) := by decide +kernel
theorem dM_isParent_40 : decode prog_7_method_11_code 40 = .ok (.ireturn, 1) := by decide +kernel
theorem dM_isParent_41 : decode prog_7_method_11_code 41 = .ok (.aload_n 0, 1) := by decide +kernel
theorem dM_isParent_42 : decode prog_7_method_11_code 42 = .ok (.getfield 19, 3) := by decide +kernel
theorem dM_isParent_45 : decode prog_7_method_11_code 45 = .ok (.iload_n 1, 1) := by decide +kernel
theorem dM_isParent_46 : decode prog_7_method_11_code 46 = .ok (.iaload, 1) := by decide +kernel
theorem dM_isParent_47 : decode prog_7_method_11_code 47 = .ok (.iconst 2, 1) := by decide +kernel
theorem dM_isParent_48 : decode prog_7_method_11_code 48 = .ok (.if_icmp .ne 13, 3) := by decide +kernel
theorem dM_isParent_51 : decode prog_7_method_11_code 51 = .ok (.aload_n 0, 1) := by decide +kernel
theorem dM_isParent_52 : decode prog_7_method_11_code 52 = .ok (.getfield 28, 3) := by decide +kernel
theorem dM_isParent_55 : decode prog_7_method_11_code 55 = .ok (.iload_n 1, 1) := by decide +kernel
theorem dM_isParent_56 : decode prog_7_method_11_code 56 = .ok (.iaload, 1) := by decide +kernel
theorem dM_isParent_57 : decode prog_7_method_11_code 57 = .ok (.iconst 1, 1) := by decide +kernel
theorem dM_isParent_58 : decode prog_7_method_11_code 58 = .ok (.if_icmp .eq 27, 3) := by decide +kernel
theorem dM_isParent_61 : decode prog_7_method_11_code 61 = .ok (.aload_n 0, 1) := by decide +kernel
theorem dM_isParent_62 : decode prog_7_method_11_code 62 = .ok (.getfield 19, 3) := by decide +kernel
theorem dM_isParent_65 : decode prog_7_method_11_code 65 = .ok (.iload_n 1, 1) := by decide +kernel
theorem dM_isParent_66 : decode prog_7_method_11_code 66 = .ok (.iaload, 1) := by decide +kernel
theorem dM_isParent_67 : decode prog_7_method_11_code 67 = .ok (.iconst 3, 1) := by decide +kernel
theorem dM_isParent_68 : decode prog_7_method_11_code 68 = .ok (.if_icmp .ne 13, 3) := by decide +kernel
theorem dM_isParent_71 : decode prog_7_method_11_code 71 = .ok (.aload_n 0, 1) := by decide +kernel
theorem dM_isParent_72 : decode prog_7_method_11_code 72 = .ok (.getfield 28, 3) := by decide +kernel
theorem dM_isParent_75 : decode prog_7_method_11_code 75 = .ok (.iload_n 1, 1) := by decide +kernel
theorem dM_isParent_76 : decode prog_7_method_11_code 76 = .ok (.iaload, 1) := by decide +kernel
theorem dM_isParent_77 : decode prog_7_method_11_code 77 = .ok (.iconst 3, 1) := by decide +kernel
theorem dM_isParent_78 : decode prog_7_method_11_code 78 = .ok (.if_icmp .eq 7, 3) := by decide +kernel
theorem dM_isParent_81 : decode prog_7_method_11_code 81 = .ok (.iconst 1, 1) := by decide +kernel
theorem dM_isParent_82 : decode prog_7_method_11_code 82 = .ok (.goto 4, 3) := by decide +kernel
theorem dM_isParent_85 : decode prog_7_method_11_code 85 = .ok (.iconst 0, 1) := by decide +kernel
theorem dM_isParent_86 : decode prog_7_method_11_code 86 = .ok (.ireturn, 1) := by decide +kernel
theorem dM_isVariable_0 : decode prog_7_method_8_code 0 = .ok (.iload_n 0, 1) := by decide +kernel
theorem dM_isVariable_1 : decode prog_7_method_8_code 1 = .ok (.ifCond .lt 13, 3) := by decide +kernel
theorem dM_isVariable_4 : decode prog_7_method_8_code 4 = .ok (.iload_n 0, 1) := by decide +kernel
theorem dM_isVariable_5 : decode prog_7_method_8_code 5 = .ok (.bipush 60, 2) := by decide +kernel
theorem dM_isVariable_7 : decode prog_7_method_8_code 7 = .ok (.if_icmp .ge 7, 3) := by decide +kernel
theorem dM_isVariable_10 : decode prog_7_method_8_code 10 = .ok (.iconst 1, 1) := by decide +kernel
theorem dM_isVariable_11 : decode prog_7_method_8_code 11 = .ok (.goto 4, 3) := by decide +kernel
theorem dM_isVariable_14 : decode prog_7_method_8_code 14 = .ok (.iconst 0, 1) := by decide +kernel
theorem dM_isVariable_15 : decode prog_7_method_8_code 15 = .ok (.ireturn, 1) := by decide +kernel
theorem dM_look_0 : decode prog_7_method_18_code 0 = .ok (.iconst 0, 1) := by decide +kernel
theorem dM_look_1 : decode prog_7_method_18_code 1 = .ok (.istore_n 1, 1) := by decide +kernel
theorem dM_look_2 : decode prog_7_method_18_code 2 = .ok (.iload_n 1, 1) := by decide +kernel
theorem dM_look_3 : decode prog_7_method_18_code 3 = .ok (.bipush 60, 2) := by decide +kernel
theorem dM_look_5 : decode prog_7_method_18_code 5 = .ok (.aload_n 0, 1) := by decide +kernel
theorem dM_look_6 : decode prog_7_method_18_code 6 = .ok (.getfield 118, 3) := by decide +kernel
theorem dM_look_9 : decode prog_7_method_18_code 9 = .ok (.imul, 1) := by decide +kernel
theorem dM_look_10 : decode prog_7_method_18_code 10 = .ok (.if_icmp .ge 16, 3) := by decide +kernel
theorem dM_look_13 : decode prog_7_method_18_code 13 = .ok (.aload_n 0, 1) := by decide +kernel
theorem dM_look_14 : decode prog_7_method_18_code 14 = .ok (.getfield 52, 3) := by decide +kernel
theorem dM_look_17 : decode prog_7_method_18_code 17 = .ok (.iload_n 1, 1) := by decide +kernel
theorem dM_look_18 : decode prog_7_method_18_code 18 = .ok (.iconst 0, 1) := by decide +kernel
theorem dM_look_19 : decode prog_7_method_18_code 19 = .ok (.iastore, 1) := by decide +kernel
theorem dM_look_20 : decode prog_7_method_18_code 20 = .ok (.iinc 1 1, 3) := by decide +kernel
theorem dM_look_23 : decode prog_7_method_18_code 23 = .ok (.goto (-21), 3) := by decide +kernel
theorem dM_look_26 : decode prog_7_method_18_code 26 = .ok (.iconst 0, 1) := by decide +kernel
theorem dM_look_27 : decode prog_7_method_18_code 27 = .ok (.istore_n 1, 1) := by decide +kernel
theorem dM_look_28 : decode prog_7_method_18_code 28 = .ok (.iload_n 1, 1) := by decide +kernel
theorem dM_look_29 : decode prog_7_method_18_code 29 = .ok (.aload_n 0, 1) := by decide +kernel
theorem dM_look_30 : decode prog_7_method_18_code 30 = .ok (.getfield 118, 3) := by decide +kernel
theorem dM_look_33 : decode prog_7_method_18_code 33 = .ok (.if_icmp .ge 89, 3) := by decide +kernel
theorem dM_look_36 : decode prog_7_method_18_code 36 = .ok (.aload_n 0, 1) := by decide +kernel
theorem dM_look_37 : decode prog_7_method_18_code 37 = .ok (.getfield 19, 3) := by decide +kernel
theorem dM_look_40 : decode prog_7_method_18_code 40 = .ok (.iload_n 1, 1) := by decide +kernel
theorem dM_look_41 : decode prog_7_method_18_code 41 = .ok (.iaload, 1) := by decide +kernel
theorem dM_look_42 : decode prog_7_method_18_code 42 = .ok (.iconst 3, 1) := by decide +kernel
theorem dM_look_43 : decode prog_7_method_18_code 43 = .ok (.if_icmp .gt 6, 3) := by decide +kernel
theorem dM_look_46 : decode prog_7_method_18_code 46 = .ok (.goto 70, 3) := by decide +kernel
theorem dM_look_49 : decode prog_7_method_18_code 49 = .ok (.aload_n 0, 1) := by decide +kernel
theorem dM_look_50 : decode prog_7_method_18_code 50 = .ok (.iload_n 1, 1) := by decide +kernel
theorem dM_look_51 : decode prog_7_method_18_code 51 = .ok (.iconst 0, 1) := by decide +kernel
theorem dM_look_52 : decode prog_7_method_18_code 52 = .ok (.invokevirtual 159, 3) := by decide +kernel
theorem dM_look_55 : decode prog_7_method_18_code 55 = .ok (.lstore_n 2, 1) := by decide +kernel
theorem dM_look_56 : decode prog_7_method_18_code 56 = .ok (.iload_n 1, 1) := by decide +kernel
theorem dM_look_57 : decode prog_7_method_18_code 57 = .ok (.istore 4, 2) := by decide +kernel
theorem dM_look_59 : decode prog_7_method_18_code 59 = .ok (.iload 4, 2) := by decide +kernel
theorem dM_look_61 : decode prog_7_method_18_code 61 = .ok (.iconst (-1), 1) := by decide +kernel
theorem dM_look_62 : decode prog_7_method_18_code 62 = .ok (.if_icmp .eq 54, 3) := by decide +kernel
theorem dM_look_65 : decode prog_7_method_18_code 65 = .ok (.iconst 0, 1) := by decide +kernel
theorem dM_look_66 : decode prog_7_method_18_code 66 = .ok (.istore 5, 2) := by decide +kernel
theorem dM_look_68 : decode prog_7_method_18_code 68 = .ok (.iload 5, 2) := by decide +kernel
theorem dM_look_70 : decode prog_7_method_18_code 70 = .ok (.bipush 60, 2) := by decide +kernel
theorem dM_look_72 : decode prog_7_method_18_code 72 = .ok (.if_icmp .ge 32, 3) := by decide +kernel
theorem dM_look_75 : decode prog_7_method_18_code 75 = .ok (.aload_n 0, 1) := by decide +kernel
theorem dM_look_76 : decode prog_7_method_18_code 76 = .ok (.getfield 52, 3) := by decide +kernel
theorem dM_look_79 : decode prog_7_method_18_code 79 = .ok (.bipush 60, 2) := by decide +kernel
theorem dM_look_81 : decode prog_7_method_18_code 81 = .ok (.iload 4, 2) := by decide +kernel
theorem dM_look_83 : decode prog_7_method_18_code 83 = .ok (.imul, 1) := by decide +kernel
theorem dM_look_84 : decode prog_7_method_18_code 84 = .ok (.iload 5, 2) := by decide +kernel
theorem dM_look_86 : decode prog_7_method_18_code 86 = .ok (.iadd, 1) := by decide +kernel
theorem dM_look_87 : decode prog_7_method_18_code 87 = .ok (.dup2, 1) := by decide +kernel
theorem dM_look_88 : decode prog_7_method_18_code 88 = .ok (.iaload, 1) := by decide +kernel
theorem dM_look_89 : decode prog_7_method_18_code 89 = .ok (.lload_n 2, 1) := by decide +kernel
theorem dM_look_90 : decode prog_7_method_18_code 90 = .ok (.iload 5, 2) := by decide +kernel
theorem dM_look_92 : decode prog_7_method_18_code 92 = .ok (.lshr, 1) := by decide +kernel
theorem dM_look_93 : decode prog_7_method_18_code 93 = .ok (.lconst 1, 1) := by decide +kernel
theorem dM_look_94 : decode prog_7_method_18_code 94 = .ok (.land, 1) := by decide +kernel
theorem dM_look_95 : decode prog_7_method_18_code 95 = .ok (.l2i, 1) := by decide +kernel
theorem dM_look_96 : decode prog_7_method_18_code 96 = .ok (.iadd, 1) := by decide +kernel
theorem dM_look_97 : decode prog_7_method_18_code 97 = .ok (.iastore, 1) := by decide +kernel
theorem dM_look_98 : decode prog_7_method_18_code 98 = .ok (.iinc 5 1, 3) := by decide +kernel
theorem dM_look_101 : decode prog_7_method_18_code 101 = .ok (.goto (-33), 3) := by decide +kernel
theorem dM_look_104 : decode prog_7_method_18_code 104 = .ok (.aload_n 0, 1) := by decide +kernel
theorem dM_look_105 : decode prog_7_method_18_code 105 = .ok (.getfield 25, 3) := by decide +kernel
theorem dM_look_108 : decode prog_7_method_18_code 108 = .ok (.iload 4, 2) := by decide +kernel
theorem dM_look_110 : decode prog_7_method_18_code 110 = .ok (.iaload, 1) := by decide +kernel
theorem dM_look_111 : decode prog_7_method_18_code 111 = .ok (.istore 4, 2) := by decide +kernel
theorem dM_look_113 : decode prog_7_method_18_code 113 = .ok (.goto (-54), 3) := by decide +kernel
theorem dM_look_116 : decode prog_7_method_18_code 116 = .ok (.iinc 1 1, 3) := by decide +kernel
theorem dM_look_119 : decode prog_7_method_18_code 119 = .ok (.goto (-91), 3) := by decide +kernel
theorem dM_look_122 : decode prog_7_method_18_code 122 = .ok (.iconst 0, 1) := by decide +kernel
theorem dM_look_123 : decode prog_7_method_18_code 123 = .ok (.istore_n 1, 1) := by decide +kernel
theorem dM_look_124 : decode prog_7_method_18_code 124 = .ok (.iload_n 1, 1) := by decide +kernel
theorem dM_look_125 : decode prog_7_method_18_code 125 = .ok (.aload_n 0, 1) := by decide +kernel
theorem dM_look_126 : decode prog_7_method_18_code 126 = .ok (.getfield 118, 3) := by decide +kernel
theorem dM_look_129 : decode prog_7_method_18_code 129 = .ok (.if_icmp .ge 98, 3) := by decide +kernel
theorem dM_look_132 : decode prog_7_method_18_code 132 = .ok (.aload_n 0, 1) := by decide +kernel
theorem dM_look_133 : decode prog_7_method_18_code 133 = .ok (.getfield 55, 3) := by decide +kernel
theorem dM_look_136 : decode prog_7_method_18_code 136 = .ok (.iload_n 1, 1) := by decide +kernel
theorem dM_look_137 : decode prog_7_method_18_code 137 = .ok (.aload_n 0, 1) := by decide +kernel
theorem dM_look_138 : decode prog_7_method_18_code 138 = .ok (.getfield 128, 3) := by decide +kernel
theorem dM_look_141 : decode prog_7_method_18_code 141 = .ok (.lastore, 1) := by decide +kernel
theorem dM_look_142 : decode prog_7_method_18_code 142 = .ok (.aload_n 0, 1) := by decide +kernel
theorem dM_look_143 : decode prog_7_method_18_code 143 = .ok (.getfield 59, 3) := by decide +kernel
theorem dM_look_146 : decode prog_7_method_18_code 146 = .ok (.iload_n 1, 1) := by decide +kernel
theorem dM_look_147 : decode prog_7_method_18_code 147 = .ok (.lconst 0, 1) := by decide +kernel
theorem dM_look_148 : decode prog_7_method_18_code 148 = .ok (.lastore, 1) := by decide +kernel
theorem dM_look_149 : decode prog_7_method_18_code 149 = .ok (.iconst 0, 1) := by decide +kernel
theorem dM_look_150 : decode prog_7_method_18_code 150 = .ok (.istore_n 2, 1) := by decide +kernel
theorem dM_look_151 : decode prog_7_method_18_code 151 = .ok (.iload_n 2, 1) := by decide +kernel
theorem dM_look_152 : decode prog_7_method_18_code 152 = .ok (.bipush 60, 2) := by decide +kernel
theorem dM_look_154 : decode prog_7_method_18_code 154 = .ok (.if_icmp .ge 67, 3) := by decide +kernel
theorem dM_look_157 : decode prog_7_method_18_code 157 = .ok (.aload_n 0, 1) := by decide +kernel
theorem dM_look_158 : decode prog_7_method_18_code 158 = .ok (.getfield 52, 3) := by decide +kernel
theorem dM_look_161 : decode prog_7_method_18_code 161 = .ok (.iload_n 2, 1) := by decide +kernel
theorem dM_look_162 : decode prog_7_method_18_code 162 = .ok (.iaload, 1) := by decide +kernel
theorem dM_look_163 : decode prog_7_method_18_code 163 = .ok (.aload_n 0, 1) := by decide +kernel
theorem dM_look_164 : decode prog_7_method_18_code 164 = .ok (.getfield 52, 3) := by decide +kernel
theorem dM_look_167 : decode prog_7_method_18_code 167 = .ok (.bipush 60, 2) := by decide +kernel
theorem dM_look_169 : decode prog_7_method_18_code 169 = .ok (.iload_n 1, 1) := by decide +kernel
theorem dM_look_170 : decode prog_7_method_18_code 170 = .ok (.imul, 1) := by decide +kernel
theorem dM_look_171 : decode prog_7_method_18_code 171 = .ok (.iload_n 2, 1) := by decide +kernel
theorem dM_look_172 : decode prog_7_method_18_code 172 = .ok (.iadd, 1) := by decide +kernel
theorem dM_look_173 : decode prog_7_method_18_code 173 = .ok (.iaload, 1) := by decide +kernel
theorem dM_look_174 : decode prog_7_method_18_code 174 = .ok (.if_icmp .le 15, 3) := by decide +kernel
theorem dM_look_177 : decode prog_7_method_18_code 177 = .ok (.aload_n 0, 1) := by decide +kernel
theorem dM_look_178 : decode prog_7_method_18_code 178 = .ok (.getfield 55, 3) := by decide +kernel
theorem dM_look_181 : decode prog_7_method_18_code 181 = .ok (.iload_n 1, 1) := by decide +kernel
theorem dM_look_182 : decode prog_7_method_18_code 182 = .ok (.dup2, 1) := by decide +kernel
theorem dM_look_183 : decode prog_7_method_18_code 183 = .ok (.laload, 1) := by decide +kernel
theorem dM_look_184 : decode prog_7_method_18_code 184 = .ok (.lconst 1, 1) := by decide +kernel
theorem dM_look_185 : decode prog_7_method_18_code 185 = .ok (.iload_n 2, 1) := by decide +kernel
theorem dM_look_186 : decode prog_7_method_18_code 186 = .ok (.lshl, 1) := by decide +kernel
theorem dM_look_187 : decode prog_7_method_18_code 187 = .ok (.lor, 1) := by decide +kernel
theorem dM_look_188 : decode prog_7_method_18_code 188 = .ok (.lastore, 1) := by decide +kernel
theorem dM_look_189 : decode prog_7_method_18_code 189 = .ok (.aload_n 0, 1) := by decide +kernel
theorem dM_look_190 : decode prog_7_method_18_code 190 = .ok (.getfield 52, 3) := by decide +kernel
theorem dM_look_193 : decode prog_7_method_18_code 193 = .ok (.bipush 60, 2) := by decide +kernel
theorem dM_look_195 : decode prog_7_method_18_code 195 = .ok (.iload_n 1, 1) := by decide +kernel
theorem dM_look_196 : decode prog_7_method_18_code 196 = .ok (.imul, 1) := by decide +kernel
theorem dM_look_197 : decode prog_7_method_18_code 197 = .ok (.iload_n 2, 1) := by decide +kernel
theorem dM_look_198 : decode prog_7_method_18_code 198 = .ok (.iadd, 1) := by decide +kernel
theorem dM_look_199 : decode prog_7_method_18_code 199 = .ok (.iaload, 1) := by decide +kernel
theorem dM_look_200 : decode prog_7_method_18_code 200 = .ok (.ifCond .le 15, 3) := by decide +kernel
theorem dM_look_203 : decode prog_7_method_18_code 203 = .ok (.aload_n 0, 1) := by decide +kernel
theorem dM_look_204 : decode prog_7_method_18_code 204 = .ok (.getfield 59, 3) := by decide +kernel
theorem dM_look_207 : decode prog_7_method_18_code 207 = .ok (.iload_n 1, 1) := by decide +kernel
theorem dM_look_208 : decode prog_7_method_18_code 208 = .ok (.dup2, 1) := by decide +kernel
theorem dM_look_209 : decode prog_7_method_18_code 209 = .ok (.laload, 1) := by decide +kernel
theorem dM_look_210 : decode prog_7_method_18_code 210 = .ok (.lconst 1, 1) := by decide +kernel
theorem dM_look_211 : decode prog_7_method_18_code 211 = .ok (.iload_n 2, 1) := by decide +kernel
theorem dM_look_212 : decode prog_7_method_18_code 212 = .ok (.lshl, 1) := by decide +kernel
theorem dM_look_213 : decode prog_7_method_18_code 213 = .ok (.lor, 1) := by decide +kernel
theorem dM_look_214 : decode prog_7_method_18_code 214 = .ok (.lastore, 1) := by decide +kernel
theorem dM_look_215 : decode prog_7_method_18_code 215 = .ok (.iinc 2 1, 3) := by decide +kernel
theorem dM_look_218 : decode prog_7_method_18_code 218 = .ok (.goto (-67), 3) := by decide +kernel
theorem dM_look_221 : decode prog_7_method_18_code 221 = .ok (.iinc 1 1, 3) := by decide +kernel
theorem dM_look_224 : decode prog_7_method_18_code 224 = .ok (.goto (-100), 3) := by decide +kernel
theorem dM_look_227 : decode prog_7_method_18_code 227 = .ok (.return_, 1) := by decide +kernel

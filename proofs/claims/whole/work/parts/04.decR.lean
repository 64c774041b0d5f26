theorem dR_canDo_0 : decode prog_5_method_3_code 0 = .ok (.aload_n 0, 1) := by decide +kernel
theorem dR_canDo_1 : decode prog_5_method_3_code 1 = .ok (.getfield 19, 3) := by decide +kernel
theorem dR_canDo_4 : decode prog_5_method_3_code 4 = .ok (.sipush 20000, 3) := by decide +kernel
theorem dR_canDo_7 : decode prog_5_method_3_code 7 = .ok (.if_icmp .lt 10, 3) := by decide +kernel
theorem dR_canDo_10 : decode prog_5_method_3_code 10 = .ok (.aload_n 0, 1) := by decide +kernel
theorem dR_canDo_11 : decode prog_5_method_3_code 11 = .ok (.iconst 1, 1) := by decide +kernel
theorem dR_canDo_12 : decode prog_5_method_3_code 12 = .ok (.putfield 23, 3) := by decide +kernel
theorem dR_canDo_15 : decode prog_5_method_3_code 15 = .ok (.iconst 0, 1) := by decide +kernel
theorem dR_canDo_16 : decode prog_5_method_3_code 16 = .ok (.ireturn, 1) := by decide +kernel
theorem dR_canDo_17 : decode prog_5_method_3_code 17 = .ok (.aload_n 0, 1) := by decide +kernel
theorem dR_canDo_18 : decode prog_5_method_3_code 18 = .ok (.dup, 1) := by decide +kernel
theorem dR_canDo_19 : decode prog_5_method_3_code 19 = .ok (.getfield 19, 3) := by decide +kernel
theorem dR_canDo_22 : decode prog_5_method_3_code 22 = .ok (.iconst 1, 1) := by decide +kernel
theorem dR_canDo_23 : decode prog_5_method_3_code 23 = .ok (.iadd, 1) := by decide +kernel
theorem dR_canDo_24 : decode prog_5_method_3_code 24 = .ok (.putfield 19, 3) := by decide +kernel
theorem dR_canDo_27 : decode prog_5_method_3_code 27 = .ok (.aload_n 1, 1) := by decide +kernel
theorem dR_canDo_28 : decode prog_5_method_3_code 28 = .ok (.lload_n 2, 1) := by decide +kernel
theorem dR_canDo_29 : decode prog_5_method_3_code 29 = .ok (.putfield 31, 3) := by decide +kernel
theorem dR_canDo_32 : decode prog_5_method_3_code 32 = .ok (.aload_n 1, 1) := by decide +kernel
theorem dR_canDo_33 : decode prog_5_method_3_code 33 = .ok (.lload_n 2, 1) := by decide +kernel
theorem dR_canDo_34 : decode prog_5_method_3_code 34 = .ok (.putfield 36, 3) := by decide +kernel
theorem dR_canDo_37 : decode prog_5_method_3_code 37 = .ok (.aload_n 1, 1) := by decide +kernel
theorem dR_canDo_38 : decode prog_5_method_3_code 38 = .ok (.aload_n 1, 1) := by decide +kernel
theorem dR_canDo_39 : decode prog_5_method_3_code 39 = .ok (.getfield 39, 3) := by decide +kernel
theorem dR_canDo_42 : decode prog_5_method_3_code 42 = .ok (.putfield 42, 3) := by decide +kernel
theorem dR_canDo_45 : decode prog_5_method_3_code 45 = .ok (.aload_n 1, 1) := by decide +kernel
theorem dR_canDo_46 : decode prog_5_method_3_code 46 = .ok (.getfield 45, 3) := by decide +kernel
theorem dR_canDo_49 : decode prog_5_method_3_code 49 = .ok (.tableswitch 55 0 3 #[31, 37, 43, 49], 31) := by decide +kernel
theorem dR_canDo_80 : decode prog_5_method_3_code 80 = .ok (.aload_n 0, 1) := by decide +kernel
theorem dR_canDo_81 : decode prog_5_method_3_code 81 = .ok (.aload_n 1, 1) := by decide +kernel
theorem dR_canDo_82 : decode prog_5_method_3_code 82 = .ok (.invokevirtual 48, 3) := by decide +kernel
theorem dR_canDo_85 : decode prog_5_method_3_code 85 = .ok (.ireturn, 1) := by decide +kernel
theorem dR_canDo_86 : decode prog_5_method_3_code 86 = .ok (.aload_n 0, 1) := by decide +kernel
theorem dR_canDo_87 : decode prog_5_method_3_code 87 = .ok (.aload_n 1, 1) := by decide +kernel
theorem dR_canDo_88 : decode prog_5_method_3_code 88 = .ok (.invokevirtual 52, 3) := by decide +kernel
theorem dR_canDo_91 : decode prog_5_method_3_code 91 = .ok (.ireturn, 1) := by decide +kernel
theorem dR_canDo_92 : decode prog_5_method_3_code 92 = .ok (.aload_n 0, 1) := by decide +kernel
theorem dR_canDo_93 : decode prog_5_method_3_code 93 = .ok (.aload_n 1, 1) := by decide +kernel
theorem dR_canDo_94 : decode prog_5_method_3_code 94 = .ok (.invokevirtual 55, 3) := by decide +kernel
theorem dR_canDo_97 : decode prog_5_method_3_code 97 = .ok (.ireturn, 1) := by decide +kernel
theorem dR_canDo_98 : decode prog_5_method_3_code 98 = .ok (.aload_n 0, 1) := by decide +kernel
theorem dR_canDo_99 : decode prog_5_method_3_code 99 = .ok (.aload_n 1, 1) := by decide +kernel
theorem dR_canDo_100 : decode prog_5_method_3_code 100 = .ok (.invokevirtual 58, 3) := by decide +kernel
theorem dR_canDo_103 : decode prog_5_method_3_code 103 = .ok (.ireturn, 1) := by decide +kernel
theorem dR_canDo_104 : decode prog_5_method_3_code 104 = .ok (.aload_n 0, 1) := by decide +kernel
theorem dR_canDo_105 : decode prog_5_method_3_code 105 = .ok (.aload_n 1, 1) := by decide +kernel
theorem dR_canDo_106 : decode prog_5_method_3_code 106 = .ok (.invokevirtual 61, 3) := by decide +kernel
theorem dR_canDo_109 : decode prog_5_method_3_code 109 = .ok (.ireturn, 1) := by decide +kernel
theorem dR_canDoAtom_0 : decode prog_5_method_14_code 0 = .ok (.aload_n 1, 1) := by decide +kernel
theorem dR_canDoAtom_1 : decode prog_5_method_14_code 1 = .ok (.getfield 45, 3) := by decide +kernel
theorem dR_canDoAtom_4 : decode prog_5_method_14_code 4 = .ok (.tableswitch 91 6 12 #[44, 49, 75, 80, 80, 49, 85], 44) := by decide +kernel
theorem dR_canDoAtom_48 : decode prog_5_method_14_code 48 = .ok (.aload_n 1, 1) := by decide +kernel
theorem dR_canDoAtom_49 : decode prog_5_method_14_code 49 = .ok (.invokestatic 118, 3) := by decide +kernel
theorem dR_canDoAtom_52 : decode prog_5_method_14_code 52 = .ok (.ireturn, 1) := by decide +kernel
theorem dR_canDoAtom_53 : decode prog_5_method_14_code 53 = .ok (.aload_n 1, 1) := by decide +kernel
theorem dR_canDoAtom_54 : decode prog_5_method_14_code 54 = .ok (.aload_n 1, 1) := by decide +kernel
theorem dR_canDoAtom_55 : decode prog_5_method_14_code 55 = .ok (.getfield 112, 3) := by decide +kernel
theorem dR_canDoAtom_58 : decode prog_5_method_14_code 58 = .ok (.invokestatic 121, 3) := by decide +kernel
theorem dR_canDoAtom_61 : decode prog_5_method_14_code 61 = .ok (.ifCond .eq 16, 3) := by decide +kernel
theorem dR_canDoAtom_64 : decode prog_5_method_14_code 64 = .ok (.aload_n 1, 1) := by decide +kernel
theorem dR_canDoAtom_65 : decode prog_5_method_14_code 65 = .ok (.iconst 1, 1) := by decide +kernel
theorem dR_canDoAtom_66 : decode prog_5_method_14_code 66 = .ok (.lconst 0, 1) := by decide +kernel
theorem dR_canDoAtom_67 : decode prog_5_method_14_code 67 = .ok (.invokestatic 124, 3) := by decide +kernel
theorem dR_canDoAtom_70 : decode prog_5_method_14_code 70 = .ok (.ifCond .eq 7, 3) := by decide +kernel
theorem dR_canDoAtom_73 : decode prog_5_method_14_code 73 = .ok (.iconst 1, 1) := by decide +kernel
theorem dR_canDoAtom_74 : decode prog_5_method_14_code 74 = .ok (.goto 4, 3) := by decide +kernel
theorem dR_canDoAtom_77 : decode prog_5_method_14_code 77 = .ok (.iconst 0, 1) := by decide +kernel
theorem dR_canDoAtom_78 : decode prog_5_method_14_code 78 = .ok (.ireturn, 1) := by decide +kernel
theorem dR_canDoAtom_79 : decode prog_5_method_14_code 79 = .ok (.aload_n 1, 1) := by decide +kernel
theorem dR_canDoAtom_80 : decode prog_5_method_14_code 80 = .ok (.invokestatic 128, 3) := by decide +kernel
theorem dR_canDoAtom_83 : decode prog_5_method_14_code 83 = .ok (.ireturn, 1) := by decide +kernel
theorem dR_canDoAtom_84 : decode prog_5_method_14_code 84 = .ok (.aload_n 1, 1) := by decide +kernel
theorem dR_canDoAtom_85 : decode prog_5_method_14_code 85 = .ok (.invokestatic 131, 3) := by decide +kernel
theorem dR_canDoAtom_88 : decode prog_5_method_14_code 88 = .ok (.ireturn, 1) := by decide +kernel
theorem dR_canDoAtom_89 : decode prog_5_method_14_code 89 = .ok (.aload_n 0, 1) := by decide +kernel
theorem dR_canDoAtom_90 : decode prog_5_method_14_code 90 = .ok (.aload_n 1, 1) := by decide +kernel
theorem dR_canDoAtom_91 : decode prog_5_method_14_code 91 = .ok (.invokevirtual 134, 3) := by decide +kernel
theorem dR_canDoAtom_94 : decode prog_5_method_14_code 94 = .ok (.ireturn, 1) := by decide +kernel
theorem dR_canDoAtom_95 : decode prog_5_method_14_code 95 = .ok (.aload_n 1, 1) := by decide +kernel
theorem dR_canDoAtom_96 : decode prog_5_method_14_code 96 = .ok (.iconst 0, 1) := by decide +kernel
theorem dR_canDoAtom_97 : decode prog_5_method_14_code 97 = .ok (.lconst 0, 1) := by decide +kernel
theorem dR_canDoAtom_98 : decode prog_5_method_14_code 98 = .ok (.invokestatic 124, 3) := by decide +kernel
theorem dR_canDoAtom_101 : decode prog_5_method_14_code 101 = .ok (.ireturn, 1) := by decide +kernel
theorem dR_canDoCall_0 : decode prog_5_method_18_code 0 = .ok (.aload_n 0, 1) := by decide +kernel
theorem dR_canDoCall_1 : decode prog_5_method_18_code 1 = .ok (.getfield 9, 3) := by decide +kernel
theorem dR_canDoCall_4 : decode prog_5_method_18_code 4 = .ok (.aload_n 1, 1) := by decide +kernel
theorem dR_canDoCall_5 : decode prog_5_method_18_code 5 = .ok (.getfield 144, 3) := by decide +kernel
theorem dR_canDoCall_8 : decode prog_5_method_18_code 8 = .ok (.invokevirtual 147, 3) := by decide +kernel
theorem dR_canDoCall_11 : decode prog_5_method_18_code 11 = .ok (.istore_n 2, 1) := by decide +kernel
theorem dR_canDoCall_12 : decode prog_5_method_18_code 12 = .ok (.iconst 0, 1) := by decide +kernel
theorem dR_canDoCall_13 : decode prog_5_method_18_code 13 = .ok (.istore_n 3, 1) := by decide +kernel
theorem dR_canDoCall_14 : decode prog_5_method_18_code 14 = .ok (.iload_n 3, 1) := by decide +kernel
theorem dR_canDoCall_15 : decode prog_5_method_18_code 15 = .ok (.iload_n 2, 1) := by decide +kernel
theorem dR_canDoCall_16 : decode prog_5_method_18_code 16 = .ok (.if_icmp .ge 42, 3) := by decide +kernel
theorem dR_canDoCall_19 : decode prog_5_method_18_code 19 = .ok (.aload_n 1, 1) := by decide +kernel
theorem dR_canDoCall_20 : decode prog_5_method_18_code 20 = .ok (.aload_n 1, 1) := by decide +kernel
theorem dR_canDoCall_21 : decode prog_5_method_18_code 21 = .ok (.aload_n 0, 1) := by decide +kernel
theorem dR_canDoCall_22 : decode prog_5_method_18_code 22 = .ok (.getfield 9, 3) := by decide +kernel
theorem dR_canDoCall_25 : decode prog_5_method_18_code 25 = .ok (.aload_n 1, 1) := by decide +kernel
theorem dR_canDoCall_26 : decode prog_5_method_18_code 26 = .ok (.getfield 144, 3) := by decide +kernel
theorem dR_canDoCall_29 : decode prog_5_method_18_code 29 = .ok (.iload_n 3, 1) := by decide +kernel
theorem dR_canDoCall_30 : decode prog_5_method_18_code 30 = .ok (.invokevirtual 153, 3) := by decide +kernel
theorem dR_canDoCall_33 : decode prog_5_method_18_code 33 = .ok (.invokestatic 157, 3) := by decide +kernel
theorem dR_canDoCall_36 : decode prog_5_method_18_code 36 = .ok (.invokestatic 121, 3) := by decide +kernel
theorem dR_canDoCall_39 : decode prog_5_method_18_code 39 = .ok (.ifCond .eq 13, 3) := by decide +kernel
theorem dR_canDoCall_42 : decode prog_5_method_18_code 42 = .ok (.aload_n 1, 1) := by decide +kernel
theorem dR_canDoCall_43 : decode prog_5_method_18_code 43 = .ok (.iload_n 3, 1) := by decide +kernel
theorem dR_canDoCall_44 : decode prog_5_method_18_code 44 = .ok (.aload_n 1, 1) := by decide +kernel
theorem dR_canDoCall_45 : decode prog_5_method_18_code 45 = .ok (.getfield 112, 3) := by decide +kernel
theorem dR_canDoCall_48 : decode prog_5_method_18_code 48 = .ok (.invokestatic 124, 3) := by decide +kernel
theorem dR_canDoCall_51 : decode prog_5_method_18_code 51 = .ok (.ireturn, 1) := by decide +kernel
theorem dR_canDoCall_52 : decode prog_5_method_18_code 52 = .ok (.iinc 3 1, 3) := by decide +kernel
theorem dR_canDoCall_55 : decode prog_5_method_18_code 55 = .ok (.goto (-41), 3) := by decide +kernel
theorem dR_canDoCall_58 : decode prog_5_method_18_code 58 = .ok (.iconst 0, 1) := by decide +kernel
theorem dR_canDoCall_59 : decode prog_5_method_18_code 59 = .ok (.ireturn, 1) := by decide +kernel
theorem dR_canDoChoice_0 : decode prog_5_method_7_code 0 = .ok (.ldc2_w 91, 3) := by decide +kernel
theorem dR_canDoChoice_3 : decode prog_5_method_7_code 3 = .ok (.lstore_n 2, 1) := by decide +kernel
theorem dR_canDoChoice_4 : decode prog_5_method_7_code 4 = .ok (.lconst 0, 1) := by decide +kernel
theorem dR_canDoChoice_5 : decode prog_5_method_7_code 5 = .ok (.lstore 4, 2) := by decide +kernel
theorem dR_canDoChoice_7 : decode prog_5_method_7_code 7 = .ok (.aload_n 1, 1) := by decide +kernel
theorem dR_canDoChoice_8 : decode prog_5_method_7_code 8 = .ok (.getfield 64, 3) := by decide +kernel
theorem dR_canDoChoice_11 : decode prog_5_method_7_code 11 = .ok (.astore 6, 2) := by decide +kernel
theorem dR_canDoChoice_13 : decode prog_5_method_7_code 13 = .ok (.aload 6, 2) := by decide +kernel
theorem dR_canDoChoice_15 : decode prog_5_method_7_code 15 = .ok (.ifnull 47, 3) := by decide +kernel
theorem dR_canDoChoice_18 : decode prog_5_method_7_code 18 = .ok (.aload_n 0, 1) := by decide +kernel
theorem dR_canDoChoice_19 : decode prog_5_method_7_code 19 = .ok (.aload_n 1, 1) := by decide +kernel
theorem dR_canDoChoice_20 : decode prog_5_method_7_code 20 = .ok (.aload 6, 2) := by decide +kernel
theorem dR_canDoChoice_22 : decode prog_5_method_7_code 22 = .ok (.aload_n 1, 1) := by decide +kernel
theorem dR_canDoChoice_23 : decode prog_5_method_7_code 23 = .ok (.getfield 31, 3) := by decide +kernel
theorem dR_canDoChoice_26 : decode prog_5_method_7_code 26 = .ok (.invokevirtual 93, 3) := by decide +kernel
theorem dR_canDoChoice_29 : decode prog_5_method_7_code 29 = .ok (.ifCond .ne 5, 3) := by decide +kernel
theorem dR_canDoChoice_32 : decode prog_5_method_7_code 32 = .ok (.iconst 0, 1) := by decide +kernel
theorem dR_canDoChoice_33 : decode prog_5_method_7_code 33 = .ok (.ireturn, 1) := by decide +kernel
theorem dR_canDoChoice_34 : decode prog_5_method_7_code 34 = .ok (.lload_n 2, 1) := by decide +kernel
theorem dR_canDoChoice_35 : decode prog_5_method_7_code 35 = .ok (.aload 6, 2) := by decide +kernel
theorem dR_canDoChoice_37 : decode prog_5_method_7_code 37 = .ok (.getfield 36, 3) := by decide +kernel
theorem dR_canDoChoice_40 : decode prog_5_method_7_code 40 = .ok (.land, 1) := by decide +kernel
theorem dR_canDoChoice_41 : decode prog_5_method_7_code 41 = .ok (.lstore_n 2, 1) := by decide +kernel
theorem dR_canDoChoice_42 : decode prog_5_method_7_code 42 = .ok (.lload 4, 2) := by decide +kernel
theorem dR_canDoChoice_44 : decode prog_5_method_7_code 44 = .ok (.aload 6, 2) := by decide +kernel
theorem dR_canDoChoice_46 : decode prog_5_method_7_code 46 = .ok (.getfield 36, 3) := by decide +kernel
theorem dR_canDoChoice_49 : decode prog_5_method_7_code 49 = .ok (.lor, 1) := by decide +kernel
theorem dR_canDoChoice_50 : decode prog_5_method_7_code 50 = .ok (.lstore 4, 2) := by decide +kernel
theorem dR_canDoChoice_52 : decode prog_5_method_7_code 52 = .ok (.aload 6, 2) := by decide +kernel
theorem dR_canDoChoice_54 : decode prog_5_method_7_code 54 = .ok (.getfield 74, 3) := by decide +kernel
theorem dR_canDoChoice_57 : decode prog_5_method_7_code 57 = .ok (.astore 6, 2) := by decide +kernel
theorem dR_canDoChoice_59 : decode prog_5_method_7_code 59 = .ok (.goto (-46), 3) := by decide +kernel
theorem dR_canDoChoice_62 : decode prog_5_method_7_code 62 = .ok (.aload_n 0, 1) := by decide +kernel
theorem dR_canDoChoice_63 : decode prog_5_method_7_code 63 = .ok (.aload_n 1, 1) := by decide +kernel
theorem dR_canDoChoice_64 : decode prog_5_method_7_code 64 = .ok (.lload_n 2, 1) := by decide +kernel
theorem dR_canDoChoice_65 : decode prog_5_method_7_code 65 = .ok (.lload 4, 2) := by decide +kernel
theorem dR_canDoChoice_67 : decode prog_5_method_7_code 67 = .ok (.invokevirtual 97, 3) := by decide +kernel
theorem dR_canDoChoice_70 : decode prog_5_method_7_code 70 = .ok (.ireturn, 1) := by decide +kernel
theorem dR_canDoForm_0 : decode prog_5_method_16_code 0 = .ok (.aload_n 0, 1) := by decide +kernel
theorem dR_canDoForm_1 : decode prog_5_method_16_code 1 = .ok (.iconst 0, 1) := by decide +kernel
theorem dR_canDoForm_2 : decode prog_5_method_16_code 2 = .ok (.invokevirtual 137, 3) := by decide +kernel
theorem dR_canDoForm_5 : decode prog_5_method_16_code 5 = .ok (.lstore_n 1, 1) := by decide +kernel
theorem dR_canDoForm_6 : decode prog_5_method_16_code 6 = .ok (.aload_n 0, 1) := by decide +kernel
theorem dR_canDoForm_7 : decode prog_5_method_16_code 7 = .ok (.iconst 1, 1) := by decide +kernel
theorem dR_canDoForm_8 : decode prog_5_method_16_code 8 = .ok (.invokevirtual 141, 3) := by decide +kernel
theorem dR_canDoForm_11 : decode prog_5_method_16_code 11 = .ok (.lstore_n 3, 1) := by decide +kernel
theorem dR_canDoForm_12 : decode prog_5_method_16_code 12 = .ok (.aload_n 0, 1) := by decide +kernel
theorem dR_canDoForm_13 : decode prog_5_method_16_code 13 = .ok (.lload_n 1, 1) := by decide +kernel
theorem dR_canDoForm_14 : decode prog_5_method_16_code 14 = .ok (.invokestatic 121, 3) := by decide +kernel
theorem dR_canDoForm_17 : decode prog_5_method_16_code 17 = .ok (.ifCond .eq 10, 3) := by decide +kernel
theorem dR_canDoForm_20 : decode prog_5_method_16_code 20 = .ok (.aload_n 0, 1) := by decide +kernel
theorem dR_canDoForm_21 : decode prog_5_method_16_code 21 = .ok (.iconst 1, 1) := by decide +kernel
theorem dR_canDoForm_22 : decode prog_5_method_16_code 22 = .ok (.lload_n 3, 1) := by decide +kernel
theorem dR_canDoForm_23 : decode prog_5_method_16_code 23 = .ok (.invokestatic 124, 3) := by decide +kernel
theorem dR_canDoForm_26 : decode prog_5_method_16_code 26 = .ok (.ireturn, 1) := by decide +kernel
theorem dR_canDoForm_27 : decode prog_5_method_16_code 27 = .ok (.aload_n 0, 1) := by decide +kernel
theorem dR_canDoForm_28 : decode prog_5_method_16_code 28 = .ok (.lload_n 3, 1) := by decide +kernel
theorem dR_canDoForm_29 : decode prog_5_method_16_code 29 = .ok (.invokestatic 121, 3) := by decide +kernel
theorem dR_canDoForm_32 : decode prog_5_method_16_code 32 = .ok (.ifCond .eq 16, 3) := by decide +kernel
theorem dR_canDoForm_35 : decode prog_5_method_16_code 35 = .ok (.aload_n 0, 1) := by decide +kernel
theorem dR_canDoForm_36 : decode prog_5_method_16_code 36 = .ok (.iconst 2, 1) := by decide +kernel
theorem dR_canDoForm_37 : decode prog_5_method_16_code 37 = .ok (.lload_n 1, 1) := by decide +kernel
theorem dR_canDoForm_38 : decode prog_5_method_16_code 38 = .ok (.invokestatic 124, 3) := by decide +kernel
theorem dR_canDoForm_41 : decode prog_5_method_16_code 41 = .ok (.ifCond .eq 7, 3) := by decide +kernel
theorem dR_canDoForm_44 : decode prog_5_method_16_code 44 = .ok (.iconst 1, 1) := by decide +kernel
theorem dR_canDoForm_45 : decode prog_5_method_16_code 45 = .ok (.goto 4, 3) := by decide +kernel
theorem dR_canDoForm_48 : decode prog_5_method_16_code 48 = .ok (.iconst 0, 1) := by decide +kernel
theorem dR_canDoForm_49 : decode prog_5_method_16_code 49 = .ok (.ireturn, 1) := by decide +kernel
theorem dR_canDoNot_0 : decode prog_5_method_8_code 0 = .ok (.aload_n 1, 1) := by decide +kernel
theorem dR_canDoNot_1 : decode prog_5_method_8_code 1 = .ok (.getfield 64, 3) := by decide +kernel
theorem dR_canDoNot_4 : decode prog_5_method_8_code 4 = .ok (.astore_n 2, 1) := by decide +kernel
theorem dR_canDoNot_5 : decode prog_5_method_8_code 5 = .ok (.aload_n 2, 1) := by decide +kernel
theorem dR_canDoNot_6 : decode prog_5_method_8_code 6 = .ok (.ifnull 16, 3) := by decide +kernel
theorem dR_canDoNot_9 : decode prog_5_method_8_code 9 = .ok (.aload_n 0, 1) := by decide +kernel
theorem dR_canDoNot_10 : decode prog_5_method_8_code 10 = .ok (.aload_n 1, 1) := by decide +kernel
theorem dR_canDoNot_11 : decode prog_5_method_8_code 11 = .ok (.aload_n 2, 1) := by decide +kernel
theorem dR_canDoNot_12 : decode prog_5_method_8_code 12 = .ok (.aload_n 1, 1) := by decide +kernel
theorem dR_canDoNot_13 : decode prog_5_method_8_code 13 = .ok (.getfield 31, 3) := by decide +kernel
theorem dR_canDoNot_16 : decode prog_5_method_8_code 16 = .ok (.invokevirtual 93, 3) := by decide +kernel
theorem dR_canDoNot_19 : decode prog_5_method_8_code 19 = .ok (.ifCond .ne 5, 3) := by decide +kernel
theorem dR_canDoNot_22 : decode prog_5_method_8_code 22 = .ok (.iconst 0, 1) := by decide +kernel
theorem dR_canDoNot_23 : decode prog_5_method_8_code 23 = .ok (.ireturn, 1) := by decide +kernel
theorem dR_canDoNot_24 : decode prog_5_method_8_code 24 = .ok (.aload_n 2, 1) := by decide +kernel
theorem dR_canDoNot_25 : decode prog_5_method_8_code 25 = .ok (.invokestatic 101, 3) := by decide +kernel
theorem dR_canDoNot_28 : decode prog_5_method_8_code 28 = .ok (.aload_n 0, 1) := by decide +kernel
theorem dR_canDoNot_29 : decode prog_5_method_8_code 29 = .ok (.aload_n 1, 1) := by decide +kernel
theorem dR_canDoNot_30 : decode prog_5_method_8_code 30 = .ok (.invokevirtual 105, 3) := by decide +kernel
theorem dR_canDoNot_33 : decode prog_5_method_8_code 33 = .ok (.land, 1) := by decide +kernel
theorem dR_canDoNot_34 : decode prog_5_method_8_code 34 = .ok (.lconst 0, 1) := by decide +kernel
theorem dR_canDoNot_35 : decode prog_5_method_8_code 35 = .ok (.lcmp, 1) := by decide +kernel
theorem dR_canDoNot_36 : decode prog_5_method_8_code 36 = .ok (.ifCond .ne 7, 3) := by decide +kernel
theorem dR_canDoNot_39 : decode prog_5_method_8_code 39 = .ok (.iconst 1, 1) := by decide +kernel
theorem dR_canDoNot_40 : decode prog_5_method_8_code 40 = .ok (.goto 4, 3) := by decide +kernel
theorem dR_canDoNot_43 : decode prog_5_method_8_code 43 = .ok (.iconst 0, 1) := by decide +kernel
theorem dR_canDoNot_44 : decode prog_5_method_8_code 44 = .ok (.ireturn, 1) := by decide +kernel
theorem dR_canDoPart_0 : decode prog_5_method_10_code 0 = .ok (.aload_n 0, 1) := by decide +kernel
theorem dR_canDoPart_1 : decode prog_5_method_10_code 1 = .ok (.aload_n 2, 1) := by decide +kernel
theorem dR_canDoPart_2 : decode prog_5_method_10_code 2 = .ok (.lload_n 3, 1) := by decide +kernel
theorem dR_canDoPart_3 : decode prog_5_method_10_code 3 = .ok (.invokevirtual 27, 3) := by decide +kernel
theorem dR_canDoPart_6 : decode prog_5_method_10_code 6 = .ok (.ifCond .eq 5, 3) := by decide +kernel
theorem dR_canDoPart_9 : decode prog_5_method_10_code 9 = .ok (.iconst 1, 1) := by decide +kernel
theorem dR_canDoPart_10 : decode prog_5_method_10_code 10 = .ok (.ireturn, 1) := by decide +kernel
theorem dR_canDoPart_11 : decode prog_5_method_10_code 11 = .ok (.aload_n 1, 1) := by decide +kernel
theorem dR_canDoPart_12 : decode prog_5_method_10_code 12 = .ok (.aload_n 2, 1) := by decide +kernel
theorem dR_canDoPart_13 : decode prog_5_method_10_code 13 = .ok (.getfield 42, 3) := by decide +kernel
theorem dR_canDoPart_16 : decode prog_5_method_10_code 16 = .ok (.putfield 42, 3) := by decide +kernel
theorem dR_canDoPart_19 : decode prog_5_method_10_code 19 = .ok (.iconst 0, 1) := by decide +kernel
theorem dR_canDoPart_20 : decode prog_5_method_10_code 20 = .ok (.ireturn, 1) := by decide +kernel
theorem dR_canDoRow_0 : decode prog_5_method_4_code 0 = .ok (.aload_n 1, 1) := by decide +kernel
theorem dR_canDoRow_1 : decode prog_5_method_4_code 1 = .ok (.getfield 64, 3) := by decide +kernel
theorem dR_canDoRow_4 : decode prog_5_method_4_code 4 = .ok (.astore_n 2, 1) := by decide +kernel
theorem dR_canDoRow_5 : decode prog_5_method_4_code 5 = .ok (.aload_n 2, 1) := by decide +kernel
theorem dR_canDoRow_6 : decode prog_5_method_4_code 6 = .ok (.ifnull 21, 3) := by decide +kernel
theorem dR_canDoRow_9 : decode prog_5_method_4_code 9 = .ok (.aload_n 2, 1) := by decide +kernel
theorem dR_canDoRow_10 : decode prog_5_method_4_code 10 = .ok (.iconst 0, 1) := by decide +kernel
theorem dR_canDoRow_11 : decode prog_5_method_4_code 11 = .ok (.putfield 68, 3) := by decide +kernel
theorem dR_canDoRow_14 : decode prog_5_method_4_code 14 = .ok (.aload_n 2, 1) := by decide +kernel
theorem dR_canDoRow_15 : decode prog_5_method_4_code 15 = .ok (.aconst_null, 1) := by decide +kernel
theorem dR_canDoRow_16 : decode prog_5_method_4_code 16 = .ok (.putfield 71, 3) := by decide +kernel
theorem dR_canDoRow_19 : decode prog_5_method_4_code 19 = .ok (.aload_n 2, 1) := by decide +kernel
theorem dR_canDoRow_20 : decode prog_5_method_4_code 20 = .ok (.getfield 74, 3) := by decide +kernel
theorem dR_canDoRow_23 : decode prog_5_method_4_code 23 = .ok (.astore_n 2, 1) := by decide +kernel
theorem dR_canDoRow_24 : decode prog_5_method_4_code 24 = .ok (.goto (-19), 3) := by decide +kernel
theorem dR_canDoRow_27 : decode prog_5_method_4_code 27 = .ok (.aload_n 1, 1) := by decide +kernel
theorem dR_canDoRow_28 : decode prog_5_method_4_code 28 = .ok (.aconst_null, 1) := by decide +kernel
theorem dR_canDoRow_29 : decode prog_5_method_4_code 29 = .ok (.putfield 77, 3) := by decide +kernel
theorem dR_canDoRow_32 : decode prog_5_method_4_code 32 = .ok (.aconst_null, 1) := by decide +kernel
theorem dR_canDoRow_33 : decode prog_5_method_4_code 33 = .ok (.astore_n 2, 1) := by decide +kernel
theorem dR_canDoRow_34 : decode prog_5_method_4_code 34 = .ok (.iconst 0, 1) := by decide +kernel
theorem dR_canDoRow_35 : decode prog_5_method_4_code 35 = .ok (.istore_n 3, 1) := by decide +kernel
theorem dR_canDoRow_36 : decode prog_5_method_4_code 36 = .ok (.iload_n 3, 1) := by decide +kernel
theorem dR_canDoRow_37 : decode prog_5_method_4_code 37 = .ok (.aload_n 1, 1) := by decide +kernel
theorem dR_canDoRow_38 : decode prog_5_method_4_code 38 = .ok (.getfield 80, 3) := by decide +kernel
theorem dR_canDoRow_41 : decode prog_5_method_4_code 41 = .ok (.if_icmp .ge 53, 3) := by decide +kernel
theorem dR_canDoRow_44 : decode prog_5_method_4_code 44 = .ok (.aload_n 0, 1) := by decide +kernel
theorem dR_canDoRow_45 : decode prog_5_method_4_code 45 = .ok (.aload_n 1, 1) := by decide +kernel
theorem dR_canDoRow_46 : decode prog_5_method_4_code 46 = .ok (.invokevirtual 83, 3) := by decide +kernel
theorem dR_canDoRow_49 : decode prog_5_method_4_code 49 = .ok (.astore 4, 2) := by decide +kernel
theorem dR_canDoRow_51 : decode prog_5_method_4_code 51 = .ok (.aload 4, 2) := by decide +kernel
theorem dR_canDoRow_53 : decode prog_5_method_4_code 53 = .ok (.ifnonnull 13, 3) := by decide +kernel
theorem dR_canDoRow_56 : decode prog_5_method_4_code 56 = .ok (.aload_n 1, 1) := by decide +kernel
theorem dR_canDoRow_57 : decode prog_5_method_4_code 57 = .ok (.aload_n 1, 1) := by decide +kernel
theorem dR_canDoRow_58 : decode prog_5_method_4_code 58 = .ok (.invokestatic 87, 3) := by decide +kernel
theorem dR_canDoRow_61 : decode prog_5_method_4_code 61 = .ok (.putfield 42, 3) := by decide +kernel
theorem dR_canDoRow_64 : decode prog_5_method_4_code 64 = .ok (.iconst 0, 1) := by decide +kernel
theorem dR_canDoRow_65 : decode prog_5_method_4_code 65 = .ok (.ireturn, 1) := by decide +kernel
theorem dR_canDoRow_66 : decode prog_5_method_4_code 66 = .ok (.aload_n 2, 1) := by decide +kernel
theorem dR_canDoRow_67 : decode prog_5_method_4_code 67 = .ok (.ifnonnull 12, 3) := by decide +kernel
theorem dR_canDoRow_70 : decode prog_5_method_4_code 70 = .ok (.aload_n 1, 1) := by decide +kernel
theorem dR_canDoRow_71 : decode prog_5_method_4_code 71 = .ok (.aload 4, 2) := by decide +kernel
theorem dR_canDoRow_73 : decode prog_5_method_4_code 73 = .ok (.putfield 77, 3) := by decide +kernel
theorem dR_canDoRow_76 : decode prog_5_method_4_code 76 = .ok (.goto 9, 3) := by decide +kernel
theorem dR_canDoRow_79 : decode prog_5_method_4_code 79 = .ok (.aload_n 2, 1) := by decide +kernel
theorem dR_canDoRow_80 : decode prog_5_method_4_code 80 = .ok (.aload 4, 2) := by decide +kernel
theorem dR_canDoRow_82 : decode prog_5_method_4_code 82 = .ok (.putfield 71, 3) := by decide +kernel
theorem dR_canDoRow_85 : decode prog_5_method_4_code 85 = .ok (.aload 4, 2) := by decide +kernel
theorem dR_canDoRow_87 : decode prog_5_method_4_code 87 = .ok (.astore_n 2, 1) := by decide +kernel
theorem dR_canDoRow_88 : decode prog_5_method_4_code 88 = .ok (.iinc 3 1, 3) := by decide +kernel
theorem dR_canDoRow_91 : decode prog_5_method_4_code 91 = .ok (.goto (-55), 3) := by decide +kernel
theorem dR_canDoRow_94 : decode prog_5_method_4_code 94 = .ok (.iconst 1, 1) := by decide +kernel
theorem dR_canDoRow_95 : decode prog_5_method_4_code 95 = .ok (.ireturn, 1) := by decide +kernel
theorem dR_canDoSame_0 : decode prog_5_method_15_code 0 = .ok (.aload_n 0, 1) := by decide +kernel
theorem dR_canDoSame_1 : decode prog_5_method_15_code 1 = .ok (.iconst 0, 1) := by decide +kernel
theorem dR_canDoSame_2 : decode prog_5_method_15_code 2 = .ok (.invokevirtual 137, 3) := by decide +kernel
theorem dR_canDoSame_5 : decode prog_5_method_15_code 5 = .ok (.lstore_n 1, 1) := by decide +kernel
theorem dR_canDoSame_6 : decode prog_5_method_15_code 6 = .ok (.aload_n 0, 1) := by decide +kernel
theorem dR_canDoSame_7 : decode prog_5_method_15_code 7 = .ok (.iconst 1, 1) := by decide +kernel
theorem dR_canDoSame_8 : decode prog_5_method_15_code 8 = .ok (.invokevirtual 137, 3) := by decide +kernel
theorem dR_canDoSame_11 : decode prog_5_method_15_code 11 = .ok (.lstore_n 3, 1) := by decide +kernel
theorem dR_canDoSame_12 : decode prog_5_method_15_code 12 = .ok (.aload_n 0, 1) := by decide +kernel
theorem dR_canDoSame_13 : decode prog_5_method_15_code 13 = .ok (.lload_n 1, 1) := by decide +kernel
theorem dR_canDoSame_14 : decode prog_5_method_15_code 14 = .ok (.lload_n 3, 1) := by decide +kernel
theorem dR_canDoSame_15 : decode prog_5_method_15_code 15 = .ok (.lor, 1) := by decide +kernel
theorem dR_canDoSame_16 : decode prog_5_method_15_code 16 = .ok (.invokestatic 121, 3) := by decide +kernel
theorem dR_canDoSame_19 : decode prog_5_method_15_code 19 = .ok (.ifCond .eq 10, 3) := by decide +kernel
theorem dR_canDoSame_22 : decode prog_5_method_15_code 22 = .ok (.aload_n 0, 1) := by decide +kernel
theorem dR_canDoSame_23 : decode prog_5_method_15_code 23 = .ok (.iconst 1, 1) := by decide +kernel
theorem dR_canDoSame_24 : decode prog_5_method_15_code 24 = .ok (.lconst 0, 1) := by decide +kernel
theorem dR_canDoSame_25 : decode prog_5_method_15_code 25 = .ok (.invokestatic 124, 3) := by decide +kernel
theorem dR_canDoSame_28 : decode prog_5_method_15_code 28 = .ok (.ireturn, 1) := by decide +kernel
theorem dR_canDoSame_29 : decode prog_5_method_15_code 29 = .ok (.aload_n 0, 1) := by decide +kernel
theorem dR_canDoSame_30 : decode prog_5_method_15_code 30 = .ok (.lload_n 1, 1) := by decide +kernel
theorem dR_canDoSame_31 : decode prog_5_method_15_code 31 = .ok (.invokestatic 121, 3) := by decide +kernel
theorem dR_canDoSame_34 : decode prog_5_method_15_code 34 = .ok (.ifCond .eq 10, 3) := by decide +kernel
theorem dR_canDoSame_37 : decode prog_5_method_15_code 37 = .ok (.aload_n 0, 1) := by decide +kernel
theorem dR_canDoSame_38 : decode prog_5_method_15_code 38 = .ok (.iconst 2, 1) := by decide +kernel
theorem dR_canDoSame_39 : decode prog_5_method_15_code 39 = .ok (.lload_n 3, 1) := by decide +kernel
theorem dR_canDoSame_40 : decode prog_5_method_15_code 40 = .ok (.invokestatic 124, 3) := by decide +kernel
theorem dR_canDoSame_43 : decode prog_5_method_15_code 43 = .ok (.ireturn, 1) := by decide +kernel
theorem dR_canDoSame_44 : decode prog_5_method_15_code 44 = .ok (.aload_n 0, 1) := by decide +kernel
theorem dR_canDoSame_45 : decode prog_5_method_15_code 45 = .ok (.lload_n 3, 1) := by decide +kernel
theorem dR_canDoSame_46 : decode prog_5_method_15_code 46 = .ok (.invokestatic 121, 3) := by decide +kernel
theorem dR_canDoSame_49 : decode prog_5_method_15_code 49 = .ok (.ifCond .eq 16, 3) := by decide +kernel
theorem dR_canDoSame_52 : decode prog_5_method_15_code 52 = .ok (.aload_n 0, 1) := by decide +kernel
theorem dR_canDoSame_53 : decode prog_5_method_15_code 53 = .ok (.iconst 3, 1) := by decide +kernel
theorem dR_canDoSame_54 : decode prog_5_method_15_code 54 = .ok (.lload_n 1, 1) := by decide +kernel
theorem dR_canDoSame_55 : decode prog_5_method_15_code 55 = .ok (.invokestatic 124, 3) := by decide +kernel
theorem dR_canDoSame_58 : decode prog_5_method_15_code 58 = .ok (.ifCond .eq 7, 3) := by decide +kernel
theorem dR_canDoSame_61 : decode prog_5_method_15_code 61 = .ok (.iconst 1, 1) := by decide +kernel
theorem dR_canDoSame_62 : decode prog_5_method_15_code 62 = .ok (.goto 4, 3) := by decide +kernel
theorem dR_canDoSame_65 : decode prog_5_method_15_code 65 = .ok (.iconst 0, 1) := by decide +kernel
theorem dR_canDoSame_66 : decode prog_5_method_15_code 66 = .ok (.ireturn, 1) := by decide +kernel
theorem dR_canDoSum_0 : decode prog_5_method_17_code 0 = .ok (.aload_n 0, 1) := by decide +kernel
theorem dR_canDoSum_1 : decode prog_5_method_17_code 1 = .ok (.iconst 0, 1) := by decide +kernel
theorem dR_canDoSum_2 : decode prog_5_method_17_code 2 = .ok (.invokevirtual 137, 3) := by decide +kernel
theorem dR_canDoSum_5 : decode prog_5_method_17_code 5 = .ok (.lstore_n 1, 1) := by decide +kernel
theorem dR_canDoSum_6 : decode prog_5_method_17_code 6 = .ok (.aload_n 0, 1) := by decide +kernel
theorem dR_canDoSum_7 : decode prog_5_method_17_code 7 = .ok (.aload_n 0, 1) := by decide +kernel
theorem dR_canDoSum_8 : decode prog_5_method_17_code 8 = .ok (.iconst 1, 1) := by decide +kernel
theorem dR_canDoSum_9 : decode prog_5_method_17_code 9 = .ok (.invokevirtual 141, 3) := by decide +kernel
theorem dR_canDoSum_12 : decode prog_5_method_17_code 12 = .ok (.invokestatic 121, 3) := by decide +kernel
theorem dR_canDoSum_15 : decode prog_5_method_17_code 15 = .ok (.ifCond .ne 5, 3) := by decide +kernel
theorem dR_canDoSum_18 : decode prog_5_method_17_code 18 = .ok (.iconst 0, 1) := by decide +kernel
theorem dR_canDoSum_19 : decode prog_5_method_17_code 19 = .ok (.ireturn, 1) := by decide +kernel
theorem dR_canDoSum_20 : decode prog_5_method_17_code 20 = .ok (.aload_n 0, 1) := by decide +kernel
theorem dR_canDoSum_21 : decode prog_5_method_17_code 21 = .ok (.aload_n 0, 1) := by decide +kernel
theorem dR_canDoSum_22 : decode prog_5_method_17_code 22 = .ok (.lload_n 1, 1) := by decide +kernel
theorem dR_canDoSum_23 : decode prog_5_method_17_code 23 = .ok (.invokestatic 121, 3) := by decide +kernel
theorem dR_canDoSum_26 : decode prog_5_method_17_code 26 = .ok (.ifCond .eq 7, 3) := by decide +kernel
theorem dR_canDoSum_29 : decode prog_5_method_17_code 29 = .ok (.iconst 1, 1) := by decide +kernel
theorem dR_canDoSum_30 : decode prog_5_method_17_code 30 = .ok (.goto 4, 3) := by decide +kernel
theorem dR_canDoSum_33 : decode prog_5_method_17_code 33 = .ok (.iconst 2, 1) := by decide +kernel
theorem dR_canDoSum_34 : decode prog_5_method_17_code 34 = .ok (.lload_n 1, 1) := by decide +kernel
theorem dR_canDoSum_35 : decode prog_5_method_17_code 35 = .ok (.invokestatic 124, 3) := by decide +kernel
theorem dR_canDoSum_38 : decode prog_5_method_17_code 38 = .ok (.ireturn, 1) := by decide +kernel
theorem dR_canDoTest_0 : decode prog_5_method_9_code 0 = .ok (.aload_n 1, 1) := by decide +kernel
theorem dR_canDoTest_1 : decode prog_5_method_9_code 1 = .ok (.iconst 0, 1) := by decide +kernel
theorem dR_canDoTest_2 : decode prog_5_method_9_code 2 = .ok (.invokevirtual 108, 3) := by decide +kernel
theorem dR_canDoTest_5 : decode prog_5_method_9_code 5 = .ok (.astore_n 2, 1) := by decide +kernel
theorem dR_canDoTest_6 : decode prog_5_method_9_code 6 = .ok (.aload_n 1, 1) := by decide +kernel
theorem dR_canDoTest_7 : decode prog_5_method_9_code 7 = .ok (.iconst 1, 1) := by decide +kernel
theorem dR_canDoTest_8 : decode prog_5_method_9_code 8 = .ok (.invokevirtual 108, 3) := by decide +kernel
theorem dR_canDoTest_11 : decode prog_5_method_9_code 11 = .ok (.astore_n 3, 1) := by decide +kernel
theorem dR_canDoTest_12 : decode prog_5_method_9_code 12 = .ok (.aload_n 1, 1) := by decide +kernel
theorem dR_canDoTest_13 : decode prog_5_method_9_code 13 = .ok (.iconst 2, 1) := by decide +kernel
theorem dR_canDoTest_14 : decode prog_5_method_9_code 14 = .ok (.invokevirtual 108, 3) := by decide +kernel
theorem dR_canDoTest_17 : decode prog_5_method_9_code 17 = .ok (.astore 4, 2) := by decide +kernel
theorem dR_canDoTest_19 : decode prog_5_method_9_code 19 = .ok (.aload_n 2, 1) := by decide +kernel
theorem dR_canDoTest_20 : decode prog_5_method_9_code 20 = .ok (.ifnull 12, 3) := by decide +kernel
theorem dR_canDoTest_23 : decode prog_5_method_9_code 23 = .ok (.aload_n 3, 1) := by decide +kernel
theorem dR_canDoTest_24 : decode prog_5_method_9_code 24 = .ok (.ifnull 8, 3) := by decide +kernel
theorem dR_canDoTest_27 : decode prog_5_method_9_code 27 = .ok (.aload 4, 2) := by decide +kernel
theorem dR_canDoTest_29 : decode prog_5_method_9_code 29 = .ok (.ifnonnull 5, 3) := by decide +kernel
theorem dR_canDoTest_32 : decode prog_5_method_9_code 32 = .ok (.iconst 0, 1) := by decide +kernel
theorem dR_canDoTest_33 : decode prog_5_method_9_code 33 = .ok (.ireturn, 1) := by decide +kernel
theorem dR_canDoTest_34 : decode prog_5_method_9_code 34 = .ok (.aload_n 0, 1) := by decide +kernel
theorem dR_canDoTest_35 : decode prog_5_method_9_code 35 = .ok (.aload_n 1, 1) := by decide +kernel
theorem dR_canDoTest_36 : decode prog_5_method_9_code 36 = .ok (.aload_n 2, 1) := by decide +kernel
theorem dR_canDoTest_37 : decode prog_5_method_9_code 37 = .ok (.aload_n 1, 1) := by decide +kernel
theorem dR_canDoTest_38 : decode prog_5_method_9_code 38 = .ok (.getfield 31, 3) := by decide +kernel
theorem dR_canDoTest_41 : decode prog_5_method_9_code 41 = .ok (.invokevirtual 93, 3) := by decide +kernel
theorem dR_canDoTest_44 : decode prog_5_method_9_code 44 = .ok (.ifCond .ne 5, 3) := by decide +kernel
theorem dR_canDoTest_47 : decode prog_5_method_9_code 47 = .ok (.iconst 0, 1) := by decide +kernel
theorem dR_canDoTest_48 : decode prog_5_method_9_code 48 = .ok (.ireturn, 1) := by decide +kernel
theorem dR_canDoTest_49 : decode prog_5_method_9_code 49 = .ok (.aload_n 2, 1) := by decide +kernel
theorem dR_canDoTest_50 : decode prog_5_method_9_code 50 = .ok (.invokestatic 101, 3) := by decide +kernel
theorem dR_canDoTest_53 : decode prog_5_method_9_code 53 = .ok (.aload_n 0, 1) := by decide +kernel
theorem dR_canDoTest_54 : decode prog_5_method_9_code 54 = .ok (.aload_n 1, 1) := by decide +kernel
theorem dR_canDoTest_55 : decode prog_5_method_9_code 55 = .ok (.invokevirtual 105, 3) := by decide +kernel
theorem dR_canDoTest_58 : decode prog_5_method_9_code 58 = .ok (.aload 4, 2) := by decide +kernel
theorem dR_canDoTest_60 : decode prog_5_method_9_code 60 = .ok (.getfield 112, 3) := by decide +kernel
theorem dR_canDoTest_63 : decode prog_5_method_9_code 63 = .ok (.lor, 1) := by decide +kernel
theorem dR_canDoTest_64 : decode prog_5_method_9_code 64 = .ok (.land, 1) := by decide +kernel
theorem dR_canDoTest_65 : decode prog_5_method_9_code 65 = .ok (.lconst 0, 1) := by decide +kernel
theorem dR_canDoTest_66 : decode prog_5_method_9_code 66 = .ok (.lcmp, 1) := by decide +kernel
theorem dR_canDoTest_67 : decode prog_5_method_9_code 67 = .ok (.ifCond .eq 5, 3) := by decide +kernel
theorem dR_canDoTest_70 : decode prog_5_method_9_code 70 = .ok (.iconst 0, 1) := by decide +kernel
theorem dR_canDoTest_71 : decode prog_5_method_9_code 71 = .ok (.ireturn, 1) := by decide +kernel
theorem dR_canDoTest_72 : decode prog_5_method_9_code 72 = .ok (.aload_n 0, 1) := by decide +kernel
theorem dR_canDoTest_73 : decode prog_5_method_9_code 73 = .ok (.aload_n 1, 1) := by decide +kernel
theorem dR_canDoTest_74 : decode prog_5_method_9_code 74 = .ok (.aload_n 3, 1) := by decide +kernel
theorem dR_canDoTest_75 : decode prog_5_method_9_code 75 = .ok (.aload_n 2, 1) := by decide +kernel
theorem dR_canDoTest_76 : decode prog_5_method_9_code 76 = .ok (.getfield 36, 3) := by decide +kernel
theorem dR_canDoTest_79 : decode prog_5_method_9_code 79 = .ok (.invokevirtual 93, 3) := by decide +kernel
theorem dR_canDoTest_82 : decode prog_5_method_9_code 82 = .ok (.ifCond .eq 17, 3) := by decide +kernel
theorem dR_canDoTest_85 : decode prog_5_method_9_code 85 = .ok (.aload_n 0, 1) := by decide +kernel
theorem dR_canDoTest_86 : decode prog_5_method_9_code 86 = .ok (.aload_n 1, 1) := by decide +kernel
theorem dR_canDoTest_87 : decode prog_5_method_9_code 87 = .ok (.aload 4, 2) := by decide +kernel
theorem dR_canDoTest_89 : decode prog_5_method_9_code 89 = .ok (.aload_n 1, 1) := by decide +kernel
theorem dR_canDoTest_90 : decode prog_5_method_9_code 90 = .ok (.getfield 31, 3) := by decide +kernel
theorem dR_canDoTest_93 : decode prog_5_method_9_code 93 = .ok (.invokevirtual 93, 3) := by decide +kernel
theorem dR_canDoTest_96 : decode prog_5_method_9_code 96 = .ok (.ifCond .ne 5, 3) := by decide +kernel
theorem dR_canDoTest_99 : decode prog_5_method_9_code 99 = .ok (.iconst 0, 1) := by decide +kernel
theorem dR_canDoTest_100 : decode prog_5_method_9_code 100 = .ok (.ireturn, 1) := by decide +kernel
theorem dR_canDoTest_101 : decode prog_5_method_9_code 101 = .ok (.aload_n 0, 1) := by decide +kernel
theorem dR_canDoTest_102 : decode prog_5_method_9_code 102 = .ok (.aload_n 1, 1) := by decide +kernel
theorem dR_canDoTest_103 : decode prog_5_method_9_code 103 = .ok (.aload_n 3, 1) := by decide +kernel
theorem dR_canDoTest_104 : decode prog_5_method_9_code 104 = .ok (.getfield 36, 3) := by decide +kernel
theorem dR_canDoTest_107 : decode prog_5_method_9_code 107 = .ok (.aload 4, 2) := by decide +kernel
theorem dR_canDoTest_109 : decode prog_5_method_9_code 109 = .ok (.getfield 36, 3) := by decide +kernel
theorem dR_canDoTest_112 : decode prog_5_method_9_code 112 = .ok (.land, 1) := by decide +kernel
theorem dR_canDoTest_113 : decode prog_5_method_9_code 113 = .ok (.aload_n 3, 1) := by decide +kernel
theorem dR_canDoTest_114 : decode prog_5_method_9_code 114 = .ok (.getfield 36, 3) := by decide +kernel
theorem dR_canDoTest_117 : decode prog_5_method_9_code 117 = .ok (.aload 4, 2) := by decide +kernel
theorem dR_canDoTest_119 : decode prog_5_method_9_code 119 = .ok (.getfield 36, 3) := by decide +kernel
theorem dR_canDoTest_122 : decode prog_5_method_9_code 122 = .ok (.lor, 1) := by decide +kernel
theorem dR_canDoTest_123 : decode prog_5_method_9_code 123 = .ok (.invokevirtual 97, 3) := by decide +kernel
theorem dR_canDoTest_126 : decode prog_5_method_9_code 126 = .ok (.ireturn, 1) := by decide +kernel
theorem dR_canJoin_0 : decode prog_5_method_11_code 0 = .ok (.aload_n 0, 1) := by decide +kernel
theorem dR_canJoin_1 : decode prog_5_method_11_code 1 = .ok (.aload_n 1, 1) := by decide +kernel
theorem dR_canJoin_2 : decode prog_5_method_11_code 2 = .ok (.invokevirtual 105, 3) := by decide +kernel
theorem dR_canJoin_5 : decode prog_5_method_11_code 5 = .ok (.aload_n 1, 1) := by decide +kernel
theorem dR_canJoin_6 : decode prog_5_method_11_code 6 = .ok (.getfield 31, 3) := by decide +kernel
theorem dR_canJoin_9 : decode prog_5_method_11_code 9 = .ok (.ldc2_w 91, 3) := by decide +kernel
theorem dR_canJoin_12 : decode prog_5_method_11_code 12 = .ok (.lxor, 1) := by decide +kernel
theorem dR_canJoin_13 : decode prog_5_method_11_code 13 = .ok (.land, 1) := by decide +kernel
theorem dR_canJoin_14 : decode prog_5_method_11_code 14 = .ok (.lstore 6, 2) := by decide +kernel
theorem dR_canJoin_16 : decode prog_5_method_11_code 16 = .ok (.lload 6, 2) := by decide +kernel
theorem dR_canJoin_18 : decode prog_5_method_11_code 18 = .ok (.lload 4, 2) := by decide +kernel
theorem dR_canJoin_20 : decode prog_5_method_11_code 20 = .ok (.land, 1) := by decide +kernel
theorem dR_canJoin_21 : decode prog_5_method_11_code 21 = .ok (.lload_n 2, 1) := by decide +kernel
theorem dR_canJoin_22 : decode prog_5_method_11_code 22 = .ok (.ldc2_w 91, 3) := by decide +kernel
theorem dR_canJoin_25 : decode prog_5_method_11_code 25 = .ok (.lxor, 1) := by decide +kernel
theorem dR_canJoin_26 : decode prog_5_method_11_code 26 = .ok (.land, 1) := by decide +kernel
theorem dR_canJoin_27 : decode prog_5_method_11_code 27 = .ok (.lconst 0, 1) := by decide +kernel
theorem dR_canJoin_28 : decode prog_5_method_11_code 28 = .ok (.lcmp, 1) := by decide +kernel
theorem dR_canJoin_29 : decode prog_5_method_11_code 29 = .ok (.ifCond .eq 5, 3) := by decide +kernel
theorem dR_canJoin_32 : decode prog_5_method_11_code 32 = .ok (.iconst 0, 1) := by decide +kernel
theorem dR_canJoin_33 : decode prog_5_method_11_code 33 = .ok (.ireturn, 1) := by decide +kernel
theorem dR_canJoin_34 : decode prog_5_method_11_code 34 = .ok (.aload_n 1, 1) := by decide +kernel
theorem dR_canJoin_35 : decode prog_5_method_11_code 35 = .ok (.aload_n 1, 1) := by decide +kernel
theorem dR_canJoin_36 : decode prog_5_method_11_code 36 = .ok (.getfield 31, 3) := by decide +kernel
theorem dR_canJoin_39 : decode prog_5_method_11_code 39 = .ok (.lload 6, 2) := by decide +kernel
theorem dR_canJoin_41 : decode prog_5_method_11_code 41 = .ok (.lload 4, 2) := by decide +kernel
theorem dR_canJoin_43 : decode prog_5_method_11_code 43 = .ok (.land, 1) := by decide +kernel
theorem dR_canJoin_44 : decode prog_5_method_11_code 44 = .ok (.lor, 1) := by decide +kernel
theorem dR_canJoin_45 : decode prog_5_method_11_code 45 = .ok (.putfield 36, 3) := by decide +kernel
theorem dR_canJoin_48 : decode prog_5_method_11_code 48 = .ok (.iconst 1, 1) := by decide +kernel
theorem dR_canJoin_49 : decode prog_5_method_11_code 49 = .ok (.ireturn, 1) := by decide +kernel
theorem dR_doLeftmost_0 : decode prog_5_method_5_code 0 = .ok (.aload_n 1, 1) := by decide +kernel
theorem dR_doLeftmost_1 : decode prog_5_method_5_code 1 = .ok (.getfield 64, 3) := by decide +kernel
theorem dR_doLeftmost_4 : decode prog_5_method_5_code 4 = .ok (.astore_n 2, 1) := by decide +kernel
theorem dR_doLeftmost_5 : decode prog_5_method_5_code 5 = .ok (.aload_n 2, 1) := by decide +kernel
theorem dR_doLeftmost_6 : decode prog_5_method_5_code 6 = .ok (.ifnull 45, 3) := by decide +kernel
theorem dR_doLeftmost_9 : decode prog_5_method_5_code 9 = .ok (.aload_n 2, 1) := by decide +kernel
theorem dR_doLeftmost_10 : decode prog_5_method_5_code 10 = .ok (.getfield 68, 3) := by decide +kernel
theorem dR_doLeftmost_13 : decode prog_5_method_5_code 13 = .ok (.ifCond .ne 30, 3) := by decide +kernel
theorem dR_doLeftmost_16 : decode prog_5_method_5_code 16 = .ok (.aload_n 0, 1) := by decide +kernel
theorem dR_doLeftmost_17 : decode prog_5_method_5_code 17 = .ok (.aload_n 2, 1) := by decide +kernel
theorem dR_doLeftmost_18 : decode prog_5_method_5_code 18 = .ok (.aload_n 1, 1) := by decide +kernel
theorem dR_doLeftmost_19 : decode prog_5_method_5_code 19 = .ok (.getfield 36, 3) := by decide +kernel
theorem dR_doLeftmost_22 : decode prog_5_method_5_code 22 = .ok (.invokevirtual 27, 3) := by decide +kernel
theorem dR_doLeftmost_25 : decode prog_5_method_5_code 25 = .ok (.ifCond .eq 18, 3) := by decide +kernel
theorem dR_doLeftmost_28 : decode prog_5_method_5_code 28 = .ok (.aload_n 2, 1) := by decide +kernel
theorem dR_doLeftmost_29 : decode prog_5_method_5_code 29 = .ok (.iconst 1, 1) := by decide +kernel
theorem dR_doLeftmost_30 : decode prog_5_method_5_code 30 = .ok (.putfield 68, 3) := by decide +kernel
theorem dR_doLeftmost_33 : decode prog_5_method_5_code 33 = .ok (.aload_n 1, 1) := by decide +kernel
theorem dR_doLeftmost_34 : decode prog_5_method_5_code 34 = .ok (.aload_n 2, 1) := by decide +kernel
theorem dR_doLeftmost_35 : decode prog_5_method_5_code 35 = .ok (.getfield 36, 3) := by decide +kernel
theorem dR_doLeftmost_38 : decode prog_5_method_5_code 38 = .ok (.putfield 36, 3) := by decide +kernel
theorem dR_doLeftmost_41 : decode prog_5_method_5_code 41 = .ok (.aload_n 2, 1) := by decide +kernel
theorem dR_doLeftmost_42 : decode prog_5_method_5_code 42 = .ok (.areturn, 1) := by decide +kernel
theorem dR_doLeftmost_43 : decode prog_5_method_5_code 43 = .ok (.aload_n 2, 1) := by decide +kernel
theorem dR_doLeftmost_44 : decode prog_5_method_5_code 44 = .ok (.getfield 74, 3) := by decide +kernel
theorem dR_doLeftmost_47 : decode prog_5_method_5_code 47 = .ok (.astore_n 2, 1) := by decide +kernel
theorem dR_doLeftmost_48 : decode prog_5_method_5_code 48 = .ok (.goto (-43), 3) := by decide +kernel
theorem dR_doLeftmost_51 : decode prog_5_method_5_code 51 = .ok (.aconst_null, 1) := by decide +kernel
theorem dR_doLeftmost_52 : decode prog_5_method_5_code 52 = .ok (.areturn, 1) := by decide +kernel
theorem dR_init_0 : decode prog_5_method_1_code 0 = .ok (.aload_n 0, 1) := by decide +kernel
theorem dR_init_1 : decode prog_5_method_1_code 1 = .ok (.invokespecial 3, 3) := by decide +kernel
theorem dR_init_4 : decode prog_5_method_1_code 4 = .ok (.aload_n 0, 1) := by decide +kernel
theorem dR_init_5 : decode prog_5_method_1_code 5 = .ok (.aload_n 1, 1) := by decide +kernel
theorem dR_init_6 : decode prog_5_method_1_code 6 = .ok (.putfield 9, 3) := by decide +kernel
theorem dR_init_9 : decode prog_5_method_1_code 9 = .ok (.return_, 1) := by decide +kernel
theorem dR_insOf_0 : decode prog_5_method_19_code 0 = .ok (.lconst 0, 1) := by decide +kernel
theorem dR_insOf_1 : decode prog_5_method_19_code 1 = .ok (.lstore_n 2, 1) := by decide +kernel
theorem dR_insOf_2 : decode prog_5_method_19_code 2 = .ok (.iconst 0, 1) := by decide +kernel
theorem dR_insOf_3 : decode prog_5_method_19_code 3 = .ok (.istore 4, 2) := by decide +kernel
theorem dR_insOf_5 : decode prog_5_method_19_code 5 = .ok (.iload 4, 2) := by decide +kernel
theorem dR_insOf_7 : decode prog_5_method_19_code 7 = .ok (.aload_n 0, 1) := by decide +kernel
theorem dR_insOf_8 : decode prog_5_method_19_code 8 = .ok (.getfield 161, 3) := by decide +kernel
theorem dR_insOf_11 : decode prog_5_method_19_code 11 = .ok (.if_icmp .ge 27, 3) := by decide +kernel
theorem dR_insOf_14 : decode prog_5_method_19_code 14 = .ok (.iload_n 1, 1) := by decide +kernel
theorem dR_insOf_15 : decode prog_5_method_19_code 15 = .ok (.iload 4, 2) := by decide +kernel
theorem dR_insOf_17 : decode prog_5_method_19_code 17 = .ok (.invokestatic 164, 3) := by decide +kernel
theorem dR_insOf_20 : decode prog_5_method_19_code 20 = .ok (.ifCond .ne 12, 3) := by decide +kernel
theorem dR_insOf_23 : decode prog_5_method_19_code 23 = .ok (.lload_n 2, 1) := by decide +kernel
theorem dR_insOf_24 : decode prog_5_method_19_code 24 = .ok (.aload_n 0, 1) := by decide +kernel
theorem dR_insOf_25 : decode prog_5_method_19_code 25 = .ok (.iload 4, 2) := by decide +kernel
theorem dR_insOf_27 : decode prog_5_method_19_code 27 = .ok (.invokevirtual 137, 3) := by decide +kernel
theorem dR_insOf_30 : decode prog_5_method_19_code 30 = .ok (.lor, 1) := by decide +kernel
theorem dR_insOf_31 : decode prog_5_method_19_code 31 = .ok (.lstore_n 2, 1) := by decide +kernel
theorem dR_insOf_32 : decode prog_5_method_19_code 32 = .ok (.iinc 4 1, 3) := by decide +kernel
theorem dR_insOf_35 : decode prog_5_method_19_code 35 = .ok (.goto (-30), 3) := by decide +kernel
theorem dR_insOf_38 : decode prog_5_method_19_code 38 = .ok (.lload_n 2, 1) := by decide +kernel
theorem dR_insOf_39 : decode prog_5_method_19_code 39 = .ok (.lreturn, 1) := by decide +kernel
theorem dR_isGround_0 : decode prog_5_method_20_code 0 = .ok (.lload_n 1, 1) := by decide +kernel
theorem dR_isGround_1 : decode prog_5_method_20_code 1 = .ok (.aload_n 0, 1) := by decide +kernel
theorem dR_isGround_2 : decode prog_5_method_20_code 2 = .ok (.getfield 31, 3) := by decide +kernel
theorem dR_isGround_5 : decode prog_5_method_20_code 5 = .ok (.ldc2_w 91, 3) := by decide +kernel
theorem dR_isGround_8 : decode prog_5_method_20_code 8 = .ok (.lxor, 1) := by decide +kernel
theorem dR_isGround_9 : decode prog_5_method_20_code 9 = .ok (.land, 1) := by decide +kernel
theorem dR_isGround_10 : decode prog_5_method_20_code 10 = .ok (.lconst 0, 1) := by decide +kernel
theorem dR_isGround_11 : decode prog_5_method_20_code 11 = .ok (.lcmp, 1) := by decide +kernel
theorem dR_isGround_12 : decode prog_5_method_20_code 12 = .ok (.ifCond .ne 7, 3) := by decide +kernel
theorem dR_isGround_15 : decode prog_5_method_20_code 15 = .ok (.iconst 1, 1) := by decide +kernel
theorem dR_isGround_16 : decode prog_5_method_20_code 16 = .ok (.goto 4, 3) := by decide +kernel
theorem dR_isGround_19 : decode prog_5_method_20_code 19 = .ok (.iconst 0, 1) := by decide +kernel
theorem dR_isGround_20 : decode prog_5_method_20_code 20 = .ok (.ireturn, 1) := by decide +kernel
theorem dR_madeBy_0 : decode prog_5_method_13_code 0 = .ok (.aload_n 0, 1) := by decide +kernel
theorem dR_madeBy_1 : decode prog_5_method_13_code 1 = .ok (.getfield 36, 3) := by decide +kernel
theorem dR_madeBy_4 : decode prog_5_method_13_code 4 = .ok (.aload_n 0, 1) := by decide +kernel
theorem dR_madeBy_5 : decode prog_5_method_13_code 5 = .ok (.getfield 31, 3) := by decide +kernel
theorem dR_madeBy_8 : decode prog_5_method_13_code 8 = .ok (.ldc2_w 91, 3) := by decide +kernel
theorem dR_madeBy_11 : decode prog_5_method_13_code 11 = .ok (.lxor, 1) := by decide +kernel
theorem dR_madeBy_12 : decode prog_5_method_13_code 12 = .ok (.land, 1) := by decide +kernel
theorem dR_madeBy_13 : decode prog_5_method_13_code 13 = .ok (.lreturn, 1) := by decide +kernel
theorem dR_outerOf_0 : decode prog_5_method_12_code 0 = .ok (.aload_n 1, 1) := by decide +kernel
theorem dR_outerOf_1 : decode prog_5_method_12_code 1 = .ok (.getfield 115, 3) := by decide +kernel
theorem dR_outerOf_4 : decode prog_5_method_12_code 4 = .ok (.aload_n 0, 1) := by decide +kernel
theorem dR_outerOf_5 : decode prog_5_method_12_code 5 = .ok (.getfield 15, 3) := by decide +kernel
theorem dR_outerOf_8 : decode prog_5_method_12_code 8 = .ok (.lor, 1) := by decide +kernel
theorem dR_outerOf_9 : decode prog_5_method_12_code 9 = .ok (.lreturn, 1) := by decide +kernel
theorem dR_run_0 : decode prog_5_method_2_code 0 = .ok (.aload_n 0, 1) := by decide +kernel
theorem dR_run_1 : decode prog_5_method_2_code 1 = .ok (.lload 4, 2) := by decide +kernel
theorem dR_run_3 : decode prog_5_method_2_code 3 = .ok (.putfield 15, 3) := by decide +kernel
theorem dR_run_6 : decode prog_5_method_2_code 6 = .ok (.aload_n 0, 1) := by decide +kernel
theorem dR_run_7 : decode prog_5_method_2_code 7 = .ok (.iconst 0, 1) := by decide +kernel
theorem dR_run_8 : decode prog_5_method_2_code 8 = .ok (.putfield 19, 3) := by decide +kernel
theorem dR_run_11 : decode prog_5_method_2_code 11 = .ok (.aload_n 0, 1) := by decide +kernel
theorem dR_run_12 : decode prog_5_method_2_code 12 = .ok (.iconst 0, 1) := by decide +kernel
theorem dR_run_13 : decode prog_5_method_2_code 13 = .ok (.putfield 23, 3) := by decide +kernel
theorem dR_run_16 : decode prog_5_method_2_code 16 = .ok (.aload_n 0, 1) := by decide +kernel
theorem dR_run_17 : decode prog_5_method_2_code 17 = .ok (.aload_n 1, 1) := by decide +kernel
theorem dR_run_18 : decode prog_5_method_2_code 18 = .ok (.lload_n 2, 1) := by decide +kernel
theorem dR_run_19 : decode prog_5_method_2_code 19 = .ok (.invokevirtual 27, 3) := by decide +kernel
theorem dR_run_22 : decode prog_5_method_2_code 22 = .ok (.ireturn, 1) := by decide +kernel
theorem dR_settle_0 : decode prog_5_method_21_code 0 = .ok (.aload_n 0, 1) := by decide +kernel
theorem dR_settle_1 : decode prog_5_method_21_code 1 = .ok (.iload_n 1, 1) := by decide +kernel
theorem dR_settle_2 : decode prog_5_method_21_code 2 = .ok (.putfield 168, 3) := by decide +kernel
theorem dR_settle_5 : decode prog_5_method_21_code 5 = .ok (.aload_n 0, 1) := by decide +kernel
theorem dR_settle_6 : decode prog_5_method_21_code 6 = .ok (.aload_n 0, 1) := by decide +kernel
theorem dR_settle_7 : decode prog_5_method_21_code 7 = .ok (.getfield 31, 3) := by decide +kernel
theorem dR_settle_10 : decode prog_5_method_21_code 10 = .ok (.lload_n 2, 1) := by decide +kernel
theorem dR_settle_11 : decode prog_5_method_21_code 11 = .ok (.lor, 1) := by decide +kernel
theorem dR_settle_12 : decode prog_5_method_21_code 12 = .ok (.putfield 36, 3) := by decide +kernel
theorem dR_settle_15 : decode prog_5_method_21_code 15 = .ok (.iconst 1, 1) := by decide +kernel
theorem dR_settle_16 : decode prog_5_method_21_code 16 = .ok (.ireturn, 1) := by decide +kernel
theorem dR_stuckOfLeftmost_0 : decode prog_5_method_6_code 0 = .ok (.aload_n 0, 1) := by decide +kernel
theorem dR_stuckOfLeftmost_1 : decode prog_5_method_6_code 1 = .ok (.getfield 64, 3) := by decide +kernel
theorem dR_stuckOfLeftmost_4 : decode prog_5_method_6_code 4 = .ok (.astore_n 1, 1) := by decide +kernel
theorem dR_stuckOfLeftmost_5 : decode prog_5_method_6_code 5 = .ok (.aload_n 1, 1) := by decide +kernel
theorem dR_stuckOfLeftmost_6 : decode prog_5_method_6_code 6 = .ok (.ifnull 23, 3) := by decide +kernel
theorem dR_stuckOfLeftmost_9 : decode prog_5_method_6_code 9 = .ok (.aload_n 1, 1) := by decide +kernel
theorem dR_stuckOfLeftmost_10 : decode prog_5_method_6_code 10 = .ok (.getfield 68, 3) := by decide +kernel
theorem dR_stuckOfLeftmost_13 : decode prog_5_method_6_code 13 = .ok (.ifCond .ne 8, 3) := by decide +kernel
theorem dR_stuckOfLeftmost_16 : decode prog_5_method_6_code 16 = .ok (.aload_n 1, 1) := by decide +kernel
theorem dR_stuckOfLeftmost_17 : decode prog_5_method_6_code 17 = .ok (.getfield 42, 3) := by decide +kernel
theorem dR_stuckOfLeftmost_20 : decode prog_5_method_6_code 20 = .ok (.ireturn, 1) := by decide +kernel
theorem dR_stuckOfLeftmost_21 : decode prog_5_method_6_code 21 = .ok (.aload_n 1, 1) := by decide +kernel
theorem dR_stuckOfLeftmost_22 : decode prog_5_method_6_code 22 = .ok (.getfield 74, 3) := by decide +kernel
theorem dR_stuckOfLeftmost_25 : decode prog_5_method_6_code 25 = .ok (.astore_n 1, 1) := by decide +kernel
theorem dR_stuckOfLeftmost_26 : decode prog_5_method_6_code 26 = .ok (.goto (-21), 3) := by decide +kernel
theorem dR_stuckOfLeftmost_29 : decode prog_5_method_6_code 29 = .ok (.aload_n 0, 1) := by decide +kernel
theorem dR_stuckOfLeftmost_30 : decode prog_5_method_6_code 30 = .ok (.getfield 39, 3) := by decide +kernel
theorem dR_stuckOfLeftmost_33 : decode prog_5_method_6_code 33 = .ok (.ireturn, 1) := by decide +kernel

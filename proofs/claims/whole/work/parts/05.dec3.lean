theorem dX3_rule_71 : decode cX3_rule 71 = .ok (.getfield 16, 3) := by decide +kernel
theorem dX3_rule_74 : decode cX3_rule 74 = .ok (.aload_n 0, 1) := by decide +kernel
theorem dX3_rule_75 : decode cX3_rule 75 = .ok (.getfield 74, 3) := by decide +kernel
theorem dX3_rule_78 : decode cX3_rule 78 = .ok (.iconst (-1), 1) := by decide +kernel
theorem dX3_rule_79 : decode cX3_rule 79 = .ok (.iastore, 1) := by decide +kernel
theorem dX3_rule_80 : decode cX3_rule 80 = .ok (.aload_n 0, 1) := by decide +kernel
theorem dX3_rule_81 : decode cX3_rule 81 = .ok (.dup, 1) := by decide +kernel
theorem dX3_rule_82 : decode cX3_rule 82 = .ok (.getfield 74, 3) := by decide +kernel
theorem dX3_rule_85 : decode cX3_rule 85 = .ok (.iconst 1, 1) := by decide +kernel
theorem dX3_rule_86 : decode cX3_rule 86 = .ok (.iadd, 1) := by decide +kernel
theorem dX3_rule_87 : decode cX3_rule 87 = .ok (.putfield 74, 3) := by decide +kernel
theorem dX3_rule_90 : decode cX3_rule 90 = .ok (.aload_n 0, 1) := by decide +kernel
theorem dX3_rule_91 : decode cX3_rule 91 = .ok (.getfield 74, 3) := by decide +kernel
theorem dX3_rule_94 : decode cX3_rule 94 = .ok (.iconst 1, 1) := by decide +kernel
theorem dX3_rule_95 : decode cX3_rule 95 = .ok (.isub, 1) := by decide +kernel
theorem dX3_rule_96 : decode cX3_rule 96 = .ok (.ireturn, 1) := by decide +kernel
theorem dX3_rule_37 : decode cX3_rule 37 = .ok (.bipush (-4), 2) := by decide +kernel
theorem dX3_rule_39 : decode cX3_rule 39 = .ok (.ireturn, 1) := by decide +kernel
theorem dX3_firstOf_0 : decode cX3_firstOf 0 = .ok (.iconst 0, 1) := by decide +kernel
theorem dX3_firstOf_1 : decode cX3_firstOf 1 = .ok (.istore_n 2, 1) := by decide +kernel
theorem dX3_firstOf_2 : decode cX3_firstOf 2 = .ok (.aload_n 0, 1) := by decide +kernel
theorem dX3_firstOf_3 : decode cX3_firstOf 3 = .ok (.getfield 7, 3) := by decide +kernel
theorem dX3_firstOf_6 : decode cX3_firstOf 6 = .ok (.iload_n 2, 1) := by decide +kernel
theorem dX3_firstOf_7 : decode cX3_firstOf 7 = .ok (.iaload, 1) := by decide +kernel
theorem dX3_firstOf_8 : decode cX3_firstOf 8 = .ok (.aload_n 0, 1) := by decide +kernel
theorem dX3_firstOf_9 : decode cX3_firstOf 9 = .ok (.getfield 7, 3) := by decide +kernel
theorem dX3_firstOf_12 : decode cX3_firstOf 12 = .ok (.iload_n 1, 1) := by decide +kernel
theorem dX3_firstOf_13 : decode cX3_firstOf 13 = .ok (.iaload, 1) := by decide +kernel
theorem dX3_firstOf_14 : decode cX3_firstOf 14 = .ok (.if_icmp .ne 18, 3) := by decide +kernel
theorem dX3_firstOf_32 : decode cX3_firstOf 32 = .ok (.iinc 2 1, 3) := by decide +kernel
theorem dX3_firstOf_35 : decode cX3_firstOf 35 = .ok (.goto (-33), 3) := by decide +kernel
theorem dX3_firstOf_17 : decode cX3_firstOf 17 = .ok (.aload_n 0, 1) := by decide +kernel
theorem dX3_firstOf_18 : decode cX3_firstOf 18 = .ok (.getfield 13, 3) := by decide +kernel
theorem dX3_firstOf_21 : decode cX3_firstOf 21 = .ok (.iload_n 2, 1) := by decide +kernel
theorem dX3_firstOf_22 : decode cX3_firstOf 22 = .ok (.iaload, 1) := by decide +kernel
theorem dX3_firstOf_23 : decode cX3_firstOf 23 = .ok (.aload_n 0, 1) := by decide +kernel
theorem dX3_firstOf_24 : decode cX3_firstOf 24 = .ok (.getfield 13, 3) := by decide +kernel
theorem dX3_firstOf_27 : decode cX3_firstOf 27 = .ok (.iload_n 1, 1) := by decide +kernel
theorem dX3_firstOf_28 : decode cX3_firstOf 28 = .ok (.iaload, 1) := by decide +kernel
theorem dX3_firstOf_29 : decode cX3_firstOf 29 = .ok (.if_icmp .eq 9, 3) := by decide +kernel
theorem dX3_firstOf_38 : decode cX3_firstOf 38 = .ok (.iload_n 2, 1) := by decide +kernel
theorem dX3_firstOf_39 : decode cX3_firstOf 39 = .ok (.ireturn, 1) := by decide +kernel
theorem dX3_classOf_0 : decode cX3_classOf 0 = .ok (.aload_n 0, 1) := by decide +kernel
theorem dX3_classOf_1 : decode cX3_classOf 1 = .ok (.iload_n 1, 1) := by decide +kernel
theorem dX3_classOf_2 : decode cX3_classOf 2 = .ok (.invokevirtual 80, 3) := by decide +kernel
theorem dX3_classOf_5 : decode cX3_classOf 5 = .ok (.istore_n 2, 1) := by decide +kernel
theorem dX3_classOf_6 : decode cX3_classOf 6 = .ok (.aload_n 0, 1) := by decide +kernel
theorem dX3_classOf_7 : decode cX3_classOf 7 = .ok (.getfield 19, 3) := by decide +kernel
theorem dX3_classOf_10 : decode cX3_classOf 10 = .ok (.iload_n 2, 1) := by decide +kernel
theorem dX3_classOf_11 : decode cX3_classOf 11 = .ok (.baload, 1) := by decide +kernel
theorem dX3_classOf_12 : decode cX3_classOf 12 = .ok (.ifCond .eq 5, 3) := by decide +kernel
theorem dX3_classOf_17 : decode cX3_classOf 17 = .ok (.aload_n 0, 1) := by decide +kernel
theorem dX3_classOf_18 : decode cX3_classOf 18 = .ok (.getfield 16, 3) := by decide +kernel
theorem dX3_classOf_21 : decode cX3_classOf 21 = .ok (.iload_n 2, 1) := by decide +kernel
theorem dX3_classOf_22 : decode cX3_classOf 22 = .ok (.iaload, 1) := by decide +kernel
theorem dX3_classOf_23 : decode cX3_classOf 23 = .ok (.iconst (-1), 1) := by decide +kernel
theorem dX3_classOf_24 : decode cX3_classOf 24 = .ok (.if_icmp .ne 33, 3) := by decide +kernel
theorem dX3_classOf_57 : decode cX3_classOf 57 = .ok (.aload_n 0, 1) := by decide +kernel
theorem dX3_classOf_58 : decode cX3_classOf 58 = .ok (.getfield 16, 3) := by decide +kernel
theorem dX3_classOf_61 : decode cX3_classOf 61 = .ok (.iload_n 2, 1) := by decide +kernel
theorem dX3_classOf_62 : decode cX3_classOf 62 = .ok (.iaload, 1) := by decide +kernel
theorem dX3_classOf_63 : decode cX3_classOf 63 = .ok (.ireturn, 1) := by decide +kernel
theorem dX3_classOf_27 : decode cX3_classOf 27 = .ok (.aload_n 0, 1) := by decide +kernel
theorem dX3_classOf_28 : decode cX3_classOf 28 = .ok (.getfield 16, 3) := by decide +kernel
theorem dX3_classOf_31 : decode cX3_classOf 31 = .ok (.iload_n 2, 1) := by decide +kernel
theorem dX3_classOf_32 : decode cX3_classOf 32 = .ok (.aload_n 0, 1) := by decide +kernel
theorem dX3_classOf_33 : decode cX3_classOf 33 = .ok (.getfield 84, 3) := by decide +kernel
theorem dX3_classOf_36 : decode cX3_classOf 36 = .ok (.iastore, 1) := by decide +kernel
theorem dX3_classOf_37 : decode cX3_classOf 37 = .ok (.aload_n 0, 1) := by decide +kernel
theorem dX3_classOf_38 : decode cX3_classOf 38 = .ok (.getfield 23, 3) := by decide +kernel
theorem dX3_classOf_41 : decode cX3_classOf 41 = .ok (.aload_n 0, 1) := by decide +kernel
theorem dX3_classOf_42 : decode cX3_classOf 42 = .ok (.getfield 84, 3) := by decide +kernel
theorem dX3_classOf_45 : decode cX3_classOf 45 = .ok (.lconst 0, 1) := by decide +kernel
theorem dX3_classOf_46 : decode cX3_classOf 46 = .ok (.lastore, 1) := by decide +kernel
theorem dX3_classOf_47 : decode cX3_classOf 47 = .ok (.aload_n 0, 1) := by decide +kernel
theorem dX3_classOf_48 : decode cX3_classOf 48 = .ok (.dup, 1) := by decide +kernel
theorem dX3_classOf_49 : decode cX3_classOf 49 = .ok (.getfield 84, 3) := by decide +kernel
theorem dX3_classOf_52 : decode cX3_classOf 52 = .ok (.iconst 1, 1) := by decide +kernel
theorem dX3_classOf_53 : decode cX3_classOf 53 = .ok (.iadd, 1) := by decide +kernel
theorem dX3_classOf_54 : decode cX3_classOf 54 = .ok (.putfield 84, 3) := by decide +kernel
theorem dX3_classOf_15 : decode cX3_classOf 15 = .ok (.iconst (-1), 1) := by decide +kernel
theorem dX3_classOf_16 : decode cX3_classOf 16 = .ok (.ireturn, 1) := by decide +kernel
theorem dX3_make_0 : decode cX3_make 0 = .ok (.aload_n 0, 1) := by decide +kernel
theorem dX3_make_1 : decode cX3_make 1 = .ok (.iconst 0, 1) := by decide +kernel
theorem dX3_make_2 : decode cX3_make 2 = .ok (.putfield 71, 3) := by decide +kernel
theorem dX3_make_5 : decode cX3_make 5 = .ok (.aload_n 0, 1) := by decide +kernel
theorem dX3_make_6 : decode cX3_make 6 = .ok (.iload_n 1, 1) := by decide +kernel
theorem dX3_make_7 : decode cX3_make 7 = .ok (.invokevirtual 87, 3) := by decide +kernel
theorem dX3_make_10 : decode cX3_make 10 = .ok (.ifCond .eq 11, 3) := by decide +kernel
theorem dX3_make_21 : decode cX3_make 21 = .ok (.iconst (-1), 1) := by decide +kernel
theorem dX3_make_22 : decode cX3_make 22 = .ok (.ireturn, 1) := by decide +kernel
theorem dX3_make_13 : decode cX3_make 13 = .ok (.aload_n 0, 1) := by decide +kernel
theorem dX3_make_14 : decode cX3_make 14 = .ok (.iload_n 1, 1) := by decide +kernel
theorem dX3_make_15 : decode cX3_make 15 = .ok (.invokevirtual 91, 3) := by decide +kernel
theorem dX3_make_18 : decode cX3_make 18 = .ok (.goto 4, 3) := by decide +kernel
theorem dX3_cell_0 : decode cX3_cell 0 = .ok (.aload_n 0, 1) := by decide +kernel
theorem dX3_cell_1 : decode cX3_cell 1 = .ok (.iconst 0, 1) := by decide +kernel
theorem dX3_cell_2 : decode cX3_cell 2 = .ok (.putfield 71, 3) := by decide +kernel
theorem dX3_cell_5 : decode cX3_cell 5 = .ok (.aload_n 0, 1) := by decide +kernel
theorem dX3_cell_6 : decode cX3_cell 6 = .ok (.iload_n 1, 1) := by decide +kernel
theorem dX3_cell_7 : decode cX3_cell 7 = .ok (.invokevirtual 87, 3) := by decide +kernel
theorem dX3_cell_10 : decode cX3_cell 10 = .ok (.ifCond .eq 16, 3) := by decide +kernel
theorem dX3_cell_26 : decode cX3_cell 26 = .ok (.iconst (-1), 1) := by decide +kernel
theorem dX3_cell_27 : decode cX3_cell 27 = .ok (.istore_n 2, 1) := by decide +kernel
theorem dX3_cell_28 : decode cX3_cell 28 = .ok (.iload_n 2, 1) := by decide +kernel
theorem dX3_cell_29 : decode cX3_cell 29 = .ok (.iconst (-1), 1) := by decide +kernel
theorem dX3_cell_30 : decode cX3_cell 30 = .ok (.if_icmp .ne 9, 3) := by decide +kernel
theorem dX3_cell_39 : decode cX3_cell 39 = .ok (.aload_n 0, 1) := by decide +kernel
theorem dX3_cell_40 : decode cX3_cell 40 = .ok (.getfield 23, 3) := by decide +kernel
theorem dX3_cell_43 : decode cX3_cell 43 = .ok (.iload_n 2, 1) := by decide +kernel
theorem dX3_cell_44 : decode cX3_cell 44 = .ok (.laload, 1) := by decide +kernel
theorem dX3_cell_45 : decode cX3_cell 45 = .ok (.lreturn, 1) := by decide +kernel
theorem dX3_cell_33 : decode cX3_cell 33 = .ok (.ldc2_w 94, 3) := by decide +kernel
theorem dX3_cell_36 : decode cX3_cell 36 = .ok (.goto 9, 3) := by decide +kernel
theorem dX3_cell_13 : decode cX3_cell 13 = .ok (.aload_n 0, 1) := by decide +kernel
theorem dX3_cell_14 : decode cX3_cell 14 = .ok (.getfield 16, 3) := by decide +kernel
theorem dX3_cell_17 : decode cX3_cell 17 = .ok (.aload_n 0, 1) := by decide +kernel
theorem dX3_cell_18 : decode cX3_cell 18 = .ok (.iload_n 1, 1) := by decide +kernel
theorem dX3_cell_19 : decode cX3_cell 19 = .ok (.invokevirtual 80, 3) := by decide +kernel
theorem dX3_cell_22 : decode cX3_cell 22 = .ok (.iaload, 1) := by decide +kernel
theorem dX3_cell_23 : decode cX3_cell 23 = .ok (.goto 4, 3) := by decide +kernel
theorem dX3_same_0 : decode cX3_same 0 = .ok (.aload_n 0, 1) := by decide +kernel
theorem dX3_same_1 : decode cX3_same 1 = .ok (.iconst 0, 1) := by decide +kernel
theorem dX3_same_2 : decode cX3_same 2 = .ok (.putfield 71, 3) := by decide +kernel
theorem dX3_same_5 : decode cX3_same 5 = .ok (.aload_n 0, 1) := by decide +kernel
theorem dX3_same_6 : decode cX3_same 6 = .ok (.iload_n 1, 1) := by decide +kernel
theorem dX3_same_7 : decode cX3_same 7 = .ok (.invokevirtual 87, 3) := by decide +kernel
theorem dX3_same_10 : decode cX3_same 10 = .ok (.ifCond .eq 45, 3) := by decide +kernel
theorem dX3_same_55 : decode cX3_same 55 = .ok (.iconst 0, 1) := by decide +kernel
theorem dX3_same_56 : decode cX3_same 56 = .ok (.ireturn, 1) := by decide +kernel
theorem dX3_same_13 : decode cX3_same 13 = .ok (.aload_n 0, 1) := by decide +kernel
theorem dX3_same_14 : decode cX3_same 14 = .ok (.iload_n 2, 1) := by decide +kernel
theorem dX3_same_15 : decode cX3_same 15 = .ok (.invokevirtual 87, 3) := by decide +kernel
theorem dX3_same_18 : decode cX3_same 18 = .ok (.ifCond .eq 37, 3) := by decide +kernel
theorem dX3_same_21 : decode cX3_same 21 = .ok (.aload_n 0, 1) := by decide +kernel
theorem dX3_same_22 : decode cX3_same 22 = .ok (.getfield 7, 3) := by decide +kernel
theorem dX3_same_25 : decode cX3_same 25 = .ok (.iload_n 1, 1) := by decide +kernel
theorem dX3_same_26 : decode cX3_same 26 = .ok (.iaload, 1) := by decide +kernel
theorem dX3_same_27 : decode cX3_same 27 = .ok (.aload_n 0, 1) := by decide +kernel
theorem dX3_same_28 : decode cX3_same 28 = .ok (.getfield 7, 3) := by decide +kernel
theorem dX3_same_31 : decode cX3_same 31 = .ok (.iload_n 2, 1) := by decide +kernel
theorem dX3_same_32 : decode cX3_same 32 = .ok (.iaload, 1) := by decide +kernel
theorem dX3_same_33 : decode cX3_same 33 = .ok (.if_icmp .ne 22, 3) := by decide +kernel
theorem dX3_same_36 : decode cX3_same 36 = .ok (.aload_n 0, 1) := by decide +kernel
theorem dX3_same_37 : decode cX3_same 37 = .ok (.getfield 13, 3) := by decide +kernel
theorem dX3_same_40 : decode cX3_same 40 = .ok (.iload_n 1, 1) := by decide +kernel
theorem dX3_same_41 : decode cX3_same 41 = .ok (.iaload, 1) := by decide +kernel
theorem dX3_same_42 : decode cX3_same 42 = .ok (.aload_n 0, 1) := by decide +kernel
theorem dX3_same_43 : decode cX3_same 43 = .ok (.getfield 13, 3) := by decide +kernel
theorem dX3_same_46 : decode cX3_same 46 = .ok (.iload_n 2, 1) := by decide +kernel
theorem dX3_same_47 : decode cX3_same 47 = .ok (.iaload, 1) := by decide +kernel
theorem dX3_same_48 : decode cX3_same 48 = .ok (.if_icmp .ne 7, 3) := by decide +kernel
theorem dX3_same_51 : decode cX3_same 51 = .ok (.iconst 1, 1) := by decide +kernel
theorem dX3_same_52 : decode cX3_same 52 = .ok (.goto 4, 3) := by decide +kernel
theorem dX3_divide_0 : decode cX3_divide 0 = .ok (.aload_n 0, 1) := by decide +kernel
theorem dX3_divide_1 : decode cX3_divide 1 = .ok (.iconst 0, 1) := by decide +kernel
theorem dX3_divide_2 : decode cX3_divide 2 = .ok (.putfield 71, 3) := by decide +kernel
theorem dX3_divide_5 : decode cX3_divide 5 = .ok (.aload_n 0, 1) := by decide +kernel
theorem dX3_divide_6 : decode cX3_divide 6 = .ok (.iload_n 1, 1) := by decide +kernel
theorem dX3_divide_7 : decode cX3_divide 7 = .ok (.invokevirtual 87, 3) := by decide +kernel
theorem dX3_divide_10 : decode cX3_divide 10 = .ok (.ifCond .eq 11, 3) := by decide +kernel
theorem dX3_divide_21 : decode cX3_divide 21 = .ok (.iconst (-1), 1) := by decide +kernel
theorem dX3_divide_22 : decode cX3_divide 22 = .ok (.istore 6, 2) := by decide +kernel
theorem dX3_divide_24 : decode cX3_divide 24 = .ok (.iload 6, 2) := by decide +kernel
theorem dX3_divide_26 : decode cX3_divide 26 = .ok (.iconst (-1), 1) := by decide +kernel
theorem dX3_divide_27 : decode cX3_divide 27 = .ok (.if_icmp .ne 5, 3) := by decide +kernel
theorem dX3_divide_32 : decode cX3_divide 32 = .ok (.aload_n 0, 1) := by decide +kernel
theorem dX3_divide_33 : decode cX3_divide 33 = .ok (.getfield 23, 3) := by decide +kernel
theorem dX3_divide_36 : decode cX3_divide 36 = .ok (.iload 6, 2) := by decide +kernel
theorem dX3_divide_38 : decode cX3_divide 38 = .ok (.dup2, 1) := by decide +kernel
theorem dX3_divide_39 : decode cX3_divide 39 = .ok (.laload, 1) := by decide +kernel
theorem dX3_divide_40 : decode cX3_divide 40 = .ok (.lconst 1, 1) := by decide +kernel
theorem dX3_divide_41 : decode cX3_divide 41 = .ok (.ladd, 1) := by decide +kernel
theorem dX3_divide_42 : decode cX3_divide 42 = .ok (.lastore, 1) := by decide +kernel
theorem dX3_divide_43 : decode cX3_divide 43 = .ok (.aload_n 0, 1) := by decide +kernel
theorem dX3_divide_44 : decode cX3_divide 44 = .ok (.lload 4, 2) := by decide +kernel
theorem dX3_divide_46 : decode cX3_divide 46 = .ok (.lconst 0, 1) := by decide +kernel
theorem dX3_divide_47 : decode cX3_divide 47 = .ok (.lcmp, 1) := by decide +kernel
theorem dX3_divide_48 : decode cX3_divide 48 = .ok (.ifCond .ne 7, 3) := by decide +kernel
theorem dX3_divide_55 : decode cX3_divide 55 = .ok (.iconst 0, 1) := by decide +kernel
theorem dX3_divide_56 : decode cX3_divide 56 = .ok (.putfield 71, 3) := by decide +kernel
theorem dX3_divide_59 : decode cX3_divide 59 = .ok (.lload 4, 2) := by decide +kernel
theorem dX3_divide_61 : decode cX3_divide 61 = .ok (.lconst 0, 1) := by decide +kernel
theorem dX3_divide_62 : decode cX3_divide 62 = .ok (.lcmp, 1) := by decide +kernel
theorem dX3_divide_63 : decode cX3_divide 63 = .ok (.ifCond .ne 7, 3) := by decide +kernel
theorem dX3_divide_70 : decode cX3_divide 70 = .ok (.lload 4, 2) := by decide +kernel
theorem dX3_divide_72 : decode cX3_divide 72 = .ok (.ldc2_w 94, 3) := by decide +kernel
theorem dX3_divide_75 : decode cX3_divide 75 = .ok (.lcmp, 1) := by decide +kernel
theorem dX3_divide_76 : decode cX3_divide 76 = .ok (.ifCond .ne 8, 3) := by decide +kernel
theorem dX3_divide_84 : decode cX3_divide 84 = .ok (.lload_n 2, 1) := by decide +kernel
theorem dX3_divide_85 : decode cX3_divide 85 = .ok (.lload 4, 2) := by decide +kernel
theorem dX3_divide_87 : decode cX3_divide 87 = .ok (.ldiv, 1) := by decide +kernel
theorem dX3_divide_88 : decode cX3_divide 88 = .ok (.lreturn, 1) := by decide +kernel
theorem dX3_divide_79 : decode cX3_divide 79 = .ok (.lload_n 2, 1) := by decide +kernel
theorem dX3_divide_80 : decode cX3_divide 80 = .ok (.lneg, 1) := by decide +kernel
theorem dX3_divide_81 : decode cX3_divide 81 = .ok (.goto 7, 3) := by decide +kernel
theorem dX3_divide_66 : decode cX3_divide 66 = .ok (.lconst 0, 1) := by decide +kernel
theorem dX3_divide_67 : decode cX3_divide 67 = .ok (.goto 21, 3) := by decide +kernel
theorem dX3_divide_51 : decode cX3_divide 51 = .ok (.iconst 1, 1) := by decide +kernel
theorem dX3_divide_52 : decode cX3_divide 52 = .ok (.goto 4, 3) := by decide +kernel
theorem dX3_divide_30 : decode cX3_divide 30 = .ok (.lconst 0, 1) := by decide +kernel
theorem dX3_divide_31 : decode cX3_divide 31 = .ok (.lreturn, 1) := by decide +kernel
theorem dX3_divide_13 : decode cX3_divide 13 = .ok (.aload_n 0, 1) := by decide +kernel
theorem dX3_divide_14 : decode cX3_divide 14 = .ok (.iload_n 1, 1) := by decide +kernel
theorem dX3_divide_15 : decode cX3_divide 15 = .ok (.invokevirtual 91, 3) := by decide +kernel
theorem dX3_divide_18 : decode cX3_divide 18 = .ok (.goto 4, 3) := by decide +kernel
theorem dX3_handle_0 : decode cX3_handle 0 = .ok (.aload_n 0, 1) := by decide +kernel
theorem dX3_handle_1 : decode cX3_handle 1 = .ok (.iload_n 1, 1) := by decide +kernel
theorem dX3_handle_2 : decode cX3_handle 2 = .ok (.ifCond .lt 15, 3) := by decide +kernel
theorem dX3_handle_17 : decode cX3_handle 17 = .ok (.iconst 0, 1) := by decide +kernel
theorem dX3_handle_18 : decode cX3_handle 18 = .ok (.putfield 71, 3) := by decide +kernel
theorem dX3_handle_21 : decode cX3_handle 21 = .ok (.aload_n 0, 1) := by decide +kernel
theorem dX3_handle_22 : decode cX3_handle 22 = .ok (.getfield 71, 3) := by decide +kernel
theorem dX3_handle_25 : decode cX3_handle 25 = .ok (.ifCond .le 7, 3) := by decide +kernel
theorem dX3_handle_32 : decode cX3_handle 32 = .ok (.iconst (-1), 1) := by decide +kernel
theorem dX3_handle_33 : decode cX3_handle 33 = .ok (.ireturn, 1) := by decide +kernel
theorem dX3_handle_28 : decode cX3_handle 28 = .ok (.iconst 0, 1) := by decide +kernel
theorem dX3_handle_29 : decode cX3_handle 29 = .ok (.goto 4, 3) := by decide +kernel
theorem dX3_handle_5 : decode cX3_handle 5 = .ok (.iload_n 1, 1) := by decide +kernel
theorem dX3_handle_6 : decode cX3_handle 6 = .ok (.aload_n 0, 1) := by decide +kernel
theorem dX3_handle_7 : decode cX3_handle 7 = .ok (.getfield 96, 3) := by decide +kernel
theorem dX3_handle_10 : decode cX3_handle 10 = .ok (.if_icmp .ge 7, 3) := by decide +kernel
theorem dX3_handle_13 : decode cX3_handle 13 = .ok (.iconst 1, 1) := by decide +kernel
theorem dX3_handle_14 : decode cX3_handle 14 = .ok (.goto 4, 3) := by decide +kernel
theorem dX3_target_0 : decode cX3_target 0 = .ok (.aload_n 0, 1) := by decide +kernel
theorem dX3_target_1 : decode cX3_target 1 = .ok (.iconst 0, 1) := by decide +kernel
theorem dX3_target_2 : decode cX3_target 2 = .ok (.putfield 71, 3) := by decide +kernel
theorem dX3_target_5 : decode cX3_target 5 = .ok (.aload_n 0, 1) := by decide +kernel
theorem dX3_target_6 : decode cX3_target 6 = .ok (.iload_n 1, 1) := by decide +kernel
theorem dX3_target_7 : decode cX3_target 7 = .ok (.invokevirtual 87, 3) := by decide +kernel
theorem dX3_target_10 : decode cX3_target 10 = .ok (.ifCond .ne 5, 3) := by decide +kernel
theorem dX3_target_15 : decode cX3_target 15 = .ok (.aload_n 0, 1) := by decide +kernel
theorem dX3_target_16 : decode cX3_target 16 = .ok (.getfield 77, 3) := by decide +kernel
theorem dX3_target_19 : decode cX3_target 19 = .ok (.bipush 40, 2) := by decide +kernel
theorem dX3_target_21 : decode cX3_target 21 = .ok (.if_icmp .ne 6, 3) := by decide +kernel
theorem dX3_target_27 : decode cX3_target 27 = .ok (.aload_n 0, 1) := by decide +kernel
theorem dX3_target_28 : decode cX3_target 28 = .ok (.getfield 27, 3) := by decide +kernel
theorem dX3_target_31 : decode cX3_target 31 = .ok (.aload_n 0, 1) := by decide +kernel
theorem dX3_target_32 : decode cX3_target 32 = .ok (.getfield 77, 3) := by decide +kernel
theorem dX3_target_35 : decode cX3_target 35 = .ok (.iload_n 1, 1) := by decide +kernel
theorem dX3_target_36 : decode cX3_target 36 = .ok (.iastore, 1) := by decide +kernel
theorem dX3_target_37 : decode cX3_target 37 = .ok (.aload_n 0, 1) := by decide +kernel
theorem dX3_target_38 : decode cX3_target 38 = .ok (.dup, 1) := by decide +kernel
theorem dX3_target_39 : decode cX3_target 39 = .ok (.getfield 77, 3) := by decide +kernel
theorem dX3_target_42 : decode cX3_target 42 = .ok (.iconst 1, 1) := by decide +kernel
theorem dX3_target_43 : decode cX3_target 43 = .ok (.iadd, 1) := by decide +kernel
theorem dX3_target_44 : decode cX3_target 44 = .ok (.putfield 77, 3) := by decide +kernel
theorem dX3_target_47 : decode cX3_target 47 = .ok (.aload_n 0, 1) := by decide +kernel
theorem dX3_target_48 : decode cX3_target 48 = .ok (.getfield 77, 3) := by decide +kernel
theorem dX3_target_51 : decode cX3_target 51 = .ok (.iconst 1, 1) := by decide +kernel
theorem dX3_target_52 : decode cX3_target 52 = .ok (.isub, 1) := by decide +kernel
theorem dX3_target_53 : decode cX3_target 53 = .ok (.ireturn, 1) := by decide +kernel
theorem dX3_target_24 : decode cX3_target 24 = .ok (.bipush (-4), 2) := by decide +kernel
theorem dX3_target_26 : decode cX3_target 26 = .ok (.ireturn, 1) := by decide +kernel
theorem dX3_target_13 : decode cX3_target 13 = .ok (.iconst (-1), 1) := by decide +kernel
theorem dX3_target_14 : decode cX3_target 14 = .ok (.ireturn, 1) := by decide +kernel
theorem dX3_attribute_0 : decode cX3_attribute 0 = .ok (.aload_n 0, 1) := by decide +kernel
theorem dX3_attribute_1 : decode cX3_attribute 1 = .ok (.iconst 0, 1) := by decide +kernel
theorem dX3_attribute_2 : decode cX3_attribute 2 = .ok (.putfield 71, 3) := by decide +kernel
theorem dX3_attribute_5 : decode cX3_attribute 5 = .ok (.aload_n 0, 1) := by decide +kernel
theorem dX3_attribute_6 : decode cX3_attribute 6 = .ok (.iload_n 1, 1) := by decide +kernel
theorem dX3_attribute_7 : decode cX3_attribute 7 = .ok (.invokevirtual 99, 3) := by decide +kernel
theorem dX3_attribute_10 : decode cX3_attribute 10 = .ok (.ifCond .eq 12, 3) := by decide +kernel
theorem dX3_attribute_22 : decode cX3_attribute 22 = .ok (.iconst (-1), 1) := by decide +kernel
theorem dX3_attribute_23 : decode cX3_attribute 23 = .ok (.ireturn, 1) := by decide +kernel
theorem dX3_attribute_13 : decode cX3_attribute 13 = .ok (.iload_n 2, 1) := by decide +kernel
theorem dX3_attribute_14 : decode cX3_attribute 14 = .ok (.ifCond .lt 8, 3) := by decide +kernel
theorem dX3_attribute_17 : decode cX3_attribute 17 = .ok (.iload_n 2, 1) := by decide +kernel
theorem dX3_attribute_18 : decode cX3_attribute 18 = .ok (.iconst 3, 1) := by decide +kernel
theorem dX3_attribute_19 : decode cX3_attribute 19 = .ok (.if_icmp .le 5, 3) := by decide +kernel
theorem dX3_attribute_24 : decode cX3_attribute 24 = .ok (.iload_n 2, 1) := by decide +kernel
theorem dX3_attribute_25 : decode cX3_attribute 25 = .ok (.ifCond .ne 8, 3) := by decide +kernel
theorem dX3_attribute_33 : decode cX3_attribute 33 = .ok (.iload_n 2, 1) := by decide +kernel
theorem dX3_attribute_34 : decode cX3_attribute 34 = .ok (.iconst 2, 1) := by decide +kernel
theorem dX3_attribute_35 : decode cX3_attribute 35 = .ok (.if_icmp .ne 7, 3) := by decide +kernel
theorem dX3_attribute_42 : decode cX3_attribute 42 = .ok (.iconst 1, 1) := by decide +kernel
theorem dX3_attribute_43 : decode cX3_attribute 43 = .ok (.istore 4, 2) := by decide +kernel
theorem dX3_attribute_45 : decode cX3_attribute 45 = .ok (.iload_n 2, 1) := by decide +kernel
theorem dX3_attribute_46 : decode cX3_attribute 46 = .ok (.iconst 1, 1) := by decide +kernel
theorem dX3_attribute_47 : decode cX3_attribute 47 = .ok (.if_icmp .eq 16, 3) := by decide +kernel
theorem dX3_attribute_63 : decode cX3_attribute 63 = .ok (.aload_n 0, 1) := by decide +kernel
theorem dX3_attribute_64 : decode cX3_attribute 64 = .ok (.getfield 54, 3) := by decide +kernel
theorem dX3_attribute_67 : decode cX3_attribute 67 = .ok (.iload_n 1, 1) := by decide +kernel
theorem dX3_attribute_68 : decode cX3_attribute 68 = .ok (.baload, 1) := by decide +kernel
theorem dX3_attribute_69 : decode cX3_attribute 69 = .ok (.ifCond .eq 6, 3) := by decide +kernel
theorem dX3_attribute_75 : decode cX3_attribute 75 = .ok (.aload_n 0, 1) := by decide +kernel
theorem dX3_attribute_76 : decode cX3_attribute 76 = .ok (.getfield 30, 3) := by decide +kernel
theorem dX3_attribute_79 : decode cX3_attribute 79 = .ok (.iconst 4, 1) := by decide +kernel
theorem dX3_attribute_80 : decode cX3_attribute 80 = .ok (.iload_n 1, 1) := by decide +kernel
theorem dX3_attribute_81 : decode cX3_attribute 81 = .ok (.imul, 1) := by decide +kernel
theorem dX3_attribute_82 : decode cX3_attribute 82 = .ok (.iload_n 2, 1) := by decide +kernel
theorem dX3_attribute_83 : decode cX3_attribute 83 = .ok (.iadd, 1) := by decide +kernel
theorem dX3_attribute_84 : decode cX3_attribute 84 = .ok (.iaload, 1) := by decide +kernel
theorem dX3_attribute_85 : decode cX3_attribute 85 = .ok (.istore 5, 2) := by decide +kernel
theorem dX3_attribute_87 : decode cX3_attribute 87 = .ok (.aload_n 0, 1) := by decide +kernel
theorem dX3_attribute_88 : decode cX3_attribute 88 = .ok (.getfield 30, 3) := by decide +kernel
theorem dX3_attribute_91 : decode cX3_attribute 91 = .ok (.iconst 4, 1) := by decide +kernel
theorem dX3_attribute_92 : decode cX3_attribute 92 = .ok (.iload_n 1, 1) := by decide +kernel
theorem dX3_attribute_93 : decode cX3_attribute 93 = .ok (.imul, 1) := by decide +kernel
theorem dX3_attribute_94 : decode cX3_attribute 94 = .ok (.iload_n 2, 1) := by decide +kernel
theorem dX3_attribute_95 : decode cX3_attribute 95 = .ok (.iadd, 1) := by decide +kernel
theorem dX3_attribute_96 : decode cX3_attribute 96 = .ok (.iload_n 3, 1) := by decide +kernel
theorem dX3_attribute_97 : decode cX3_attribute 97 = .ok (.iastore, 1) := by decide +kernel
theorem dX3_attribute_98 : decode cX3_attribute 98 = .ok (.iload 5, 2) := by decide +kernel
theorem dX3_attribute_100 : decode cX3_attribute 100 = .ok (.ireturn, 1) := by decide +kernel
theorem dX3_attribute_72 : decode cX3_attribute 72 = .ok (.bipush (-3), 2) := by decide +kernel
theorem dX3_attribute_74 : decode cX3_attribute 74 = .ok (.ireturn, 1) := by decide +kernel
theorem dX3_attribute_50 : decode cX3_attribute 50 = .ok (.iload_n 3, 1) := by decide +kernel
theorem dX3_attribute_51 : decode cX3_attribute 51 = .ok (.ifCond .lt 9, 3) := by decide +kernel
theorem dX3_attribute_60 : decode cX3_attribute 60 = .ok (.bipush (-2), 2) := by decide +kernel
theorem dX3_attribute_62 : decode cX3_attribute 62 = .ok (.ireturn, 1) := by decide +kernel
theorem dX3_attribute_54 : decode cX3_attribute 54 = .ok (.iload_n 3, 1) := by decide +kernel
theorem dX3_attribute_55 : decode cX3_attribute 55 = .ok (.iload 4, 2) := by decide +kernel
theorem dX3_attribute_57 : decode cX3_attribute 57 = .ok (.if_icmp .le 6, 3) := by decide +kernel
theorem dX3_attribute_38 : decode cX3_attribute 38 = .ok (.iload_n 1, 1) := by decide +kernel
theorem dX3_attribute_39 : decode cX3_attribute 39 = .ok (.goto 4, 3) := by decide +kernel
theorem dX3_attribute_28 : decode cX3_attribute 28 = .ok (.bipush 20, 2) := by decide +kernel
theorem dX3_attribute_30 : decode cX3_attribute 30 = .ok (.goto 13, 3) := by decide +kernel
theorem dX3_fail_0 : decode cX3_fail 0 = .ok (.aload_n 0, 1) := by decide +kernel
theorem dX3_fail_1 : decode cX3_fail 1 = .ok (.getfield 33, 3) := by decide +kernel
theorem dX3_fail_4 : decode cX3_fail 4 = .ok (.iload_n 1, 1) := by decide +kernel
theorem dX3_fail_5 : decode cX3_fail 5 = .ok (.iload_n 2, 1) := by decide +kernel
theorem dX3_fail_6 : decode cX3_fail 6 = .ok (.iastore, 1) := by decide +kernel
theorem dX3_fail_7 : decode cX3_fail 7 = .ok (.aload_n 0, 1) := by decide +kernel
theorem dX3_fail_8 : decode cX3_fail 8 = .ok (.getfield 36, 3) := by decide +kernel
theorem dX3_fail_11 : decode cX3_fail 11 = .ok (.iload_n 1, 1) := by decide +kernel
theorem dX3_fail_12 : decode cX3_fail 12 = .ok (.iload_n 3, 1) := by decide +kernel
theorem dX3_fail_13 : decode cX3_fail 13 = .ok (.iastore, 1) := by decide +kernel
theorem dX3_fail_14 : decode cX3_fail 14 = .ok (.aload_n 0, 1) := by decide +kernel
theorem dX3_fail_15 : decode cX3_fail 15 = .ok (.getfield 39, 3) := by decide +kernel
theorem dX3_fail_18 : decode cX3_fail 18 = .ok (.iload_n 1, 1) := by decide +kernel
theorem dX3_fail_19 : decode cX3_fail 19 = .ok (.iload 4, 2) := by decide +kernel
theorem dX3_fail_21 : decode cX3_fail 21 = .ok (.iconst 1, 1) := by decide +kernel
theorem dX3_fail_22 : decode cX3_fail 22 = .ok (.iadd, 1) := by decide +kernel
theorem dX3_fail_23 : decode cX3_fail 23 = .ok (.iastore, 1) := by decide +kernel
theorem dX3_fail_24 : decode cX3_fail 24 = .ok (.aload_n 0, 1) := by decide +kernel
theorem dX3_fail_25 : decode cX3_fail 25 = .ok (.dup, 1) := by decide +kernel
theorem dX3_fail_26 : decode cX3_fail 26 = .ok (.getfield 102, 3) := by decide +kernel
theorem dX3_fail_29 : decode cX3_fail 29 = .ok (.aload_n 0, 1) := by decide +kernel
theorem dX3_fail_30 : decode cX3_fail 30 = .ok (.getfield 42, 3) := by decide +kernel
theorem dX3_fail_33 : decode cX3_fail 33 = .ok (.iload_n 1, 1) := by decide +kernel
theorem dX3_fail_34 : decode cX3_fail 34 = .ok (.iaload, 1) := by decide +kernel
theorem dX3_fail_35 : decode cX3_fail 35 = .ok (.isub, 1) := by decide +kernel
theorem dX3_fail_36 : decode cX3_fail 36 = .ok (.putfield 102, 3) := by decide +kernel
theorem dX3_fail_39 : decode cX3_fail 39 = .ok (.aload_n 0, 1) := by decide +kernel
theorem dX3_fail_40 : decode cX3_fail 40 = .ok (.getfield 42, 3) := by decide +kernel
theorem dX3_fail_43 : decode cX3_fail 43 = .ok (.iload_n 1, 1) := by decide +kernel
theorem dX3_fail_44 : decode cX3_fail 44 = .ok (.iconst 0, 1) := by decide +kernel
theorem dX3_fail_45 : decode cX3_fail 45 = .ok (.iastore, 1) := by decide +kernel
theorem dX3_fail_46 : decode cX3_fail 46 = .ok (.iconst 0, 1) := by decide +kernel
theorem dX3_fail_47 : decode cX3_fail 47 = .ok (.istore 5, 2) := by decide +kernel
theorem dX3_fail_49 : decode cX3_fail 49 = .ok (.iload 5, 2) := by decide +kernel
theorem dX3_fail_51 : decode cX3_fail 51 = .ok (.iconst 3, 1) := by decide +kernel
theorem dX3_fail_52 : decode cX3_fail 52 = .ok (.if_icmp .ge 21, 3) := by decide +kernel
theorem dX3_fail_73 : decode cX3_fail 73 = .ok (.return_, 1) := by decide +kernel
theorem dX3_fail_55 : decode cX3_fail 55 = .ok (.aload_n 0, 1) := by decide +kernel
theorem dX3_fail_56 : decode cX3_fail 56 = .ok (.getfield 57, 3) := by decide +kernel
theorem dX3_fail_59 : decode cX3_fail 59 = .ok (.iconst 3, 1) := by decide +kernel
theorem dX3_fail_60 : decode cX3_fail 60 = .ok (.iload_n 1, 1) := by decide +kernel
theorem dX3_fail_61 : decode cX3_fail 61 = .ok (.imul, 1) := by decide +kernel
theorem dX3_fail_62 : decode cX3_fail 62 = .ok (.iload 5, 2) := by decide +kernel
theorem dX3_fail_64 : decode cX3_fail 64 = .ok (.iadd, 1) := by decide +kernel
theorem dX3_fail_65 : decode cX3_fail 65 = .ok (.iconst 0, 1) := by decide +kernel
theorem dX3_fail_66 : decode cX3_fail 66 = .ok (.bastore, 1) := by decide +kernel
theorem dX3_fail_67 : decode cX3_fail 67 = .ok (.iinc 5 1, 3) := by decide +kernel
theorem dX3_fail_70 : decode cX3_fail 70 = .ok (.goto (-21), 3) := by decide +kernel
theorem dX3_give_0 : decode cX3_give 0 = .ok (.aload_n 0, 1) := by decide +kernel
theorem dX3_give_1 : decode cX3_give 1 = .ok (.getfield 51, 3) := by decide +kernel
theorem dX3_give_4 : decode cX3_give 4 = .ok (.iconst 3, 1) := by decide +kernel
theorem dX3_give_5 : decode cX3_give 5 = .ok (.iload_n 1, 1) := by decide +kernel
theorem dX3_give_6 : decode cX3_give 6 = .ok (.imul, 1) := by decide +kernel
theorem dX3_give_7 : decode cX3_give 7 = .ok (.iload_n 2, 1) := by decide +kernel
theorem dX3_give_8 : decode cX3_give 8 = .ok (.iadd, 1) := by decide +kernel
theorem dX3_give_9 : decode cX3_give 9 = .ok (.iload_n 3, 1) := by decide +kernel
theorem dX3_give_10 : decode cX3_give 10 = .ok (.iastore, 1) := by decide +kernel
theorem dX3_give_11 : decode cX3_give 11 = .ok (.aload_n 0, 1) := by decide +kernel
theorem dX3_give_12 : decode cX3_give 12 = .ok (.getfield 57, 3) := by decide +kernel
theorem dX3_give_15 : decode cX3_give 15 = .ok (.iconst 3, 1) := by decide +kernel
theorem dX3_give_16 : decode cX3_give 16 = .ok (.iload_n 1, 1) := by decide +kernel
theorem dX3_give_17 : decode cX3_give 17 = .ok (.imul, 1) := by decide +kernel
theorem dX3_give_18 : decode cX3_give 18 = .ok (.iload_n 2, 1) := by decide +kernel
theorem dX3_give_19 : decode cX3_give 19 = .ok (.iadd, 1) := by decide +kernel
theorem dX3_give_20 : decode cX3_give 20 = .ok (.iconst 1, 1) := by decide +kernel
theorem dX3_give_21 : decode cX3_give 21 = .ok (.bastore, 1) := by decide +kernel
theorem dX3_give_22 : decode cX3_give 22 = .ok (.return_, 1) := by decide +kernel
theorem dX3_step_0 : decode cX3_step 0 = .ok (.aload_n 0, 1) := by decide +kernel
theorem dX3_step_1 : decode cX3_step 1 = .ok (.getfield 45, 3) := by decide +kernel
theorem dX3_step_4 : decode cX3_step 4 = .ok (.iload_n 1, 1) := by decide +kernel
theorem dX3_step_5 : decode cX3_step 5 = .ok (.iaload, 1) := by decide +kernel
theorem dX3_step_6 : decode cX3_step 6 = .ok (.aload_n 0, 1) := by decide +kernel
theorem dX3_step_7 : decode cX3_step 7 = .ok (.getfield 67, 3) := by decide +kernel
theorem dX3_step_10 : decode cX3_step 10 = .ok (.if_icmp .ne 5, 3) := by decide +kernel
theorem dX3_step_15 : decode cX3_step 15 = .ok (.aload_n 0, 1) := by decide +kernel
theorem dX3_step_16 : decode cX3_step 16 = .ok (.getfield 45, 3) := by decide +kernel
theorem dX3_step_19 : decode cX3_step 19 = .ok (.iload_n 1, 1) := by decide +kernel
theorem dX3_step_20 : decode cX3_step 20 = .ok (.dup2, 1) := by decide +kernel
theorem dX3_step_21 : decode cX3_step 21 = .ok (.iaload, 1) := by decide +kernel
theorem dX3_step_22 : decode cX3_step 22 = .ok (.iconst 1, 1) := by decide +kernel
theorem dX3_step_23 : decode cX3_step 23 = .ok (.iadd, 1) := by decide +kernel
theorem dX3_step_24 : decode cX3_step 24 = .ok (.iastore, 1) := by decide +kernel
theorem dX3_step_25 : decode cX3_step 25 = .ok (.iconst 1, 1) := by decide +kernel
theorem dX3_step_26 : decode cX3_step 26 = .ok (.ireturn, 1) := by decide +kernel
theorem dX3_step_13 : decode cX3_step 13 = .ok (.iconst 0, 1) := by decide +kernel
theorem dX3_step_14 : decode cX3_step 14 = .ok (.ireturn, 1) := by decide +kernel
theorem dX3_act_0 : decode cX3_act 0 = .ok (.iconst 0, 1) := by decide +kernel
theorem dX3_act_1 : decode cX3_act 1 = .ok (.istore_n 3, 1) := by decide +kernel
theorem dX3_act_2 : decode cX3_act 2 = .ok (.iload_n 3, 1) := by decide +kernel
theorem dX3_act_3 : decode cX3_act 3 = .ok (.iload_n 2, 1) := by decide +kernel
theorem dX3_act_4 : decode cX3_act 4 = .ok (.if_icmp .ge 77, 3) := by decide +kernel
theorem dX3_act_81 : decode cX3_act 81 = .ok (.iconst 0, 1) := by decide +kernel
theorem dX3_act_82 : decode cX3_act 82 = .ok (.ireturn, 1) := by decide +kernel
theorem dX3_act_7 : decode cX3_act 7 = .ok (.aload_n 0, 1) := by decide +kernel
theorem dX3_act_8 : decode cX3_act 8 = .ok (.iload_n 1, 1) := by decide +kernel
theorem dX3_act_9 : decode cX3_act 9 = .ok (.invokevirtual 113, 3) := by decide +kernel
theorem dX3_act_12 : decode cX3_act 12 = .ok (.ifCond .ne 5, 3) := by decide +kernel
theorem dX3_act_17 : decode cX3_act 17 = .ok (.aload_n 0, 1) := by decide +kernel
theorem dX3_act_18 : decode cX3_act 18 = .ok (.getfield 102, 3) := by decide +kernel
theorem dX3_act_21 : decode cX3_act 21 = .ok (.sipush 400, 3) := by decide +kernel
theorem dX3_act_24 : decode cX3_act 24 = .ok (.if_icmp .ne 6, 3) := by decide +kernel
theorem dX3_act_30 : decode cX3_act 30 = .ok (.aload_n 0, 1) := by decide +kernel
theorem dX3_act_31 : decode cX3_act 31 = .ok (.getfield 60, 3) := by decide +kernel
theorem dX3_act_34 : decode cX3_act 34 = .ok (.aload_n 0, 1) := by decide +kernel
theorem dX3_act_35 : decode cX3_act 35 = .ok (.getfield 102, 3) := by decide +kernel
theorem dX3_act_38 : decode cX3_act 38 = .ok (.iload_n 1, 1) := by decide +kernel
theorem dX3_act_39 : decode cX3_act 39 = .ok (.iastore, 1) := by decide +kernel
theorem dX3_act_40 : decode cX3_act 40 = .ok (.aload_n 0, 1) := by decide +kernel
theorem dX3_act_41 : decode cX3_act 41 = .ok (.getfield 63, 3) := by decide +kernel
theorem dX3_act_44 : decode cX3_act 44 = .ok (.aload_n 0, 1) := by decide +kernel
theorem dX3_act_45 : decode cX3_act 45 = .ok (.getfield 102, 3) := by decide +kernel
theorem dX3_act_48 : decode cX3_act 48 = .ok (.aload_n 0, 1) := by decide +kernel
theorem dX3_act_49 : decode cX3_act 49 = .ok (.getfield 42, 3) := by decide +kernel
theorem dX3_act_52 : decode cX3_act 52 = .ok (.iload_n 1, 1) := by decide +kernel
theorem dX3_act_53 : decode cX3_act 53 = .ok (.iaload, 1) := by decide +kernel
theorem dX3_act_54 : decode cX3_act 54 = .ok (.iastore, 1) := by decide +kernel
theorem dX3_act_55 : decode cX3_act 55 = .ok (.aload_n 0, 1) := by decide +kernel
theorem dX3_act_56 : decode cX3_act 56 = .ok (.getfield 42, 3) := by decide +kernel
theorem dX3_act_59 : decode cX3_act 59 = .ok (.iload_n 1, 1) := by decide +kernel
theorem dX3_act_60 : decode cX3_act 60 = .ok (.dup2, 1) := by decide +kernel
theorem dX3_act_61 : decode cX3_act 61 = .ok (.iaload, 1) := by decide +kernel
theorem dX3_act_62 : decode cX3_act 62 = .ok (.iconst 1, 1) := by decide +kernel
theorem dX3_act_63 : decode cX3_act 63 = .ok (.iadd, 1) := by decide +kernel
theorem dX3_act_64 : decode cX3_act 64 = .ok (.iastore, 1) := by decide +kernel
theorem dX3_act_65 : decode cX3_act 65 = .ok (.aload_n 0, 1) := by decide +kernel
theorem dX3_act_66 : decode cX3_act 66 = .ok (.dup, 1) := by decide +kernel
theorem dX3_act_67 : decode cX3_act 67 = .ok (.getfield 102, 3) := by decide +kernel
theorem dX3_act_70 : decode cX3_act 70 = .ok (.iconst 1, 1) := by decide +kernel
theorem dX3_act_71 : decode cX3_act 71 = .ok (.iadd, 1) := by decide +kernel
theorem dX3_act_72 : decode cX3_act 72 = .ok (.putfield 102, 3) := by decide +kernel
theorem dX3_act_75 : decode cX3_act 75 = .ok (.iinc 3 1, 3) := by decide +kernel
theorem dX3_act_78 : decode cX3_act 78 = .ok (.goto (-76), 3) := by decide +kernel
theorem dX3_act_27 : decode cX3_act 27 = .ok (.bipush 7, 2) := by decide +kernel
theorem dX3_act_29 : decode cX3_act 29 = .ok (.ireturn, 1) := by decide +kernel
theorem dX3_act_15 : decode cX3_act 15 = .ok (.iconst 5, 1) := by decide +kernel
theorem dX3_act_16 : decode cX3_act 16 = .ok (.ireturn, 1) := by decide +kernel
theorem dX3_deed_0 : decode cX3_deed 0 = .ok (.aload_n 0, 1) := by decide +kernel
theorem dX3_deed_1 : decode cX3_deed 1 = .ok (.getfield 30, 3) := by decide +kernel
theorem dX3_deed_4 : decode cX3_deed 4 = .ok (.iconst 4, 1) := by decide +kernel
theorem dX3_deed_5 : decode cX3_deed 5 = .ok (.iload_n 1, 1) := by decide +kernel
theorem dX3_deed_6 : decode cX3_deed 6 = .ok (.imul, 1) := by decide +kernel
theorem dX3_deed_7 : decode cX3_deed 7 = .ok (.iaload, 1) := by decide +kernel
theorem dX3_deed_8 : decode cX3_deed 8 = .ok (.istore 5, 2) := by decide +kernel
theorem dX3_deed_10 : decode cX3_deed 10 = .ok (.aload_n 0, 1) := by decide +kernel
theorem dX3_deed_11 : decode cX3_deed 11 = .ok (.getfield 30, 3) := by decide +kernel
theorem dX3_deed_14 : decode cX3_deed 14 = .ok (.iconst 4, 1) := by decide +kernel
theorem dX3_deed_15 : decode cX3_deed 15 = .ok (.iload_n 1, 1) := by decide +kernel
theorem dX3_deed_16 : decode cX3_deed 16 = .ok (.imul, 1) := by decide +kernel
theorem dX3_deed_17 : decode cX3_deed 17 = .ok (.iconst 1, 1) := by decide +kernel
theorem dX3_deed_18 : decode cX3_deed 18 = .ok (.iadd, 1) := by decide +kernel
theorem dX3_deed_19 : decode cX3_deed 19 = .ok (.iaload, 1) := by decide +kernel
theorem dX3_deed_20 : decode cX3_deed 20 = .ok (.istore 6, 2) := by decide +kernel
theorem dX3_deed_22 : decode cX3_deed 22 = .ok (.iload_n 2, 1) := by decide +kernel
theorem dX3_deed_23 : decode cX3_deed 23 = .ok (.tableswitch 222 1 7 #[41, 64, 72, 104, 142, 167, 197], 41) := by decide +kernel
theorem dX3_deed_64 : decode cX3_deed 64 = .ok (.aload_n 0, 1) := by decide +kernel
theorem dX3_deed_65 : decode cX3_deed 65 = .ok (.getfield 13, 3) := by decide +kernel
theorem dX3_deed_68 : decode cX3_deed 68 = .ok (.aload_n 0, 1) := by decide +kernel
theorem dX3_deed_69 : decode cX3_deed 69 = .ok (.getfield 27, 3) := by decide +kernel
theorem dX3_deed_72 : decode cX3_deed 72 = .ok (.iload_n 1, 1) := by decide +kernel
theorem dX3_deed_73 : decode cX3_deed 73 = .ok (.iaload, 1) := by decide +kernel
theorem dX3_deed_74 : decode cX3_deed 74 = .ok (.iaload, 1) := by decide +kernel
theorem dX3_deed_75 : decode cX3_deed 75 = .ok (.iconst 1, 1) := by decide +kernel
theorem dX3_deed_76 : decode cX3_deed 76 = .ok (.iand, 1) := by decide +kernel
theorem dX3_deed_77 : decode cX3_deed 77 = .ok (.iconst 1, 1) := by decide +kernel
theorem dX3_deed_78 : decode cX3_deed 78 = .ok (.if_icmp .ne 7, 3) := by decide +kernel
theorem dX3_deed_85 : decode cX3_deed 85 = .ok (.iconst 0, 1) := by decide +kernel
theorem dX3_deed_86 : decode cX3_deed 86 = .ok (.ireturn, 1) := by decide +kernel
theorem dX3_deed_81 : decode cX3_deed 81 = .ok (.iconst 2, 1) := by decide +kernel
theorem dX3_deed_82 : decode cX3_deed 82 = .ok (.goto 4, 3) := by decide +kernel
theorem dX3_deed_87 : decode cX3_deed 87 = .ok (.aload_n 0, 1) := by decide +kernel
theorem dX3_deed_88 : decode cX3_deed 88 = .ok (.iload_n 1, 1) := by decide +kernel
theorem dX3_deed_89 : decode cX3_deed 89 = .ok (.iload 5, 2) := by decide +kernel
theorem dX3_deed_91 : decode cX3_deed 91 = .ok (.invokevirtual 120, 3) := by decide +kernel
theorem dX3_deed_94 : decode cX3_deed 94 = .ok (.ireturn, 1) := by decide +kernel
theorem dX3_deed_95 : decode cX3_deed 95 = .ok (.iload 6, 2) := by decide +kernel
theorem dX3_deed_97 : decode cX3_deed 97 = .ok (.ifCond .ne 5, 3) := by decide +kernel
theorem dX3_deed_102 : decode cX3_deed 102 = .ok (.aload_n 0, 1) := by decide +kernel
theorem dX3_deed_103 : decode cX3_deed 103 = .ok (.iload_n 1, 1) := by decide +kernel
theorem dX3_deed_104 : decode cX3_deed 104 = .ok (.iconst 1, 1) := by decide +kernel
theorem dX3_deed_105 : decode cX3_deed 105 = .ok (.iload 6, 2) := by decide +kernel
theorem dX3_deed_107 : decode cX3_deed 107 = .ok (.iconst (-1), 1) := by decide +kernel
theorem dX3_deed_108 : decode cX3_deed 108 = .ok (.if_icmp .ne 9, 3) := by decide +kernel

theorem dX0_init_0 : decode cX0_init 0 = .ok (.aload_n 0, 1) := by decide +kernel
theorem dX0_init_1 : decode cX0_init 1 = .ok (.invokespecial 1, 3) := by decide +kernel
theorem dX0_init_4 : decode cX0_init 4 = .ok (.aload_n 0, 1) := by decide +kernel
theorem dX0_init_5 : decode cX0_init 5 = .ok (.bipush 16, 2) := by decide +kernel
theorem dX0_init_7 : decode cX0_init 7 = .ok (.anewarray 9, 3) := by decide +kernel
theorem dX0_init_10 : decode cX0_init 10 = .ok (.putfield 11, 3) := by decide +kernel
theorem dX0_init_13 : decode cX0_init 13 = .ok (.aload_n 0, 1) := by decide +kernel
theorem dX0_init_14 : decode cX0_init 14 = .ok (.iconst 0, 1) := by decide +kernel
theorem dX0_init_15 : decode cX0_init 15 = .ok (.putfield 15, 3) := by decide +kernel
theorem dX0_init_18 : decode cX0_init 18 = .ok (.aload_n 0, 1) := by decide +kernel
theorem dX0_init_19 : decode cX0_init 19 = .ok (.iconst 0, 1) := by decide +kernel
theorem dX0_init_20 : decode cX0_init 20 = .ok (.putfield 19, 3) := by decide +kernel
theorem dX0_init_23 : decode cX0_init 23 = .ok (.aload_n 0, 1) := by decide +kernel
theorem dX0_init_24 : decode cX0_init 24 = .ok (.bipush 40, 2) := by decide +kernel
theorem dX0_init_26 : decode cX0_init 26 = .ok (.anewarray 22, 3) := by decide +kernel
theorem dX0_init_29 : decode cX0_init 29 = .ok (.putfield 24, 3) := by decide +kernel
theorem dX0_init_32 : decode cX0_init 32 = .ok (.aload_n 0, 1) := by decide +kernel
theorem dX0_init_33 : decode cX0_init 33 = .ok (.iconst 0, 1) := by decide +kernel
theorem dX0_init_34 : decode cX0_init 34 = .ok (.putfield 28, 3) := by decide +kernel
theorem dX0_init_37 : decode cX0_init 37 = .ok (.aload_n 0, 1) := by decide +kernel
theorem dX0_init_38 : decode cX0_init 38 = .ok (.sipush 400, 3) := by decide +kernel
theorem dX0_init_41 : decode cX0_init 41 = .ok (.newarray .int, 2) := by decide +kernel
theorem dX0_init_43 : decode cX0_init 43 = .ok (.putfield 31, 3) := by decide +kernel
theorem dX0_init_46 : decode cX0_init 46 = .ok (.aload_n 0, 1) := by decide +kernel
theorem dX0_init_47 : decode cX0_init 47 = .ok (.sipush 400, 3) := by decide +kernel
theorem dX0_init_50 : decode cX0_init 50 = .ok (.newarray .int, 2) := by decide +kernel
theorem dX0_init_52 : decode cX0_init 52 = .ok (.putfield 35, 3) := by decide +kernel
theorem dX0_init_55 : decode cX0_init 55 = .ok (.aload_n 0, 1) := by decide +kernel
theorem dX0_init_56 : decode cX0_init 56 = .ok (.iconst 0, 1) := by decide +kernel
theorem dX0_init_57 : decode cX0_init 57 = .ok (.putfield 38, 3) := by decide +kernel
theorem dX0_init_60 : decode cX0_init 60 = .ok (.aload_n 0, 1) := by decide +kernel
theorem dX0_init_61 : decode cX0_init 61 = .ok (.iconst 0, 1) := by decide +kernel
theorem dX0_init_62 : decode cX0_init 62 = .ok (.putfield 41, 3) := by decide +kernel
theorem dX0_init_65 : decode cX0_init 65 = .ok (.aload_n 0, 1) := by decide +kernel
theorem dX0_init_66 : decode cX0_init 66 = .ok (.iload_n 1, 1) := by decide +kernel
theorem dX0_init_67 : decode cX0_init 67 = .ok (.iconst 0, 1) := by decide +kernel
theorem dX0_init_68 : decode cX0_init 68 = .ok (.invokestatic 44, 3) := by decide +kernel
theorem dX0_init_71 : decode cX0_init 71 = .ok (.ldc 50, 2) := by decide +kernel
theorem dX0_init_73 : decode cX0_init 73 = .ok (.invokestatic 51, 3) := by decide +kernel
theorem dX0_init_76 : decode cX0_init 76 = .ok (.putfield 54, 3) := by decide +kernel
theorem dX0_init_79 : decode cX0_init 79 = .ok (.return_, 1) := by decide +kernel
theorem dX0_isWithin_0 : decode cX0_isWithin 0 = .ok (.iload_n 0, 1) := by decide +kernel
theorem dX0_isWithin_1 : decode cX0_isWithin 1 = .ok (.ifCond .lt 12, 3) := by decide +kernel
theorem dX0_isWithin_13 : decode cX0_isWithin 13 = .ok (.iconst 0, 1) := by decide +kernel
theorem dX0_isWithin_14 : decode cX0_isWithin 14 = .ok (.ireturn, 1) := by decide +kernel
theorem dX0_isWithin_4 : decode cX0_isWithin 4 = .ok (.iload_n 0, 1) := by decide +kernel
theorem dX0_isWithin_5 : decode cX0_isWithin 5 = .ok (.iload_n 1, 1) := by decide +kernel
theorem dX0_isWithin_6 : decode cX0_isWithin 6 = .ok (.if_icmp .gt 7, 3) := by decide +kernel
theorem dX0_isWithin_9 : decode cX0_isWithin 9 = .ok (.iconst 1, 1) := by decide +kernel
theorem dX0_isWithin_10 : decode cX0_isWithin 10 = .ok (.goto 4, 3) := by decide +kernel
theorem dX0_classAt_0 : decode cX0_classAt 0 = .ok (.iload_n 1, 1) := by decide +kernel
theorem dX0_classAt_1 : decode cX0_classAt 1 = .ok (.aload_n 0, 1) := by decide +kernel
theorem dX0_classAt_2 : decode cX0_classAt 2 = .ok (.getfield 15, 3) := by decide +kernel
theorem dX0_classAt_5 : decode cX0_classAt 5 = .ok (.iconst 1, 1) := by decide +kernel
theorem dX0_classAt_6 : decode cX0_classAt 6 = .ok (.isub, 1) := by decide +kernel
theorem dX0_classAt_7 : decode cX0_classAt 7 = .ok (.invokestatic 57, 3) := by decide +kernel
theorem dX0_classAt_10 : decode cX0_classAt 10 = .ok (.ifCond .eq 12, 3) := by decide +kernel
theorem dX0_classAt_22 : decode cX0_classAt 22 = .ok (.aconst_null, 1) := by decide +kernel
theorem dX0_classAt_23 : decode cX0_classAt 23 = .ok (.areturn, 1) := by decide +kernel
theorem dX0_classAt_13 : decode cX0_classAt 13 = .ok (.aload_n 0, 1) := by decide +kernel
theorem dX0_classAt_14 : decode cX0_classAt 14 = .ok (.getfield 11, 3) := by decide +kernel
theorem dX0_classAt_17 : decode cX0_classAt 17 = .ok (.iload_n 1, 1) := by decide +kernel
theorem dX0_classAt_18 : decode cX0_classAt 18 = .ok (.aaload, 1) := by decide +kernel
theorem dX0_classAt_19 : decode cX0_classAt 19 = .ok (.goto 4, 3) := by decide +kernel
theorem dX1_isOf_0 : decode cX1_isOf 0 = .ok (.aload_n 0, 1) := by decide +kernel
theorem dX1_isOf_1 : decode cX1_isOf 1 = .ok (.getfield 23, 3) := by decide +kernel
theorem dX1_isOf_4 : decode cX1_isOf 4 = .ok (.iload_n 1, 1) := by decide +kernel
theorem dX1_isOf_5 : decode cX1_isOf 5 = .ok (.if_icmp .ne 15, 3) := by decide +kernel
theorem dX1_isOf_20 : decode cX1_isOf 20 = .ok (.iconst 0, 1) := by decide +kernel
theorem dX1_isOf_21 : decode cX1_isOf 21 = .ok (.ireturn, 1) := by decide +kernel
theorem dX1_isOf_8 : decode cX1_isOf 8 = .ok (.aload_n 0, 1) := by decide +kernel
theorem dX1_isOf_9 : decode cX1_isOf 9 = .ok (.getfield 26, 3) := by decide +kernel
theorem dX1_isOf_12 : decode cX1_isOf 12 = .ok (.iload_n 2, 1) := by decide +kernel
theorem dX1_isOf_13 : decode cX1_isOf 13 = .ok (.if_icmp .ne 7, 3) := by decide +kernel
theorem dX1_isOf_16 : decode cX1_isOf 16 = .ok (.iconst 1, 1) := by decide +kernel
theorem dX1_isOf_17 : decode cX1_isOf 17 = .ok (.goto 4, 3) := by decide +kernel
theorem dX0_findClass_0 : decode cX0_findClass 0 = .ok (.iconst 0, 1) := by decide +kernel
theorem dX0_findClass_1 : decode cX0_findClass 1 = .ok (.istore_n 3, 1) := by decide +kernel
theorem dX0_findClass_2 : decode cX0_findClass 2 = .ok (.iload_n 3, 1) := by decide +kernel
theorem dX0_findClass_3 : decode cX0_findClass 3 = .ok (.aload_n 0, 1) := by decide +kernel
theorem dX0_findClass_4 : decode cX0_findClass 4 = .ok (.getfield 15, 3) := by decide +kernel
theorem dX0_findClass_7 : decode cX0_findClass 7 = .ok (.if_icmp .ge 34, 3) := by decide +kernel
theorem dX0_findClass_41 : decode cX0_findClass 41 = .ok (.aconst_null, 1) := by decide +kernel
theorem dX0_findClass_42 : decode cX0_findClass 42 = .ok (.areturn, 1) := by decide +kernel
theorem dX0_findClass_10 : decode cX0_findClass 10 = .ok (.aload_n 0, 1) := by decide +kernel
theorem dX0_findClass_11 : decode cX0_findClass 11 = .ok (.iload_n 3, 1) := by decide +kernel
theorem dX0_findClass_12 : decode cX0_findClass 12 = .ok (.invokevirtual 68, 3) := by decide +kernel
theorem dX0_findClass_15 : decode cX0_findClass 15 = .ok (.astore 4, 2) := by decide +kernel
theorem dX0_findClass_17 : decode cX0_findClass 17 = .ok (.aload 4, 2) := by decide +kernel
theorem dX0_findClass_19 : decode cX0_findClass 19 = .ok (.ifnull 16, 3) := by decide +kernel
theorem dX0_findClass_35 : decode cX0_findClass 35 = .ok (.iinc 3 1, 3) := by decide +kernel
theorem dX0_findClass_38 : decode cX0_findClass 38 = .ok (.goto (-36), 3) := by decide +kernel
theorem dX0_findClass_22 : decode cX0_findClass 22 = .ok (.aload 4, 2) := by decide +kernel
theorem dX0_findClass_24 : decode cX0_findClass 24 = .ok (.iload_n 1, 1) := by decide +kernel
theorem dX0_findClass_25 : decode cX0_findClass 25 = .ok (.iload_n 2, 1) := by decide +kernel
theorem dX0_findClass_26 : decode cX0_findClass 26 = .ok (.invokevirtual 138, 3) := by decide +kernel
theorem dX0_findClass_29 : decode cX0_findClass 29 = .ok (.ifCond .eq 6, 3) := by decide +kernel
theorem dX0_findClass_32 : decode cX0_findClass 32 = .ok (.aload 4, 2) := by decide +kernel
theorem dX0_findClass_34 : decode cX0_findClass 34 = .ok (.areturn, 1) := by decide +kernel
theorem dX1_init_0 : decode cX1_init 0 = .ok (.aload_n 0, 1) := by decide +kernel
theorem dX1_init_1 : decode cX1_init 1 = .ok (.invokespecial 3, 3) := by decide +kernel
theorem dX1_init_4 : decode cX1_init 4 = .ok (.aload_n 0, 1) := by decide +kernel
theorem dX1_init_5 : decode cX1_init 5 = .ok (.iconst 0, 1) := by decide +kernel
theorem dX1_init_6 : decode cX1_init 6 = .ok (.putfield 9, 3) := by decide +kernel
theorem dX1_init_9 : decode cX1_init 9 = .ok (.aload_n 0, 1) := by decide +kernel
theorem dX1_init_10 : decode cX1_init 10 = .ok (.iconst (-1), 1) := by decide +kernel
theorem dX1_init_11 : decode cX1_init 11 = .ok (.putfield 15, 3) := by decide +kernel
theorem dX1_init_14 : decode cX1_init 14 = .ok (.aload_n 0, 1) := by decide +kernel
theorem dX1_init_15 : decode cX1_init 15 = .ok (.lconst 0, 1) := by decide +kernel
theorem dX1_init_16 : decode cX1_init 16 = .ok (.putfield 19, 3) := by decide +kernel
theorem dX1_init_19 : decode cX1_init 19 = .ok (.aload_n 0, 1) := by decide +kernel
theorem dX1_init_20 : decode cX1_init 20 = .ok (.iload_n 1, 1) := by decide +kernel
theorem dX1_init_21 : decode cX1_init 21 = .ok (.putfield 23, 3) := by decide +kernel
theorem dX1_init_24 : decode cX1_init 24 = .ok (.aload_n 0, 1) := by decide +kernel
theorem dX1_init_25 : decode cX1_init 25 = .ok (.iload_n 2, 1) := by decide +kernel
theorem dX1_init_26 : decode cX1_init 26 = .ok (.putfield 26, 3) := by decide +kernel
theorem dX1_init_29 : decode cX1_init 29 = .ok (.aload_n 0, 1) := by decide +kernel
theorem dX1_init_30 : decode cX1_init 30 = .ok (.iload_n 3, 1) := by decide +kernel
theorem dX1_init_31 : decode cX1_init 31 = .ok (.putfield 29, 3) := by decide +kernel
theorem dX1_init_34 : decode cX1_init 34 = .ok (.return_, 1) := by decide +kernel
theorem dX0_rule_0 : decode cX0_rule 0 = .ok (.iload_n 1, 1) := by decide +kernel
theorem dX0_rule_1 : decode cX0_rule 1 = .ok (.iconst 3, 1) := by decide +kernel
theorem dX0_rule_2 : decode cX0_rule 2 = .ok (.invokestatic 57, 3) := by decide +kernel
theorem dX0_rule_5 : decode cX0_rule 5 = .ok (.ifCond .eq 13, 3) := by decide +kernel
theorem dX0_rule_18 : decode cX0_rule 18 = .ok (.bipush (-2), 2) := by decide +kernel
theorem dX0_rule_20 : decode cX0_rule 20 = .ok (.ireturn, 1) := by decide +kernel
theorem dX0_rule_8 : decode cX0_rule 8 = .ok (.iload_n 2, 1) := by decide +kernel
theorem dX0_rule_9 : decode cX0_rule 9 = .ok (.sipush 255, 3) := by decide +kernel
theorem dX0_rule_12 : decode cX0_rule 12 = .ok (.invokestatic 57, 3) := by decide +kernel
theorem dX0_rule_15 : decode cX0_rule 15 = .ok (.ifCond .ne 6, 3) := by decide +kernel
theorem dX0_rule_21 : decode cX0_rule 21 = .ok (.aload_n 0, 1) := by decide +kernel
theorem dX0_rule_22 : decode cX0_rule 22 = .ok (.getfield 15, 3) := by decide +kernel
theorem dX0_rule_25 : decode cX0_rule 25 = .ok (.bipush 16, 2) := by decide +kernel
theorem dX0_rule_27 : decode cX0_rule 27 = .ok (.if_icmp .lt 6, 3) := by decide +kernel
theorem dX0_rule_33 : decode cX0_rule 33 = .ok (.aload_n 0, 1) := by decide +kernel
theorem dX0_rule_34 : decode cX0_rule 34 = .ok (.iload_n 1, 1) := by decide +kernel
theorem dX0_rule_35 : decode cX0_rule 35 = .ok (.iload_n 2, 1) := by decide +kernel
theorem dX0_rule_36 : decode cX0_rule 36 = .ok (.invokevirtual 61, 3) := by decide +kernel
theorem dX0_rule_39 : decode cX0_rule 39 = .ok (.astore 4, 2) := by decide +kernel
theorem dX0_rule_41 : decode cX0_rule 41 = .ok (.aload_n 0, 1) := by decide +kernel
theorem dX0_rule_42 : decode cX0_rule 42 = .ok (.getfield 11, 3) := by decide +kernel
theorem dX0_rule_45 : decode cX0_rule 45 = .ok (.aload_n 0, 1) := by decide +kernel
theorem dX0_rule_46 : decode cX0_rule 46 = .ok (.getfield 15, 3) := by decide +kernel
theorem dX0_rule_49 : decode cX0_rule 49 = .ok (.aload 4, 2) := by decide +kernel
theorem dX0_rule_51 : decode cX0_rule 51 = .ok (.ifnull 8, 3) := by decide +kernel
theorem dX0_rule_59 : decode cX0_rule 59 = .ok (.new 9, 3) := by decide +kernel
theorem dX0_rule_62 : decode cX0_rule 62 = .ok (.dup, 1) := by decide +kernel
theorem dX0_rule_63 : decode cX0_rule 63 = .ok (.iload_n 1, 1) := by decide +kernel
theorem dX0_rule_64 : decode cX0_rule 64 = .ok (.iload_n 2, 1) := by decide +kernel
theorem dX0_rule_65 : decode cX0_rule 65 = .ok (.iload_n 3, 1) := by decide +kernel
theorem dX0_rule_66 : decode cX0_rule 66 = .ok (.invokespecial 65, 3) := by decide +kernel
theorem dX0_rule_69 : decode cX0_rule 69 = .ok (.aastore, 1) := by decide +kernel
theorem dX0_rule_70 : decode cX0_rule 70 = .ok (.aload_n 0, 1) := by decide +kernel
theorem dX0_rule_71 : decode cX0_rule 71 = .ok (.dup, 1) := by decide +kernel
theorem dX0_rule_72 : decode cX0_rule 72 = .ok (.getfield 15, 3) := by decide +kernel
theorem dX0_rule_75 : decode cX0_rule 75 = .ok (.iconst 1, 1) := by decide +kernel
theorem dX0_rule_76 : decode cX0_rule 76 = .ok (.iadd, 1) := by decide +kernel
theorem dX0_rule_77 : decode cX0_rule 77 = .ok (.putfield 15, 3) := by decide +kernel
theorem dX0_rule_80 : decode cX0_rule 80 = .ok (.aload_n 0, 1) := by decide +kernel
theorem dX0_rule_81 : decode cX0_rule 81 = .ok (.getfield 15, 3) := by decide +kernel
theorem dX0_rule_84 : decode cX0_rule 84 = .ok (.iconst 1, 1) := by decide +kernel
theorem dX0_rule_85 : decode cX0_rule 85 = .ok (.isub, 1) := by decide +kernel
theorem dX0_rule_86 : decode cX0_rule 86 = .ok (.ireturn, 1) := by decide +kernel
theorem dX0_rule_54 : decode cX0_rule 54 = .ok (.aload 4, 2) := by decide +kernel
theorem dX0_rule_56 : decode cX0_rule 56 = .ok (.goto 13, 3) := by decide +kernel
theorem dX0_rule_30 : decode cX0_rule 30 = .ok (.bipush (-4), 2) := by decide +kernel
theorem dX0_rule_32 : decode cX0_rule 32 = .ok (.ireturn, 1) := by decide +kernel
theorem dX0_ensureMade_0 : decode cX0_ensureMade 0 = .ok (.aload_n 1, 1) := by decide +kernel
theorem dX0_ensureMade_1 : decode cX0_ensureMade 1 = .ok (.getfield 123, 3) := by decide +kernel
theorem dX0_ensureMade_4 : decode cX0_ensureMade 4 = .ok (.ifCond .ne 33, 3) := by decide +kernel
theorem dX0_ensureMade_37 : decode cX0_ensureMade 37 = .ok (.aload_n 1, 1) := by decide +kernel
theorem dX0_ensureMade_38 : decode cX0_ensureMade 38 = .ok (.getfield 123, 3) := by decide +kernel
theorem dX0_ensureMade_41 : decode cX0_ensureMade 41 = .ok (.ireturn, 1) := by decide +kernel
theorem dX0_ensureMade_7 : decode cX0_ensureMade 7 = .ok (.aload_n 1, 1) := by decide +kernel
theorem dX0_ensureMade_8 : decode cX0_ensureMade 8 = .ok (.getfield 153, 3) := by decide +kernel
theorem dX0_ensureMade_11 : decode cX0_ensureMade 11 = .ok (.ifCond .ne 26, 3) := by decide +kernel
theorem dX0_ensureMade_14 : decode cX0_ensureMade 14 = .ok (.aload_n 1, 1) := by decide +kernel
theorem dX0_ensureMade_15 : decode cX0_ensureMade 15 = .ok (.iconst 1, 1) := by decide +kernel
theorem dX0_ensureMade_16 : decode cX0_ensureMade 16 = .ok (.putfield 123, 3) := by decide +kernel
theorem dX0_ensureMade_19 : decode cX0_ensureMade 19 = .ok (.aload_n 1, 1) := by decide +kernel
theorem dX0_ensureMade_20 : decode cX0_ensureMade 20 = .ok (.aload_n 0, 1) := by decide +kernel
theorem dX0_ensureMade_21 : decode cX0_ensureMade 21 = .ok (.getfield 19, 3) := by decide +kernel
theorem dX0_ensureMade_24 : decode cX0_ensureMade 24 = .ok (.putfield 76, 3) := by decide +kernel
theorem dX0_ensureMade_27 : decode cX0_ensureMade 27 = .ok (.aload_n 0, 1) := by decide +kernel
theorem dX0_ensureMade_28 : decode cX0_ensureMade 28 = .ok (.dup, 1) := by decide +kernel
theorem dX0_ensureMade_29 : decode cX0_ensureMade 29 = .ok (.getfield 19, 3) := by decide +kernel
theorem dX0_ensureMade_32 : decode cX0_ensureMade 32 = .ok (.iconst 1, 1) := by decide +kernel
theorem dX0_ensureMade_33 : decode cX0_ensureMade 33 = .ok (.iadd, 1) := by decide +kernel
theorem dX0_ensureMade_34 : decode cX0_ensureMade 34 = .ok (.putfield 19, 3) := by decide +kernel
theorem dX0_make_0 : decode cX0_make 0 = .ok (.aload_n 0, 1) := by decide +kernel
theorem dX0_make_1 : decode cX0_make 1 = .ok (.iload_n 1, 1) := by decide +kernel
theorem dX0_make_2 : decode cX0_make 2 = .ok (.invokevirtual 68, 3) := by decide +kernel
theorem dX0_make_5 : decode cX0_make 5 = .ok (.astore_n 2, 1) := by decide +kernel
theorem dX0_make_6 : decode cX0_make 6 = .ok (.aload_n 2, 1) := by decide +kernel
theorem dX0_make_7 : decode cX0_make 7 = .ok (.ifnull 11, 3) := by decide +kernel
theorem dX0_make_18 : decode cX0_make 18 = .ok (.iconst (-1), 1) := by decide +kernel
theorem dX0_make_19 : decode cX0_make 19 = .ok (.ireturn, 1) := by decide +kernel
theorem dX0_make_10 : decode cX0_make 10 = .ok (.aload_n 0, 1) := by decide +kernel
theorem dX0_make_11 : decode cX0_make 11 = .ok (.aload_n 2, 1) := by decide +kernel
theorem dX0_make_12 : decode cX0_make 12 = .ok (.invokevirtual 72, 3) := by decide +kernel
theorem dX0_make_15 : decode cX0_make 15 = .ok (.ifCond .ne 5, 3) := by decide +kernel
theorem dX0_make_20 : decode cX0_make 20 = .ok (.aload_n 2, 1) := by decide +kernel
theorem dX0_make_21 : decode cX0_make 21 = .ok (.getfield 76, 3) := by decide +kernel
theorem dX0_make_24 : decode cX0_make 24 = .ok (.ireturn, 1) := by decide +kernel
theorem dX0_targetAt_0 : decode cX0_targetAt 0 = .ok (.iload_n 1, 1) := by decide +kernel
theorem dX0_targetAt_1 : decode cX0_targetAt 1 = .ok (.aload_n 0, 1) := by decide +kernel
theorem dX0_targetAt_2 : decode cX0_targetAt 2 = .ok (.getfield 28, 3) := by decide +kernel
theorem dX0_targetAt_5 : decode cX0_targetAt 5 = .ok (.iconst 1, 1) := by decide +kernel
theorem dX0_targetAt_6 : decode cX0_targetAt 6 = .ok (.isub, 1) := by decide +kernel
theorem dX0_targetAt_7 : decode cX0_targetAt 7 = .ok (.invokestatic 57, 3) := by decide +kernel
theorem dX0_targetAt_10 : decode cX0_targetAt 10 = .ok (.ifCond .eq 12, 3) := by decide +kernel
theorem dX0_targetAt_22 : decode cX0_targetAt 22 = .ok (.aconst_null, 1) := by decide +kernel
theorem dX0_targetAt_23 : decode cX0_targetAt 23 = .ok (.areturn, 1) := by decide +kernel
theorem dX0_targetAt_13 : decode cX0_targetAt 13 = .ok (.aload_n 0, 1) := by decide +kernel
theorem dX0_targetAt_14 : decode cX0_targetAt 14 = .ok (.getfield 24, 3) := by decide +kernel
theorem dX0_targetAt_17 : decode cX0_targetAt 17 = .ok (.iload_n 1, 1) := by decide +kernel
theorem dX0_targetAt_18 : decode cX0_targetAt 18 = .ok (.aaload, 1) := by decide +kernel
theorem dX0_targetAt_19 : decode cX0_targetAt 19 = .ok (.goto 4, 3) := by decide +kernel
theorem dX0_mayBecome_0 : decode cX0_mayBecome 0 = .ok (.iload_n 1, 1) := by decide +kernel
theorem dX0_mayBecome_1 : decode cX0_mayBecome 1 = .ok (.tableswitch 53 0 3 #[31, 53, 38, 47], 31) := by decide +kernel
theorem dX0_mayBecome_32 : decode cX0_mayBecome 32 = .ok (.iload_n 2, 1) := by decide +kernel
theorem dX0_mayBecome_33 : decode cX0_mayBecome 33 = .ok (.bipush 20, 2) := by decide +kernel
theorem dX0_mayBecome_35 : decode cX0_mayBecome 35 = .ok (.invokestatic 57, 3) := by decide +kernel
theorem dX0_mayBecome_38 : decode cX0_mayBecome 38 = .ok (.ireturn, 1) := by decide +kernel
theorem dX0_mayBecome_54 : decode cX0_mayBecome 54 = .ok (.iconst 1, 1) := by decide +kernel
theorem dX0_mayBecome_55 : decode cX0_mayBecome 55 = .ok (.ireturn, 1) := by decide +kernel
theorem dX0_mayBecome_39 : decode cX0_mayBecome 39 = .ok (.iload_n 2, 1) := by decide +kernel
theorem dX0_mayBecome_40 : decode cX0_mayBecome 40 = .ok (.aload_n 0, 1) := by decide +kernel
theorem dX0_mayBecome_41 : decode cX0_mayBecome 41 = .ok (.getfield 156, 3) := by decide +kernel
theorem dX0_mayBecome_44 : decode cX0_mayBecome 44 = .ok (.invokestatic 57, 3) := by decide +kernel
theorem dX0_mayBecome_47 : decode cX0_mayBecome 47 = .ok (.ireturn, 1) := by decide +kernel
theorem dX0_mayBecome_48 : decode cX0_mayBecome 48 = .ok (.iload_n 2, 1) := by decide +kernel
theorem dX0_mayBecome_49 : decode cX0_mayBecome 49 = .ok (.iconst 1, 1) := by decide +kernel
theorem dX0_mayBecome_50 : decode cX0_mayBecome 50 = .ok (.invokestatic 57, 3) := by decide +kernel
theorem dX0_mayBecome_53 : decode cX0_mayBecome 53 = .ok (.ireturn, 1) := by decide +kernel
theorem dX0_attribute_0 : decode cX0_attribute 0 = .ok (.aload_n 0, 1) := by decide +kernel
theorem dX0_attribute_1 : decode cX0_attribute 1 = .ok (.iload_n 1, 1) := by decide +kernel
theorem dX0_attribute_2 : decode cX0_attribute 2 = .ok (.invokevirtual 79, 3) := by decide +kernel
theorem dX0_attribute_5 : decode cX0_attribute 5 = .ok (.astore 4, 2) := by decide +kernel
theorem dX0_attribute_7 : decode cX0_attribute 7 = .ok (.aload 4, 2) := by decide +kernel
theorem dX0_attribute_9 : decode cX0_attribute 9 = .ok (.ifnull 11, 3) := by decide +kernel
theorem dX0_attribute_20 : decode cX0_attribute 20 = .ok (.iconst (-1), 1) := by decide +kernel
theorem dX0_attribute_21 : decode cX0_attribute 21 = .ok (.ireturn, 1) := by decide +kernel
theorem dX0_attribute_12 : decode cX0_attribute 12 = .ok (.iload_n 2, 1) := by decide +kernel
theorem dX0_attribute_13 : decode cX0_attribute 13 = .ok (.iconst 3, 1) := by decide +kernel
theorem dX0_attribute_14 : decode cX0_attribute 14 = .ok (.invokestatic 57, 3) := by decide +kernel
theorem dX0_attribute_17 : decode cX0_attribute 17 = .ok (.ifCond .ne 5, 3) := by decide +kernel
theorem dX0_attribute_22 : decode cX0_attribute 22 = .ok (.aload 4, 2) := by decide +kernel
theorem dX0_attribute_24 : decode cX0_attribute 24 = .ok (.iload_n 2, 1) := by decide +kernel
theorem dX0_attribute_25 : decode cX0_attribute 25 = .ok (.iload_n 3, 1) := by decide +kernel
theorem dX0_attribute_26 : decode cX0_attribute 26 = .ok (.invokestatic 83, 3) := by decide +kernel
theorem dX0_attribute_29 : decode cX0_attribute 29 = .ok (.ifCond .ne 6, 3) := by decide +kernel
theorem dX0_attribute_35 : decode cX0_attribute 35 = .ok (.aload 4, 2) := by decide +kernel
theorem dX0_attribute_37 : decode cX0_attribute 37 = .ok (.getfield 87, 3) := by decide +kernel
theorem dX0_attribute_40 : decode cX0_attribute 40 = .ok (.ifCond .eq 6, 3) := by decide +kernel
theorem dX0_attribute_46 : decode cX0_attribute 46 = .ok (.aload 4, 2) := by decide +kernel
theorem dX0_attribute_48 : decode cX0_attribute 48 = .ok (.getfield 91, 3) := by decide +kernel
theorem dX0_attribute_51 : decode cX0_attribute 51 = .ok (.iload_n 2, 1) := by decide +kernel
theorem dX0_attribute_52 : decode cX0_attribute 52 = .ok (.iaload, 1) := by decide +kernel
theorem dX0_attribute_53 : decode cX0_attribute 53 = .ok (.istore 5, 2) := by decide +kernel
theorem dX0_attribute_55 : decode cX0_attribute 55 = .ok (.aload 4, 2) := by decide +kernel
theorem dX0_attribute_57 : decode cX0_attribute 57 = .ok (.getfield 91, 3) := by decide +kernel
theorem dX0_attribute_60 : decode cX0_attribute 60 = .ok (.iload_n 2, 1) := by decide +kernel
theorem dX0_attribute_61 : decode cX0_attribute 61 = .ok (.iload_n 3, 1) := by decide +kernel
theorem dX0_attribute_62 : decode cX0_attribute 62 = .ok (.iastore, 1) := by decide +kernel
theorem dX0_attribute_63 : decode cX0_attribute 63 = .ok (.iload 5, 2) := by decide +kernel
theorem dX0_attribute_65 : decode cX0_attribute 65 = .ok (.ireturn, 1) := by decide +kernel
theorem dX0_attribute_43 : decode cX0_attribute 43 = .ok (.bipush (-3), 2) := by decide +kernel
theorem dX0_attribute_45 : decode cX0_attribute 45 = .ok (.ireturn, 1) := by decide +kernel
theorem dX0_attribute_32 : decode cX0_attribute 32 = .ok (.bipush (-2), 2) := by decide +kernel
theorem dX0_attribute_34 : decode cX0_attribute 34 = .ok (.ireturn, 1) := by decide +kernel
theorem dX2_init_0 : decode cX2_init 0 = .ok (.aload_n 0, 1) := by decide +kernel
theorem dX2_init_1 : decode cX2_init 1 = .ok (.invokespecial 3, 3) := by decide +kernel
theorem dX2_init_4 : decode cX2_init 4 = .ok (.aload_n 0, 1) := by decide +kernel
theorem dX2_init_5 : decode cX2_init 5 = .ok (.iconst 4, 1) := by decide +kernel
theorem dX2_init_6 : decode cX2_init 6 = .ok (.newarray .int, 2) := by decide +kernel
theorem dX2_init_8 : decode cX2_init 8 = .ok (.putfield 9, 3) := by decide +kernel
theorem dX2_init_11 : decode cX2_init 11 = .ok (.aload_n 0, 1) := by decide +kernel
theorem dX2_init_12 : decode cX2_init 12 = .ok (.iconst 3, 1) := by decide +kernel
theorem dX2_init_13 : decode cX2_init 13 = .ok (.newarray .int, 2) := by decide +kernel
theorem dX2_init_15 : decode cX2_init 15 = .ok (.putfield 15, 3) := by decide +kernel
theorem dX2_init_18 : decode cX2_init 18 = .ok (.aload_n 0, 1) := by decide +kernel
theorem dX2_init_19 : decode cX2_init 19 = .ok (.iconst 3, 1) := by decide +kernel
theorem dX2_init_20 : decode cX2_init 20 = .ok (.newarray .boolean, 2) := by decide +kernel
theorem dX2_init_22 : decode cX2_init 22 = .ok (.putfield 18, 3) := by decide +kernel
theorem dX2_init_25 : decode cX2_init 25 = .ok (.aload_n 0, 1) := by decide +kernel
theorem dX2_init_26 : decode cX2_init 26 = .ok (.iconst 0, 1) := by decide +kernel
theorem dX2_init_27 : decode cX2_init 27 = .ok (.putfield 22, 3) := by decide +kernel
theorem dX2_init_30 : decode cX2_init 30 = .ok (.aload_n 0, 1) := by decide +kernel
theorem dX2_init_31 : decode cX2_init 31 = .ok (.iconst 0, 1) := by decide +kernel
theorem dX2_init_32 : decode cX2_init 32 = .ok (.putfield 26, 3) := by decide +kernel
theorem dX2_init_35 : decode cX2_init 35 = .ok (.aload_n 0, 1) := by decide +kernel
theorem dX2_init_36 : decode cX2_init 36 = .ok (.iconst 0, 1) := by decide +kernel
theorem dX2_init_37 : decode cX2_init 37 = .ok (.putfield 29, 3) := by decide +kernel
theorem dX2_init_40 : decode cX2_init 40 = .ok (.aload_n 0, 1) := by decide +kernel
theorem dX2_init_41 : decode cX2_init 41 = .ok (.iconst 0, 1) := by decide +kernel
theorem dX2_init_42 : decode cX2_init 42 = .ok (.putfield 33, 3) := by decide +kernel
theorem dX2_init_45 : decode cX2_init 45 = .ok (.aload_n 0, 1) := by decide +kernel
theorem dX2_init_46 : decode cX2_init 46 = .ok (.iconst 0, 1) := by decide +kernel
theorem dX2_init_47 : decode cX2_init 47 = .ok (.putfield 36, 3) := by decide +kernel
theorem dX2_init_50 : decode cX2_init 50 = .ok (.aload_n 0, 1) := by decide +kernel
theorem dX2_init_51 : decode cX2_init 51 = .ok (.iconst 0, 1) := by decide +kernel
theorem dX2_init_52 : decode cX2_init 52 = .ok (.putfield 39, 3) := by decide +kernel
theorem dX2_init_55 : decode cX2_init 55 = .ok (.aload_n 0, 1) := by decide +kernel
theorem dX2_init_56 : decode cX2_init 56 = .ok (.iconst 0, 1) := by decide +kernel
theorem dX2_init_57 : decode cX2_init 57 = .ok (.putfield 42, 3) := by decide +kernel
theorem dX2_init_60 : decode cX2_init 60 = .ok (.aload_n 0, 1) := by decide +kernel
theorem dX2_init_61 : decode cX2_init 61 = .ok (.iload_n 1, 1) := by decide +kernel
theorem dX2_init_62 : decode cX2_init 62 = .ok (.putfield 45, 3) := by decide +kernel
theorem dX2_init_65 : decode cX2_init 65 = .ok (.aload_n 0, 1) := by decide +kernel
theorem dX2_init_66 : decode cX2_init 66 = .ok (.aload_n 2, 1) := by decide +kernel
theorem dX2_init_67 : decode cX2_init 67 = .ok (.putfield 48, 3) := by decide +kernel
theorem dX2_init_70 : decode cX2_init 70 = .ok (.return_, 1) := by decide +kernel
theorem dX0_target_0 : decode cX0_target 0 = .ok (.aload_n 0, 1) := by decide +kernel
theorem dX0_target_1 : decode cX0_target 1 = .ok (.iload_n 1, 1) := by decide +kernel
theorem dX0_target_2 : decode cX0_target 2 = .ok (.invokevirtual 68, 3) := by decide +kernel
theorem dX0_target_5 : decode cX0_target 5 = .ok (.astore_n 2, 1) := by decide +kernel
theorem dX0_target_6 : decode cX0_target 6 = .ok (.aload_n 2, 1) := by decide +kernel
theorem dX0_target_7 : decode cX0_target 7 = .ok (.ifnonnull 5, 3) := by decide +kernel
theorem dX0_target_10 : decode cX0_target 10 = .ok (.iconst (-1), 1) := by decide +kernel
theorem dX0_target_11 : decode cX0_target 11 = .ok (.ireturn, 1) := by decide +kernel
theorem dX0_target_12 : decode cX0_target 12 = .ok (.aload_n 0, 1) := by decide +kernel
theorem dX0_target_13 : decode cX0_target 13 = .ok (.getfield 28, 3) := by decide +kernel
theorem dX0_target_16 : decode cX0_target 16 = .ok (.bipush 40, 2) := by decide +kernel
theorem dX0_target_18 : decode cX0_target 18 = .ok (.if_icmp .lt 6, 3) := by decide +kernel
theorem dX0_target_24 : decode cX0_target 24 = .ok (.aload_n 0, 1) := by decide +kernel
theorem dX0_target_25 : decode cX0_target 25 = .ok (.getfield 24, 3) := by decide +kernel
theorem dX0_target_28 : decode cX0_target 28 = .ok (.aload_n 0, 1) := by decide +kernel
theorem dX0_target_29 : decode cX0_target 29 = .ok (.getfield 28, 3) := by decide +kernel
theorem dX0_target_32 : decode cX0_target 32 = .ok (.new 22, 3) := by decide +kernel
theorem dX0_target_35 : decode cX0_target 35 = .ok (.dup, 1) := by decide +kernel
theorem dX0_target_36 : decode cX0_target 36 = .ok (.aload_n 0, 1) := by decide +kernel
theorem dX0_target_37 : decode cX0_target 37 = .ok (.getfield 28, 3) := by decide +kernel
theorem dX0_target_40 : decode cX0_target 40 = .ok (.aload_n 2, 1) := by decide +kernel
theorem dX0_target_41 : decode cX0_target 41 = .ok (.invokespecial 94, 3) := by decide +kernel
theorem dX0_target_44 : decode cX0_target 44 = .ok (.aastore, 1) := by decide +kernel
theorem dX0_target_45 : decode cX0_target 45 = .ok (.aload_n 0, 1) := by decide +kernel
theorem dX0_target_46 : decode cX0_target 46 = .ok (.dup, 1) := by decide +kernel
theorem dX0_target_47 : decode cX0_target 47 = .ok (.getfield 28, 3) := by decide +kernel
theorem dX0_target_50 : decode cX0_target 50 = .ok (.iconst 1, 1) := by decide +kernel
theorem dX0_target_51 : decode cX0_target 51 = .ok (.iadd, 1) := by decide +kernel
theorem dX0_target_52 : decode cX0_target 52 = .ok (.putfield 28, 3) := by decide +kernel
theorem dX0_target_55 : decode cX0_target 55 = .ok (.aload_n 0, 1) := by decide +kernel
theorem dX0_target_56 : decode cX0_target 56 = .ok (.getfield 28, 3) := by decide +kernel
theorem dX0_target_59 : decode cX0_target 59 = .ok (.iconst 1, 1) := by decide +kernel
theorem dX0_target_60 : decode cX0_target 60 = .ok (.isub, 1) := by decide +kernel
theorem dX0_target_61 : decode cX0_target 61 = .ok (.ireturn, 1) := by decide +kernel
theorem dX0_target_21 : decode cX0_target 21 = .ok (.bipush (-4), 2) := by decide +kernel
theorem dX0_target_23 : decode cX0_target 23 = .ok (.ireturn, 1) := by decide +kernel
theorem dX2_fail_0 : decode cX2_fail 0 = .ok (.aload_n 0, 1) := by decide +kernel
theorem dX2_fail_1 : decode cX2_fail 1 = .ok (.iload_n 1, 1) := by decide +kernel
theorem dX2_fail_2 : decode cX2_fail 2 = .ok (.putfield 36, 3) := by decide +kernel
theorem dX2_fail_5 : decode cX2_fail 5 = .ok (.aload_n 0, 1) := by decide +kernel
theorem dX2_fail_6 : decode cX2_fail 6 = .ok (.iload_n 2, 1) := by decide +kernel
theorem dX2_fail_7 : decode cX2_fail 7 = .ok (.putfield 39, 3) := by decide +kernel
theorem dX2_fail_10 : decode cX2_fail 10 = .ok (.aload_n 0, 1) := by decide +kernel
theorem dX2_fail_11 : decode cX2_fail 11 = .ok (.iload_n 3, 1) := by decide +kernel
theorem dX2_fail_12 : decode cX2_fail 12 = .ok (.putfield 42, 3) := by decide +kernel
theorem dX2_fail_15 : decode cX2_fail 15 = .ok (.aload_n 0, 1) := by decide +kernel
theorem dX2_fail_16 : decode cX2_fail 16 = .ok (.iconst 0, 1) := by decide +kernel
theorem dX2_fail_17 : decode cX2_fail 17 = .ok (.putfield 33, 3) := by decide +kernel
theorem dX2_fail_20 : decode cX2_fail 20 = .ok (.iconst 0, 1) := by decide +kernel
theorem dX2_fail_21 : decode cX2_fail 21 = .ok (.istore 4, 2) := by decide +kernel
theorem dX2_fail_23 : decode cX2_fail 23 = .ok (.iload 4, 2) := by decide +kernel
theorem dX2_fail_25 : decode cX2_fail 25 = .ok (.iconst 3, 1) := by decide +kernel
theorem dX2_fail_26 : decode cX2_fail 26 = .ok (.if_icmp .ge 17, 3) := by decide +kernel
theorem dX2_fail_43 : decode cX2_fail 43 = .ok (.return_, 1) := by decide +kernel
theorem dX2_fail_29 : decode cX2_fail 29 = .ok (.aload_n 0, 1) := by decide +kernel
theorem dX2_fail_30 : decode cX2_fail 30 = .ok (.getfield 18, 3) := by decide +kernel
theorem dX2_fail_33 : decode cX2_fail 33 = .ok (.iload 4, 2) := by decide +kernel
theorem dX2_fail_35 : decode cX2_fail 35 = .ok (.iconst 0, 1) := by decide +kernel
theorem dX2_fail_36 : decode cX2_fail 36 = .ok (.bastore, 1) := by decide +kernel
theorem dX2_fail_37 : decode cX2_fail 37 = .ok (.iinc 4 1, 3) := by decide +kernel
theorem dX2_fail_40 : decode cX2_fail 40 = .ok (.goto (-17), 3) := by decide +kernel
theorem dX0_takesStep_0 : decode cX0_takesStep 0 = .ok (.aload_n 1, 1) := by decide +kernel
theorem dX0_takesStep_1 : decode cX0_takesStep 1 = .ok (.getfield 177, 3) := by decide +kernel
theorem dX0_takesStep_4 : decode cX0_takesStep 4 = .ok (.aload_n 0, 1) := by decide +kernel
theorem dX0_takesStep_5 : decode cX0_takesStep 5 = .ok (.getfield 54, 3) := by decide +kernel
theorem dX0_takesStep_8 : decode cX0_takesStep 8 = .ok (.if_icmp .lt 5, 3) := by decide +kernel
theorem dX0_takesStep_13 : decode cX0_takesStep 13 = .ok (.aload_n 1, 1) := by decide +kernel
theorem dX0_takesStep_14 : decode cX0_takesStep 14 = .ok (.dup, 1) := by decide +kernel
theorem dX0_takesStep_15 : decode cX0_takesStep 15 = .ok (.getfield 177, 3) := by decide +kernel
theorem dX0_takesStep_18 : decode cX0_takesStep 18 = .ok (.iconst 1, 1) := by decide +kernel
theorem dX0_takesStep_19 : decode cX0_takesStep 19 = .ok (.iadd, 1) := by decide +kernel
theorem dX0_takesStep_20 : decode cX0_takesStep 20 = .ok (.putfield 177, 3) := by decide +kernel
theorem dX0_takesStep_23 : decode cX0_takesStep 23 = .ok (.iconst 1, 1) := by decide +kernel
theorem dX0_takesStep_24 : decode cX0_takesStep 24 = .ok (.ireturn, 1) := by decide +kernel
theorem dX0_takesStep_11 : decode cX0_takesStep 11 = .ok (.iconst 0, 1) := by decide +kernel
theorem dX0_takesStep_12 : decode cX0_takesStep 12 = .ok (.ireturn, 1) := by decide +kernel
theorem dX0_declareOutput_0 : decode cX0_declareOutput 0 = .ok (.aload_n 0, 1) := by decide +kernel
theorem dX0_declareOutput_1 : decode cX0_declareOutput 1 = .ok (.getfield 204, 3) := by decide +kernel
theorem dX0_declareOutput_4 : decode cX0_declareOutput 4 = .ok (.ifCond .eq 5, 3) := by decide +kernel
theorem dX0_declareOutput_9 : decode cX0_declareOutput 9 = .ok (.aload_n 0, 1) := by decide +kernel
theorem dX0_declareOutput_10 : decode cX0_declareOutput 10 = .ok (.iconst 1, 1) := by decide +kernel
theorem dX0_declareOutput_11 : decode cX0_declareOutput 11 = .ok (.putfield 204, 3) := by decide +kernel
theorem dX0_declareOutput_14 : decode cX0_declareOutput 14 = .ok (.iconst 0, 1) := by decide +kernel
theorem dX0_declareOutput_15 : decode cX0_declareOutput 15 = .ok (.ireturn, 1) := by decide +kernel
theorem dX0_declareOutput_7 : decode cX0_declareOutput 7 = .ok (.iconst 2, 1) := by decide +kernel
theorem dX0_declareOutput_8 : decode cX0_declareOutput 8 = .ok (.ireturn, 1) := by decide +kernel
theorem dX0_addActions_0 : decode cX0_addActions 0 = .ok (.aload_n 1, 1) := by decide +kernel
theorem dX0_addActions_1 : decode cX0_addActions 1 = .ok (.getfield 91, 3) := by decide +kernel
theorem dX0_addActions_4 : decode cX0_addActions 4 = .ok (.iconst 0, 1) := by decide +kernel
theorem dX0_addActions_5 : decode cX0_addActions 5 = .ok (.iaload, 1) := by decide +kernel
theorem dX0_addActions_6 : decode cX0_addActions 6 = .ok (.istore_n 2, 1) := by decide +kernel
theorem dX0_addActions_7 : decode cX0_addActions 7 = .ok (.iconst 0, 1) := by decide +kernel
theorem dX0_addActions_8 : decode cX0_addActions 8 = .ok (.istore_n 3, 1) := by decide +kernel
theorem dX0_addActions_9 : decode cX0_addActions 9 = .ok (.iload_n 3, 1) := by decide +kernel
theorem dX0_addActions_10 : decode cX0_addActions 10 = .ok (.iload_n 2, 1) := by decide +kernel
theorem dX0_addActions_11 : decode cX0_addActions 11 = .ok (.if_icmp .ge 75, 3) := by decide +kernel
theorem dX0_addActions_86 : decode cX0_addActions 86 = .ok (.iconst 0, 1) := by decide +kernel
theorem dX0_addActions_87 : decode cX0_addActions 87 = .ok (.ireturn, 1) := by decide +kernel
theorem dX0_addActions_14 : decode cX0_addActions 14 = .ok (.aload_n 0, 1) := by decide +kernel
theorem dX0_addActions_15 : decode cX0_addActions 15 = .ok (.aload_n 1, 1) := by decide +kernel
theorem dX0_addActions_16 : decode cX0_addActions 16 = .ok (.invokevirtual 169, 3) := by decide +kernel
theorem dX0_addActions_19 : decode cX0_addActions 19 = .ok (.ifCond .ne 5, 3) := by decide +kernel
theorem dX0_addActions_24 : decode cX0_addActions 24 = .ok (.aload_n 0, 1) := by decide +kernel
theorem dX0_addActions_25 : decode cX0_addActions 25 = .ok (.getfield 38, 3) := by decide +kernel
theorem dX0_addActions_28 : decode cX0_addActions 28 = .ok (.sipush 400, 3) := by decide +kernel
theorem dX0_addActions_31 : decode cX0_addActions 31 = .ok (.if_icmp .lt 6, 3) := by decide +kernel
theorem dX0_addActions_37 : decode cX0_addActions 37 = .ok (.aload_n 0, 1) := by decide +kernel
theorem dX0_addActions_38 : decode cX0_addActions 38 = .ok (.getfield 31, 3) := by decide +kernel
theorem dX0_addActions_41 : decode cX0_addActions 41 = .ok (.aload_n 0, 1) := by decide +kernel
theorem dX0_addActions_42 : decode cX0_addActions 42 = .ok (.getfield 38, 3) := by decide +kernel
theorem dX0_addActions_45 : decode cX0_addActions 45 = .ok (.aload_n 1, 1) := by decide +kernel
theorem dX0_addActions_46 : decode cX0_addActions 46 = .ok (.getfield 156, 3) := by decide +kernel
theorem dX0_addActions_49 : decode cX0_addActions 49 = .ok (.iastore, 1) := by decide +kernel
theorem dX0_addActions_50 : decode cX0_addActions 50 = .ok (.aload_n 0, 1) := by decide +kernel
theorem dX0_addActions_51 : decode cX0_addActions 51 = .ok (.getfield 35, 3) := by decide +kernel
theorem dX0_addActions_54 : decode cX0_addActions 54 = .ok (.aload_n 0, 1) := by decide +kernel
theorem dX0_addActions_55 : decode cX0_addActions 55 = .ok (.getfield 38, 3) := by decide +kernel
theorem dX0_addActions_58 : decode cX0_addActions 58 = .ok (.iload_n 3, 1) := by decide +kernel
theorem dX0_addActions_59 : decode cX0_addActions 59 = .ok (.iastore, 1) := by decide +kernel
theorem dX0_addActions_60 : decode cX0_addActions 60 = .ok (.aload_n 0, 1) := by decide +kernel
theorem dX0_addActions_61 : decode cX0_addActions 61 = .ok (.dup, 1) := by decide +kernel
theorem dX0_addActions_62 : decode cX0_addActions 62 = .ok (.getfield 38, 3) := by decide +kernel
theorem dX0_addActions_65 : decode cX0_addActions 65 = .ok (.iconst 1, 1) := by decide +kernel
theorem dX0_addActions_66 : decode cX0_addActions 66 = .ok (.iadd, 1) := by decide +kernel
theorem dX0_addActions_67 : decode cX0_addActions 67 = .ok (.putfield 38, 3) := by decide +kernel
theorem dX0_addActions_70 : decode cX0_addActions 70 = .ok (.aload_n 1, 1) := by decide +kernel
theorem dX0_addActions_71 : decode cX0_addActions 71 = .ok (.dup, 1) := by decide +kernel
theorem dX0_addActions_72 : decode cX0_addActions 72 = .ok (.getfield 104, 3) := by decide +kernel
theorem dX0_addActions_75 : decode cX0_addActions 75 = .ok (.iconst 1, 1) := by decide +kernel
theorem dX0_addActions_76 : decode cX0_addActions 76 = .ok (.iadd, 1) := by decide +kernel
theorem dX0_addActions_77 : decode cX0_addActions 77 = .ok (.putfield 104, 3) := by decide +kernel
theorem dX0_addActions_80 : decode cX0_addActions 80 = .ok (.iinc 3 1, 3) := by decide +kernel
theorem dX0_addActions_83 : decode cX0_addActions 83 = .ok (.goto (-74), 3) := by decide +kernel
theorem dX0_addActions_34 : decode cX0_addActions 34 = .ok (.bipush 7, 2) := by decide +kernel
theorem dX0_addActions_36 : decode cX0_addActions 36 = .ok (.ireturn, 1) := by decide +kernel
theorem dX0_addActions_22 : decode cX0_addActions 22 = .ok (.iconst 5, 1) := by decide +kernel
theorem dX0_addActions_23 : decode cX0_addActions 23 = .ok (.ireturn, 1) := by decide +kernel
theorem dX2_give_0 : decode cX2_give 0 = .ok (.aload_n 0, 1) := by decide +kernel
theorem dX2_give_1 : decode cX2_give 1 = .ok (.getfield 15, 3) := by decide +kernel
theorem dX2_give_4 : decode cX2_give 4 = .ok (.iload_n 1, 1) := by decide +kernel
theorem dX2_give_5 : decode cX2_give 5 = .ok (.iload_n 2, 1) := by decide +kernel
theorem dX2_give_6 : decode cX2_give 6 = .ok (.iastore, 1) := by decide +kernel
theorem dX2_give_7 : decode cX2_give 7 = .ok (.aload_n 0, 1) := by decide +kernel
theorem dX2_give_8 : decode cX2_give 8 = .ok (.getfield 18, 3) := by decide +kernel
theorem dX2_give_11 : decode cX2_give 11 = .ok (.iload_n 1, 1) := by decide +kernel
theorem dX2_give_12 : decode cX2_give 12 = .ok (.iconst 1, 1) := by decide +kernel
theorem dX2_give_13 : decode cX2_give 13 = .ok (.bastore, 1) := by decide +kernel
theorem dX2_give_14 : decode cX2_give 14 = .ok (.return_, 1) := by decide +kernel
theorem dX0_giveQuotient_0 : decode cX0_giveQuotient 0 = .ok (.aload_n 0, 1) := by decide +kernel
theorem dX0_giveQuotient_1 : decode cX0_giveQuotient 1 = .ok (.getfield 91, 3) := by decide +kernel
theorem dX0_giveQuotient_4 : decode cX0_giveQuotient 4 = .ok (.iconst 1, 1) := by decide +kernel
theorem dX0_giveQuotient_5 : decode cX0_giveQuotient 5 = .ok (.iaload, 1) := by decide +kernel
theorem dX0_giveQuotient_6 : decode cX0_giveQuotient 6 = .ok (.istore_n 1, 1) := by decide +kernel
theorem dX0_giveQuotient_7 : decode cX0_giveQuotient 7 = .ok (.iload_n 1, 1) := by decide +kernel
theorem dX0_giveQuotient_8 : decode cX0_giveQuotient 8 = .ok (.ifCond .ne 5, 3) := by decide +kernel
theorem dX0_giveQuotient_13 : decode cX0_giveQuotient 13 = .ok (.aload_n 0, 1) := by decide +kernel
theorem dX0_giveQuotient_14 : decode cX0_giveQuotient 14 = .ok (.iconst 1, 1) := by decide +kernel
theorem dX0_giveQuotient_15 : decode cX0_giveQuotient 15 = .ok (.aload_n 0, 1) := by decide +kernel
theorem dX0_giveQuotient_16 : decode cX0_giveQuotient 16 = .ok (.getfield 91, 3) := by decide +kernel
theorem dX0_giveQuotient_19 : decode cX0_giveQuotient 19 = .ok (.iconst 0, 1) := by decide +kernel
theorem dX0_giveQuotient_20 : decode cX0_giveQuotient 20 = .ok (.iaload, 1) := by decide +kernel
theorem dX0_giveQuotient_21 : decode cX0_giveQuotient 21 = .ok (.iload_n 1, 1) := by decide +kernel
theorem dX0_giveQuotient_22 : decode cX0_giveQuotient 22 = .ok (.idiv, 1) := by decide +kernel
theorem dX0_giveQuotient_23 : decode cX0_giveQuotient 23 = .ok (.invokevirtual 207, 3) := by decide +kernel
theorem dX0_giveQuotient_26 : decode cX0_giveQuotient 26 = .ok (.iconst 0, 1) := by decide +kernel
theorem dX0_giveQuotient_27 : decode cX0_giveQuotient 27 = .ok (.ireturn, 1) := by decide +kernel
theorem dX0_giveQuotient_11 : decode cX0_giveQuotient 11 = .ok (.iconst 3, 1) := by decide +kernel
theorem dX0_giveQuotient_12 : decode cX0_giveQuotient 12 = .ok (.ireturn, 1) := by decide +kernel
theorem dX0_giveOneMore_0 : decode cX0_giveOneMore 0 = .ok (.aload_n 1, 1) := by decide +kernel
theorem dX0_giveOneMore_1 : decode cX0_giveOneMore 1 = .ok (.ifnull 12, 3) := by decide +kernel
theorem dX0_giveOneMore_13 : decode cX0_giveOneMore 13 = .ok (.iconst 4, 1) := by decide +kernel
theorem dX0_giveOneMore_14 : decode cX0_giveOneMore 14 = .ok (.ireturn, 1) := by decide +kernel
theorem dX0_giveOneMore_4 : decode cX0_giveOneMore 4 = .ok (.aload_n 1, 1) := by decide +kernel
theorem dX0_giveOneMore_5 : decode cX0_giveOneMore 5 = .ok (.getfield 110, 3) := by decide +kernel
theorem dX0_giveOneMore_8 : decode cX0_giveOneMore 8 = .ok (.iconst 0, 1) := by decide +kernel
theorem dX0_giveOneMore_9 : decode cX0_giveOneMore 9 = .ok (.baload, 1) := by decide +kernel
theorem dX0_giveOneMore_10 : decode cX0_giveOneMore 10 = .ok (.ifCond .ne 5, 3) := by decide +kernel
theorem dX0_giveOneMore_15 : decode cX0_giveOneMore 15 = .ok (.aload_n 0, 1) := by decide +kernel
theorem dX0_giveOneMore_16 : decode cX0_giveOneMore 16 = .ok (.iconst 0, 1) := by decide +kernel
theorem dX0_giveOneMore_17 : decode cX0_giveOneMore 17 = .ok (.aload_n 1, 1) := by decide +kernel
theorem dX0_giveOneMore_18 : decode cX0_giveOneMore 18 = .ok (.getfield 114, 3) := by decide +kernel
theorem dX0_giveOneMore_21 : decode cX0_giveOneMore 21 = .ok (.iconst 0, 1) := by decide +kernel
theorem dX0_giveOneMore_22 : decode cX0_giveOneMore 22 = .ok (.iaload, 1) := by decide +kernel
theorem dX0_giveOneMore_23 : decode cX0_giveOneMore 23 = .ok (.iconst 1, 1) := by decide +kernel
theorem dX0_giveOneMore_24 : decode cX0_giveOneMore 24 = .ok (.iadd, 1) := by decide +kernel
theorem dX0_giveOneMore_25 : decode cX0_giveOneMore 25 = .ok (.invokevirtual 207, 3) := by decide +kernel
theorem dX0_giveOneMore_28 : decode cX0_giveOneMore 28 = .ok (.iconst 0, 1) := by decide +kernel

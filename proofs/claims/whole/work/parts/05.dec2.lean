theorem dX0_giveOneMore_29 : decode cX0_giveOneMore 29 = .ok (.ireturn, 1) := by decide +kernel
theorem dX0_countInCell_0 : decode cX0_countInCell 0 = .ok (.aload_n 0, 1) := by decide +kernel
theorem dX0_countInCell_1 : decode cX0_countInCell 1 = .ok (.getfield 157, 3) := by decide +kernel
theorem dX0_countInCell_4 : decode cX0_countInCell 4 = .ok (.dup, 1) := by decide +kernel
theorem dX0_countInCell_5 : decode cX0_countInCell 5 = .ok (.getfield 128, 3) := by decide +kernel
theorem dX0_countInCell_8 : decode cX0_countInCell 8 = .ok (.lconst 1, 1) := by decide +kernel
theorem dX0_countInCell_9 : decode cX0_countInCell 9 = .ok (.ladd, 1) := by decide +kernel
theorem dX0_countInCell_10 : decode cX0_countInCell 10 = .ok (.putfield 128, 3) := by decide +kernel
theorem dX0_countInCell_13 : decode cX0_countInCell 13 = .ok (.aload_n 0, 1) := by decide +kernel
theorem dX0_countInCell_14 : decode cX0_countInCell 14 = .ok (.iconst 2, 1) := by decide +kernel
theorem dX0_countInCell_15 : decode cX0_countInCell 15 = .ok (.aload_n 0, 1) := by decide +kernel
theorem dX0_countInCell_16 : decode cX0_countInCell 16 = .ok (.getfield 157, 3) := by decide +kernel
theorem dX0_countInCell_19 : decode cX0_countInCell 19 = .ok (.getfield 128, 3) := by decide +kernel
theorem dX0_countInCell_22 : decode cX0_countInCell 22 = .ok (.l2i, 1) := by decide +kernel
theorem dX0_countInCell_23 : decode cX0_countInCell 23 = .ok (.invokevirtual 207, 3) := by decide +kernel
theorem dX0_countInCell_26 : decode cX0_countInCell 26 = .ok (.iconst 0, 1) := by decide +kernel
theorem dX0_countInCell_27 : decode cX0_countInCell 27 = .ok (.ireturn, 1) := by decide +kernel
theorem dX0_giveAmount_0 : decode cX0_giveAmount 0 = .ok (.aload_n 0, 1) := by decide +kernel
theorem dX0_giveAmount_1 : decode cX0_giveAmount 1 = .ok (.getfield 91, 3) := by decide +kernel
theorem dX0_giveAmount_4 : decode cX0_giveAmount 4 = .ok (.iconst 0, 1) := by decide +kernel
theorem dX0_giveAmount_5 : decode cX0_giveAmount 5 = .ok (.iaload, 1) := by decide +kernel
theorem dX0_giveAmount_6 : decode cX0_giveAmount 6 = .ok (.istore_n 1, 1) := by decide +kernel
theorem dX0_giveAmount_7 : decode cX0_giveAmount 7 = .ok (.aload_n 0, 1) := by decide +kernel
theorem dX0_giveAmount_8 : decode cX0_giveAmount 8 = .ok (.iconst 0, 1) := by decide +kernel
theorem dX0_giveAmount_9 : decode cX0_giveAmount 9 = .ok (.aload_n 0, 1) := by decide +kernel
theorem dX0_giveAmount_10 : decode cX0_giveAmount 10 = .ok (.getfield 91, 3) := by decide +kernel
theorem dX0_giveAmount_13 : decode cX0_giveAmount 13 = .ok (.iconst 3, 1) := by decide +kernel
theorem dX0_giveAmount_14 : decode cX0_giveAmount 14 = .ok (.iaload, 1) := by decide +kernel
theorem dX0_giveAmount_15 : decode cX0_giveAmount 15 = .ok (.iconst 1, 1) := by decide +kernel
theorem dX0_giveAmount_16 : decode cX0_giveAmount 16 = .ok (.if_icmp .ne 8, 3) := by decide +kernel
theorem dX0_giveAmount_24 : decode cX0_giveAmount 24 = .ok (.iload_n 1, 1) := by decide +kernel
theorem dX0_giveAmount_25 : decode cX0_giveAmount 25 = .ok (.invokevirtual 207, 3) := by decide +kernel
theorem dX0_giveAmount_28 : decode cX0_giveAmount 28 = .ok (.iconst 0, 1) := by decide +kernel
theorem dX0_giveAmount_29 : decode cX0_giveAmount 29 = .ok (.ireturn, 1) := by decide +kernel
theorem dX0_giveAmount_19 : decode cX0_giveAmount 19 = .ok (.iload_n 1, 1) := by decide +kernel
theorem dX0_giveAmount_20 : decode cX0_giveAmount 20 = .ok (.ineg, 1) := by decide +kernel
theorem dX0_giveAmount_21 : decode cX0_giveAmount 21 = .ok (.goto 4, 3) := by decide +kernel
theorem dX0_keepHandle_0 : decode cX0_keepHandle 0 = .ok (.aload_n 0, 1) := by decide +kernel
theorem dX0_keepHandle_1 : decode cX0_keepHandle 1 = .ok (.getfield 41, 3) := by decide +kernel
theorem dX0_keepHandle_4 : decode cX0_keepHandle 4 = .ok (.bipush 40, 2) := by decide +kernel
theorem dX0_keepHandle_6 : decode cX0_keepHandle 6 = .ok (.if_icmp .ge 13, 3) := by decide +kernel
theorem dX0_keepHandle_19 : decode cX0_keepHandle 19 = .ok (.iconst 0, 1) := by decide +kernel
theorem dX0_keepHandle_20 : decode cX0_keepHandle 20 = .ok (.ireturn, 1) := by decide +kernel
theorem dX0_keepHandle_9 : decode cX0_keepHandle 9 = .ok (.aload_n 0, 1) := by decide +kernel
theorem dX0_keepHandle_10 : decode cX0_keepHandle 10 = .ok (.dup, 1) := by decide +kernel
theorem dX0_keepHandle_11 : decode cX0_keepHandle 11 = .ok (.getfield 41, 3) := by decide +kernel
theorem dX0_keepHandle_14 : decode cX0_keepHandle 14 = .ok (.iconst 1, 1) := by decide +kernel
theorem dX0_keepHandle_15 : decode cX0_keepHandle 15 = .ok (.iadd, 1) := by decide +kernel
theorem dX0_keepHandle_16 : decode cX0_keepHandle 16 = .ok (.putfield 41, 3) := by decide +kernel
theorem dX0_doBit_0 : decode cX0_doBit 0 = .ok (.iload_n 3, 1) := by decide +kernel
theorem dX0_doBit_1 : decode cX0_doBit 1 = .ok (.tableswitch 75 0 6 #[43, 43, 48, 54, 59, 65, 70], 43) := by decide +kernel
theorem dX0_doBit_44 : decode cX0_doBit 44 = .ok (.aload_n 1, 1) := by decide +kernel
theorem dX0_doBit_45 : decode cX0_doBit 45 = .ok (.invokestatic 180, 3) := by decide +kernel
theorem dX0_doBit_48 : decode cX0_doBit 48 = .ok (.ireturn, 1) := by decide +kernel
theorem dX0_doBit_49 : decode cX0_doBit 49 = .ok (.aload_n 0, 1) := by decide +kernel
theorem dX0_doBit_50 : decode cX0_doBit 50 = .ok (.aload_n 1, 1) := by decide +kernel
theorem dX0_doBit_51 : decode cX0_doBit 51 = .ok (.invokevirtual 184, 3) := by decide +kernel
theorem dX0_doBit_54 : decode cX0_doBit 54 = .ok (.ireturn, 1) := by decide +kernel
theorem dX0_doBit_55 : decode cX0_doBit 55 = .ok (.aload_n 1, 1) := by decide +kernel
theorem dX0_doBit_56 : decode cX0_doBit 56 = .ok (.invokestatic 187, 3) := by decide +kernel
theorem dX0_doBit_59 : decode cX0_doBit 59 = .ok (.ireturn, 1) := by decide +kernel
theorem dX0_doBit_60 : decode cX0_doBit 60 = .ok (.aload_n 1, 1) := by decide +kernel
theorem dX0_doBit_61 : decode cX0_doBit 61 = .ok (.aload_n 2, 1) := by decide +kernel
theorem dX0_doBit_62 : decode cX0_doBit 62 = .ok (.invokestatic 190, 3) := by decide +kernel
theorem dX0_doBit_65 : decode cX0_doBit 65 = .ok (.ireturn, 1) := by decide +kernel
theorem dX0_doBit_66 : decode cX0_doBit 66 = .ok (.aload_n 1, 1) := by decide +kernel
theorem dX0_doBit_67 : decode cX0_doBit 67 = .ok (.invokestatic 194, 3) := by decide +kernel
theorem dX0_doBit_70 : decode cX0_doBit 70 = .ok (.ireturn, 1) := by decide +kernel
theorem dX0_doBit_71 : decode cX0_doBit 71 = .ok (.aload_n 1, 1) := by decide +kernel
theorem dX0_doBit_72 : decode cX0_doBit 72 = .ok (.invokestatic 197, 3) := by decide +kernel
theorem dX0_doBit_75 : decode cX0_doBit 75 = .ok (.ireturn, 1) := by decide +kernel
theorem dX0_doBit_76 : decode cX0_doBit 76 = .ok (.aload_n 0, 1) := by decide +kernel
theorem dX0_doBit_77 : decode cX0_doBit 77 = .ok (.invokevirtual 200, 3) := by decide +kernel
theorem dX0_doBit_80 : decode cX0_doBit 80 = .ok (.ireturn, 1) := by decide +kernel
theorem dX0_doBits_0 : decode cX0_doBits 0 = .ok (.aload_n 0, 1) := by decide +kernel
theorem dX0_doBits_1 : decode cX0_doBits 1 = .ok (.getfield 38, 3) := by decide +kernel
theorem dX0_doBits_4 : decode cX0_doBits 4 = .ok (.istore_n 3, 1) := by decide +kernel
theorem dX0_doBits_5 : decode cX0_doBits 5 = .ok (.iconst 0, 1) := by decide +kernel
theorem dX0_doBits_6 : decode cX0_doBits 6 = .ok (.istore 4, 2) := by decide +kernel
theorem dX0_doBits_8 : decode cX0_doBits 8 = .ok (.iload 4, 2) := by decide +kernel
theorem dX0_doBits_10 : decode cX0_doBits 10 = .ok (.bipush 8, 2) := by decide +kernel
theorem dX0_doBits_12 : decode cX0_doBits 12 = .ok (.if_icmp .ge 72, 3) := by decide +kernel
theorem dX0_doBits_84 : decode cX0_doBits 84 = .ok (.return_, 1) := by decide +kernel
theorem dX0_doBits_15 : decode cX0_doBits 15 = .ok (.aload_n 1, 1) := by decide +kernel
theorem dX0_doBits_16 : decode cX0_doBits 16 = .ok (.getfield 157, 3) := by decide +kernel
theorem dX0_doBits_19 : decode cX0_doBits 19 = .ok (.getfield 135, 3) := by decide +kernel
theorem dX0_doBits_22 : decode cX0_doBits 22 = .ok (.iload 4, 2) := by decide +kernel
theorem dX0_doBits_24 : decode cX0_doBits 24 = .ok (.ishr, 1) := by decide +kernel
theorem dX0_doBits_25 : decode cX0_doBits 25 = .ok (.iconst 1, 1) := by decide +kernel
theorem dX0_doBits_26 : decode cX0_doBits 26 = .ok (.iand, 1) := by decide +kernel
theorem dX0_doBits_27 : decode cX0_doBits 27 = .ok (.ifCond .ne 6, 3) := by decide +kernel
theorem dX0_doBits_33 : decode cX0_doBits 33 = .ok (.aload_n 0, 1) := by decide +kernel
theorem dX0_doBits_34 : decode cX0_doBits 34 = .ok (.aload_n 1, 1) := by decide +kernel
theorem dX0_doBits_35 : decode cX0_doBits 35 = .ok (.invokevirtual 169, 3) := by decide +kernel
theorem dX0_doBits_38 : decode cX0_doBits 38 = .ok (.ifCond .eq 14, 3) := by decide +kernel
theorem dX0_doBits_52 : decode cX0_doBits 52 = .ok (.iconst 5, 1) := by decide +kernel
theorem dX0_doBits_53 : decode cX0_doBits 53 = .ok (.istore 5, 2) := by decide +kernel
theorem dX0_doBits_55 : decode cX0_doBits 55 = .ok (.iload 5, 2) := by decide +kernel
theorem dX0_doBits_57 : decode cX0_doBits 57 = .ok (.ifCond .eq 21, 3) := by decide +kernel
theorem dX0_doBits_78 : decode cX0_doBits 78 = .ok (.iinc 4 1, 3) := by decide +kernel
theorem dX0_doBits_81 : decode cX0_doBits 81 = .ok (.goto (-73), 3) := by decide +kernel
theorem dX0_doBits_60 : decode cX0_doBits 60 = .ok (.aload_n 0, 1) := by decide +kernel
theorem dX0_doBits_61 : decode cX0_doBits 61 = .ok (.iload_n 3, 1) := by decide +kernel
theorem dX0_doBits_62 : decode cX0_doBits 62 = .ok (.putfield 38, 3) := by decide +kernel
theorem dX0_doBits_65 : decode cX0_doBits 65 = .ok (.aload_n 1, 1) := by decide +kernel
theorem dX0_doBits_66 : decode cX0_doBits 66 = .ok (.iload 5, 2) := by decide +kernel
theorem dX0_doBits_68 : decode cX0_doBits 68 = .ok (.iload 4, 2) := by decide +kernel
theorem dX0_doBits_70 : decode cX0_doBits 70 = .ok (.aload_n 1, 1) := by decide +kernel
theorem dX0_doBits_71 : decode cX0_doBits 71 = .ok (.getfield 156, 3) := by decide +kernel
theorem dX0_doBits_74 : decode cX0_doBits 74 = .ok (.invokevirtual 161, 3) := by decide +kernel
theorem dX0_doBits_77 : decode cX0_doBits 77 = .ok (.return_, 1) := by decide +kernel
theorem dX0_doBits_41 : decode cX0_doBits 41 = .ok (.aload_n 0, 1) := by decide +kernel
theorem dX0_doBits_42 : decode cX0_doBits 42 = .ok (.aload_n 1, 1) := by decide +kernel
theorem dX0_doBits_43 : decode cX0_doBits 43 = .ok (.aload_n 2, 1) := by decide +kernel
theorem dX0_doBits_44 : decode cX0_doBits 44 = .ok (.iload 4, 2) := by decide +kernel
theorem dX0_doBits_46 : decode cX0_doBits 46 = .ok (.invokevirtual 173, 3) := by decide +kernel
theorem dX0_doBits_49 : decode cX0_doBits 49 = .ok (.goto 4, 3) := by decide +kernel
theorem dX0_doBits_30 : decode cX0_doBits 30 = .ok (.goto 48, 3) := by decide +kernel
theorem dX0_runOnce_0 : decode cX0_runOnce 0 = .ok (.aload_n 1, 1) := by decide +kernel
theorem dX0_runOnce_1 : decode cX0_runOnce 1 = .ok (.getfield 87, 3) := by decide +kernel
theorem dX0_runOnce_4 : decode cX0_runOnce 4 = .ok (.ifCond .ne 9, 3) := by decide +kernel
theorem dX0_runOnce_13 : decode cX0_runOnce 13 = .ok (.return_, 1) := by decide +kernel
theorem dX0_runOnce_7 : decode cX0_runOnce 7 = .ok (.iload_n 2, 1) := by decide +kernel
theorem dX0_runOnce_8 : decode cX0_runOnce 8 = .ok (.bipush 40, 2) := by decide +kernel
theorem dX0_runOnce_10 : decode cX0_runOnce 10 = .ok (.if_icmp .lt 4, 3) := by decide +kernel
theorem dX0_runOnce_14 : decode cX0_runOnce 14 = .ok (.aload_n 1, 1) := by decide +kernel
theorem dX0_runOnce_15 : decode cX0_runOnce 15 = .ok (.iconst 1, 1) := by decide +kernel
theorem dX0_runOnce_16 : decode cX0_runOnce 16 = .ok (.putfield 87, 3) := by decide +kernel
theorem dX0_runOnce_19 : decode cX0_runOnce 19 = .ok (.aload_n 0, 1) := by decide +kernel
theorem dX0_runOnce_20 : decode cX0_runOnce 20 = .ok (.aload_n 1, 1) := by decide +kernel
theorem dX0_runOnce_21 : decode cX0_runOnce 21 = .ok (.getfield 157, 3) := by decide +kernel
theorem dX0_runOnce_24 : decode cX0_runOnce 24 = .ok (.invokevirtual 72, 3) := by decide +kernel
theorem dX0_runOnce_27 : decode cX0_runOnce 27 = .ok (.ifCond .ne 15, 3) := by decide +kernel
theorem dX0_runOnce_42 : decode cX0_runOnce 42 = .ok (.aload_n 0, 1) := by decide +kernel
theorem dX0_runOnce_43 : decode cX0_runOnce 43 = .ok (.aload_n 1, 1) := by decide +kernel
theorem dX0_runOnce_44 : decode cX0_runOnce 44 = .ok (.getfield 91, 3) := by decide +kernel
theorem dX0_runOnce_47 : decode cX0_runOnce 47 = .ok (.iconst 2, 1) := by decide +kernel
theorem dX0_runOnce_48 : decode cX0_runOnce 48 = .ok (.iaload, 1) := by decide +kernel
theorem dX0_runOnce_49 : decode cX0_runOnce 49 = .ok (.iconst 1, 1) := by decide +kernel
theorem dX0_runOnce_50 : decode cX0_runOnce 50 = .ok (.isub, 1) := by decide +kernel
theorem dX0_runOnce_51 : decode cX0_runOnce 51 = .ok (.invokevirtual 79, 3) := by decide +kernel
theorem dX0_runOnce_54 : decode cX0_runOnce 54 = .ok (.astore_n 3, 1) := by decide +kernel
theorem dX0_runOnce_55 : decode cX0_runOnce 55 = .ok (.aload_n 3, 1) := by decide +kernel
theorem dX0_runOnce_56 : decode cX0_runOnce 56 = .ok (.ifnull 31, 3) := by decide +kernel
theorem dX0_runOnce_87 : decode cX0_runOnce 87 = .ok (.aload_n 0, 1) := by decide +kernel
theorem dX0_runOnce_88 : decode cX0_runOnce 88 = .ok (.aload_n 1, 1) := by decide +kernel
theorem dX0_runOnce_89 : decode cX0_runOnce 89 = .ok (.aload_n 3, 1) := by decide +kernel
theorem dX0_runOnce_90 : decode cX0_runOnce 90 = .ok (.invokevirtual 165, 3) := by decide +kernel
theorem dX0_runOnce_93 : decode cX0_runOnce 93 = .ok (.return_, 1) := by decide +kernel
theorem dX0_runOnce_59 : decode cX0_runOnce 59 = .ok (.aload_n 0, 1) := by decide +kernel
theorem dX0_runOnce_60 : decode cX0_runOnce 60 = .ok (.aload_n 3, 1) := by decide +kernel
theorem dX0_runOnce_61 : decode cX0_runOnce 61 = .ok (.iload_n 2, 1) := by decide +kernel
theorem dX0_runOnce_62 : decode cX0_runOnce 62 = .ok (.iconst 1, 1) := by decide +kernel
theorem dX0_runOnce_63 : decode cX0_runOnce 63 = .ok (.iadd, 1) := by decide +kernel
theorem dX0_runOnce_64 : decode cX0_runOnce 64 = .ok (.invokevirtual 97, 3) := by decide +kernel
theorem dX0_runOnce_67 : decode cX0_runOnce 67 = .ok (.aload_n 3, 1) := by decide +kernel
theorem dX0_runOnce_68 : decode cX0_runOnce 68 = .ok (.getfield 101, 3) := by decide +kernel
theorem dX0_runOnce_71 : decode cX0_runOnce 71 = .ok (.ifCond .eq 16, 3) := by decide +kernel
theorem dX0_runOnce_74 : decode cX0_runOnce 74 = .ok (.aload_n 1, 1) := by decide +kernel
theorem dX0_runOnce_75 : decode cX0_runOnce 75 = .ok (.bipush 6, 2) := by decide +kernel
theorem dX0_runOnce_77 : decode cX0_runOnce 77 = .ok (.bipush 8, 2) := by decide +kernel
theorem dX0_runOnce_79 : decode cX0_runOnce 79 = .ok (.aload_n 3, 1) := by decide +kernel
theorem dX0_runOnce_80 : decode cX0_runOnce 80 = .ok (.getfield 120, 3) := by decide +kernel
theorem dX0_runOnce_83 : decode cX0_runOnce 83 = .ok (.invokevirtual 161, 3) := by decide +kernel
theorem dX0_runOnce_86 : decode cX0_runOnce 86 = .ok (.return_, 1) := by decide +kernel
theorem dX0_runOnce_30 : decode cX0_runOnce 30 = .ok (.aload_n 1, 1) := by decide +kernel
theorem dX0_runOnce_31 : decode cX0_runOnce 31 = .ok (.iconst 1, 1) := by decide +kernel
theorem dX0_runOnce_32 : decode cX0_runOnce 32 = .ok (.bipush 8, 2) := by decide +kernel
theorem dX0_runOnce_34 : decode cX0_runOnce 34 = .ok (.aload_n 1, 1) := by decide +kernel
theorem dX0_runOnce_35 : decode cX0_runOnce 35 = .ok (.getfield 156, 3) := by decide +kernel
theorem dX0_runOnce_38 : decode cX0_runOnce 38 = .ok (.invokevirtual 161, 3) := by decide +kernel
theorem dX0_runOnce_41 : decode cX0_runOnce 41 = .ok (.return_, 1) := by decide +kernel
theorem dX0_run_0 : decode cX0_run 0 = .ok (.aload_n 0, 1) := by decide +kernel
theorem dX0_run_1 : decode cX0_run 1 = .ok (.iload_n 1, 1) := by decide +kernel
theorem dX0_run_2 : decode cX0_run 2 = .ok (.invokevirtual 79, 3) := by decide +kernel
theorem dX0_run_5 : decode cX0_run 5 = .ok (.astore_n 2, 1) := by decide +kernel
theorem dX0_run_6 : decode cX0_run 6 = .ok (.aload_n 2, 1) := by decide +kernel
theorem dX0_run_7 : decode cX0_run 7 = .ok (.ifnonnull 5, 3) := by decide +kernel
theorem dX0_run_10 : decode cX0_run 10 = .ok (.iconst (-1), 1) := by decide +kernel
theorem dX0_run_11 : decode cX0_run 11 = .ok (.ireturn, 1) := by decide +kernel
theorem dX0_run_12 : decode cX0_run 12 = .ok (.aload_n 0, 1) := by decide +kernel
theorem dX0_run_13 : decode cX0_run 13 = .ok (.aload_n 2, 1) := by decide +kernel
theorem dX0_run_14 : decode cX0_run 14 = .ok (.iconst 0, 1) := by decide +kernel
theorem dX0_run_15 : decode cX0_run 15 = .ok (.invokevirtual 97, 3) := by decide +kernel
theorem dX0_run_18 : decode cX0_run 18 = .ok (.aload_n 2, 1) := by decide +kernel
theorem dX0_run_19 : decode cX0_run 19 = .ok (.getfield 101, 3) := by decide +kernel
theorem dX0_run_22 : decode cX0_run 22 = .ok (.ifCond .ne 10, 3) := by decide +kernel
theorem dX0_run_32 : decode cX0_run 32 = .ok (.bipush (-10), 2) := by decide +kernel
theorem dX0_run_34 : decode cX0_run 34 = .ok (.aload_n 2, 1) := by decide +kernel
theorem dX0_run_35 : decode cX0_run 35 = .ok (.getfield 101, 3) := by decide +kernel
theorem dX0_run_38 : decode cX0_run 38 = .ok (.isub, 1) := by decide +kernel
theorem dX0_run_39 : decode cX0_run 39 = .ok (.ireturn, 1) := by decide +kernel
theorem dX0_run_25 : decode cX0_run 25 = .ok (.aload_n 2, 1) := by decide +kernel
theorem dX0_run_26 : decode cX0_run 26 = .ok (.getfield 104, 3) := by decide +kernel
theorem dX0_run_29 : decode cX0_run 29 = .ok (.goto 10, 3) := by decide +kernel
theorem dX0_digest_0 : decode cX0_digest 0 = .ok (.aload_n 0, 1) := by decide +kernel
theorem dX0_digest_1 : decode cX0_digest 1 = .ok (.iload_n 1, 1) := by decide +kernel
theorem dX0_digest_2 : decode cX0_digest 2 = .ok (.invokevirtual 79, 3) := by decide +kernel
theorem dX0_digest_5 : decode cX0_digest 5 = .ok (.astore_n 3, 1) := by decide +kernel
theorem dX0_digest_6 : decode cX0_digest 6 = .ok (.aload_n 3, 1) := by decide +kernel
theorem dX0_digest_7 : decode cX0_digest 7 = .ok (.ifnonnull 5, 3) := by decide +kernel
theorem dX0_digest_10 : decode cX0_digest 10 = .ok (.iconst 0, 1) := by decide +kernel
theorem dX0_digest_11 : decode cX0_digest 11 = .ok (.ireturn, 1) := by decide +kernel
theorem dX0_digest_12 : decode cX0_digest 12 = .ok (.aload_n 3, 1) := by decide +kernel
theorem dX0_digest_13 : decode cX0_digest 13 = .ok (.getfield 157, 3) := by decide +kernel
theorem dX0_digest_16 : decode cX0_digest 16 = .ok (.astore 4, 2) := by decide +kernel
theorem dX0_digest_18 : decode cX0_digest 18 = .ok (.aload 4, 2) := by decide +kernel
theorem dX0_digest_20 : decode cX0_digest 20 = .ok (.getfield 132, 3) := by decide +kernel
theorem dX0_digest_23 : decode cX0_digest 23 = .ok (.bipush 31, 2) := by decide +kernel
theorem dX0_digest_25 : decode cX0_digest 25 = .ok (.imul, 1) := by decide +kernel
theorem dX0_digest_26 : decode cX0_digest 26 = .ok (.aload 4, 2) := by decide +kernel
theorem dX0_digest_28 : decode cX0_digest 28 = .ok (.getfield 135, 3) := by decide +kernel
theorem dX0_digest_31 : decode cX0_digest 31 = .ok (.iadd, 1) := by decide +kernel
theorem dX0_digest_32 : decode cX0_digest 32 = .ok (.bipush 31, 2) := by decide +kernel
theorem dX0_digest_34 : decode cX0_digest 34 = .ok (.imul, 1) := by decide +kernel
theorem dX0_digest_35 : decode cX0_digest 35 = .ok (.iload_n 1, 1) := by decide +kernel
theorem dX0_digest_36 : decode cX0_digest 36 = .ok (.iadd, 1) := by decide +kernel
theorem dX0_digest_37 : decode cX0_digest 37 = .ok (.bipush 31, 2) := by decide +kernel
theorem dX0_digest_39 : decode cX0_digest 39 = .ok (.imul, 1) := by decide +kernel
theorem dX0_digest_40 : decode cX0_digest 40 = .ok (.iload_n 2, 1) := by decide +kernel
theorem dX0_digest_41 : decode cX0_digest 41 = .ok (.iadd, 1) := by decide +kernel
theorem dX0_digest_42 : decode cX0_digest 42 = .ok (.ireturn, 1) := by decide +kernel
theorem dX0_action_0 : decode cX0_action 0 = .ok (.iload_n 1, 1) := by decide +kernel
theorem dX0_action_1 : decode cX0_action 1 = .ok (.aload_n 0, 1) := by decide +kernel
theorem dX0_action_2 : decode cX0_action 2 = .ok (.getfield 38, 3) := by decide +kernel
theorem dX0_action_5 : decode cX0_action 5 = .ok (.iconst 1, 1) := by decide +kernel
theorem dX0_action_6 : decode cX0_action 6 = .ok (.isub, 1) := by decide +kernel
theorem dX0_action_7 : decode cX0_action 7 = .ok (.invokestatic 57, 3) := by decide +kernel
theorem dX0_action_10 : decode cX0_action 10 = .ok (.ifCond .ne 5, 3) := by decide +kernel
theorem dX0_action_15 : decode cX0_action 15 = .ok (.iload_n 2, 1) := by decide +kernel
theorem dX0_action_16 : decode cX0_action 16 = .ok (.tableswitch 59 0 2 #[28, 35, 42], 28) := by decide +kernel
theorem dX0_action_44 : decode cX0_action 44 = .ok (.aload_n 0, 1) := by decide +kernel
theorem dX0_action_45 : decode cX0_action 45 = .ok (.getfield 31, 3) := by decide +kernel
theorem dX0_action_48 : decode cX0_action 48 = .ok (.iload_n 1, 1) := by decide +kernel
theorem dX0_action_49 : decode cX0_action 49 = .ok (.iaload, 1) := by decide +kernel
theorem dX0_action_50 : decode cX0_action 50 = .ok (.ireturn, 1) := by decide +kernel
theorem dX0_action_51 : decode cX0_action 51 = .ok (.aload_n 0, 1) := by decide +kernel
theorem dX0_action_52 : decode cX0_action 52 = .ok (.getfield 35, 3) := by decide +kernel
theorem dX0_action_55 : decode cX0_action 55 = .ok (.iload_n 1, 1) := by decide +kernel
theorem dX0_action_56 : decode cX0_action 56 = .ok (.iaload, 1) := by decide +kernel
theorem dX0_action_57 : decode cX0_action 57 = .ok (.ireturn, 1) := by decide +kernel
theorem dX0_action_58 : decode cX0_action 58 = .ok (.aload_n 0, 1) := by decide +kernel
theorem dX0_action_59 : decode cX0_action 59 = .ok (.aload_n 0, 1) := by decide +kernel
theorem dX0_action_60 : decode cX0_action 60 = .ok (.getfield 31, 3) := by decide +kernel
theorem dX0_action_63 : decode cX0_action 63 = .ok (.iload_n 1, 1) := by decide +kernel
theorem dX0_action_64 : decode cX0_action 64 = .ok (.iaload, 1) := by decide +kernel
theorem dX0_action_65 : decode cX0_action 65 = .ok (.aload_n 0, 1) := by decide +kernel
theorem dX0_action_66 : decode cX0_action 66 = .ok (.getfield 35, 3) := by decide +kernel
theorem dX0_action_69 : decode cX0_action 69 = .ok (.iload_n 1, 1) := by decide +kernel
theorem dX0_action_70 : decode cX0_action 70 = .ok (.iaload, 1) := by decide +kernel
theorem dX0_action_71 : decode cX0_action 71 = .ok (.invokevirtual 107, 3) := by decide +kernel
theorem dX0_action_74 : decode cX0_action 74 = .ok (.ireturn, 1) := by decide +kernel
theorem dX0_action_75 : decode cX0_action 75 = .ok (.bipush (-2), 2) := by decide +kernel
theorem dX0_action_77 : decode cX0_action 77 = .ok (.ireturn, 1) := by decide +kernel
theorem dX0_action_13 : decode cX0_action 13 = .ok (.iconst (-1), 1) := by decide +kernel
theorem dX0_action_14 : decode cX0_action 14 = .ok (.ireturn, 1) := by decide +kernel
theorem dX0_provider_0 : decode cX0_provider 0 = .ok (.aload_n 0, 1) := by decide +kernel
theorem dX0_provider_1 : decode cX0_provider 1 = .ok (.iload_n 1, 1) := by decide +kernel
theorem dX0_provider_2 : decode cX0_provider 2 = .ok (.invokevirtual 79, 3) := by decide +kernel
theorem dX0_provider_5 : decode cX0_provider 5 = .ok (.astore_n 3, 1) := by decide +kernel
theorem dX0_provider_6 : decode cX0_provider 6 = .ok (.aload_n 3, 1) := by decide +kernel
theorem dX0_provider_7 : decode cX0_provider 7 = .ok (.ifnull 20, 3) := by decide +kernel
theorem dX0_provider_27 : decode cX0_provider 27 = .ok (.iconst 0, 1) := by decide +kernel
theorem dX0_provider_28 : decode cX0_provider 28 = .ok (.ireturn, 1) := by decide +kernel
theorem dX0_provider_10 : decode cX0_provider 10 = .ok (.iload_n 2, 1) := by decide +kernel
theorem dX0_provider_11 : decode cX0_provider 11 = .ok (.iconst 2, 1) := by decide +kernel
theorem dX0_provider_12 : decode cX0_provider 12 = .ok (.invokestatic 57, 3) := by decide +kernel
theorem dX0_provider_15 : decode cX0_provider 15 = .ok (.ifCond .eq 12, 3) := by decide +kernel
theorem dX0_provider_18 : decode cX0_provider 18 = .ok (.aload_n 3, 1) := by decide +kernel
theorem dX0_provider_19 : decode cX0_provider 19 = .ok (.getfield 110, 3) := by decide +kernel
theorem dX0_provider_22 : decode cX0_provider 22 = .ok (.iload_n 2, 1) := by decide +kernel
theorem dX0_provider_23 : decode cX0_provider 23 = .ok (.baload, 1) := by decide +kernel
theorem dX0_provider_24 : decode cX0_provider 24 = .ok (.ifCond .ne 5, 3) := by decide +kernel
theorem dX0_provider_29 : decode cX0_provider 29 = .ok (.aload_n 3, 1) := by decide +kernel
theorem dX0_provider_30 : decode cX0_provider 30 = .ok (.getfield 114, 3) := by decide +kernel
theorem dX0_provider_33 : decode cX0_provider 33 = .ok (.iload_n 2, 1) := by decide +kernel
theorem dX0_provider_34 : decode cX0_provider 34 = .ok (.iaload, 1) := by decide +kernel
theorem dX0_provider_35 : decode cX0_provider 35 = .ok (.ireturn, 1) := by decide +kernel
theorem dX0_failed_0 : decode cX0_failed 0 = .ok (.aload_n 0, 1) := by decide +kernel
theorem dX0_failed_1 : decode cX0_failed 1 = .ok (.iload_n 1, 1) := by decide +kernel
theorem dX0_failed_2 : decode cX0_failed 2 = .ok (.invokevirtual 79, 3) := by decide +kernel
theorem dX0_failed_5 : decode cX0_failed 5 = .ok (.astore_n 3, 1) := by decide +kernel
theorem dX0_failed_6 : decode cX0_failed 6 = .ok (.aload_n 3, 1) := by decide +kernel
theorem dX0_failed_7 : decode cX0_failed 7 = .ok (.ifnonnull 5, 3) := by decide +kernel
theorem dX0_failed_10 : decode cX0_failed 10 = .ok (.iconst (-1), 1) := by decide +kernel
theorem dX0_failed_11 : decode cX0_failed 11 = .ok (.ireturn, 1) := by decide +kernel
theorem dX0_failed_12 : decode cX0_failed 12 = .ok (.iload_n 2, 1) := by decide +kernel
theorem dX0_failed_13 : decode cX0_failed 13 = .ok (.iconst 2, 1) := by decide +kernel
theorem dX0_failed_14 : decode cX0_failed 14 = .ok (.invokestatic 57, 3) := by decide +kernel
theorem dX0_failed_17 : decode cX0_failed 17 = .ok (.ifCond .ne 6, 3) := by decide +kernel
theorem dX0_failed_23 : decode cX0_failed 23 = .ok (.aload_n 3, 1) := by decide +kernel
theorem dX0_failed_24 : decode cX0_failed 24 = .ok (.getfield 87, 3) := by decide +kernel
theorem dX0_failed_27 : decode cX0_failed 27 = .ok (.ifCond .ne 6, 3) := by decide +kernel
theorem dX0_failed_33 : decode cX0_failed 33 = .ok (.aload_n 3, 1) := by decide +kernel
theorem dX0_failed_34 : decode cX0_failed 34 = .ok (.getfield 101, 3) := by decide +kernel
theorem dX0_failed_37 : decode cX0_failed 37 = .ok (.ifCond .ne 5, 3) := by decide +kernel
theorem dX0_failed_42 : decode cX0_failed 42 = .ok (.iload_n 2, 1) := by decide +kernel
theorem dX0_failed_43 : decode cX0_failed 43 = .ok (.lookupswitch 35 #[(0, 25), (1, 30)], 25) := by decide +kernel
theorem dX0_failed_68 : decode cX0_failed 68 = .ok (.aload_n 3, 1) := by decide +kernel
theorem dX0_failed_69 : decode cX0_failed 69 = .ok (.getfield 101, 3) := by decide +kernel
theorem dX0_failed_72 : decode cX0_failed 72 = .ok (.ireturn, 1) := by decide +kernel
theorem dX0_failed_73 : decode cX0_failed 73 = .ok (.aload_n 3, 1) := by decide +kernel
theorem dX0_failed_74 : decode cX0_failed 74 = .ok (.getfield 117, 3) := by decide +kernel
theorem dX0_failed_77 : decode cX0_failed 77 = .ok (.ireturn, 1) := by decide +kernel
theorem dX0_failed_78 : decode cX0_failed 78 = .ok (.aload_n 3, 1) := by decide +kernel
theorem dX0_failed_79 : decode cX0_failed 79 = .ok (.getfield 120, 3) := by decide +kernel
theorem dX0_failed_82 : decode cX0_failed 82 = .ok (.iconst 1, 1) := by decide +kernel
theorem dX0_failed_83 : decode cX0_failed 83 = .ok (.iadd, 1) := by decide +kernel
theorem dX0_failed_84 : decode cX0_failed 84 = .ok (.ireturn, 1) := by decide +kernel
theorem dX0_failed_40 : decode cX0_failed 40 = .ok (.iconst 0, 1) := by decide +kernel
theorem dX0_failed_41 : decode cX0_failed 41 = .ok (.ireturn, 1) := by decide +kernel
theorem dX0_failed_30 : decode cX0_failed 30 = .ok (.bipush (-3), 2) := by decide +kernel
theorem dX0_failed_32 : decode cX0_failed 32 = .ok (.ireturn, 1) := by decide +kernel
theorem dX0_failed_20 : decode cX0_failed 20 = .ok (.bipush (-2), 2) := by decide +kernel
theorem dX0_failed_22 : decode cX0_failed 22 = .ok (.ireturn, 1) := by decide +kernel
theorem dX0_cell_0 : decode cX0_cell 0 = .ok (.aload_n 0, 1) := by decide +kernel
theorem dX0_cell_1 : decode cX0_cell 1 = .ok (.iload_n 1, 1) := by decide +kernel
theorem dX0_cell_2 : decode cX0_cell 2 = .ok (.invokevirtual 68, 3) := by decide +kernel
theorem dX0_cell_5 : decode cX0_cell 5 = .ok (.astore_n 2, 1) := by decide +kernel
theorem dX0_cell_6 : decode cX0_cell 6 = .ok (.aload_n 2, 1) := by decide +kernel
theorem dX0_cell_7 : decode cX0_cell 7 = .ok (.ifnull 10, 3) := by decide +kernel
theorem dX0_cell_17 : decode cX0_cell 17 = .ok (.ldc2_w 126, 3) := by decide +kernel
theorem dX0_cell_20 : decode cX0_cell 20 = .ok (.lreturn, 1) := by decide +kernel
theorem dX0_cell_10 : decode cX0_cell 10 = .ok (.aload_n 2, 1) := by decide +kernel
theorem dX0_cell_11 : decode cX0_cell 11 = .ok (.getfield 123, 3) := by decide +kernel
theorem dX0_cell_14 : decode cX0_cell 14 = .ok (.ifCond .ne 7, 3) := by decide +kernel
theorem dX0_cell_21 : decode cX0_cell 21 = .ok (.aload_n 2, 1) := by decide +kernel
theorem dX0_cell_22 : decode cX0_cell 22 = .ok (.getfield 128, 3) := by decide +kernel
theorem dX0_cell_25 : decode cX0_cell 25 = .ok (.lreturn, 1) := by decide +kernel
theorem dX0_same_0 : decode cX0_same 0 = .ok (.aload_n 0, 1) := by decide +kernel
theorem dX0_same_1 : decode cX0_same 1 = .ok (.iload_n 1, 1) := by decide +kernel
theorem dX0_same_2 : decode cX0_same 2 = .ok (.invokevirtual 68, 3) := by decide +kernel
theorem dX0_same_5 : decode cX0_same 5 = .ok (.astore_n 3, 1) := by decide +kernel
theorem dX0_same_6 : decode cX0_same 6 = .ok (.aload_n 0, 1) := by decide +kernel
theorem dX0_same_7 : decode cX0_same 7 = .ok (.iload_n 2, 1) := by decide +kernel
theorem dX0_same_8 : decode cX0_same 8 = .ok (.invokevirtual 68, 3) := by decide +kernel
theorem dX0_same_11 : decode cX0_same 11 = .ok (.astore 4, 2) := by decide +kernel
theorem dX0_same_13 : decode cX0_same 13 = .ok (.aload_n 3, 1) := by decide +kernel
theorem dX0_same_14 : decode cX0_same 14 = .ok (.ifnull 29, 3) := by decide +kernel
theorem dX0_same_43 : decode cX0_same 43 = .ok (.iconst 0, 1) := by decide +kernel
theorem dX0_same_44 : decode cX0_same 44 = .ok (.ireturn, 1) := by decide +kernel
theorem dX0_same_17 : decode cX0_same 17 = .ok (.aload 4, 2) := by decide +kernel
theorem dX0_same_19 : decode cX0_same 19 = .ok (.ifnull 24, 3) := by decide +kernel
theorem dX0_same_22 : decode cX0_same 22 = .ok (.aload_n 3, 1) := by decide +kernel
theorem dX0_same_23 : decode cX0_same 23 = .ok (.aload 4, 2) := by decide +kernel
theorem dX0_same_25 : decode cX0_same 25 = .ok (.getfield 132, 3) := by decide +kernel
theorem dX0_same_28 : decode cX0_same 28 = .ok (.aload 4, 2) := by decide +kernel
theorem dX0_same_30 : decode cX0_same 30 = .ok (.getfield 135, 3) := by decide +kernel
theorem dX0_same_33 : decode cX0_same 33 = .ok (.invokevirtual 138, 3) := by decide +kernel
theorem dX0_same_36 : decode cX0_same 36 = .ok (.ifCond .eq 7, 3) := by decide +kernel
theorem dX0_same_39 : decode cX0_same 39 = .ok (.iconst 1, 1) := by decide +kernel
theorem dX0_same_40 : decode cX0_same 40 = .ok (.goto 4, 3) := by decide +kernel
theorem dX3_init_0 : decode cX3_init 0 = .ok (.aload_n 0, 1) := by decide +kernel
theorem dX3_init_1 : decode cX3_init 1 = .ok (.invokespecial 1, 3) := by decide +kernel
theorem dX3_init_4 : decode cX3_init 4 = .ok (.aload_n 0, 1) := by decide +kernel
theorem dX3_init_5 : decode cX3_init 5 = .ok (.bipush 16, 2) := by decide +kernel
theorem dX3_init_7 : decode cX3_init 7 = .ok (.newarray .int, 2) := by decide +kernel
theorem dX3_init_9 : decode cX3_init 9 = .ok (.putfield 7, 3) := by decide +kernel
theorem dX3_init_12 : decode cX3_init 12 = .ok (.aload_n 0, 1) := by decide +kernel
theorem dX3_init_13 : decode cX3_init 13 = .ok (.bipush 16, 2) := by decide +kernel
theorem dX3_init_15 : decode cX3_init 15 = .ok (.newarray .int, 2) := by decide +kernel
theorem dX3_init_17 : decode cX3_init 17 = .ok (.putfield 13, 3) := by decide +kernel
theorem dX3_init_20 : decode cX3_init 20 = .ok (.aload_n 0, 1) := by decide +kernel
theorem dX3_init_21 : decode cX3_init 21 = .ok (.bipush 16, 2) := by decide +kernel
theorem dX3_init_23 : decode cX3_init 23 = .ok (.newarray .int, 2) := by decide +kernel
theorem dX3_init_25 : decode cX3_init 25 = .ok (.putfield 16, 3) := by decide +kernel
theorem dX3_init_28 : decode cX3_init 28 = .ok (.aload_n 0, 1) := by decide +kernel
theorem dX3_init_29 : decode cX3_init 29 = .ok (.bipush 16, 2) := by decide +kernel
theorem dX3_init_31 : decode cX3_init 31 = .ok (.newarray .boolean, 2) := by decide +kernel
theorem dX3_init_33 : decode cX3_init 33 = .ok (.putfield 19, 3) := by decide +kernel
theorem dX3_init_36 : decode cX3_init 36 = .ok (.aload_n 0, 1) := by decide +kernel
theorem dX3_init_37 : decode cX3_init 37 = .ok (.bipush 16, 2) := by decide +kernel
theorem dX3_init_39 : decode cX3_init 39 = .ok (.newarray .long, 2) := by decide +kernel
theorem dX3_init_41 : decode cX3_init 41 = .ok (.putfield 23, 3) := by decide +kernel
theorem dX3_init_44 : decode cX3_init 44 = .ok (.aload_n 0, 1) := by decide +kernel
theorem dX3_init_45 : decode cX3_init 45 = .ok (.bipush 40, 2) := by decide +kernel
theorem dX3_init_47 : decode cX3_init 47 = .ok (.newarray .int, 2) := by decide +kernel
theorem dX3_init_49 : decode cX3_init 49 = .ok (.putfield 27, 3) := by decide +kernel
theorem dX3_init_52 : decode cX3_init 52 = .ok (.aload_n 0, 1) := by decide +kernel
theorem dX3_init_53 : decode cX3_init 53 = .ok (.sipush 160, 3) := by decide +kernel
theorem dX3_init_56 : decode cX3_init 56 = .ok (.newarray .int, 2) := by decide +kernel
theorem dX3_init_58 : decode cX3_init 58 = .ok (.putfield 30, 3) := by decide +kernel
theorem dX3_init_61 : decode cX3_init 61 = .ok (.aload_n 0, 1) := by decide +kernel
theorem dX3_init_62 : decode cX3_init 62 = .ok (.bipush 40, 2) := by decide +kernel
theorem dX3_init_64 : decode cX3_init 64 = .ok (.newarray .int, 2) := by decide +kernel
theorem dX3_init_66 : decode cX3_init 66 = .ok (.putfield 33, 3) := by decide +kernel
theorem dX3_init_69 : decode cX3_init 69 = .ok (.aload_n 0, 1) := by decide +kernel
theorem dX3_init_70 : decode cX3_init 70 = .ok (.bipush 40, 2) := by decide +kernel
theorem dX3_init_72 : decode cX3_init 72 = .ok (.newarray .int, 2) := by decide +kernel
theorem dX3_init_74 : decode cX3_init 74 = .ok (.putfield 36, 3) := by decide +kernel
theorem dX3_init_77 : decode cX3_init 77 = .ok (.aload_n 0, 1) := by decide +kernel
theorem dX3_init_78 : decode cX3_init 78 = .ok (.bipush 40, 2) := by decide +kernel
theorem dX3_init_80 : decode cX3_init 80 = .ok (.newarray .int, 2) := by decide +kernel
theorem dX3_init_82 : decode cX3_init 82 = .ok (.putfield 39, 3) := by decide +kernel
theorem dX3_init_85 : decode cX3_init 85 = .ok (.aload_n 0, 1) := by decide +kernel
theorem dX3_init_86 : decode cX3_init 86 = .ok (.bipush 40, 2) := by decide +kernel
theorem dX3_init_88 : decode cX3_init 88 = .ok (.newarray .int, 2) := by decide +kernel
theorem dX3_init_90 : decode cX3_init 90 = .ok (.putfield 42, 3) := by decide +kernel
theorem dX3_init_93 : decode cX3_init 93 = .ok (.aload_n 0, 1) := by decide +kernel
theorem dX3_init_94 : decode cX3_init 94 = .ok (.bipush 40, 2) := by decide +kernel
theorem dX3_init_96 : decode cX3_init 96 = .ok (.newarray .int, 2) := by decide +kernel
theorem dX3_init_98 : decode cX3_init 98 = .ok (.putfield 45, 3) := by decide +kernel
theorem dX3_init_101 : decode cX3_init 101 = .ok (.aload_n 0, 1) := by decide +kernel
theorem dX3_init_102 : decode cX3_init 102 = .ok (.bipush 40, 2) := by decide +kernel
theorem dX3_init_104 : decode cX3_init 104 = .ok (.newarray .int, 2) := by decide +kernel
theorem dX3_init_106 : decode cX3_init 106 = .ok (.putfield 48, 3) := by decide +kernel
theorem dX3_init_109 : decode cX3_init 109 = .ok (.aload_n 0, 1) := by decide +kernel
theorem dX3_init_110 : decode cX3_init 110 = .ok (.bipush 120, 2) := by decide +kernel
theorem dX3_init_112 : decode cX3_init 112 = .ok (.newarray .int, 2) := by decide +kernel
theorem dX3_init_114 : decode cX3_init 114 = .ok (.putfield 51, 3) := by decide +kernel
theorem dX3_init_117 : decode cX3_init 117 = .ok (.aload_n 0, 1) := by decide +kernel
theorem dX3_init_118 : decode cX3_init 118 = .ok (.bipush 40, 2) := by decide +kernel
theorem dX3_init_120 : decode cX3_init 120 = .ok (.newarray .boolean, 2) := by decide +kernel
theorem dX3_init_122 : decode cX3_init 122 = .ok (.putfield 54, 3) := by decide +kernel
theorem dX3_init_125 : decode cX3_init 125 = .ok (.aload_n 0, 1) := by decide +kernel
theorem dX3_init_126 : decode cX3_init 126 = .ok (.bipush 120, 2) := by decide +kernel
theorem dX3_init_128 : decode cX3_init 128 = .ok (.newarray .boolean, 2) := by decide +kernel
theorem dX3_init_130 : decode cX3_init 130 = .ok (.putfield 57, 3) := by decide +kernel
theorem dX3_init_133 : decode cX3_init 133 = .ok (.aload_n 0, 1) := by decide +kernel
theorem dX3_init_134 : decode cX3_init 134 = .ok (.sipush 400, 3) := by decide +kernel
theorem dX3_init_137 : decode cX3_init 137 = .ok (.newarray .int, 2) := by decide +kernel
theorem dX3_init_139 : decode cX3_init 139 = .ok (.putfield 60, 3) := by decide +kernel
theorem dX3_init_142 : decode cX3_init 142 = .ok (.aload_n 0, 1) := by decide +kernel
theorem dX3_init_143 : decode cX3_init 143 = .ok (.sipush 400, 3) := by decide +kernel
theorem dX3_init_146 : decode cX3_init 146 = .ok (.newarray .int, 2) := by decide +kernel
theorem dX3_init_148 : decode cX3_init 148 = .ok (.putfield 63, 3) := by decide +kernel
theorem dX3_init_151 : decode cX3_init 151 = .ok (.aload_n 0, 1) := by decide +kernel
theorem dX3_init_152 : decode cX3_init 152 = .ok (.iload_n 1, 1) := by decide +kernel
theorem dX3_init_153 : decode cX3_init 153 = .ok (.ifCond .ge 7, 3) := by decide +kernel
theorem dX3_init_160 : decode cX3_init 160 = .ok (.iload_n 1, 1) := by decide +kernel
theorem dX3_init_161 : decode cX3_init 161 = .ok (.ldc 66, 2) := by decide +kernel
theorem dX3_init_163 : decode cX3_init 163 = .ok (.if_icmp .le 8, 3) := by decide +kernel
theorem dX3_init_171 : decode cX3_init 171 = .ok (.iload_n 1, 1) := by decide +kernel
theorem dX3_init_172 : decode cX3_init 172 = .ok (.putfield 67, 3) := by decide +kernel
theorem dX3_init_175 : decode cX3_init 175 = .ok (.return_, 1) := by decide +kernel
theorem dX3_init_166 : decode cX3_init 166 = .ok (.ldc 66, 2) := by decide +kernel
theorem dX3_init_168 : decode cX3_init 168 = .ok (.goto 4, 3) := by decide +kernel
theorem dX3_init_156 : decode cX3_init 156 = .ok (.iconst 0, 1) := by decide +kernel
theorem dX3_init_157 : decode cX3_init 157 = .ok (.goto 15, 3) := by decide +kernel
theorem dX3_thrown_0 : decode cX3_thrown 0 = .ok (.aload_n 0, 1) := by decide +kernel
theorem dX3_thrown_1 : decode cX3_thrown 1 = .ok (.getfield 71, 3) := by decide +kernel
theorem dX3_thrown_4 : decode cX3_thrown 4 = .ok (.ireturn, 1) := by decide +kernel
theorem dX3_isRule_0 : decode cX3_isRule 0 = .ok (.iload_n 1, 1) := by decide +kernel
theorem dX3_isRule_1 : decode cX3_isRule 1 = .ok (.ifCond .lt 15, 3) := by decide +kernel
theorem dX3_isRule_16 : decode cX3_isRule 16 = .ok (.iconst 0, 1) := by decide +kernel
theorem dX3_isRule_17 : decode cX3_isRule 17 = .ok (.ireturn, 1) := by decide +kernel
theorem dX3_isRule_4 : decode cX3_isRule 4 = .ok (.iload_n 1, 1) := by decide +kernel
theorem dX3_isRule_5 : decode cX3_isRule 5 = .ok (.aload_n 0, 1) := by decide +kernel
theorem dX3_isRule_6 : decode cX3_isRule 6 = .ok (.getfield 74, 3) := by decide +kernel
theorem dX3_isRule_9 : decode cX3_isRule 9 = .ok (.if_icmp .ge 7, 3) := by decide +kernel
theorem dX3_isRule_12 : decode cX3_isRule 12 = .ok (.iconst 1, 1) := by decide +kernel
theorem dX3_isRule_13 : decode cX3_isRule 13 = .ok (.goto 4, 3) := by decide +kernel
theorem dX3_isTarget_0 : decode cX3_isTarget 0 = .ok (.iload_n 1, 1) := by decide +kernel
theorem dX3_isTarget_1 : decode cX3_isTarget 1 = .ok (.ifCond .lt 15, 3) := by decide +kernel
theorem dX3_isTarget_16 : decode cX3_isTarget 16 = .ok (.iconst 0, 1) := by decide +kernel
theorem dX3_isTarget_17 : decode cX3_isTarget 17 = .ok (.ireturn, 1) := by decide +kernel
theorem dX3_isTarget_4 : decode cX3_isTarget 4 = .ok (.iload_n 1, 1) := by decide +kernel
theorem dX3_isTarget_5 : decode cX3_isTarget 5 = .ok (.aload_n 0, 1) := by decide +kernel
theorem dX3_isTarget_6 : decode cX3_isTarget 6 = .ok (.getfield 77, 3) := by decide +kernel
theorem dX3_isTarget_9 : decode cX3_isTarget 9 = .ok (.if_icmp .ge 7, 3) := by decide +kernel
theorem dX3_isTarget_12 : decode cX3_isTarget 12 = .ok (.iconst 1, 1) := by decide +kernel
theorem dX3_isTarget_13 : decode cX3_isTarget 13 = .ok (.goto 4, 3) := by decide +kernel
theorem dX3_rule_0 : decode cX3_rule 0 = .ok (.aload_n 0, 1) := by decide +kernel
theorem dX3_rule_1 : decode cX3_rule 1 = .ok (.iconst 0, 1) := by decide +kernel
theorem dX3_rule_2 : decode cX3_rule 2 = .ok (.putfield 71, 3) := by decide +kernel
theorem dX3_rule_5 : decode cX3_rule 5 = .ok (.iload_n 1, 1) := by decide +kernel
theorem dX3_rule_6 : decode cX3_rule 6 = .ok (.ifCond .lt 19, 3) := by decide +kernel
theorem dX3_rule_25 : decode cX3_rule 25 = .ok (.bipush (-2), 2) := by decide +kernel
theorem dX3_rule_27 : decode cX3_rule 27 = .ok (.ireturn, 1) := by decide +kernel
theorem dX3_rule_9 : decode cX3_rule 9 = .ok (.iload_n 1, 1) := by decide +kernel
theorem dX3_rule_10 : decode cX3_rule 10 = .ok (.iconst 3, 1) := by decide +kernel
theorem dX3_rule_11 : decode cX3_rule 11 = .ok (.if_icmp .gt 14, 3) := by decide +kernel
theorem dX3_rule_14 : decode cX3_rule 14 = .ok (.iload_n 2, 1) := by decide +kernel
theorem dX3_rule_15 : decode cX3_rule 15 = .ok (.ifCond .lt 10, 3) := by decide +kernel
theorem dX3_rule_18 : decode cX3_rule 18 = .ok (.iload_n 2, 1) := by decide +kernel
theorem dX3_rule_19 : decode cX3_rule 19 = .ok (.sipush 255, 3) := by decide +kernel
theorem dX3_rule_22 : decode cX3_rule 22 = .ok (.if_icmp .le 6, 3) := by decide +kernel
theorem dX3_rule_28 : decode cX3_rule 28 = .ok (.aload_n 0, 1) := by decide +kernel
theorem dX3_rule_29 : decode cX3_rule 29 = .ok (.getfield 74, 3) := by decide +kernel
theorem dX3_rule_32 : decode cX3_rule 32 = .ok (.bipush 16, 2) := by decide +kernel
theorem dX3_rule_34 : decode cX3_rule 34 = .ok (.if_icmp .ne 6, 3) := by decide +kernel
theorem dX3_rule_40 : decode cX3_rule 40 = .ok (.aload_n 0, 1) := by decide +kernel
theorem dX3_rule_41 : decode cX3_rule 41 = .ok (.getfield 7, 3) := by decide +kernel
theorem dX3_rule_44 : decode cX3_rule 44 = .ok (.aload_n 0, 1) := by decide +kernel
theorem dX3_rule_45 : decode cX3_rule 45 = .ok (.getfield 74, 3) := by decide +kernel
theorem dX3_rule_48 : decode cX3_rule 48 = .ok (.iload_n 1, 1) := by decide +kernel
theorem dX3_rule_49 : decode cX3_rule 49 = .ok (.iastore, 1) := by decide +kernel
theorem dX3_rule_50 : decode cX3_rule 50 = .ok (.aload_n 0, 1) := by decide +kernel
theorem dX3_rule_51 : decode cX3_rule 51 = .ok (.getfield 13, 3) := by decide +kernel
theorem dX3_rule_54 : decode cX3_rule 54 = .ok (.aload_n 0, 1) := by decide +kernel
theorem dX3_rule_55 : decode cX3_rule 55 = .ok (.getfield 74, 3) := by decide +kernel
theorem dX3_rule_58 : decode cX3_rule 58 = .ok (.iload_n 2, 1) := by decide +kernel
theorem dX3_rule_59 : decode cX3_rule 59 = .ok (.iastore, 1) := by decide +kernel
theorem dX3_rule_60 : decode cX3_rule 60 = .ok (.aload_n 0, 1) := by decide +kernel
theorem dX3_rule_61 : decode cX3_rule 61 = .ok (.getfield 19, 3) := by decide +kernel
theorem dX3_rule_64 : decode cX3_rule 64 = .ok (.aload_n 0, 1) := by decide +kernel
theorem dX3_rule_65 : decode cX3_rule 65 = .ok (.getfield 74, 3) := by decide +kernel
theorem dX3_rule_68 : decode cX3_rule 68 = .ok (.iload_n 3, 1) := by decide +kernel
theorem dX3_rule_69 : decode cX3_rule 69 = .ok (.bastore, 1) := by decide +kernel
theorem dX3_rule_70 : decode cX3_rule 70 = .ok (.aload_n 0, 1) := by decide +kernel

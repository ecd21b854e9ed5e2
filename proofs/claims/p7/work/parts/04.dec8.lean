theorem dX0_forget_0 : decode cX0_forget 0 = .ok (.aload_n 0, 1) := by decide +kernel
theorem dX0_forget_1 : decode cX0_forget 1 = .ok (.dup, 1) := by decide +kernel
theorem dX0_forget_2 : decode cX0_forget 2 = .ok (.getfield 25, 3) := by decide +kernel
theorem dX0_forget_5 : decode cX0_forget 5 = .ok (.iconst 1, 1) := by decide +kernel
theorem dX0_forget_6 : decode cX0_forget 6 = .ok (.iadd, 1) := by decide +kernel
theorem dX0_forget_7 : decode cX0_forget 7 = .ok (.putfield 25, 3) := by decide +kernel
theorem dX0_forget_10 : decode cX0_forget 10 = .ok (.return_, 1) := by decide +kernel
theorem dX0_prepare_0 : decode cX0_prepare 0 = .ok (.aload_n 0, 1) := by decide +kernel
theorem dX0_prepare_1 : decode cX0_prepare 1 = .ok (.iload_n 2, 1) := by decide +kernel
theorem dX0_prepare_2 : decode cX0_prepare 2 = .ok (.invokevirtual 28, 3) := by decide +kernel
theorem dX0_prepare_5 : decode cX0_prepare 5 = .ok (.aload_n 0, 1) := by decide +kernel
theorem dX0_prepare_6 : decode cX0_prepare 6 = .ok (.iconst 0, 1) := by decide +kernel
theorem dX0_prepare_7 : decode cX0_prepare 7 = .ok (.putfield 15, 3) := by decide +kernel
theorem dX0_prepare_10 : decode cX0_prepare 10 = .ok (.iconst 1, 1) := by decide +kernel
theorem dX0_prepare_11 : decode cX0_prepare 11 = .ok (.iload_n 2, 1) := by decide +kernel
theorem dX0_prepare_12 : decode cX0_prepare 12 = .ok (.invokestatic 32, 3) := by decide +kernel
theorem dX0_prepare_15 : decode cX0_prepare 15 = .ok (.iconst 0, 1) := by decide +kernel
theorem dX0_prepare_16 : decode cX0_prepare 16 = .ok (.invokestatic 36, 3) := by decide +kernel
theorem dX0_prepare_19 : decode cX0_prepare 19 = .ok (.ishl, 1) := by decide +kernel
theorem dX0_prepare_20 : decode cX0_prepare 20 = .ok (.istore_n 3, 1) := by decide +kernel
theorem dX0_prepare_21 : decode cX0_prepare 21 = .ok (.iconst 0, 1) := by decide +kernel
theorem dX0_prepare_22 : decode cX0_prepare 22 = .ok (.istore 4, 2) := by decide +kernel
theorem dX0_prepare_24 : decode cX0_prepare 24 = .ok (.iload 4, 2) := by decide +kernel
theorem dX0_prepare_26 : decode cX0_prepare 26 = .ok (.iconst 4, 1) := by decide +kernel
theorem dX0_prepare_27 : decode cX0_prepare 27 = .ok (.if_icmp .ge 68, 3) := by decide +kernel
theorem dX0_prepare_30 : decode cX0_prepare 30 = .ok (.iload 4, 2) := by decide +kernel
theorem dX0_prepare_32 : decode cX0_prepare 32 = .ok (.aload_n 1, 1) := by decide +kernel
theorem dX0_prepare_33 : decode cX0_prepare 33 = .ok (.arraylength, 1) := by decide +kernel
theorem dX0_prepare_34 : decode cX0_prepare 34 = .ok (.if_icmp .ge 61, 3) := by decide +kernel
theorem dX0_prepare_37 : decode cX0_prepare 37 = .ok (.iconst 0, 1) := by decide +kernel
theorem dX0_prepare_38 : decode cX0_prepare 38 = .ok (.istore 5, 2) := by decide +kernel
theorem dX0_prepare_40 : decode cX0_prepare 40 = .ok (.iload 5, 2) := by decide +kernel
theorem dX0_prepare_42 : decode cX0_prepare 42 = .ok (.bipush 32, 2) := by decide +kernel
theorem dX0_prepare_44 : decode cX0_prepare 44 = .ok (.if_icmp .ge 45, 3) := by decide +kernel
theorem dX0_prepare_47 : decode cX0_prepare 47 = .ok (.aload_n 1, 1) := by decide +kernel
theorem dX0_prepare_48 : decode cX0_prepare 48 = .ok (.iload 4, 2) := by decide +kernel
theorem dX0_prepare_50 : decode cX0_prepare 50 = .ok (.aaload, 1) := by decide +kernel
theorem dX0_prepare_51 : decode cX0_prepare 51 = .ok (.iload 5, 2) := by decide +kernel
theorem dX0_prepare_53 : decode cX0_prepare 53 = .ok (.invokevirtual 42, 3) := by decide +kernel
theorem dX0_prepare_56 : decode cX0_prepare 56 = .ok (.iload_n 2, 1) := by decide +kernel
theorem dX0_prepare_57 : decode cX0_prepare 57 = .ok (.iand, 1) := by decide +kernel
theorem dX0_prepare_58 : decode cX0_prepare 58 = .ok (.istore 6, 2) := by decide +kernel
theorem dX0_prepare_60 : decode cX0_prepare 60 = .ok (.aload_n 0, 1) := by decide +kernel
theorem dX0_prepare_61 : decode cX0_prepare 61 = .ok (.iload 6, 2) := by decide +kernel
theorem dX0_prepare_63 : decode cX0_prepare 63 = .ok (.iload_n 3, 1) := by decide +kernel
theorem dX0_prepare_64 : decode cX0_prepare 64 = .ok (.iand, 1) := by decide +kernel
theorem dX0_prepare_65 : decode cX0_prepare 65 = .ok (.ifCond .ne 12, 3) := by decide +kernel
theorem dX0_prepare_68 : decode cX0_prepare 68 = .ok (.iload_n 2, 1) := by decide +kernel
theorem dX0_prepare_69 : decode cX0_prepare 69 = .ok (.iload 6, 2) := by decide +kernel
theorem dX0_prepare_71 : decode cX0_prepare 71 = .ok (.iconst (-1), 1) := by decide +kernel
theorem dX0_prepare_72 : decode cX0_prepare 72 = .ok (.ixor, 1) := by decide +kernel
theorem dX0_prepare_73 : decode cX0_prepare 73 = .ok (.iand, 1) := by decide +kernel
theorem dX0_prepare_74 : decode cX0_prepare 74 = .ok (.goto 5, 3) := by decide +kernel
theorem dX0_prepare_77 : decode cX0_prepare 77 = .ok (.iload 6, 2) := by decide +kernel
theorem dX0_prepare_79 : decode cX0_prepare 79 = .ok (.iload_n 2, 1) := by decide +kernel
theorem dX0_prepare_80 : decode cX0_prepare 80 = .ok (.invokevirtual 47, 3) := by decide +kernel
theorem dX0_prepare_83 : decode cX0_prepare 83 = .ok (.iinc 5 1, 3) := by decide +kernel
theorem dX0_prepare_86 : decode cX0_prepare 86 = .ok (.goto (-46), 3) := by decide +kernel
theorem dX0_prepare_89 : decode cX0_prepare 89 = .ok (.iinc 4 1, 3) := by decide +kernel
theorem dX0_prepare_92 : decode cX0_prepare 92 = .ok (.goto (-68), 3) := by decide +kernel
theorem dX0_prepare_95 : decode cX0_prepare 95 = .ok (.return_, 1) := by decide +kernel
theorem dX0_makeRoom_0 : decode cX0_makeRoom 0 = .ok (.aload_n 0, 1) := by decide +kernel
theorem dX0_makeRoom_1 : decode cX0_makeRoom 1 = .ok (.getfield 22, 3) := by decide +kernel
theorem dX0_makeRoom_4 : decode cX0_makeRoom 4 = .ok (.arraylength, 1) := by decide +kernel
theorem dX0_makeRoom_5 : decode cX0_makeRoom 5 = .ok (.istore_n 2, 1) := by decide +kernel
theorem dX0_makeRoom_6 : decode cX0_makeRoom 6 = .ok (.iconst 0, 1) := by decide +kernel
theorem dX0_makeRoom_7 : decode cX0_makeRoom 7 = .ok (.istore_n 3, 1) := by decide +kernel
theorem dX0_makeRoom_8 : decode cX0_makeRoom 8 = .ok (.iload_n 3, 1) := by decide +kernel
theorem dX0_makeRoom_9 : decode cX0_makeRoom 9 = .ok (.bipush 16, 2) := by decide +kernel
theorem dX0_makeRoom_11 : decode cX0_makeRoom 11 = .ok (.if_icmp .ge 18, 3) := by decide +kernel
theorem dX0_makeRoom_14 : decode cX0_makeRoom 14 = .ok (.iload_n 2, 1) := by decide +kernel
theorem dX0_makeRoom_15 : decode cX0_makeRoom 15 = .ok (.iload_n 1, 1) := by decide +kernel
theorem dX0_makeRoom_16 : decode cX0_makeRoom 16 = .ok (.if_icmp .gt 13, 3) := by decide +kernel
theorem dX0_makeRoom_19 : decode cX0_makeRoom 19 = .ok (.iconst 2, 1) := by decide +kernel
theorem dX0_makeRoom_20 : decode cX0_makeRoom 20 = .ok (.iload_n 2, 1) := by decide +kernel
theorem dX0_makeRoom_21 : decode cX0_makeRoom 21 = .ok (.imul, 1) := by decide +kernel
theorem dX0_makeRoom_22 : decode cX0_makeRoom 22 = .ok (.istore_n 2, 1) := by decide +kernel
theorem dX0_makeRoom_23 : decode cX0_makeRoom 23 = .ok (.iinc 3 1, 3) := by decide +kernel
theorem dX0_makeRoom_26 : decode cX0_makeRoom 26 = .ok (.goto (-18), 3) := by decide +kernel
theorem dX0_makeRoom_29 : decode cX0_makeRoom 29 = .ok (.iload_n 2, 1) := by decide +kernel
theorem dX0_makeRoom_30 : decode cX0_makeRoom 30 = .ok (.aload_n 0, 1) := by decide +kernel
theorem dX0_makeRoom_31 : decode cX0_makeRoom 31 = .ok (.getfield 22, 3) := by decide +kernel
theorem dX0_makeRoom_34 : decode cX0_makeRoom 34 = .ok (.arraylength, 1) := by decide +kernel
theorem dX0_makeRoom_35 : decode cX0_makeRoom 35 = .ok (.if_icmp .le 10, 3) := by decide +kernel
theorem dX0_makeRoom_38 : decode cX0_makeRoom 38 = .ok (.aload_n 0, 1) := by decide +kernel
theorem dX0_makeRoom_39 : decode cX0_makeRoom 39 = .ok (.iload_n 2, 1) := by decide +kernel
theorem dX0_makeRoom_40 : decode cX0_makeRoom 40 = .ok (.newarray .int, 2) := by decide +kernel
theorem dX0_makeRoom_42 : decode cX0_makeRoom 42 = .ok (.putfield 22, 3) := by decide +kernel
theorem dX0_makeRoom_45 : decode cX0_makeRoom 45 = .ok (.return_, 1) := by decide +kernel
theorem dX0_addSplit_0 : decode cX0_addSplit 0 = .ok (.iload_n 1, 1) := by decide +kernel
theorem dX0_addSplit_1 : decode cX0_addSplit 1 = .ok (.iload_n 2, 1) := by decide +kernel
theorem dX0_addSplit_2 : decode cX0_addSplit 2 = .ok (.if_icmp .ne 7, 3) := by decide +kernel
theorem dX0_addSplit_5 : decode cX0_addSplit 5 = .ok (.iconst 1, 1) := by decide +kernel
theorem dX0_addSplit_6 : decode cX0_addSplit 6 = .ok (.goto 4, 3) := by decide +kernel
theorem dX0_addSplit_9 : decode cX0_addSplit 9 = .ok (.iconst 0, 1) := by decide +kernel
theorem dX0_addSplit_10 : decode cX0_addSplit 10 = .ok (.istore_n 3, 1) := by decide +kernel
theorem dX0_addSplit_11 : decode cX0_addSplit 11 = .ok (.iconst 0, 1) := by decide +kernel
theorem dX0_addSplit_12 : decode cX0_addSplit 12 = .ok (.istore 4, 2) := by decide +kernel
theorem dX0_addSplit_14 : decode cX0_addSplit 14 = .ok (.iload 4, 2) := by decide +kernel
theorem dX0_addSplit_16 : decode cX0_addSplit 16 = .ok (.aload_n 0, 1) := by decide +kernel
theorem dX0_addSplit_17 : decode cX0_addSplit 17 = .ok (.getfield 15, 3) := by decide +kernel
theorem dX0_addSplit_20 : decode cX0_addSplit 20 = .ok (.if_icmp .ge 30, 3) := by decide +kernel
theorem dX0_addSplit_23 : decode cX0_addSplit 23 = .ok (.iload_n 3, 1) := by decide +kernel
theorem dX0_addSplit_24 : decode cX0_addSplit 24 = .ok (.ifCond .ne 26, 3) := by decide +kernel
theorem dX0_addSplit_27 : decode cX0_addSplit 27 = .ok (.aload_n 0, 1) := by decide +kernel
theorem dX0_addSplit_28 : decode cX0_addSplit 28 = .ok (.getfield 9, 3) := by decide +kernel
theorem dX0_addSplit_31 : decode cX0_addSplit 31 = .ok (.iload 4, 2) := by decide +kernel
theorem dX0_addSplit_33 : decode cX0_addSplit 33 = .ok (.iaload, 1) := by decide +kernel
theorem dX0_addSplit_34 : decode cX0_addSplit 34 = .ok (.iload_n 1, 1) := by decide +kernel
theorem dX0_addSplit_35 : decode cX0_addSplit 35 = .ok (.if_icmp .ne 7, 3) := by decide +kernel
theorem dX0_addSplit_38 : decode cX0_addSplit 38 = .ok (.iconst 1, 1) := by decide +kernel
theorem dX0_addSplit_39 : decode cX0_addSplit 39 = .ok (.goto 4, 3) := by decide +kernel
theorem dX0_addSplit_42 : decode cX0_addSplit 42 = .ok (.iconst 0, 1) := by decide +kernel
theorem dX0_addSplit_43 : decode cX0_addSplit 43 = .ok (.istore_n 3, 1) := by decide +kernel
theorem dX0_addSplit_44 : decode cX0_addSplit 44 = .ok (.iinc 4 1, 3) := by decide +kernel
theorem dX0_addSplit_47 : decode cX0_addSplit 47 = .ok (.goto (-33), 3) := by decide +kernel
theorem dX0_addSplit_50 : decode cX0_addSplit 50 = .ok (.iload_n 3, 1) := by decide +kernel
theorem dX0_addSplit_51 : decode cX0_addSplit 51 = .ok (.ifCond .ne 33, 3) := by decide +kernel
theorem dX0_addSplit_54 : decode cX0_addSplit 54 = .ok (.aload_n 0, 1) := by decide +kernel
theorem dX0_addSplit_55 : decode cX0_addSplit 55 = .ok (.getfield 15, 3) := by decide +kernel
theorem dX0_addSplit_58 : decode cX0_addSplit 58 = .ok (.sipush 128, 3) := by decide +kernel
theorem dX0_addSplit_61 : decode cX0_addSplit 61 = .ok (.if_icmp .ge 23, 3) := by decide +kernel
theorem dX0_addSplit_64 : decode cX0_addSplit 64 = .ok (.aload_n 0, 1) := by decide +kernel
theorem dX0_addSplit_65 : decode cX0_addSplit 65 = .ok (.getfield 9, 3) := by decide +kernel
theorem dX0_addSplit_68 : decode cX0_addSplit 68 = .ok (.aload_n 0, 1) := by decide +kernel
theorem dX0_addSplit_69 : decode cX0_addSplit 69 = .ok (.getfield 15, 3) := by decide +kernel
theorem dX0_addSplit_72 : decode cX0_addSplit 72 = .ok (.iload_n 1, 1) := by decide +kernel
theorem dX0_addSplit_73 : decode cX0_addSplit 73 = .ok (.iastore, 1) := by decide +kernel
theorem dX0_addSplit_74 : decode cX0_addSplit 74 = .ok (.aload_n 0, 1) := by decide +kernel
theorem dX0_addSplit_75 : decode cX0_addSplit 75 = .ok (.dup, 1) := by decide +kernel
theorem dX0_addSplit_76 : decode cX0_addSplit 76 = .ok (.getfield 15, 3) := by decide +kernel
theorem dX0_addSplit_79 : decode cX0_addSplit 79 = .ok (.iconst 1, 1) := by decide +kernel
theorem dX0_addSplit_80 : decode cX0_addSplit 80 = .ok (.iadd, 1) := by decide +kernel
theorem dX0_addSplit_81 : decode cX0_addSplit 81 = .ok (.putfield 15, 3) := by decide +kernel
theorem dX0_addSplit_84 : decode cX0_addSplit 84 = .ok (.return_, 1) := by decide +kernel
theorem dX0_fewestFor_0 : decode cX0_fewestFor 0 = .ok (.iconst 0, 1) := by decide +kernel
theorem dX0_fewestFor_1 : decode cX0_fewestFor 1 = .ok (.istore_n 2, 1) := by decide +kernel
theorem dX0_fewestFor_2 : decode cX0_fewestFor 2 = .ok (.iconst 0, 1) := by decide +kernel
theorem dX0_fewestFor_3 : decode cX0_fewestFor 3 = .ok (.istore_n 3, 1) := by decide +kernel
theorem dX0_fewestFor_4 : decode cX0_fewestFor 4 = .ok (.iload_n 3, 1) := by decide +kernel
theorem dX0_fewestFor_5 : decode cX0_fewestFor 5 = .ok (.bipush 16, 2) := by decide +kernel
theorem dX0_fewestFor_7 : decode cX0_fewestFor 7 = .ok (.if_icmp .ge 21, 3) := by decide +kernel
theorem dX0_fewestFor_10 : decode cX0_fewestFor 10 = .ok (.aload_n 0, 1) := by decide +kernel
theorem dX0_fewestFor_11 : decode cX0_fewestFor 11 = .ok (.iload_n 1, 1) := by decide +kernel
theorem dX0_fewestFor_12 : decode cX0_fewestFor 12 = .ok (.iload_n 2, 1) := by decide +kernel
theorem dX0_fewestFor_13 : decode cX0_fewestFor 13 = .ok (.invokevirtual 51, 3) := by decide +kernel
theorem dX0_fewestFor_16 : decode cX0_fewestFor 16 = .ok (.ifCond .ne 12, 3) := by decide +kernel
theorem dX0_fewestFor_19 : decode cX0_fewestFor 19 = .ok (.iinc 2 1, 3) := by decide +kernel
theorem dX0_fewestFor_22 : decode cX0_fewestFor 22 = .ok (.iinc 3 1, 3) := by decide +kernel
theorem dX0_fewestFor_25 : decode cX0_fewestFor 25 = .ok (.goto (-21), 3) := by decide +kernel
theorem dX0_fewestFor_28 : decode cX0_fewestFor 28 = .ok (.iload_n 2, 1) := by decide +kernel
theorem dX0_fewestFor_29 : decode cX0_fewestFor 29 = .ok (.ireturn, 1) := by decide +kernel
theorem dX0_isFirst_0 : decode cX0_isFirst 0 = .ok (.aload_n 0, 1) := by decide +kernel
theorem dX0_isFirst_1 : decode cX0_isFirst 1 = .ok (.iload_n 1, 1) := by decide +kernel
theorem dX0_isFirst_2 : decode cX0_isFirst 2 = .ok (.iload_n 2, 1) := by decide +kernel
theorem dX0_isFirst_3 : decode cX0_isFirst 3 = .ok (.iload_n 3, 1) := by decide +kernel
theorem dX0_isFirst_4 : decode cX0_isFirst 4 = .ok (.invokevirtual 55, 3) := by decide +kernel
theorem dX0_isFirst_7 : decode cX0_isFirst 7 = .ok (.ireturn, 1) := by decide +kernel
theorem dX0_areEnoughBy_0 : decode cX0_areEnoughBy 0 = .ok (.iload_n 1, 1) := by decide +kernel
theorem dX0_areEnoughBy_1 : decode cX0_areEnoughBy 1 = .ok (.iload_n 2, 1) := by decide +kernel
theorem dX0_areEnoughBy_2 : decode cX0_areEnoughBy 2 = .ok (.iand, 1) := by decide +kernel
theorem dX0_areEnoughBy_3 : decode cX0_areEnoughBy 3 = .ok (.istore 4, 2) := by decide +kernel
theorem dX0_areEnoughBy_5 : decode cX0_areEnoughBy 5 = .ok (.iload_n 1, 1) := by decide +kernel
theorem dX0_areEnoughBy_6 : decode cX0_areEnoughBy 6 = .ok (.iload_n 2, 1) := by decide +kernel
theorem dX0_areEnoughBy_7 : decode cX0_areEnoughBy 7 = .ok (.iconst (-1), 1) := by decide +kernel
theorem dX0_areEnoughBy_8 : decode cX0_areEnoughBy 8 = .ok (.ixor, 1) := by decide +kernel
theorem dX0_areEnoughBy_9 : decode cX0_areEnoughBy 9 = .ok (.iand, 1) := by decide +kernel
theorem dX0_areEnoughBy_10 : decode cX0_areEnoughBy 10 = .ok (.istore 5, 2) := by decide +kernel
theorem dX0_areEnoughBy_12 : decode cX0_areEnoughBy 12 = .ok (.iload 4, 2) := by decide +kernel
theorem dX0_areEnoughBy_14 : decode cX0_areEnoughBy 14 = .ok (.ifCond .eq 40, 3) := by decide +kernel
theorem dX0_areEnoughBy_17 : decode cX0_areEnoughBy 17 = .ok (.iload 5, 2) := by decide +kernel
theorem dX0_areEnoughBy_19 : decode cX0_areEnoughBy 19 = .ok (.ifCond .eq 35, 3) := by decide +kernel
theorem dX0_areEnoughBy_22 : decode cX0_areEnoughBy 22 = .ok (.iload_n 3, 1) := by decide +kernel
theorem dX0_areEnoughBy_23 : decode cX0_areEnoughBy 23 = .ok (.ifCond .le 31, 3) := by decide +kernel
theorem dX0_areEnoughBy_26 : decode cX0_areEnoughBy 26 = .ok (.aload_n 0, 1) := by decide +kernel
theorem dX0_areEnoughBy_27 : decode cX0_areEnoughBy 27 = .ok (.iload 4, 2) := by decide +kernel
theorem dX0_areEnoughBy_29 : decode cX0_areEnoughBy 29 = .ok (.iload_n 3, 1) := by decide +kernel
theorem dX0_areEnoughBy_30 : decode cX0_areEnoughBy 30 = .ok (.iconst 1, 1) := by decide +kernel
theorem dX0_areEnoughBy_31 : decode cX0_areEnoughBy 31 = .ok (.isub, 1) := by decide +kernel
theorem dX0_areEnoughBy_32 : decode cX0_areEnoughBy 32 = .ok (.invokevirtual 51, 3) := by decide +kernel
theorem dX0_areEnoughBy_35 : decode cX0_areEnoughBy 35 = .ok (.ifCond .eq 19, 3) := by decide +kernel
theorem dX0_areEnoughBy_38 : decode cX0_areEnoughBy 38 = .ok (.aload_n 0, 1) := by decide +kernel
theorem dX0_areEnoughBy_39 : decode cX0_areEnoughBy 39 = .ok (.iload 5, 2) := by decide +kernel
theorem dX0_areEnoughBy_41 : decode cX0_areEnoughBy 41 = .ok (.iload_n 3, 1) := by decide +kernel
theorem dX0_areEnoughBy_42 : decode cX0_areEnoughBy 42 = .ok (.iconst 1, 1) := by decide +kernel
theorem dX0_areEnoughBy_43 : decode cX0_areEnoughBy 43 = .ok (.isub, 1) := by decide +kernel
theorem dX0_areEnoughBy_44 : decode cX0_areEnoughBy 44 = .ok (.invokevirtual 51, 3) := by decide +kernel
theorem dX0_areEnoughBy_47 : decode cX0_areEnoughBy 47 = .ok (.ifCond .eq 7, 3) := by decide +kernel
theorem dX0_areEnoughBy_50 : decode cX0_areEnoughBy 50 = .ok (.iconst 1, 1) := by decide +kernel
theorem dX0_areEnoughBy_51 : decode cX0_areEnoughBy 51 = .ok (.goto 4, 3) := by decide +kernel
theorem dX0_areEnoughBy_54 : decode cX0_areEnoughBy 54 = .ok (.iconst 0, 1) := by decide +kernel
theorem dX0_areEnoughBy_55 : decode cX0_areEnoughBy 55 = .ok (.ireturn, 1) := by decide +kernel
theorem dX0_areEnough_0 : decode cX0_areEnough 0 = .ok (.iload_n 1, 1) := by decide +kernel
theorem dX0_areEnough_1 : decode cX0_areEnough 1 = .ok (.invokestatic 59, 3) := by decide +kernel
theorem dX0_areEnough_4 : decode cX0_areEnough 4 = .ok (.iconst 1, 1) := by decide +kernel
theorem dX0_areEnough_5 : decode cX0_areEnough 5 = .ok (.if_icmp .gt 5, 3) := by decide +kernel
theorem dX0_areEnough_8 : decode cX0_areEnough 8 = .ok (.iconst 1, 1) := by decide +kernel
theorem dX0_areEnough_9 : decode cX0_areEnough 9 = .ok (.ireturn, 1) := by decide +kernel
theorem dX0_areEnough_10 : decode cX0_areEnough 10 = .ok (.iload_n 2, 1) := by decide +kernel
theorem dX0_areEnough_11 : decode cX0_areEnough 11 = .ok (.ifCond .le 18, 3) := by decide +kernel
theorem dX0_areEnough_14 : decode cX0_areEnough 14 = .ok (.iload_n 1, 1) := by decide +kernel
theorem dX0_areEnough_15 : decode cX0_areEnough 15 = .ok (.iconst 0, 1) := by decide +kernel
theorem dX0_areEnough_16 : decode cX0_areEnough 16 = .ok (.aload_n 0, 1) := by decide +kernel
theorem dX0_areEnough_17 : decode cX0_areEnough 17 = .ok (.getfield 22, 3) := by decide +kernel
theorem dX0_areEnough_20 : decode cX0_areEnough 20 = .ok (.arraylength, 1) := by decide +kernel
theorem dX0_areEnough_21 : decode cX0_areEnough 21 = .ok (.iconst 1, 1) := by decide +kernel
theorem dX0_areEnough_22 : decode cX0_areEnough 22 = .ok (.isub, 1) := by decide +kernel
theorem dX0_areEnough_23 : decode cX0_areEnough 23 = .ok (.invokestatic 64, 3) := by decide +kernel
theorem dX0_areEnough_26 : decode cX0_areEnough 26 = .ok (.ifCond .ne 5, 3) := by decide +kernel
theorem dX0_areEnough_29 : decode cX0_areEnough 29 = .ok (.iconst 0, 1) := by decide +kernel
theorem dX0_areEnough_30 : decode cX0_areEnough 30 = .ok (.ireturn, 1) := by decide +kernel
theorem dX0_areEnough_31 : decode cX0_areEnough 31 = .ok (.aload_n 0, 1) := by decide +kernel
theorem dX0_areEnough_32 : decode cX0_areEnough 32 = .ok (.getfield 22, 3) := by decide +kernel
theorem dX0_areEnough_35 : decode cX0_areEnough 35 = .ok (.iload_n 1, 1) := by decide +kernel
theorem dX0_areEnough_36 : decode cX0_areEnough 36 = .ok (.iaload, 1) := by decide +kernel
theorem dX0_areEnough_37 : decode cX0_areEnough 37 = .ok (.bipush 10, 2) := by decide +kernel
theorem dX0_areEnough_39 : decode cX0_areEnough 39 = .ok (.ishr, 1) := by decide +kernel
theorem dX0_areEnough_40 : decode cX0_areEnough 40 = .ok (.aload_n 0, 1) := by decide +kernel
theorem dX0_areEnough_41 : decode cX0_areEnough 41 = .ok (.getfield 25, 3) := by decide +kernel
theorem dX0_areEnough_44 : decode cX0_areEnough 44 = .ok (.if_icmp .eq 19, 3) := by decide +kernel
theorem dX0_areEnough_47 : decode cX0_areEnough 47 = .ok (.aload_n 0, 1) := by decide +kernel
theorem dX0_areEnough_48 : decode cX0_areEnough 48 = .ok (.iload_n 1, 1) := by decide +kernel
theorem dX0_areEnough_49 : decode cX0_areEnough 49 = .ok (.aload_n 0, 1) := by decide +kernel
theorem dX0_areEnough_50 : decode cX0_areEnough 50 = .ok (.iload_n 1, 1) := by decide +kernel
theorem dX0_areEnough_51 : decode cX0_areEnough 51 = .ok (.invokevirtual 67, 3) := by decide +kernel
theorem dX0_areEnough_54 : decode cX0_areEnough 54 = .ok (.iload_n 1, 1) := by decide +kernel
theorem dX0_areEnough_55 : decode cX0_areEnough 55 = .ok (.invokestatic 59, 3) := by decide +kernel
theorem dX0_areEnough_58 : decode cX0_areEnough 58 = .ok (.iconst 1, 1) := by decide +kernel
theorem dX0_areEnough_59 : decode cX0_areEnough 59 = .ok (.isub, 1) := by decide +kernel
theorem dX0_areEnough_60 : decode cX0_areEnough 60 = .ok (.invokevirtual 70, 3) := by decide +kernel
theorem dX0_areEnough_63 : decode cX0_areEnough 63 = .ok (.aload_n 0, 1) := by decide +kernel
theorem dX0_areEnough_64 : decode cX0_areEnough 64 = .ok (.getfield 22, 3) := by decide +kernel
theorem dX0_areEnough_67 : decode cX0_areEnough 67 = .ok (.iload_n 1, 1) := by decide +kernel
theorem dX0_areEnough_68 : decode cX0_areEnough 68 = .ok (.iaload, 1) := by decide +kernel
theorem dX0_areEnough_69 : decode cX0_areEnough 69 = .ok (.iconst 5, 1) := by decide +kernel
theorem dX0_areEnough_70 : decode cX0_areEnough 70 = .ok (.ishr, 1) := by decide +kernel
theorem dX0_areEnough_71 : decode cX0_areEnough 71 = .ok (.bipush 31, 2) := by decide +kernel
theorem dX0_areEnough_73 : decode cX0_areEnough 73 = .ok (.iand, 1) := by decide +kernel
theorem dX0_areEnough_74 : decode cX0_areEnough 74 = .ok (.istore_n 3, 1) := by decide +kernel
theorem dX0_areEnough_75 : decode cX0_areEnough 75 = .ok (.aload_n 0, 1) := by decide +kernel
theorem dX0_areEnough_76 : decode cX0_areEnough 76 = .ok (.getfield 22, 3) := by decide +kernel
theorem dX0_areEnough_79 : decode cX0_areEnough 79 = .ok (.iload_n 1, 1) := by decide +kernel
theorem dX0_areEnough_80 : decode cX0_areEnough 80 = .ok (.iaload, 1) := by decide +kernel
theorem dX0_areEnough_81 : decode cX0_areEnough 81 = .ok (.bipush 31, 2) := by decide +kernel
theorem dX0_areEnough_83 : decode cX0_areEnough 83 = .ok (.iand, 1) := by decide +kernel
theorem dX0_areEnough_84 : decode cX0_areEnough 84 = .ok (.istore 4, 2) := by decide +kernel
theorem dX0_areEnough_86 : decode cX0_areEnough 86 = .ok (.iload_n 2, 1) := by decide +kernel
theorem dX0_areEnough_87 : decode cX0_areEnough 87 = .ok (.iload_n 3, 1) := by decide +kernel
theorem dX0_areEnough_88 : decode cX0_areEnough 88 = .ok (.if_icmp .lt 9, 3) := by decide +kernel
theorem dX0_areEnough_91 : decode cX0_areEnough 91 = .ok (.iload_n 2, 1) := by decide +kernel
theorem dX0_areEnough_92 : decode cX0_areEnough 92 = .ok (.iload 4, 2) := by decide +kernel
theorem dX0_areEnough_94 : decode cX0_areEnough 94 = .ok (.if_icmp .lt 15, 3) := by decide +kernel
theorem dX0_areEnough_97 : decode cX0_areEnough 97 = .ok (.iload_n 2, 1) := by decide +kernel
theorem dX0_areEnough_98 : decode cX0_areEnough 98 = .ok (.iload 4, 2) := by decide +kernel
theorem dX0_areEnough_100 : decode cX0_areEnough 100 = .ok (.if_icmp .lt 7, 3) := by decide +kernel
theorem dX0_areEnough_103 : decode cX0_areEnough 103 = .ok (.iconst 1, 1) := by decide +kernel
theorem dX0_areEnough_104 : decode cX0_areEnough 104 = .ok (.goto 4, 3) := by decide +kernel
theorem dX0_areEnough_107 : decode cX0_areEnough 107 = .ok (.iconst 0, 1) := by decide +kernel
theorem dX0_areEnough_108 : decode cX0_areEnough 108 = .ok (.ireturn, 1) := by decide +kernel
theorem dX0_areEnough_109 : decode cX0_areEnough 109 = .ok (.iconst 0, 1) := by decide +kernel
theorem dX0_areEnough_110 : decode cX0_areEnough 110 = .ok (.istore 5, 2) := by decide +kernel
theorem dX0_areEnough_112 : decode cX0_areEnough 112 = .ok (.iconst 0, 1) := by decide +kernel
theorem dX0_areEnough_113 : decode cX0_areEnough 113 = .ok (.istore 6, 2) := by decide +kernel
theorem dX0_areEnough_115 : decode cX0_areEnough 115 = .ok (.iload 6, 2) := by decide +kernel
theorem dX0_areEnough_117 : decode cX0_areEnough 117 = .ok (.aload_n 0, 1) := by decide +kernel
theorem dX0_areEnough_118 : decode cX0_areEnough 118 = .ok (.getfield 15, 3) := by decide +kernel
theorem dX0_areEnough_121 : decode cX0_areEnough 121 = .ok (.if_icmp .ge 29, 3) := by decide +kernel
theorem dX0_areEnough_124 : decode cX0_areEnough 124 = .ok (.iload 5, 2) := by decide +kernel
theorem dX0_areEnough_126 : decode cX0_areEnough 126 = .ok (.ifCond .ne 24, 3) := by decide +kernel
theorem dX0_areEnough_129 : decode cX0_areEnough 129 = .ok (.aload_n 0, 1) := by decide +kernel
theorem dX0_areEnough_130 : decode cX0_areEnough 130 = .ok (.iload_n 1, 1) := by decide +kernel
theorem dX0_areEnough_131 : decode cX0_areEnough 131 = .ok (.aload_n 0, 1) := by decide +kernel
theorem dX0_areEnough_132 : decode cX0_areEnough 132 = .ok (.getfield 9, 3) := by decide +kernel
theorem dX0_areEnough_135 : decode cX0_areEnough 135 = .ok (.iload 6, 2) := by decide +kernel
theorem dX0_areEnough_137 : decode cX0_areEnough 137 = .ok (.iaload, 1) := by decide +kernel
theorem dX0_areEnough_138 : decode cX0_areEnough 138 = .ok (.iload_n 2, 1) := by decide +kernel
theorem dX0_areEnough_139 : decode cX0_areEnough 139 = .ok (.invokevirtual 55, 3) := by decide +kernel
theorem dX0_areEnough_142 : decode cX0_areEnough 142 = .ok (.istore 5, 2) := by decide +kernel
theorem dX0_areEnough_144 : decode cX0_areEnough 144 = .ok (.iinc 6 1, 3) := by decide +kernel
theorem dX0_areEnough_147 : decode cX0_areEnough 147 = .ok (.goto (-32), 3) := by decide +kernel
theorem dX0_areEnough_150 : decode cX0_areEnough 150 = .ok (.aload_n 0, 1) := by decide +kernel
theorem dX0_areEnough_151 : decode cX0_areEnough 151 = .ok (.iload_n 1, 1) := by decide +kernel
theorem dX0_areEnough_152 : decode cX0_areEnough 152 = .ok (.iload 5, 2) := by decide +kernel
theorem dX0_areEnough_154 : decode cX0_areEnough 154 = .ok (.ifCond .eq 7, 3) := by decide +kernel
theorem dX0_areEnough_157 : decode cX0_areEnough 157 = .ok (.iload_n 3, 1) := by decide +kernel
theorem dX0_areEnough_158 : decode cX0_areEnough 158 = .ok (.goto 6, 3) := by decide +kernel
theorem dX0_areEnough_161 : decode cX0_areEnough 161 = .ok (.iload_n 2, 1) := by decide +kernel
theorem dX0_areEnough_162 : decode cX0_areEnough 162 = .ok (.iconst 1, 1) := by decide +kernel
theorem dX0_areEnough_163 : decode cX0_areEnough 163 = .ok (.iadd, 1) := by decide +kernel
theorem dX0_areEnough_164 : decode cX0_areEnough 164 = .ok (.iload 5, 2) := by decide +kernel
theorem dX0_areEnough_166 : decode cX0_areEnough 166 = .ok (.ifCond .eq 7, 3) := by decide +kernel
theorem dX0_areEnough_169 : decode cX0_areEnough 169 = .ok (.iload_n 2, 1) := by decide +kernel
theorem dX0_areEnough_170 : decode cX0_areEnough 170 = .ok (.goto 5, 3) := by decide +kernel
theorem dX0_areEnough_173 : decode cX0_areEnough 173 = .ok (.iload 4, 2) := by decide +kernel
theorem dX0_areEnough_175 : decode cX0_areEnough 175 = .ok (.invokevirtual 70, 3) := by decide +kernel
theorem dX0_areEnough_178 : decode cX0_areEnough 178 = .ok (.iload 5, 2) := by decide +kernel
theorem dX0_areEnough_180 : decode cX0_areEnough 180 = .ok (.ireturn, 1) := by decide +kernel
theorem dX0_keep_0 : decode cX0_keep 0 = .ok (.aload_n 0, 1) := by decide +kernel
theorem dX0_keep_1 : decode cX0_keep 1 = .ok (.getfield 22, 3) := by decide +kernel
theorem dX0_keep_4 : decode cX0_keep 4 = .ok (.iload_n 1, 1) := by decide +kernel
theorem dX0_keep_5 : decode cX0_keep 5 = .ok (.aload_n 0, 1) := by decide +kernel
theorem dX0_keep_6 : decode cX0_keep 6 = .ok (.getfield 25, 3) := by decide +kernel
theorem dX0_keep_9 : decode cX0_keep 9 = .ok (.bipush 10, 2) := by decide +kernel
theorem dX0_keep_11 : decode cX0_keep 11 = .ok (.ishl, 1) := by decide +kernel
theorem dX0_keep_12 : decode cX0_keep 12 = .ok (.iload_n 2, 1) := by decide +kernel
theorem dX0_keep_13 : decode cX0_keep 13 = .ok (.iconst 5, 1) := by decide +kernel
theorem dX0_keep_14 : decode cX0_keep 14 = .ok (.ishl, 1) := by decide +kernel
theorem dX0_keep_15 : decode cX0_keep 15 = .ok (.ior, 1) := by decide +kernel
theorem dX0_keep_16 : decode cX0_keep 16 = .ok (.iload_n 3, 1) := by decide +kernel
theorem dX0_keep_17 : decode cX0_keep 17 = .ok (.ior, 1) := by decide +kernel
theorem dX0_keep_18 : decode cX0_keep 18 = .ok (.iastore, 1) := by decide +kernel
theorem dX0_keep_19 : decode cX0_keep 19 = .ok (.return_, 1) := by decide +kernel
theorem dX0_atLeast_0 : decode cX0_atLeast 0 = .ok (.iload_n 1, 1) := by decide +kernel
theorem dX0_atLeast_1 : decode cX0_atLeast 1 = .ok (.invokestatic 59, 3) := by decide +kernel
theorem dX0_atLeast_4 : decode cX0_atLeast 4 = .ok (.istore_n 2, 1) := by decide +kernel
theorem dX0_atLeast_5 : decode cX0_atLeast 5 = .ok (.iconst 0, 1) := by decide +kernel
theorem dX0_atLeast_6 : decode cX0_atLeast 6 = .ok (.istore_n 3, 1) := by decide +kernel
theorem dX0_atLeast_7 : decode cX0_atLeast 7 = .ok (.iload_n 3, 1) := by decide +kernel
theorem dX0_atLeast_8 : decode cX0_atLeast 8 = .ok (.bipush 16, 2) := by decide +kernel
theorem dX0_atLeast_10 : decode cX0_atLeast 10 = .ok (.if_icmp .gt 16, 3) := by decide +kernel
theorem dX0_atLeast_13 : decode cX0_atLeast 13 = .ok (.aload_n 0, 1) := by decide +kernel
theorem dX0_atLeast_14 : decode cX0_atLeast 14 = .ok (.getfield 19, 3) := by decide +kernel
theorem dX0_atLeast_17 : decode cX0_atLeast 17 = .ok (.iload_n 3, 1) := by decide +kernel
theorem dX0_atLeast_18 : decode cX0_atLeast 18 = .ok (.iconst 0, 1) := by decide +kernel
theorem dX0_atLeast_19 : decode cX0_atLeast 19 = .ok (.iastore, 1) := by decide +kernel
theorem dX0_atLeast_20 : decode cX0_atLeast 20 = .ok (.iinc 3 1, 3) := by decide +kernel
theorem dX0_atLeast_23 : decode cX0_atLeast 23 = .ok (.goto (-16), 3) := by decide +kernel
theorem dX0_atLeast_26 : decode cX0_atLeast 26 = .ok (.iconst 0, 1) := by decide +kernel
theorem dX0_atLeast_27 : decode cX0_atLeast 27 = .ok (.istore_n 3, 1) := by decide +kernel
theorem dX0_atLeast_28 : decode cX0_atLeast 28 = .ok (.iload_n 3, 1) := by decide +kernel
theorem dX0_atLeast_29 : decode cX0_atLeast 29 = .ok (.aload_n 0, 1) := by decide +kernel
theorem dX0_atLeast_30 : decode cX0_atLeast 30 = .ok (.getfield 15, 3) := by decide +kernel
theorem dX0_atLeast_33 : decode cX0_atLeast 33 = .ok (.if_icmp .ge 40, 3) := by decide +kernel
theorem dX0_atLeast_36 : decode cX0_atLeast 36 = .ok (.iload_n 1, 1) := by decide +kernel
theorem dX0_atLeast_37 : decode cX0_atLeast 37 = .ok (.aload_n 0, 1) := by decide +kernel
theorem dX0_atLeast_38 : decode cX0_atLeast 38 = .ok (.getfield 9, 3) := by decide +kernel
theorem dX0_atLeast_41 : decode cX0_atLeast 41 = .ok (.iload_n 3, 1) := by decide +kernel
theorem dX0_atLeast_42 : decode cX0_atLeast 42 = .ok (.iaload, 1) := by decide +kernel
theorem dX0_atLeast_43 : decode cX0_atLeast 43 = .ok (.iand, 1) := by decide +kernel
theorem dX0_atLeast_44 : decode cX0_atLeast 44 = .ok (.invokestatic 59, 3) := by decide +kernel
theorem dX0_atLeast_47 : decode cX0_atLeast 47 = .ok (.istore 4, 2) := by decide +kernel
theorem dX0_atLeast_49 : decode cX0_atLeast 49 = .ok (.aload_n 0, 1) := by decide +kernel
theorem dX0_atLeast_50 : decode cX0_atLeast 50 = .ok (.getfield 19, 3) := by decide +kernel
theorem dX0_atLeast_53 : decode cX0_atLeast 53 = .ok (.iload 4, 2) := by decide +kernel
theorem dX0_atLeast_55 : decode cX0_atLeast 55 = .ok (.iload_n 2, 1) := by decide +kernel
theorem dX0_atLeast_56 : decode cX0_atLeast 56 = .ok (.iload 4, 2) := by decide +kernel
theorem dX0_atLeast_58 : decode cX0_atLeast 58 = .ok (.isub, 1) := by decide +kernel
theorem dX0_atLeast_59 : decode cX0_atLeast 59 = .ok (.invokestatic 74, 3) := by decide +kernel
theorem dX0_atLeast_62 : decode cX0_atLeast 62 = .ok (.dup2, 1) := by decide +kernel
theorem dX0_atLeast_63 : decode cX0_atLeast 63 = .ok (.iaload, 1) := by decide +kernel
theorem dX0_atLeast_64 : decode cX0_atLeast 64 = .ok (.iconst 1, 1) := by decide +kernel
theorem dX0_atLeast_65 : decode cX0_atLeast 65 = .ok (.iadd, 1) := by decide +kernel
theorem dX0_atLeast_66 : decode cX0_atLeast 66 = .ok (.iastore, 1) := by decide +kernel
theorem dX0_atLeast_67 : decode cX0_atLeast 67 = .ok (.iinc 3 1, 3) := by decide +kernel
theorem dX0_atLeast_70 : decode cX0_atLeast 70 = .ok (.goto (-42), 3) := by decide +kernel
theorem dX0_atLeast_73 : decode cX0_atLeast 73 = .ok (.iconst 0, 1) := by decide +kernel
theorem dX0_atLeast_74 : decode cX0_atLeast 74 = .ok (.istore_n 3, 1) := by decide +kernel
theorem dX0_atLeast_75 : decode cX0_atLeast 75 = .ok (.iload_n 2, 1) := by decide +kernel
theorem dX0_atLeast_76 : decode cX0_atLeast 76 = .ok (.istore 4, 2) := by decide +kernel
theorem dX0_atLeast_78 : decode cX0_atLeast 78 = .ok (.bipush 16, 2) := by decide +kernel
theorem dX0_atLeast_80 : decode cX0_atLeast 80 = .ok (.istore 5, 2) := by decide +kernel
theorem dX0_atLeast_82 : decode cX0_atLeast 82 = .ok (.iload 5, 2) := by decide +kernel
theorem dX0_atLeast_84 : decode cX0_atLeast 84 = .ok (.ifCond .le 53, 3) := by decide +kernel
theorem dX0_atLeast_87 : decode cX0_atLeast 87 = .ok (.iconst 0, 1) := by decide +kernel
theorem dX0_atLeast_88 : decode cX0_atLeast 88 = .ok (.istore 6, 2) := by decide +kernel
theorem dX0_atLeast_90 : decode cX0_atLeast 90 = .ok (.iload 6, 2) := by decide +kernel
theorem dX0_atLeast_92 : decode cX0_atLeast 92 = .ok (.aload_n 0, 1) := by decide +kernel
theorem dX0_atLeast_93 : decode cX0_atLeast 93 = .ok (.getfield 19, 3) := by decide +kernel
theorem dX0_atLeast_96 : decode cX0_atLeast 96 = .ok (.iload 5, 2) := by decide +kernel
theorem dX0_atLeast_98 : decode cX0_atLeast 98 = .ok (.iaload, 1) := by decide +kernel
theorem dX0_atLeast_99 : decode cX0_atLeast 99 = .ok (.if_icmp .ge 32, 3) := by decide +kernel
theorem dX0_atLeast_102 : decode cX0_atLeast 102 = .ok (.iload 4, 2) := by decide +kernel
theorem dX0_atLeast_104 : decode cX0_atLeast 104 = .ok (.iconst 1, 1) := by decide +kernel
theorem dX0_atLeast_105 : decode cX0_atLeast 105 = .ok (.if_icmp .le 26, 3) := by decide +kernel
theorem dX0_atLeast_108 : decode cX0_atLeast 108 = .ok (.iload 4, 2) := by decide +kernel
theorem dX0_atLeast_110 : decode cX0_atLeast 110 = .ok (.iload 5, 2) := by decide +kernel
theorem dX0_atLeast_112 : decode cX0_atLeast 112 = .ok (.iload 4, 2) := by decide +kernel
theorem dX0_atLeast_114 : decode cX0_atLeast 114 = .ok (.iconst 2, 1) := by decide +kernel
theorem dX0_atLeast_115 : decode cX0_atLeast 115 = .ok (.idiv, 1) := by decide +kernel
theorem dX0_atLeast_116 : decode cX0_atLeast 116 = .ok (.invokestatic 74, 3) := by decide +kernel
theorem dX0_atLeast_119 : decode cX0_atLeast 119 = .ok (.isub, 1) := by decide +kernel
theorem dX0_atLeast_120 : decode cX0_atLeast 120 = .ok (.istore 4, 2) := by decide +kernel
theorem dX0_atLeast_122 : decode cX0_atLeast 122 = .ok (.iinc 3 1, 3) := by decide +kernel
theorem dX0_atLeast_125 : decode cX0_atLeast 125 = .ok (.iinc 6 1, 3) := by decide +kernel
theorem dX0_atLeast_128 : decode cX0_atLeast 128 = .ok (.goto (-38), 3) := by decide +kernel
theorem dX0_atLeast_131 : decode cX0_atLeast 131 = .ok (.iinc 5 (-1), 3) := by decide +kernel
theorem dX0_atLeast_134 : decode cX0_atLeast 134 = .ok (.goto (-52), 3) := by decide +kernel
theorem dX0_atLeast_137 : decode cX0_atLeast 137 = .ok (.iload_n 3, 1) := by decide +kernel
theorem dX0_atLeast_138 : decode cX0_atLeast 138 = .ok (.ireturn, 1) := by decide +kernel
theorem dX1_clear_0 : decode cX1_clear 0 = .ok (.iconst 0, 1) := by decide +kernel
theorem dX1_clear_1 : decode cX1_clear 1 = .ok (.istore_n 1, 1) := by decide +kernel
theorem dX1_clear_2 : decode cX1_clear 2 = .ok (.iload_n 1, 1) := by decide +kernel
theorem dX1_clear_3 : decode cX1_clear 3 = .ok (.iconst 4, 1) := by decide +kernel
theorem dX1_clear_4 : decode cX1_clear 4 = .ok (.if_icmp .ge 16, 3) := by decide +kernel
theorem dX1_clear_7 : decode cX1_clear 7 = .ok (.aload_n 0, 1) := by decide +kernel
theorem dX1_clear_8 : decode cX1_clear 8 = .ok (.getfield 29, 3) := by decide +kernel
theorem dX1_clear_11 : decode cX1_clear 11 = .ok (.iload_n 1, 1) := by decide +kernel
theorem dX1_clear_12 : decode cX1_clear 12 = .ok (.iconst 0, 1) := by decide +kernel
theorem dX1_clear_13 : decode cX1_clear 13 = .ok (.iastore, 1) := by decide +kernel
theorem dX1_clear_14 : decode cX1_clear 14 = .ok (.iinc 1 1, 3) := by decide +kernel
theorem dX1_clear_17 : decode cX1_clear 17 = .ok (.goto (-15), 3) := by decide +kernel
theorem dX1_clear_20 : decode cX1_clear 20 = .ok (.return_, 1) := by decide +kernel
theorem dX1_put_0 : decode cX1_put 0 = .ok (.iload_n 1, 1) := by decide +kernel
theorem dX1_put_1 : decode cX1_put 1 = .ok (.invokestatic 36, 3) := by decide +kernel
theorem dX1_put_4 : decode cX1_put 4 = .ok (.ifCond .eq 50, 3) := by decide +kernel
theorem dX1_put_7 : decode cX1_put 7 = .ok (.iload_n 2, 1) := by decide +kernel
theorem dX1_put_8 : decode cX1_put 8 = .ok (.invokestatic 40, 3) := by decide +kernel
theorem dX1_put_11 : decode cX1_put 11 = .ok (.ifCond .eq 43, 3) := by decide +kernel
theorem dX1_put_14 : decode cX1_put 14 = .ok (.iload_n 3, 1) := by decide +kernel
theorem dX1_put_15 : decode cX1_put 15 = .ok (.iconst 0, 1) := by decide +kernel
theorem dX1_put_16 : decode cX1_put 16 = .ok (.bipush 7, 2) := by decide +kernel
theorem dX1_put_18 : decode cX1_put 18 = .ok (.invokestatic 43, 3) := by decide +kernel
theorem dX1_put_21 : decode cX1_put 21 = .ok (.ifCond .eq 33, 3) := by decide +kernel
theorem dX1_put_24 : decode cX1_put 24 = .ok (.aload_n 0, 1) := by decide +kernel
theorem dX1_put_25 : decode cX1_put 25 = .ok (.getfield 23, 3) := by decide +kernel
theorem dX1_put_28 : decode cX1_put 28 = .ok (.iload_n 1, 1) := by decide +kernel
theorem dX1_put_29 : decode cX1_put 29 = .ok (.aaload, 1) := by decide +kernel
theorem dX1_put_30 : decode cX1_put 30 = .ok (.bipush 8, 2) := by decide +kernel
theorem dX1_put_32 : decode cX1_put 32 = .ok (.iload_n 2, 1) := by decide +kernel
theorem dX1_put_33 : decode cX1_put 33 = .ok (.imul, 1) := by decide +kernel
theorem dX1_put_34 : decode cX1_put 34 = .ok (.iload_n 3, 1) := by decide +kernel
theorem dX1_put_35 : decode cX1_put 35 = .ok (.iadd, 1) := by decide +kernel
theorem dX1_put_36 : decode cX1_put 36 = .ok (.iload 4, 2) := by decide +kernel
theorem dX1_put_38 : decode cX1_put 38 = .ok (.iastore, 1) := by decide +kernel
theorem dX1_put_39 : decode cX1_put 39 = .ok (.aload_n 0, 1) := by decide +kernel
theorem dX1_put_40 : decode cX1_put 40 = .ok (.getfield 26, 3) := by decide +kernel
theorem dX1_put_43 : decode cX1_put 43 = .ok (.iload_n 1, 1) := by decide +kernel
theorem dX1_put_44 : decode cX1_put 44 = .ok (.aaload, 1) := by decide +kernel
theorem dX1_put_45 : decode cX1_put 45 = .ok (.bipush 8, 2) := by decide +kernel
theorem dX1_put_47 : decode cX1_put 47 = .ok (.iload_n 2, 1) := by decide +kernel
theorem dX1_put_48 : decode cX1_put 48 = .ok (.imul, 1) := by decide +kernel
theorem dX1_put_49 : decode cX1_put 49 = .ok (.iload_n 3, 1) := by decide +kernel
theorem dX1_put_50 : decode cX1_put 50 = .ok (.iadd, 1) := by decide +kernel
theorem dX1_put_51 : decode cX1_put 51 = .ok (.iload 5, 2) := by decide +kernel
theorem dX1_put_53 : decode cX1_put 53 = .ok (.iastore, 1) := by decide +kernel
theorem dX1_put_54 : decode cX1_put 54 = .ok (.return_, 1) := by decide +kernel
theorem dX1_raiseTop_0 : decode cX1_raiseTop 0 = .ok (.iload_n 1, 1) := by decide +kernel
theorem dX1_raiseTop_1 : decode cX1_raiseTop 1 = .ok (.invokestatic 36, 3) := by decide +kernel
theorem dX1_raiseTop_4 : decode cX1_raiseTop 4 = .ok (.ifCond .eq 19, 3) := by decide +kernel
theorem dX1_raiseTop_7 : decode cX1_raiseTop 7 = .ok (.aload_n 0, 1) := by decide +kernel
theorem dX1_raiseTop_8 : decode cX1_raiseTop 8 = .ok (.getfield 29, 3) := by decide +kernel
theorem dX1_raiseTop_11 : decode cX1_raiseTop 11 = .ok (.iload_n 1, 1) := by decide +kernel
theorem dX1_raiseTop_12 : decode cX1_raiseTop 12 = .ok (.aload_n 0, 1) := by decide +kernel
theorem dX1_raiseTop_13 : decode cX1_raiseTop 13 = .ok (.getfield 29, 3) := by decide +kernel
theorem dX1_raiseTop_16 : decode cX1_raiseTop 16 = .ok (.iload_n 1, 1) := by decide +kernel
theorem dX1_raiseTop_17 : decode cX1_raiseTop 17 = .ok (.iaload, 1) := by decide +kernel
theorem dX1_raiseTop_18 : decode cX1_raiseTop 18 = .ok (.iload_n 2, 1) := by decide +kernel
theorem dX1_raiseTop_19 : decode cX1_raiseTop 19 = .ok (.invokestatic 47, 3) := by decide +kernel
theorem dX1_raiseTop_22 : decode cX1_raiseTop 22 = .ok (.iastore, 1) := by decide +kernel
theorem dX1_raiseTop_23 : decode cX1_raiseTop 23 = .ok (.return_, 1) := by decide +kernel
theorem dX1_level_0 : decode cX1_level 0 = .ok (.iload_n 0, 1) := by decide +kernel
theorem dX1_level_1 : decode cX1_level 1 = .ok (.istore_n 2, 1) := by decide +kernel
theorem dX1_level_2 : decode cX1_level 2 = .ok (.iconst 3, 1) := by decide +kernel
theorem dX1_level_3 : decode cX1_level 3 = .ok (.istore_n 3, 1) := by decide +kernel
theorem dX1_level_4 : decode cX1_level 4 = .ok (.iload_n 3, 1) := by decide +kernel
theorem dX1_level_5 : decode cX1_level 5 = .ok (.iload_n 1, 1) := by decide +kernel
theorem dX1_level_6 : decode cX1_level 6 = .ok (.if_icmp .le 13, 3) := by decide +kernel
theorem dX1_level_9 : decode cX1_level 9 = .ok (.iload_n 2, 1) := by decide +kernel
theorem dX1_level_10 : decode cX1_level 10 = .ok (.iconst 5, 1) := by decide +kernel
theorem dX1_level_11 : decode cX1_level 11 = .ok (.idiv, 1) := by decide +kernel
theorem dX1_level_12 : decode cX1_level 12 = .ok (.istore_n 2, 1) := by decide +kernel
theorem dX1_level_13 : decode cX1_level 13 = .ok (.iinc 3 (-1), 3) := by decide +kernel
theorem dX1_level_16 : decode cX1_level 16 = .ok (.goto (-12), 3) := by decide +kernel
theorem dX1_level_19 : decode cX1_level 19 = .ok (.iload_n 2, 1) := by decide +kernel
theorem dX1_level_20 : decode cX1_level 20 = .ok (.iconst 5, 1) := by decide +kernel
theorem dX1_level_21 : decode cX1_level 21 = .ok (.irem, 1) := by decide +kernel
theorem dX1_level_22 : decode cX1_level 22 = .ok (.ireturn, 1) := by decide +kernel
theorem dX1_find_0 : decode cX1_find 0 = .ok (.aload_n 0, 1) := by decide +kernel
theorem dX1_find_1 : decode cX1_find 1 = .ok (.iconst (-1), 1) := by decide +kernel
theorem dX1_find_2 : decode cX1_find 2 = .ok (.putfield 9, 3) := by decide +kernel
theorem dX1_find_5 : decode cX1_find 5 = .ok (.iconst 0, 1) := by decide +kernel
theorem dX1_find_6 : decode cX1_find 6 = .ok (.istore 4, 2) := by decide +kernel
theorem dX1_find_8 : decode cX1_find 8 = .ok (.iload 4, 2) := by decide +kernel
theorem dX1_find_10 : decode cX1_find 10 = .ok (.sipush 625, 3) := by decide +kernel
theorem dX1_find_13 : decode cX1_find 13 = .ok (.if_icmp .ge 89, 3) := by decide +kernel
theorem dX1_find_16 : decode cX1_find 16 = .ok (.iconst 1, 1) := by decide +kernel
theorem dX1_find_17 : decode cX1_find 17 = .ok (.istore 5, 2) := by decide +kernel
theorem dX1_find_19 : decode cX1_find 19 = .ok (.iconst 0, 1) := by decide +kernel
theorem dX1_find_20 : decode cX1_find 20 = .ok (.istore 6, 2) := by decide +kernel
theorem dX1_find_22 : decode cX1_find 22 = .ok (.iload 6, 2) := by decide +kernel
theorem dX1_find_24 : decode cX1_find 24 = .ok (.iconst 4, 1) := by decide +kernel
theorem dX1_find_25 : decode cX1_find 25 = .ok (.if_icmp .ge 52, 3) := by decide +kernel
theorem dX1_find_28 : decode cX1_find 28 = .ok (.aload_n 0, 1) := by decide +kernel
theorem dX1_find_29 : decode cX1_find 29 = .ok (.getfield 33, 3) := by decide +kernel
theorem dX1_find_32 : decode cX1_find 32 = .ok (.iload 6, 2) := by decide +kernel
theorem dX1_find_34 : decode cX1_find 34 = .ok (.iload 4, 2) := by decide +kernel
theorem dX1_find_36 : decode cX1_find 36 = .ok (.iload 6, 2) := by decide +kernel
theorem dX1_find_38 : decode cX1_find 38 = .ok (.invokestatic 53, 3) := by decide +kernel
theorem dX1_find_41 : decode cX1_find 41 = .ok (.iastore, 1) := by decide +kernel
theorem dX1_find_42 : decode cX1_find 42 = .ok (.iload 5, 2) := by decide +kernel
theorem dX1_find_44 : decode cX1_find 44 = .ok (.ifCond .eq 24, 3) := by decide +kernel
theorem dX1_find_47 : decode cX1_find 47 = .ok (.aload_n 0, 1) := by decide +kernel
theorem dX1_find_48 : decode cX1_find 48 = .ok (.getfield 33, 3) := by decide +kernel
theorem dX1_find_51 : decode cX1_find 51 = .ok (.iload 6, 2) := by decide +kernel
theorem dX1_find_53 : decode cX1_find 53 = .ok (.iaload, 1) := by decide +kernel
theorem dX1_find_54 : decode cX1_find 54 = .ok (.aload_n 0, 1) := by decide +kernel
theorem dX1_find_55 : decode cX1_find 55 = .ok (.getfield 29, 3) := by decide +kernel
theorem dX1_find_58 : decode cX1_find 58 = .ok (.iload 6, 2) := by decide +kernel
theorem dX1_find_60 : decode cX1_find 60 = .ok (.iaload, 1) := by decide +kernel
theorem dX1_find_61 : decode cX1_find 61 = .ok (.if_icmp .gt 7, 3) := by decide +kernel
theorem dX1_find_64 : decode cX1_find 64 = .ok (.iconst 1, 1) := by decide +kernel
theorem dX1_find_65 : decode cX1_find 65 = .ok (.goto 4, 3) := by decide +kernel
theorem dX1_find_68 : decode cX1_find 68 = .ok (.iconst 0, 1) := by decide +kernel
theorem dX1_find_69 : decode cX1_find 69 = .ok (.istore 5, 2) := by decide +kernel
theorem dX1_find_71 : decode cX1_find 71 = .ok (.iinc 6 1, 3) := by decide +kernel
theorem dX1_find_74 : decode cX1_find 74 = .ok (.goto (-52), 3) := by decide +kernel
theorem dX1_find_77 : decode cX1_find 77 = .ok (.iload 5, 2) := by decide +kernel
theorem dX1_find_79 : decode cX1_find 79 = .ok (.ifCond .eq 17, 3) := by decide +kernel
theorem dX1_find_82 : decode cX1_find 82 = .ok (.aload_n 0, 1) := by decide +kernel
theorem dX1_find_83 : decode cX1_find 83 = .ok (.iload 4, 2) := by decide +kernel
theorem dX1_find_85 : decode cX1_find 85 = .ok (.iload_n 1, 1) := by decide +kernel
theorem dX1_find_86 : decode cX1_find 86 = .ok (.bipush 8, 2) := by decide +kernel
theorem dX1_find_88 : decode cX1_find 88 = .ok (.invokestatic 56, 3) := by decide +kernel
theorem dX1_find_91 : decode cX1_find 91 = .ok (.iload_n 2, 1) := by decide +kernel
theorem dX1_find_92 : decode cX1_find 92 = .ok (.iload_n 3, 1) := by decide +kernel
theorem dX1_find_93 : decode cX1_find 93 = .ok (.invokevirtual 59, 3) := by decide +kernel
theorem dX1_find_96 : decode cX1_find 96 = .ok (.iinc 4 1, 3) := by decide +kernel
theorem dX1_find_99 : decode cX1_find 99 = .ok (.goto (-91), 3) := by decide +kernel
theorem dX1_find_102 : decode cX1_find 102 = .ok (.return_, 1) := by decide +kernel
theorem dX1_tryRow_0 : decode cX1_tryRow 0 = .ok (.iconst 0, 1) := by decide +kernel
theorem dX1_tryRow_1 : decode cX1_tryRow 1 = .ok (.istore 5, 2) := by decide +kernel
theorem dX1_tryRow_3 : decode cX1_tryRow 3 = .ok (.iconst 0, 1) := by decide +kernel
theorem dX1_tryRow_4 : decode cX1_tryRow 4 = .ok (.istore 6, 2) := by decide +kernel
theorem dX1_tryRow_6 : decode cX1_tryRow 6 = .ok (.iconst 0, 1) := by decide +kernel
theorem dX1_tryRow_7 : decode cX1_tryRow 7 = .ok (.istore 7, 2) := by decide +kernel
theorem dX1_tryRow_9 : decode cX1_tryRow 9 = .ok (.iload 7, 2) := by decide +kernel
theorem dX1_tryRow_11 : decode cX1_tryRow 11 = .ok (.iload_n 2, 1) := by decide +kernel
theorem dX1_tryRow_12 : decode cX1_tryRow 12 = .ok (.if_icmp .ge 46, 3) := by decide +kernel
theorem dX1_tryRow_15 : decode cX1_tryRow 15 = .ok (.aload_n 0, 1) := by decide +kernel
theorem dX1_tryRow_16 : decode cX1_tryRow 16 = .ok (.iload 7, 2) := by decide +kernel
theorem dX1_tryRow_18 : decode cX1_tryRow 18 = .ok (.invokevirtual 63, 3) := by decide +kernel
theorem dX1_tryRow_21 : decode cX1_tryRow 21 = .ok (.invokestatic 67, 3) := by decide +kernel
theorem dX1_tryRow_24 : decode cX1_tryRow 24 = .ok (.iload_n 3, 1) := by decide +kernel
theorem dX1_tryRow_25 : decode cX1_tryRow 25 = .ok (.if_icmp .lt 17, 3) := by decide +kernel
theorem dX1_tryRow_28 : decode cX1_tryRow 28 = .ok (.iload 5, 2) := by decide +kernel
theorem dX1_tryRow_30 : decode cX1_tryRow 30 = .ok (.aload_n 0, 1) := by decide +kernel
theorem dX1_tryRow_31 : decode cX1_tryRow 31 = .ok (.iload 7, 2) := by decide +kernel
theorem dX1_tryRow_33 : decode cX1_tryRow 33 = .ok (.invokevirtual 72, 3) := by decide +kernel
theorem dX1_tryRow_36 : decode cX1_tryRow 36 = .ok (.iadd, 1) := by decide +kernel
theorem dX1_tryRow_37 : decode cX1_tryRow 37 = .ok (.istore 5, 2) := by decide +kernel
theorem dX1_tryRow_39 : decode cX1_tryRow 39 = .ok (.goto 13, 3) := by decide +kernel
theorem dX1_tryRow_42 : decode cX1_tryRow 42 = .ok (.iload 5, 2) := by decide +kernel
theorem dX1_tryRow_44 : decode cX1_tryRow 44 = .ok (.iload 4, 2) := by decide +kernel
theorem dX1_tryRow_46 : decode cX1_tryRow 46 = .ok (.iadd, 1) := by decide +kernel
theorem dX1_tryRow_47 : decode cX1_tryRow 47 = .ok (.istore 5, 2) := by decide +kernel
theorem dX1_tryRow_49 : decode cX1_tryRow 49 = .ok (.iinc 6 1, 3) := by decide +kernel
theorem dX1_tryRow_52 : decode cX1_tryRow 52 = .ok (.iinc 7 1, 3) := by decide +kernel
theorem dX1_tryRow_55 : decode cX1_tryRow 55 = .ok (.goto (-46), 3) := by decide +kernel
theorem dX1_tryRow_58 : decode cX1_tryRow 58 = .ok (.aload_n 0, 1) := by decide +kernel
theorem dX1_tryRow_59 : decode cX1_tryRow 59 = .ok (.getfield 9, 3) := by decide +kernel
theorem dX1_tryRow_62 : decode cX1_tryRow 62 = .ok (.iconst (-1), 1) := by decide +kernel
theorem dX1_tryRow_63 : decode cX1_tryRow 63 = .ok (.if_icmp .eq 12, 3) := by decide +kernel
theorem dX1_tryRow_66 : decode cX1_tryRow 66 = .ok (.iload 5, 2) := by decide +kernel
theorem dX1_tryRow_68 : decode cX1_tryRow 68 = .ok (.aload_n 0, 1) := by decide +kernel
theorem dX1_tryRow_69 : decode cX1_tryRow 69 = .ok (.getfield 9, 3) := by decide +kernel
theorem dX1_tryRow_72 : decode cX1_tryRow 72 = .ok (.if_icmp .ge 20, 3) := by decide +kernel
theorem dX1_tryRow_75 : decode cX1_tryRow 75 = .ok (.aload_n 0, 1) := by decide +kernel
theorem dX1_tryRow_76 : decode cX1_tryRow 76 = .ok (.iload 5, 2) := by decide +kernel
theorem dX1_tryRow_78 : decode cX1_tryRow 78 = .ok (.putfield 9, 3) := by decide +kernel
theorem dX1_tryRow_81 : decode cX1_tryRow 81 = .ok (.aload_n 0, 1) := by decide +kernel
theorem dX1_tryRow_82 : decode cX1_tryRow 82 = .ok (.iload_n 1, 1) := by decide +kernel
theorem dX1_tryRow_83 : decode cX1_tryRow 83 = .ok (.putfield 15, 3) := by decide +kernel
theorem dX1_tryRow_86 : decode cX1_tryRow 86 = .ok (.aload_n 0, 1) := by decide +kernel
theorem dX1_tryRow_87 : decode cX1_tryRow 87 = .ok (.iload 6, 2) := by decide +kernel
theorem dX1_tryRow_89 : decode cX1_tryRow 89 = .ok (.putfield 18, 3) := by decide +kernel
theorem dX1_tryRow_92 : decode cX1_tryRow 92 = .ok (.return_, 1) := by decide +kernel
theorem dX1_whoFits_0 : decode cX1_whoFits 0 = .ok (.iconst (-1), 1) := by decide +kernel
theorem dX1_whoFits_1 : decode cX1_whoFits 1 = .ok (.istore_n 2, 1) := by decide +kernel
theorem dX1_whoFits_2 : decode cX1_whoFits 2 = .ok (.iconst 0, 1) := by decide +kernel
theorem dX1_whoFits_3 : decode cX1_whoFits 3 = .ok (.istore_n 3, 1) := by decide +kernel
theorem dX1_whoFits_4 : decode cX1_whoFits 4 = .ok (.iload_n 3, 1) := by decide +kernel
theorem dX1_whoFits_5 : decode cX1_whoFits 5 = .ok (.iconst 4, 1) := by decide +kernel
theorem dX1_whoFits_6 : decode cX1_whoFits 6 = .ok (.if_icmp .ge 30, 3) := by decide +kernel
theorem dX1_whoFits_9 : decode cX1_whoFits 9 = .ok (.iload_n 2, 1) := by decide +kernel
theorem dX1_whoFits_10 : decode cX1_whoFits 10 = .ok (.aload_n 0, 1) := by decide +kernel
theorem dX1_whoFits_11 : decode cX1_whoFits 11 = .ok (.getfield 23, 3) := by decide +kernel
theorem dX1_whoFits_14 : decode cX1_whoFits 14 = .ok (.iload_n 3, 1) := by decide +kernel
theorem dX1_whoFits_15 : decode cX1_whoFits 15 = .ok (.aaload, 1) := by decide +kernel
theorem dX1_whoFits_16 : decode cX1_whoFits 16 = .ok (.bipush 8, 2) := by decide +kernel
theorem dX1_whoFits_18 : decode cX1_whoFits 18 = .ok (.aload_n 0, 1) := by decide +kernel
theorem dX1_whoFits_19 : decode cX1_whoFits 19 = .ok (.getfield 33, 3) := by decide +kernel
theorem dX1_whoFits_22 : decode cX1_whoFits 22 = .ok (.iload_n 3, 1) := by decide +kernel
theorem dX1_whoFits_23 : decode cX1_whoFits 23 = .ok (.iaload, 1) := by decide +kernel
theorem dX1_whoFits_24 : decode cX1_whoFits 24 = .ok (.imul, 1) := by decide +kernel
theorem dX1_whoFits_25 : decode cX1_whoFits 25 = .ok (.iload_n 1, 1) := by decide +kernel
theorem dX1_whoFits_26 : decode cX1_whoFits 26 = .ok (.iadd, 1) := by decide +kernel
theorem dX1_whoFits_27 : decode cX1_whoFits 27 = .ok (.iaload, 1) := by decide +kernel
theorem dX1_whoFits_28 : decode cX1_whoFits 28 = .ok (.iand, 1) := by decide +kernel
theorem dX1_whoFits_29 : decode cX1_whoFits 29 = .ok (.istore_n 2, 1) := by decide +kernel
theorem dX1_whoFits_30 : decode cX1_whoFits 30 = .ok (.iinc 3 1, 3) := by decide +kernel
theorem dX1_whoFits_33 : decode cX1_whoFits 33 = .ok (.goto (-29), 3) := by decide +kernel
theorem dX1_whoFits_36 : decode cX1_whoFits 36 = .ok (.iload_n 2, 1) := by decide +kernel
theorem dX1_whoFits_37 : decode cX1_whoFits 37 = .ok (.ireturn, 1) := by decide +kernel
theorem dX1_lossOf_0 : decode cX1_lossOf 0 = .ok (.iconst 0, 1) := by decide +kernel
theorem dX1_lossOf_1 : decode cX1_lossOf 1 = .ok (.istore_n 2, 1) := by decide +kernel
theorem dX1_lossOf_2 : decode cX1_lossOf 2 = .ok (.iconst 0, 1) := by decide +kernel
theorem dX1_lossOf_3 : decode cX1_lossOf 3 = .ok (.istore_n 3, 1) := by decide +kernel
theorem dX1_lossOf_4 : decode cX1_lossOf 4 = .ok (.iload_n 3, 1) := by decide +kernel
theorem dX1_lossOf_5 : decode cX1_lossOf 5 = .ok (.iconst 4, 1) := by decide +kernel
theorem dX1_lossOf_6 : decode cX1_lossOf 6 = .ok (.if_icmp .ge 30, 3) := by decide +kernel
theorem dX1_lossOf_9 : decode cX1_lossOf 9 = .ok (.iload_n 2, 1) := by decide +kernel
theorem dX1_lossOf_10 : decode cX1_lossOf 10 = .ok (.aload_n 0, 1) := by decide +kernel
theorem dX1_lossOf_11 : decode cX1_lossOf 11 = .ok (.getfield 26, 3) := by decide +kernel
theorem dX1_lossOf_14 : decode cX1_lossOf 14 = .ok (.iload_n 3, 1) := by decide +kernel
theorem dX1_lossOf_15 : decode cX1_lossOf 15 = .ok (.aaload, 1) := by decide +kernel
theorem dX1_lossOf_16 : decode cX1_lossOf 16 = .ok (.bipush 8, 2) := by decide +kernel
theorem dX1_lossOf_18 : decode cX1_lossOf 18 = .ok (.aload_n 0, 1) := by decide +kernel
theorem dX1_lossOf_19 : decode cX1_lossOf 19 = .ok (.getfield 33, 3) := by decide +kernel
theorem dX1_lossOf_22 : decode cX1_lossOf 22 = .ok (.iload_n 3, 1) := by decide +kernel
theorem dX1_lossOf_23 : decode cX1_lossOf 23 = .ok (.iaload, 1) := by decide +kernel
theorem dX1_lossOf_24 : decode cX1_lossOf 24 = .ok (.imul, 1) := by decide +kernel
theorem dX1_lossOf_25 : decode cX1_lossOf 25 = .ok (.iload_n 1, 1) := by decide +kernel
theorem dX1_lossOf_26 : decode cX1_lossOf 26 = .ok (.iadd, 1) := by decide +kernel
theorem dX1_lossOf_27 : decode cX1_lossOf 27 = .ok (.iaload, 1) := by decide +kernel
theorem dX1_lossOf_28 : decode cX1_lossOf 28 = .ok (.iadd, 1) := by decide +kernel
theorem dX1_lossOf_29 : decode cX1_lossOf 29 = .ok (.istore_n 2, 1) := by decide +kernel
theorem dX1_lossOf_30 : decode cX1_lossOf 30 = .ok (.iinc 3 1, 3) := by decide +kernel
theorem dX1_lossOf_33 : decode cX1_lossOf 33 = .ok (.goto (-29), 3) := by decide +kernel
theorem dX1_lossOf_36 : decode cX1_lossOf 36 = .ok (.iload_n 2, 1) := by decide +kernel
theorem dX1_lossOf_37 : decode cX1_lossOf 37 = .ok (.ireturn, 1) := by decide +kernel
theorem dX2_add_0 : decode cX2_add 0 = .ok (.aload_n 0, 1) := by decide +kernel
theorem dX2_add_1 : decode cX2_add 1 = .ok (.getfield 9, 3) := by decide +kernel
theorem dX2_add_4 : decode cX2_add 4 = .ok (.bipush 8, 2) := by decide +kernel
theorem dX2_add_6 : decode cX2_add 6 = .ok (.if_icmp .ge 38, 3) := by decide +kernel
theorem dX2_add_9 : decode cX2_add 9 = .ok (.aload_n 0, 1) := by decide +kernel
theorem dX2_add_10 : decode cX2_add 10 = .ok (.getfield 22, 3) := by decide +kernel
theorem dX2_add_13 : decode cX2_add 13 = .ok (.aload_n 0, 1) := by decide +kernel
theorem dX2_add_14 : decode cX2_add 14 = .ok (.getfield 9, 3) := by decide +kernel
theorem dX2_add_17 : decode cX2_add 17 = .ok (.iload_n 1, 1) := by decide +kernel
theorem dX2_add_18 : decode cX2_add 18 = .ok (.iastore, 1) := by decide +kernel
theorem dX2_add_19 : decode cX2_add 19 = .ok (.aload_n 0, 1) := by decide +kernel
theorem dX2_add_20 : decode cX2_add 20 = .ok (.dup, 1) := by decide +kernel
theorem dX2_add_21 : decode cX2_add 21 = .ok (.getfield 15, 3) := by decide +kernel
theorem dX2_add_24 : decode cX2_add 24 = .ok (.iconst 1, 1) := by decide +kernel
theorem dX2_add_25 : decode cX2_add 25 = .ok (.aload_n 0, 1) := by decide +kernel
theorem dX2_add_26 : decode cX2_add 26 = .ok (.getfield 9, 3) := by decide +kernel
theorem dX2_add_29 : decode cX2_add 29 = .ok (.ishl, 1) := by decide +kernel
theorem dX2_add_30 : decode cX2_add 30 = .ok (.ior, 1) := by decide +kernel
theorem dX2_add_31 : decode cX2_add 31 = .ok (.putfield 15, 3) := by decide +kernel
theorem dX2_add_34 : decode cX2_add 34 = .ok (.aload_n 0, 1) := by decide +kernel
theorem dX2_add_35 : decode cX2_add 35 = .ok (.dup, 1) := by decide +kernel
theorem dX2_add_36 : decode cX2_add 36 = .ok (.getfield 9, 3) := by decide +kernel
theorem dX2_add_39 : decode cX2_add 39 = .ok (.iconst 1, 1) := by decide +kernel
theorem dX2_add_40 : decode cX2_add 40 = .ok (.iadd, 1) := by decide +kernel
theorem dX2_add_41 : decode cX2_add 41 = .ok (.putfield 9, 3) := by decide +kernel
theorem dX2_add_44 : decode cX2_add 44 = .ok (.return_, 1) := by decide +kernel
theorem dX2_owner_0 : decode cX2_owner 0 = .ok (.iload_n 1, 1) := by decide +kernel
theorem dX2_owner_1 : decode cX2_owner 1 = .ok (.iconst 0, 1) := by decide +kernel
theorem dX2_owner_2 : decode cX2_owner 2 = .ok (.aload_n 0, 1) := by decide +kernel
theorem dX2_owner_3 : decode cX2_owner 3 = .ok (.getfield 9, 3) := by decide +kernel
theorem dX2_owner_6 : decode cX2_owner 6 = .ok (.iconst 1, 1) := by decide +kernel
theorem dX2_owner_7 : decode cX2_owner 7 = .ok (.isub, 1) := by decide +kernel
theorem dX2_owner_8 : decode cX2_owner 8 = .ok (.invokestatic 31, 3) := by decide +kernel
theorem dX2_owner_11 : decode cX2_owner 11 = .ok (.ifCond .eq 12, 3) := by decide +kernel
theorem dX2_owner_14 : decode cX2_owner 14 = .ok (.aload_n 0, 1) := by decide +kernel
theorem dX2_owner_15 : decode cX2_owner 15 = .ok (.getfield 22, 3) := by decide +kernel
theorem dX2_owner_18 : decode cX2_owner 18 = .ok (.iload_n 1, 1) := by decide +kernel
theorem dX2_owner_19 : decode cX2_owner 19 = .ok (.iaload, 1) := by decide +kernel
theorem dX2_owner_20 : decode cX2_owner 20 = .ok (.goto 4, 3) := by decide +kernel
theorem dX2_owner_23 : decode cX2_owner 23 = .ok (.iconst (-1), 1) := by decide +kernel
theorem dX2_owner_24 : decode cX2_owner 24 = .ok (.ireturn, 1) := by decide +kernel
theorem dX2_put_0 : decode cX2_put 0 = .ok (.iload_n 1, 1) := by decide +kernel
theorem dX2_put_1 : decode cX2_put 1 = .ok (.iconst 0, 1) := by decide +kernel
theorem dX2_put_2 : decode cX2_put 2 = .ok (.aload_n 0, 1) := by decide +kernel
theorem dX2_put_3 : decode cX2_put 3 = .ok (.getfield 9, 3) := by decide +kernel
theorem dX2_put_6 : decode cX2_put 6 = .ok (.iconst 1, 1) := by decide +kernel
theorem dX2_put_7 : decode cX2_put 7 = .ok (.isub, 1) := by decide +kernel
theorem dX2_put_8 : decode cX2_put 8 = .ok (.invokestatic 31, 3) := by decide +kernel
theorem dX2_put_11 : decode cX2_put 11 = .ok (.ifCond .eq 19, 3) := by decide +kernel
theorem dX2_put_14 : decode cX2_put 14 = .ok (.iload_n 2, 1) := by decide +kernel
theorem dX2_put_15 : decode cX2_put 15 = .ok (.invokestatic 35, 3) := by decide +kernel
theorem dX2_put_18 : decode cX2_put 18 = .ok (.ifCond .eq 12, 3) := by decide +kernel
theorem dX2_put_21 : decode cX2_put 21 = .ok (.aload_n 0, 1) := by decide +kernel
theorem dX2_put_22 : decode cX2_put 22 = .ok (.getfield 28, 3) := by decide +kernel
theorem dX2_put_25 : decode cX2_put 25 = .ok (.iload_n 1, 1) := by decide +kernel
theorem dX2_put_26 : decode cX2_put 26 = .ok (.aaload, 1) := by decide +kernel
theorem dX2_put_27 : decode cX2_put 27 = .ok (.iload_n 2, 1) := by decide +kernel
theorem dX2_put_28 : decode cX2_put 28 = .ok (.iload_n 3, 1) := by decide +kernel
theorem dX2_put_29 : decode cX2_put 29 = .ok (.iastore, 1) := by decide +kernel
theorem dX2_put_30 : decode cX2_put 30 = .ok (.return_, 1) := by decide +kernel
theorem dX2_nodeAt_0 : decode cX2_nodeAt 0 = .ok (.iload_n 1, 1) := by decide +kernel
theorem dX2_nodeAt_1 : decode cX2_nodeAt 1 = .ok (.ifCond .lt 31, 3) := by decide +kernel
theorem dX2_nodeAt_4 : decode cX2_nodeAt 4 = .ok (.iload_n 1, 1) := by decide +kernel
theorem dX2_nodeAt_5 : decode cX2_nodeAt 5 = .ok (.aload_n 0, 1) := by decide +kernel
theorem dX2_nodeAt_6 : decode cX2_nodeAt 6 = .ok (.getfield 9, 3) := by decide +kernel
theorem dX2_nodeAt_9 : decode cX2_nodeAt 9 = .ok (.if_icmp .ge 23, 3) := by decide +kernel
theorem dX2_nodeAt_12 : decode cX2_nodeAt 12 = .ok (.iload_n 2, 1) := by decide +kernel
theorem dX2_nodeAt_13 : decode cX2_nodeAt 13 = .ok (.ifCond .lt 19, 3) := by decide +kernel
theorem dX2_nodeAt_16 : decode cX2_nodeAt 16 = .ok (.iload_n 2, 1) := by decide +kernel
theorem dX2_nodeAt_17 : decode cX2_nodeAt 17 = .ok (.iconst 4, 1) := by decide +kernel
theorem dX2_nodeAt_18 : decode cX2_nodeAt 18 = .ok (.if_icmp .ge 14, 3) := by decide +kernel
theorem dX2_nodeAt_21 : decode cX2_nodeAt 21 = .ok (.aload_n 0, 1) := by decide +kernel
theorem dX2_nodeAt_22 : decode cX2_nodeAt 22 = .ok (.getfield 28, 3) := by decide +kernel
theorem dX2_nodeAt_25 : decode cX2_nodeAt 25 = .ok (.iload_n 1, 1) := by decide +kernel
theorem dX2_nodeAt_26 : decode cX2_nodeAt 26 = .ok (.aaload, 1) := by decide +kernel
theorem dX2_nodeAt_27 : decode cX2_nodeAt 27 = .ok (.iload_n 2, 1) := by decide +kernel
theorem dX2_nodeAt_28 : decode cX2_nodeAt 28 = .ok (.iaload, 1) := by decide +kernel
theorem dX2_nodeAt_29 : decode cX2_nodeAt 29 = .ok (.goto 4, 3) := by decide +kernel
theorem dX2_nodeAt_32 : decode cX2_nodeAt 32 = .ok (.iconst (-1), 1) := by decide +kernel
theorem dX2_nodeAt_33 : decode cX2_nodeAt 33 = .ok (.ireturn, 1) := by decide +kernel
theorem dX2_exchange_0 : decode cX2_exchange 0 = .ok (.aload_n 0, 1) := by decide +kernel
theorem dX2_exchange_1 : decode cX2_exchange 1 = .ok (.iload_n 1, 1) := by decide +kernel
theorem dX2_exchange_2 : decode cX2_exchange 2 = .ok (.iload_n 3, 1) := by decide +kernel
theorem dX2_exchange_3 : decode cX2_exchange 3 = .ok (.invokevirtual 39, 3) := by decide +kernel
theorem dX2_exchange_6 : decode cX2_exchange 6 = .ok (.istore 4, 2) := by decide +kernel
theorem dX2_exchange_8 : decode cX2_exchange 8 = .ok (.aload_n 0, 1) := by decide +kernel
theorem dX2_exchange_9 : decode cX2_exchange 9 = .ok (.iload_n 1, 1) := by decide +kernel
theorem dX2_exchange_10 : decode cX2_exchange 10 = .ok (.iload_n 3, 1) := by decide +kernel
theorem dX2_exchange_11 : decode cX2_exchange 11 = .ok (.aload_n 0, 1) := by decide +kernel
theorem dX2_exchange_12 : decode cX2_exchange 12 = .ok (.iload_n 2, 1) := by decide +kernel
theorem dX2_exchange_13 : decode cX2_exchange 13 = .ok (.iload_n 3, 1) := by decide +kernel
theorem dX2_exchange_14 : decode cX2_exchange 14 = .ok (.invokevirtual 39, 3) := by decide +kernel
theorem dX2_exchange_17 : decode cX2_exchange 17 = .ok (.invokevirtual 43, 3) := by decide +kernel
theorem dX2_exchange_20 : decode cX2_exchange 20 = .ok (.aload_n 0, 1) := by decide +kernel
theorem dX2_exchange_21 : decode cX2_exchange 21 = .ok (.iload_n 2, 1) := by decide +kernel
theorem dX2_exchange_22 : decode cX2_exchange 22 = .ok (.iload_n 3, 1) := by decide +kernel
theorem dX2_exchange_23 : decode cX2_exchange 23 = .ok (.iload 4, 2) := by decide +kernel
theorem dX2_exchange_25 : decode cX2_exchange 25 = .ok (.invokevirtual 43, 3) := by decide +kernel
theorem dX2_exchange_28 : decode cX2_exchange 28 = .ok (.return_, 1) := by decide +kernel
theorem dX3_hang_0 : decode cX3_hang 0 = .ok (.iload_n 1, 1) := by decide +kernel
theorem dX3_hang_1 : decode cX3_hang 1 = .ok (.iconst 0, 1) := by decide +kernel
theorem dX3_hang_2 : decode cX3_hang 2 = .ok (.bipush 31, 2) := by decide +kernel
theorem dX3_hang_4 : decode cX3_hang 4 = .ok (.invokestatic 31, 3) := by decide +kernel
theorem dX3_hang_7 : decode cX3_hang 7 = .ok (.ifCond .ne 4, 3) := by decide +kernel
theorem dX3_hang_10 : decode cX3_hang 10 = .ok (.return_, 1) := by decide +kernel
theorem dX3_hang_11 : decode cX3_hang 11 = .ok (.aload_n 0, 1) := by decide +kernel
theorem dX3_hang_12 : decode cX3_hang 12 = .ok (.getfield 15, 3) := by decide +kernel
theorem dX3_hang_15 : decode cX3_hang 15 = .ok (.iload_n 1, 1) := by decide +kernel
theorem dX3_hang_16 : decode cX3_hang 16 = .ok (.iload_n 2, 1) := by decide +kernel
theorem dX3_hang_17 : decode cX3_hang 17 = .ok (.iastore, 1) := by decide +kernel
theorem dX3_hang_18 : decode cX3_hang 18 = .ok (.iconst 0, 1) := by decide +kernel
theorem dX3_hang_19 : decode cX3_hang 19 = .ok (.istore_n 3, 1) := by decide +kernel
theorem dX3_hang_20 : decode cX3_hang 20 = .ok (.iload_n 3, 1) := by decide +kernel
theorem dX3_hang_21 : decode cX3_hang 21 = .ok (.bipush 32, 2) := by decide +kernel
theorem dX3_hang_23 : decode cX3_hang 23 = .ok (.if_icmp .ge 23, 3) := by decide +kernel
theorem dX3_hang_26 : decode cX3_hang 26 = .ok (.aload_n 0, 1) := by decide +kernel
theorem dX3_hang_27 : decode cX3_hang 27 = .ok (.getfield 19, 3) := by decide +kernel
theorem dX3_hang_30 : decode cX3_hang 30 = .ok (.iload_n 3, 1) := by decide +kernel
theorem dX3_hang_31 : decode cX3_hang 31 = .ok (.iconst 0, 1) := by decide +kernel
theorem dX3_hang_32 : decode cX3_hang 32 = .ok (.iastore, 1) := by decide +kernel
theorem dX3_hang_33 : decode cX3_hang 33 = .ok (.aload_n 0, 1) := by decide +kernel
theorem dX3_hang_34 : decode cX3_hang 34 = .ok (.getfield 22, 3) := by decide +kernel
theorem dX3_hang_37 : decode cX3_hang 37 = .ok (.iload_n 3, 1) := by decide +kernel
theorem dX3_hang_38 : decode cX3_hang 38 = .ok (.iconst 0, 1) := by decide +kernel
theorem dX3_hang_39 : decode cX3_hang 39 = .ok (.iastore, 1) := by decide +kernel
theorem dX3_hang_40 : decode cX3_hang 40 = .ok (.iinc 3 1, 3) := by decide +kernel
theorem dX3_hang_43 : decode cX3_hang 43 = .ok (.goto (-23), 3) := by decide +kernel
theorem dX3_hang_46 : decode cX3_hang 46 = .ok (.iconst 0, 1) := by decide +kernel
theorem dX3_hang_47 : decode cX3_hang 47 = .ok (.istore_n 3, 1) := by decide +kernel
theorem dX3_hang_48 : decode cX3_hang 48 = .ok (.iload_n 3, 1) := by decide +kernel
theorem dX3_hang_49 : decode cX3_hang 49 = .ok (.bipush 16, 2) := by decide +kernel
theorem dX3_hang_51 : decode cX3_hang 51 = .ok (.if_icmp .ge 16, 3) := by decide +kernel
theorem dX3_hang_54 : decode cX3_hang 54 = .ok (.aload_n 0, 1) := by decide +kernel
theorem dX3_hang_55 : decode cX3_hang 55 = .ok (.iload_n 3, 1) := by decide +kernel
theorem dX3_hang_56 : decode cX3_hang 56 = .ok (.iconst 1, 1) := by decide +kernel
theorem dX3_hang_57 : decode cX3_hang 57 = .ok (.iconst 0, 1) := by decide +kernel
theorem dX3_hang_58 : decode cX3_hang 58 = .ok (.invokevirtual 35, 3) := by decide +kernel
theorem dX3_hang_61 : decode cX3_hang 61 = .ok (.iinc 3 1, 3) := by decide +kernel
theorem dX3_hang_64 : decode cX3_hang 64 = .ok (.goto (-16), 3) := by decide +kernel
theorem dX3_hang_67 : decode cX3_hang 67 = .ok (.iconst 0, 1) := by decide +kernel
theorem dX3_hang_68 : decode cX3_hang 68 = .ok (.istore_n 3, 1) := by decide +kernel
theorem dX3_hang_69 : decode cX3_hang 69 = .ok (.iload_n 3, 1) := by decide +kernel
theorem dX3_hang_70 : decode cX3_hang 70 = .ok (.aload_n 0, 1) := by decide +kernel
theorem dX3_hang_71 : decode cX3_hang 71 = .ok (.getfield 28, 3) := by decide +kernel
theorem dX3_hang_74 : decode cX3_hang 74 = .ok (.if_icmp .ge 23, 3) := by decide +kernel
theorem dX3_hang_77 : decode cX3_hang 77 = .ok (.aload_n 0, 1) := by decide +kernel
theorem dX3_hang_78 : decode cX3_hang 78 = .ok (.aload_n 0, 1) := by decide +kernel
theorem dX3_hang_79 : decode cX3_hang 79 = .ok (.getfield 25, 3) := by decide +kernel
theorem dX3_hang_82 : decode cX3_hang 82 = .ok (.iload_n 3, 1) := by decide +kernel
theorem dX3_hang_83 : decode cX3_hang 83 = .ok (.iaload, 1) := by decide +kernel
theorem dX3_hang_84 : decode cX3_hang 84 = .ok (.iconst 0, 1) := by decide +kernel
theorem dX3_hang_85 : decode cX3_hang 85 = .ok (.iconst 1, 1) := by decide +kernel
theorem dX3_hang_86 : decode cX3_hang 86 = .ok (.iload_n 3, 1) := by decide +kernel
theorem dX3_hang_87 : decode cX3_hang 87 = .ok (.ishl, 1) := by decide +kernel
theorem dX3_hang_88 : decode cX3_hang 88 = .ok (.invokevirtual 35, 3) := by decide +kernel
theorem dX3_hang_91 : decode cX3_hang 91 = .ok (.iinc 3 1, 3) := by decide +kernel
theorem dX3_hang_94 : decode cX3_hang 94 = .ok (.goto (-25), 3) := by decide +kernel
theorem dX3_hang_97 : decode cX3_hang 97 = .ok (.return_, 1) := by decide +kernel
theorem dX3_settle_0 : decode cX3_settle 0 = .ok (.iload_n 1, 1) := by decide +kernel
theorem dX3_settle_1 : decode cX3_settle 1 = .ok (.iconst 0, 1) := by decide +kernel
theorem dX3_settle_2 : decode cX3_settle 2 = .ok (.bipush 15, 2) := by decide +kernel
theorem dX3_settle_4 : decode cX3_settle 4 = .ok (.invokestatic 31, 3) := by decide +kernel
theorem dX3_settle_7 : decode cX3_settle 7 = .ok (.ifCond .eq 46, 3) := by decide +kernel
theorem dX3_settle_10 : decode cX3_settle 10 = .ok (.iload_n 2, 1) := by decide +kernel
theorem dX3_settle_11 : decode cX3_settle 11 = .ok (.invokestatic 39, 3) := by decide +kernel
theorem dX3_settle_14 : decode cX3_settle 14 = .ok (.ifCond .eq 39, 3) := by decide +kernel
theorem dX3_settle_17 : decode cX3_settle 17 = .ok (.aload_n 0, 1) := by decide +kernel
theorem dX3_settle_18 : decode cX3_settle 18 = .ok (.getfield 25, 3) := by decide +kernel
theorem dX3_settle_21 : decode cX3_settle 21 = .ok (.iload_n 1, 1) := by decide +kernel
theorem dX3_settle_22 : decode cX3_settle 22 = .ok (.iload_n 2, 1) := by decide +kernel
theorem dX3_settle_23 : decode cX3_settle 23 = .ok (.iastore, 1) := by decide +kernel
theorem dX3_settle_24 : decode cX3_settle 24 = .ok (.aload_n 0, 1) := by decide +kernel
theorem dX3_settle_25 : decode cX3_settle 25 = .ok (.iload_n 1, 1) := by decide +kernel
theorem dX3_settle_26 : decode cX3_settle 26 = .ok (.iconst 1, 1) := by decide +kernel
theorem dX3_settle_27 : decode cX3_settle 27 = .ok (.iadd, 1) := by decide +kernel
theorem dX3_settle_28 : decode cX3_settle 28 = .ok (.putfield 28, 3) := by decide +kernel
theorem dX3_settle_31 : decode cX3_settle 31 = .ok (.aload_n 0, 1) := by decide +kernel
theorem dX3_settle_32 : decode cX3_settle 32 = .ok (.iload_n 2, 1) := by decide +kernel
theorem dX3_settle_33 : decode cX3_settle 33 = .ok (.iconst 0, 1) := by decide +kernel
theorem dX3_settle_34 : decode cX3_settle 34 = .ok (.iconst 1, 1) := by decide +kernel
theorem dX3_settle_35 : decode cX3_settle 35 = .ok (.iload_n 1, 1) := by decide +kernel
theorem dX3_settle_36 : decode cX3_settle 36 = .ok (.ishl, 1) := by decide +kernel
theorem dX3_settle_37 : decode cX3_settle 37 = .ok (.invokevirtual 35, 3) := by decide +kernel
theorem dX3_settle_40 : decode cX3_settle 40 = .ok (.aload_n 0, 1) := by decide +kernel
theorem dX3_settle_41 : decode cX3_settle 41 = .ok (.getfield 22, 3) := by decide +kernel
theorem dX3_settle_44 : decode cX3_settle 44 = .ok (.bipush 32, 2) := by decide +kernel
theorem dX3_settle_46 : decode cX3_settle 46 = .ok (.dup2, 1) := by decide +kernel
theorem dX3_settle_47 : decode cX3_settle 47 = .ok (.iaload, 1) := by decide +kernel
theorem dX3_settle_48 : decode cX3_settle 48 = .ok (.iconst 1, 1) := by decide +kernel
theorem dX3_settle_49 : decode cX3_settle 49 = .ok (.iload_n 1, 1) := by decide +kernel
theorem dX3_settle_50 : decode cX3_settle 50 = .ok (.ishl, 1) := by decide +kernel
theorem dX3_settle_51 : decode cX3_settle 51 = .ok (.ior, 1) := by decide +kernel
theorem dX3_settle_52 : decode cX3_settle 52 = .ok (.iastore, 1) := by decide +kernel
theorem dX3_settle_53 : decode cX3_settle 53 = .ok (.return_, 1) := by decide +kernel
theorem dX3_climb_0 : decode cX3_climb 0 = .ok (.iload_n 1, 1) := by decide +kernel
theorem dX3_climb_1 : decode cX3_climb 1 = .ok (.istore 4, 2) := by decide +kernel
theorem dX3_climb_3 : decode cX3_climb 3 = .ok (.iconst 0, 1) := by decide +kernel
theorem dX3_climb_4 : decode cX3_climb 4 = .ok (.istore 5, 2) := by decide +kernel
theorem dX3_climb_6 : decode cX3_climb 6 = .ok (.iload 5, 2) := by decide +kernel
theorem dX3_climb_8 : decode cX3_climb 8 = .ok (.bipush 32, 2) := by decide +kernel
theorem dX3_climb_10 : decode cX3_climb 10 = .ok (.if_icmp .ge 51, 3) := by decide +kernel
theorem dX3_climb_13 : decode cX3_climb 13 = .ok (.iload 4, 2) := by decide +kernel
theorem dX3_climb_15 : decode cX3_climb 15 = .ok (.iconst 0, 1) := by decide +kernel
theorem dX3_climb_16 : decode cX3_climb 16 = .ok (.bipush 31, 2) := by decide +kernel
theorem dX3_climb_18 : decode cX3_climb 18 = .ok (.invokestatic 31, 3) := by decide +kernel
theorem dX3_climb_21 : decode cX3_climb 21 = .ok (.ifCond .eq 40, 3) := by decide +kernel
theorem dX3_climb_24 : decode cX3_climb 24 = .ok (.aload_n 0, 1) := by decide +kernel
theorem dX3_climb_25 : decode cX3_climb 25 = .ok (.getfield 19, 3) := by decide +kernel
theorem dX3_climb_28 : decode cX3_climb 28 = .ok (.iload 4, 2) := by decide +kernel
theorem dX3_climb_30 : decode cX3_climb 30 = .ok (.dup2, 1) := by decide +kernel
theorem dX3_climb_31 : decode cX3_climb 31 = .ok (.iaload, 1) := by decide +kernel
theorem dX3_climb_32 : decode cX3_climb 32 = .ok (.iload_n 2, 1) := by decide +kernel
theorem dX3_climb_33 : decode cX3_climb 33 = .ok (.iadd, 1) := by decide +kernel
theorem dX3_climb_34 : decode cX3_climb 34 = .ok (.iastore, 1) := by decide +kernel
theorem dX3_climb_35 : decode cX3_climb 35 = .ok (.aload_n 0, 1) := by decide +kernel
theorem dX3_climb_36 : decode cX3_climb 36 = .ok (.getfield 22, 3) := by decide +kernel
theorem dX3_climb_39 : decode cX3_climb 39 = .ok (.iload 4, 2) := by decide +kernel
theorem dX3_climb_41 : decode cX3_climb 41 = .ok (.dup2, 1) := by decide +kernel
theorem dX3_climb_42 : decode cX3_climb 42 = .ok (.iaload, 1) := by decide +kernel
theorem dX3_climb_43 : decode cX3_climb 43 = .ok (.iload_n 3, 1) := by decide +kernel
theorem dX3_climb_44 : decode cX3_climb 44 = .ok (.ior, 1) := by decide +kernel
theorem dX3_climb_45 : decode cX3_climb 45 = .ok (.iastore, 1) := by decide +kernel
theorem dX3_climb_46 : decode cX3_climb 46 = .ok (.aload_n 0, 1) := by decide +kernel
theorem dX3_climb_47 : decode cX3_climb 47 = .ok (.getfield 15, 3) := by decide +kernel
theorem dX3_climb_50 : decode cX3_climb 50 = .ok (.iload 4, 2) := by decide +kernel
theorem dX3_climb_52 : decode cX3_climb 52 = .ok (.iaload, 1) := by decide +kernel
theorem dX3_climb_53 : decode cX3_climb 53 = .ok (.istore 4, 2) := by decide +kernel
theorem dX3_climb_55 : decode cX3_climb 55 = .ok (.iinc 5 1, 3) := by decide +kernel
theorem dX3_climb_58 : decode cX3_climb 58 = .ok (.goto (-52), 3) := by decide +kernel
theorem dX3_climb_61 : decode cX3_climb 61 = .ok (.return_, 1) := by decide +kernel
theorem dX3_raised_0 : decode cX3_raised 0 = .ok (.iload_n 1, 1) := by decide +kernel
theorem dX3_raised_1 : decode cX3_raised 1 = .ok (.istore_n 3, 1) := by decide +kernel
theorem dX3_raised_2 : decode cX3_raised 2 = .ok (.iconst 0, 1) := by decide +kernel
theorem dX3_raised_3 : decode cX3_raised 3 = .ok (.istore 4, 2) := by decide +kernel
theorem dX3_raised_5 : decode cX3_raised 5 = .ok (.iload 4, 2) := by decide +kernel
theorem dX3_raised_7 : decode cX3_raised 7 = .ok (.iload_n 2, 1) := by decide +kernel
theorem dX3_raised_8 : decode cX3_raised 8 = .ok (.if_icmp .ge 41, 3) := by decide +kernel
theorem dX3_raised_11 : decode cX3_raised 11 = .ok (.iload_n 3, 1) := by decide +kernel
theorem dX3_raised_12 : decode cX3_raised 12 = .ok (.iconst 0, 1) := by decide +kernel
theorem dX3_raised_13 : decode cX3_raised 13 = .ok (.bipush 31, 2) := by decide +kernel
theorem dX3_raised_15 : decode cX3_raised 15 = .ok (.invokestatic 31, 3) := by decide +kernel
theorem dX3_raised_18 : decode cX3_raised 18 = .ok (.ifCond .eq 31, 3) := by decide +kernel
theorem dX3_raised_21 : decode cX3_raised 21 = .ok (.aload_n 0, 1) := by decide +kernel
theorem dX3_raised_22 : decode cX3_raised 22 = .ok (.getfield 15, 3) := by decide +kernel
theorem dX3_raised_25 : decode cX3_raised 25 = .ok (.iload_n 3, 1) := by decide +kernel
theorem dX3_raised_26 : decode cX3_raised 26 = .ok (.iaload, 1) := by decide +kernel
theorem dX3_raised_27 : decode cX3_raised 27 = .ok (.iconst (-1), 1) := by decide +kernel
theorem dX3_raised_28 : decode cX3_raised 28 = .ok (.if_icmp .ne 8, 3) := by decide +kernel
theorem dX3_raised_31 : decode cX3_raised 31 = .ok (.bipush 32, 2) := by decide +kernel
theorem dX3_raised_33 : decode cX3_raised 33 = .ok (.goto 9, 3) := by decide +kernel
theorem dX3_raised_36 : decode cX3_raised 36 = .ok (.aload_n 0, 1) := by decide +kernel
theorem dX3_raised_37 : decode cX3_raised 37 = .ok (.getfield 15, 3) := by decide +kernel
theorem dX3_raised_40 : decode cX3_raised 40 = .ok (.iload_n 3, 1) := by decide +kernel
theorem dX3_raised_41 : decode cX3_raised 41 = .ok (.iaload, 1) := by decide +kernel
theorem dX3_raised_42 : decode cX3_raised 42 = .ok (.istore_n 3, 1) := by decide +kernel
theorem dX3_raised_43 : decode cX3_raised 43 = .ok (.iinc 4 1, 3) := by decide +kernel
theorem dX3_raised_46 : decode cX3_raised 46 = .ok (.goto (-41), 3) := by decide +kernel
theorem dX3_raised_49 : decode cX3_raised 49 = .ok (.iload_n 3, 1) := by decide +kernel
theorem dX3_raised_50 : decode cX3_raised 50 = .ok (.ireturn, 1) := by decide +kernel
theorem dX3_valueOf_0 : decode cX3_valueOf 0 = .ok (.iload_n 1, 1) := by decide +kernel
theorem dX3_valueOf_1 : decode cX3_valueOf 1 = .ok (.ifCond .lt 18, 3) := by decide +kernel
theorem dX3_valueOf_4 : decode cX3_valueOf 4 = .ok (.iload_n 1, 1) := by decide +kernel
theorem dX3_valueOf_5 : decode cX3_valueOf 5 = .ok (.bipush 16, 2) := by decide +kernel
theorem dX3_valueOf_7 : decode cX3_valueOf 7 = .ok (.if_icmp .ge 12, 3) := by decide +kernel
theorem dX3_valueOf_10 : decode cX3_valueOf 10 = .ok (.aload_n 0, 1) := by decide +kernel
theorem dX3_valueOf_11 : decode cX3_valueOf 11 = .ok (.getfield 25, 3) := by decide +kernel
theorem dX3_valueOf_14 : decode cX3_valueOf 14 = .ok (.iload_n 1, 1) := by decide +kernel
theorem dX3_valueOf_15 : decode cX3_valueOf 15 = .ok (.iaload, 1) := by decide +kernel
theorem dX3_valueOf_16 : decode cX3_valueOf 16 = .ok (.goto 4, 3) := by decide +kernel
theorem dX3_valueOf_19 : decode cX3_valueOf 19 = .ok (.iconst 0, 1) := by decide +kernel
theorem dX3_valueOf_20 : decode cX3_valueOf 20 = .ok (.ireturn, 1) := by decide +kernel
theorem dX3_whoBelow_0 : decode cX3_whoBelow 0 = .ok (.iload_n 1, 1) := by decide +kernel
theorem dX3_whoBelow_1 : decode cX3_whoBelow 1 = .ok (.ifCond .lt 18, 3) := by decide +kernel
theorem dX3_whoBelow_4 : decode cX3_whoBelow 4 = .ok (.iload_n 1, 1) := by decide +kernel
theorem dX3_whoBelow_5 : decode cX3_whoBelow 5 = .ok (.bipush 32, 2) := by decide +kernel
theorem dX3_whoBelow_7 : decode cX3_whoBelow 7 = .ok (.if_icmp .gt 12, 3) := by decide +kernel
theorem dX3_whoBelow_10 : decode cX3_whoBelow 10 = .ok (.aload_n 0, 1) := by decide +kernel
theorem dX3_whoBelow_11 : decode cX3_whoBelow 11 = .ok (.getfield 22, 3) := by decide +kernel
theorem dX3_whoBelow_14 : decode cX3_whoBelow 14 = .ok (.iload_n 1, 1) := by decide +kernel
theorem dX3_whoBelow_15 : decode cX3_whoBelow 15 = .ok (.iaload, 1) := by decide +kernel
theorem dX3_whoBelow_16 : decode cX3_whoBelow 16 = .ok (.goto 4, 3) := by decide +kernel
theorem dX3_whoBelow_19 : decode cX3_whoBelow 19 = .ok (.iconst 0, 1) := by decide +kernel
theorem dX3_whoBelow_20 : decode cX3_whoBelow 20 = .ok (.ireturn, 1) := by decide +kernel
theorem dX3_valuesBelow_0 : decode cX3_valuesBelow 0 = .ok (.iload_n 1, 1) := by decide +kernel
theorem dX3_valuesBelow_1 : decode cX3_valuesBelow 1 = .ok (.ifCond .lt 18, 3) := by decide +kernel
theorem dX3_valuesBelow_4 : decode cX3_valuesBelow 4 = .ok (.iload_n 1, 1) := by decide +kernel
theorem dX3_valuesBelow_5 : decode cX3_valuesBelow 5 = .ok (.bipush 32, 2) := by decide +kernel
theorem dX3_valuesBelow_7 : decode cX3_valuesBelow 7 = .ok (.if_icmp .gt 12, 3) := by decide +kernel
theorem dX3_valuesBelow_10 : decode cX3_valuesBelow 10 = .ok (.aload_n 0, 1) := by decide +kernel
theorem dX3_valuesBelow_11 : decode cX3_valuesBelow 11 = .ok (.getfield 19, 3) := by decide +kernel
theorem dX3_valuesBelow_14 : decode cX3_valuesBelow 14 = .ok (.iload_n 1, 1) := by decide +kernel
theorem dX3_valuesBelow_15 : decode cX3_valuesBelow 15 = .ok (.iaload, 1) := by decide +kernel
theorem dX3_valuesBelow_16 : decode cX3_valuesBelow 16 = .ok (.goto 4, 3) := by decide +kernel
theorem dX3_valuesBelow_19 : decode cX3_valuesBelow 19 = .ok (.iconst 0, 1) := by decide +kernel
theorem dX3_valuesBelow_20 : decode cX3_valuesBelow 20 = .ok (.ireturn, 1) := by decide +kernel
theorem dX3_lossOf_0 : decode cX3_lossOf 0 = .ok (.aload_n 0, 1) := by decide +kernel
theorem dX3_lossOf_1 : decode cX3_lossOf 1 = .ok (.getfield 9, 3) := by decide +kernel
theorem dX3_lossOf_4 : decode cX3_lossOf 4 = .ok (.aload_n 0, 1) := by decide +kernel
theorem dX3_lossOf_5 : decode cX3_lossOf 5 = .ok (.iload_n 1, 1) := by decide +kernel
theorem dX3_lossOf_6 : decode cX3_lossOf 6 = .ok (.invokevirtual 43, 3) := by decide +kernel
theorem dX3_lossOf_9 : decode cX3_lossOf 9 = .ok (.iconst 1, 1) := by decide +kernel
theorem dX3_lossOf_10 : decode cX3_lossOf 10 = .ok (.isub, 1) := by decide +kernel
theorem dX3_lossOf_11 : decode cX3_lossOf 11 = .ok (.iconst 0, 1) := by decide +kernel
theorem dX3_lossOf_12 : decode cX3_lossOf 12 = .ok (.invokestatic 47, 3) := by decide +kernel
theorem dX3_lossOf_15 : decode cX3_lossOf 15 = .ok (.imul, 1) := by decide +kernel
theorem dX3_lossOf_16 : decode cX3_lossOf 16 = .ok (.ireturn, 1) := by decide +kernel
theorem dX4_write_0 : decode cX4_write 0 = .ok (.aload_n 0, 1) := by decide +kernel
theorem dX4_write_1 : decode cX4_write 1 = .ok (.iconst 0, 1) := by decide +kernel
theorem dX4_write_2 : decode cX4_write 2 = .ok (.putfield 9, 3) := by decide +kernel
theorem dX4_write_5 : decode cX4_write 5 = .ok (.aload_n 0, 1) := by decide +kernel
theorem dX4_write_6 : decode cX4_write 6 = .ok (.iload_n 2, 1) := by decide +kernel
theorem dX4_write_7 : decode cX4_write 7 = .ok (.bipush 100, 2) := by decide +kernel
theorem dX4_write_9 : decode cX4_write 9 = .ok (.invokestatic 47, 3) := by decide +kernel
theorem dX4_write_12 : decode cX4_write 12 = .ok (.putfield 38, 3) := by decide +kernel
theorem dX4_write_15 : decode cX4_write 15 = .ok (.iconst 0, 1) := by decide +kernel
theorem dX4_write_16 : decode cX4_write 16 = .ok (.istore_n 3, 1) := by decide +kernel
theorem dX4_write_17 : decode cX4_write 17 = .ok (.iload_n 3, 1) := by decide +kernel
theorem dX4_write_18 : decode cX4_write 18 = .ok (.aload_n 0, 1) := by decide +kernel
theorem dX4_write_19 : decode cX4_write 19 = .ok (.getfield 38, 3) := by decide +kernel
theorem dX4_write_22 : decode cX4_write 22 = .ok (.if_icmp .ge 20, 3) := by decide +kernel
theorem dX4_write_25 : decode cX4_write 25 = .ok (.aload_n 0, 1) := by decide +kernel
theorem dX4_write_26 : decode cX4_write 26 = .ok (.getfield 35, 3) := by decide +kernel
theorem dX4_write_29 : decode cX4_write 29 = .ok (.iload_n 3, 1) := by decide +kernel
theorem dX4_write_30 : decode cX4_write 30 = .ok (.aload_n 1, 1) := by decide +kernel
theorem dX4_write_31 : decode cX4_write 31 = .ok (.iload_n 3, 1) := by decide +kernel
theorem dX4_write_32 : decode cX4_write 32 = .ok (.invokevirtual 53, 3) := by decide +kernel
theorem dX4_write_35 : decode cX4_write 35 = .ok (.iastore, 1) := by decide +kernel
theorem dX4_write_36 : decode cX4_write 36 = .ok (.iinc 3 1, 3) := by decide +kernel
theorem dX4_write_39 : decode cX4_write 39 = .ok (.goto (-22), 3) := by decide +kernel
theorem dX4_write_42 : decode cX4_write 42 = .ok (.return_, 1) := by decide +kernel
theorem dX4_read_0 : decode cX4_read 0 = .ok (.aload_n 0, 1) := by decide +kernel
theorem dX4_read_1 : decode cX4_read 1 = .ok (.invokevirtual 59, 3) := by decide +kernel
theorem dX4_read_4 : decode cX4_read 4 = .ok (.aload_n 0, 1) := by decide +kernel
theorem dX4_read_5 : decode cX4_read 5 = .ok (.iconst 0, 1) := by decide +kernel
theorem dX4_read_6 : decode cX4_read 6 = .ok (.iconst 0, 1) := by decide +kernel
theorem dX4_read_7 : decode cX4_read 7 = .ok (.invokevirtual 62, 3) := by decide +kernel
theorem dX4_read_10 : decode cX4_read 10 = .ok (.pop, 1) := by decide +kernel
theorem dX4_read_11 : decode cX4_read 11 = .ok (.aload_n 0, 1) := by decide +kernel
theorem dX4_read_12 : decode cX4_read 12 = .ok (.getfield 41, 3) := by decide +kernel
theorem dX4_read_15 : decode cX4_read 15 = .ok (.aload_n 0, 1) := by decide +kernel
theorem dX4_read_16 : decode cX4_read 16 = .ok (.getfield 38, 3) := by decide +kernel
theorem dX4_read_19 : decode cX4_read 19 = .ok (.if_icmp .ge 8, 3) := by decide +kernel
theorem dX4_read_22 : decode cX4_read 22 = .ok (.aload_n 0, 1) := by decide +kernel
theorem dX4_read_23 : decode cX4_read 23 = .ok (.iconst 1, 1) := by decide +kernel
theorem dX4_read_24 : decode cX4_read 24 = .ok (.invokevirtual 66, 3) := by decide +kernel
theorem dX4_read_27 : decode cX4_read 27 = .ok (.return_, 1) := by decide +kernel
theorem dX4_tellOf_0 : decode cX4_tellOf 0 = .ok (.aload_n 0, 1) := by decide +kernel
theorem dX4_tellOf_1 : decode cX4_tellOf 1 = .ok (.iconst 1, 1) := by decide +kernel
theorem dX4_tellOf_2 : decode cX4_tellOf 2 = .ok (.putfield 9, 3) := by decide +kernel
theorem dX4_tellOf_5 : decode cX4_tellOf 5 = .ok (.aload_n 0, 1) := by decide +kernel
theorem dX4_tellOf_6 : decode cX4_tellOf 6 = .ok (.iload_n 1, 1) := by decide +kernel
theorem dX4_tellOf_7 : decode cX4_tellOf 7 = .ok (.putfield 15, 3) := by decide +kernel
theorem dX4_tellOf_10 : decode cX4_tellOf 10 = .ok (.aload_n 0, 1) := by decide +kernel
theorem dX4_tellOf_11 : decode cX4_tellOf 11 = .ok (.iload_n 2, 1) := by decide +kernel
theorem dX4_tellOf_12 : decode cX4_tellOf 12 = .ok (.putfield 28, 3) := by decide +kernel
theorem dX4_tellOf_15 : decode cX4_tellOf 15 = .ok (.aload_n 0, 1) := by decide +kernel
theorem dX4_tellOf_16 : decode cX4_tellOf 16 = .ok (.iconst 0, 1) := by decide +kernel
theorem dX4_tellOf_17 : decode cX4_tellOf 17 = .ok (.putfield 19, 3) := by decide +kernel
theorem dX4_tellOf_20 : decode cX4_tellOf 20 = .ok (.return_, 1) := by decide +kernel
theorem dX4_isOf_0 : decode cX4_isOf 0 = .ok (.aload_n 0, 1) := by decide +kernel
theorem dX4_isOf_1 : decode cX4_isOf 1 = .ok (.getfield 9, 3) := by decide +kernel
theorem dX4_isOf_4 : decode cX4_isOf 4 = .ok (.ifCond .eq 23, 3) := by decide +kernel
theorem dX4_isOf_7 : decode cX4_isOf 7 = .ok (.aload_n 0, 1) := by decide +kernel
theorem dX4_isOf_8 : decode cX4_isOf 8 = .ok (.getfield 15, 3) := by decide +kernel
theorem dX4_isOf_11 : decode cX4_isOf 11 = .ok (.iload_n 1, 1) := by decide +kernel
theorem dX4_isOf_12 : decode cX4_isOf 12 = .ok (.if_icmp .ne 15, 3) := by decide +kernel
theorem dX4_isOf_15 : decode cX4_isOf 15 = .ok (.aload_n 0, 1) := by decide +kernel
theorem dX4_isOf_16 : decode cX4_isOf 16 = .ok (.getfield 28, 3) := by decide +kernel
theorem dX4_isOf_19 : decode cX4_isOf 19 = .ok (.iload_n 2, 1) := by decide +kernel
theorem dX4_isOf_20 : decode cX4_isOf 20 = .ok (.if_icmp .ne 7, 3) := by decide +kernel
theorem dX4_isOf_23 : decode cX4_isOf 23 = .ok (.iconst 1, 1) := by decide +kernel
theorem dX4_isOf_24 : decode cX4_isOf 24 = .ok (.goto 4, 3) := by decide +kernel
theorem dX4_isOf_27 : decode cX4_isOf 27 = .ok (.iconst 0, 1) := by decide +kernel
theorem dX4_isOf_28 : decode cX4_isOf 28 = .ok (.ireturn, 1) := by decide +kernel
theorem dX4_judge_0 : decode cX4_judge 0 = .ok (.iconst 0, 1) := by decide +kernel
theorem dX4_judge_1 : decode cX4_judge 1 = .ok (.istore_n 2, 1) := by decide +kernel
theorem dX4_judge_2 : decode cX4_judge 2 = .ok (.iload_n 2, 1) := by decide +kernel
theorem dX4_judge_3 : decode cX4_judge 3 = .ok (.aload_n 0, 1) := by decide +kernel
theorem dX4_judge_4 : decode cX4_judge 4 = .ok (.getfield 31, 3) := by decide +kernel
theorem dX4_judge_7 : decode cX4_judge 7 = .ok (.arraylength, 1) := by decide +kernel
theorem dX4_judge_8 : decode cX4_judge 8 = .ok (.if_icmp .ge 24, 3) := by decide +kernel
theorem dX4_judge_11 : decode cX4_judge 11 = .ok (.iload_n 2, 1) := by decide +kernel
theorem dX4_judge_12 : decode cX4_judge 12 = .ok (.aload_n 1, 1) := by decide +kernel
theorem dX4_judge_13 : decode cX4_judge 13 = .ok (.arraylength, 1) := by decide +kernel
theorem dX4_judge_14 : decode cX4_judge 14 = .ok (.if_icmp .ge 18, 3) := by decide +kernel
theorem dX4_judge_17 : decode cX4_judge 17 = .ok (.aload_n 0, 1) := by decide +kernel
theorem dX4_judge_18 : decode cX4_judge 18 = .ok (.getfield 31, 3) := by decide +kernel
theorem dX4_judge_21 : decode cX4_judge 21 = .ok (.iload_n 2, 1) := by decide +kernel
theorem dX4_judge_22 : decode cX4_judge 22 = .ok (.aload_n 1, 1) := by decide +kernel
theorem dX4_judge_23 : decode cX4_judge 23 = .ok (.iload_n 2, 1) := by decide +kernel
theorem dX4_judge_24 : decode cX4_judge 24 = .ok (.iaload, 1) := by decide +kernel
theorem dX4_judge_25 : decode cX4_judge 25 = .ok (.iastore, 1) := by decide +kernel
theorem dX4_judge_26 : decode cX4_judge 26 = .ok (.iinc 2 1, 3) := by decide +kernel
theorem dX4_judge_29 : decode cX4_judge 29 = .ok (.goto (-27), 3) := by decide +kernel
theorem dX4_judge_32 : decode cX4_judge 32 = .ok (.aload_n 0, 1) := by decide +kernel
theorem dX4_judge_33 : decode cX4_judge 33 = .ok (.getfield 31, 3) := by decide +kernel
theorem dX4_judge_36 : decode cX4_judge 36 = .ok (.bipush 6, 2) := by decide +kernel
theorem dX4_judge_38 : decode cX4_judge 38 = .ok (.aload_n 0, 1) := by decide +kernel
theorem dX4_judge_39 : decode cX4_judge 39 = .ok (.getfield 28, 3) := by decide +kernel
theorem dX4_judge_42 : decode cX4_judge 42 = .ok (.iastore, 1) := by decide +kernel
theorem dX4_judge_43 : decode cX4_judge 43 = .ok (.aload_n 0, 1) := by decide +kernel
theorem dX4_judge_44 : decode cX4_judge 44 = .ok (.invokevirtual 59, 3) := by decide +kernel
theorem dX4_judge_47 : decode cX4_judge 47 = .ok (.aload_n 0, 1) := by decide +kernel
theorem dX4_judge_48 : decode cX4_judge 48 = .ok (.iconst 0, 1) := by decide +kernel
theorem dX4_judge_49 : decode cX4_judge 49 = .ok (.iconst 1, 1) := by decide +kernel
theorem dX4_judge_50 : decode cX4_judge 50 = .ok (.invokevirtual 62, 3) := by decide +kernel
theorem dX4_judge_53 : decode cX4_judge 53 = .ok (.ifCond .eq 14, 3) := by decide +kernel
theorem dX4_judge_56 : decode cX4_judge 56 = .ok (.aload_n 0, 1) := by decide +kernel
theorem dX4_judge_57 : decode cX4_judge 57 = .ok (.getfield 44, 3) := by decide +kernel
theorem dX4_judge_60 : decode cX4_judge 60 = .ok (.ifCond .ne 7, 3) := by decide +kernel
theorem dX4_judge_63 : decode cX4_judge 63 = .ok (.iconst 1, 1) := by decide +kernel
theorem dX4_judge_64 : decode cX4_judge 64 = .ok (.goto 4, 3) := by decide +kernel
theorem dX4_judge_67 : decode cX4_judge 67 = .ok (.iconst 0, 1) := by decide +kernel
theorem dX4_judge_68 : decode cX4_judge 68 = .ok (.istore_n 2, 1) := by decide +kernel
theorem dX4_judge_69 : decode cX4_judge 69 = .ok (.aload_n 0, 1) := by decide +kernel
theorem dX4_judge_70 : decode cX4_judge 70 = .ok (.iload_n 2, 1) := by decide +kernel
theorem dX4_judge_71 : decode cX4_judge 71 = .ok (.ifCond .eq 19, 3) := by decide +kernel
theorem dX4_judge_74 : decode cX4_judge 74 = .ok (.aload_n 0, 1) := by decide +kernel
theorem dX4_judge_75 : decode cX4_judge 75 = .ok (.getfield 19, 3) := by decide +kernel
theorem dX4_judge_78 : decode cX4_judge 78 = .ok (.iconst 1, 1) := by decide +kernel
theorem dX4_judge_79 : decode cX4_judge 79 = .ok (.aload_n 0, 1) := by decide +kernel
theorem dX4_judge_80 : decode cX4_judge 80 = .ok (.getfield 31, 3) := by decide +kernel
theorem dX4_judge_83 : decode cX4_judge 83 = .ok (.iconst 4, 1) := by decide +kernel
theorem dX4_judge_84 : decode cX4_judge 84 = .ok (.iaload, 1) := by decide +kernel
theorem dX4_judge_85 : decode cX4_judge 85 = .ok (.ishl, 1) := by decide +kernel
theorem dX4_judge_86 : decode cX4_judge 86 = .ok (.ior, 1) := by decide +kernel
theorem dX4_judge_87 : decode cX4_judge 87 = .ok (.goto 18, 3) := by decide +kernel
theorem dX4_judge_90 : decode cX4_judge 90 = .ok (.aload_n 0, 1) := by decide +kernel
theorem dX4_judge_91 : decode cX4_judge 91 = .ok (.getfield 19, 3) := by decide +kernel
theorem dX4_judge_94 : decode cX4_judge 94 = .ok (.iconst 1, 1) := by decide +kernel
theorem dX4_judge_95 : decode cX4_judge 95 = .ok (.aload_n 0, 1) := by decide +kernel
theorem dX4_judge_96 : decode cX4_judge 96 = .ok (.getfield 31, 3) := by decide +kernel
theorem dX4_judge_99 : decode cX4_judge 99 = .ok (.iconst 4, 1) := by decide +kernel
theorem dX4_judge_100 : decode cX4_judge 100 = .ok (.iaload, 1) := by decide +kernel
theorem dX4_judge_101 : decode cX4_judge 101 = .ok (.ishl, 1) := by decide +kernel
theorem dX4_judge_102 : decode cX4_judge 102 = .ok (.iconst (-1), 1) := by decide +kernel
theorem dX4_judge_103 : decode cX4_judge 103 = .ok (.ixor, 1) := by decide +kernel
theorem dX4_judge_104 : decode cX4_judge 104 = .ok (.iand, 1) := by decide +kernel
theorem dX4_judge_105 : decode cX4_judge 105 = .ok (.putfield 19, 3) := by decide +kernel
theorem dX4_judge_108 : decode cX4_judge 108 = .ok (.return_, 1) := by decide +kernel
theorem dX4_start_0 : decode cX4_start 0 = .ok (.aload_n 0, 1) := by decide +kernel
theorem dX4_start_1 : decode cX4_start 1 = .ok (.iconst 0, 1) := by decide +kernel
theorem dX4_start_2 : decode cX4_start 2 = .ok (.putfield 41, 3) := by decide +kernel
theorem dX4_start_5 : decode cX4_start 5 = .ok (.aload_n 0, 1) := by decide +kernel
theorem dX4_start_6 : decode cX4_start 6 = .ok (.iconst 0, 1) := by decide +kernel
theorem dX4_start_7 : decode cX4_start 7 = .ok (.putfield 22, 3) := by decide +kernel
theorem dX4_start_10 : decode cX4_start 10 = .ok (.aload_n 0, 1) := by decide +kernel
theorem dX4_start_11 : decode cX4_start 11 = .ok (.iconst 0, 1) := by decide +kernel
theorem dX4_start_12 : decode cX4_start 12 = .ok (.putfield 44, 3) := by decide +kernel
theorem dX4_start_15 : decode cX4_start 15 = .ok (.return_, 1) := by decide +kernel
theorem dX4_next_0 : decode cX4_next 0 = .ok (.aload_n 0, 1) := by decide +kernel
theorem dX4_next_1 : decode cX4_next 1 = .ok (.getfield 22, 3) := by decide +kernel
theorem dX4_next_4 : decode cX4_next 4 = .ok (.ifCond .ne 35, 3) := by decide +kernel
theorem dX4_next_7 : decode cX4_next 7 = .ok (.aload_n 0, 1) := by decide +kernel
theorem dX4_next_8 : decode cX4_next 8 = .ok (.getfield 41, 3) := by decide +kernel
theorem dX4_next_11 : decode cX4_next 11 = .ok (.aload_n 0, 1) := by decide +kernel
theorem dX4_next_12 : decode cX4_next 12 = .ok (.getfield 38, 3) := by decide +kernel
theorem dX4_next_15 : decode cX4_next 15 = .ok (.if_icmp .ge 24, 3) := by decide +kernel
theorem dX4_next_18 : decode cX4_next 18 = .ok (.aload_n 0, 1) := by decide +kernel
theorem dX4_next_19 : decode cX4_next 19 = .ok (.getfield 41, 3) := by decide +kernel
theorem dX4_next_22 : decode cX4_next 22 = .ok (.bipush 100, 2) := by decide +kernel
theorem dX4_next_24 : decode cX4_next 24 = .ok (.if_icmp .ge 15, 3) := by decide +kernel
theorem dX4_next_27 : decode cX4_next 27 = .ok (.aload_n 0, 1) := by decide +kernel
theorem dX4_next_28 : decode cX4_next 28 = .ok (.getfield 35, 3) := by decide +kernel
theorem dX4_next_31 : decode cX4_next 31 = .ok (.aload_n 0, 1) := by decide +kernel
theorem dX4_next_32 : decode cX4_next 32 = .ok (.getfield 41, 3) := by decide +kernel
theorem dX4_next_35 : decode cX4_next 35 = .ok (.iaload, 1) := by decide +kernel
theorem dX4_next_36 : decode cX4_next 36 = .ok (.goto 4, 3) := by decide +kernel
theorem dX4_next_39 : decode cX4_next 39 = .ok (.iconst (-1), 1) := by decide +kernel
theorem dX4_next_40 : decode cX4_next 40 = .ok (.ireturn, 1) := by decide +kernel
theorem dX4_fail_0 : decode cX4_fail 0 = .ok (.aload_n 0, 1) := by decide +kernel
theorem dX4_fail_1 : decode cX4_fail 1 = .ok (.getfield 22, 3) := by decide +kernel
theorem dX4_fail_4 : decode cX4_fail 4 = .ok (.ifCond .ne 16, 3) := by decide +kernel
theorem dX4_fail_7 : decode cX4_fail 7 = .ok (.aload_n 0, 1) := by decide +kernel
theorem dX4_fail_8 : decode cX4_fail 8 = .ok (.iload_n 1, 1) := by decide +kernel
theorem dX4_fail_9 : decode cX4_fail 9 = .ok (.putfield 22, 3) := by decide +kernel
theorem dX4_fail_12 : decode cX4_fail 12 = .ok (.aload_n 0, 1) := by decide +kernel
theorem dX4_fail_13 : decode cX4_fail 13 = .ok (.aload_n 0, 1) := by decide +kernel
theorem dX4_fail_14 : decode cX4_fail 14 = .ok (.getfield 41, 3) := by decide +kernel
theorem dX4_fail_17 : decode cX4_fail 17 = .ok (.putfield 25, 3) := by decide +kernel
theorem dX4_fail_20 : decode cX4_fail 20 = .ok (.return_, 1) := by decide +kernel
theorem dX4_expect_0 : decode cX4_expect 0 = .ok (.aload_n 0, 1) := by decide +kernel
theorem dX4_expect_1 : decode cX4_expect 1 = .ok (.invokevirtual 70, 3) := by decide +kernel
theorem dX4_expect_4 : decode cX4_expect 4 = .ok (.iload_n 1, 1) := by decide +kernel
theorem dX4_expect_5 : decode cX4_expect 5 = .ok (.if_icmp .ne 16, 3) := by decide +kernel
theorem dX4_expect_8 : decode cX4_expect 8 = .ok (.aload_n 0, 1) := by decide +kernel
theorem dX4_expect_9 : decode cX4_expect 9 = .ok (.dup, 1) := by decide +kernel
theorem dX4_expect_10 : decode cX4_expect 10 = .ok (.getfield 41, 3) := by decide +kernel
theorem dX4_expect_13 : decode cX4_expect 13 = .ok (.iconst 1, 1) := by decide +kernel
theorem dX4_expect_14 : decode cX4_expect 14 = .ok (.iadd, 1) := by decide +kernel
theorem dX4_expect_15 : decode cX4_expect 15 = .ok (.putfield 41, 3) := by decide +kernel
theorem dX4_expect_18 : decode cX4_expect 18 = .ok (.goto 8, 3) := by decide +kernel
theorem dX4_expect_21 : decode cX4_expect 21 = .ok (.aload_n 0, 1) := by decide +kernel
theorem dX4_expect_22 : decode cX4_expect 22 = .ok (.iconst 1, 1) := by decide +kernel
theorem dX4_expect_23 : decode cX4_expect 23 = .ok (.invokevirtual 66, 3) := by decide +kernel
theorem dX4_expect_26 : decode cX4_expect 26 = .ok (.return_, 1) := by decide +kernel
theorem dX4_opens_0 : decode cX4_opens 0 = .ok (.iload_n 1, 1) := by decide +kernel
theorem dX4_opens_1 : decode cX4_opens 1 = .ok (.bipush 6, 2) := by decide +kernel
theorem dX4_opens_3 : decode cX4_opens 3 = .ok (.if_icmp .lt 10, 3) := by decide +kernel
theorem dX4_opens_6 : decode cX4_opens 6 = .ok (.aload_n 0, 1) := by decide +kernel
theorem dX4_opens_7 : decode cX4_opens 7 = .ok (.iconst 5, 1) := by decide +kernel
theorem dX4_opens_8 : decode cX4_opens 8 = .ok (.invokevirtual 66, 3) := by decide +kernel
theorem dX4_opens_11 : decode cX4_opens 11 = .ok (.iconst 0, 1) := by decide +kernel
theorem dX4_opens_12 : decode cX4_opens 12 = .ok (.ireturn, 1) := by decide +kernel
theorem dX4_opens_13 : decode cX4_opens 13 = .ok (.aload_n 0, 1) := by decide +kernel
theorem dX4_opens_14 : decode cX4_opens 14 = .ok (.dup, 1) := by decide +kernel
theorem dX4_opens_15 : decode cX4_opens 15 = .ok (.getfield 41, 3) := by decide +kernel
theorem dX4_opens_18 : decode cX4_opens 18 = .ok (.iconst 1, 1) := by decide +kernel
theorem dX4_opens_19 : decode cX4_opens 19 = .ok (.iadd, 1) := by decide +kernel
theorem dX4_opens_20 : decode cX4_opens 20 = .ok (.putfield 41, 3) := by decide +kernel
theorem dX4_opens_23 : decode cX4_opens 23 = .ok (.iconst 1, 1) := by decide +kernel
theorem dX4_opens_24 : decode cX4_opens 24 = .ok (.ireturn, 1) := by decide +kernel
theorem dX4_anyOf_0 : decode cX4_anyOf 0 = .ok (.aload_n 0, 1) := by decide +kernel
theorem dX4_anyOf_1 : decode cX4_anyOf 1 = .ok (.iload_n 1, 1) := by decide +kernel
theorem dX4_anyOf_2 : decode cX4_anyOf 2 = .ok (.iload_n 2, 1) := by decide +kernel
theorem dX4_anyOf_3 : decode cX4_anyOf 3 = .ok (.invokevirtual 74, 3) := by decide +kernel
theorem dX4_anyOf_6 : decode cX4_anyOf 6 = .ok (.istore_n 3, 1) := by decide +kernel
theorem dX4_anyOf_7 : decode cX4_anyOf 7 = .ok (.iconst 0, 1) := by decide +kernel
theorem dX4_anyOf_8 : decode cX4_anyOf 8 = .ok (.istore 4, 2) := by decide +kernel
theorem dX4_anyOf_10 : decode cX4_anyOf 10 = .ok (.iload 4, 2) := by decide +kernel
theorem dX4_anyOf_12 : decode cX4_anyOf 12 = .ok (.bipush 100, 2) := by decide +kernel
theorem dX4_anyOf_14 : decode cX4_anyOf 14 = .ok (.if_icmp .ge 63, 3) := by decide +kernel
theorem dX4_anyOf_17 : decode cX4_anyOf 17 = .ok (.aload_n 0, 1) := by decide +kernel
theorem dX4_anyOf_18 : decode cX4_anyOf 18 = .ok (.invokevirtual 70, 3) := by decide +kernel
theorem dX4_anyOf_21 : decode cX4_anyOf 21 = .ok (.bipush 124, 2) := by decide +kernel
theorem dX4_anyOf_23 : decode cX4_anyOf 23 = .ok (.if_icmp .ne 54, 3) := by decide +kernel
theorem dX4_anyOf_26 : decode cX4_anyOf 26 = .ok (.aload_n 0, 1) := by decide +kernel
theorem dX4_anyOf_27 : decode cX4_anyOf 27 = .ok (.dup, 1) := by decide +kernel
theorem dX4_anyOf_28 : decode cX4_anyOf 28 = .ok (.getfield 41, 3) := by decide +kernel
theorem dX4_anyOf_31 : decode cX4_anyOf 31 = .ok (.iconst 1, 1) := by decide +kernel
theorem dX4_anyOf_32 : decode cX4_anyOf 32 = .ok (.iadd, 1) := by decide +kernel
theorem dX4_anyOf_33 : decode cX4_anyOf 33 = .ok (.putfield 41, 3) := by decide +kernel
theorem dX4_anyOf_36 : decode cX4_anyOf 36 = .ok (.aload_n 0, 1) := by decide +kernel
theorem dX4_anyOf_37 : decode cX4_anyOf 37 = .ok (.iload_n 1, 1) := by decide +kernel
theorem dX4_anyOf_38 : decode cX4_anyOf 38 = .ok (.iload_n 2, 1) := by decide +kernel
theorem dX4_anyOf_39 : decode cX4_anyOf 39 = .ok (.ifCond .eq 11, 3) := by decide +kernel
theorem dX4_anyOf_42 : decode cX4_anyOf 42 = .ok (.iload_n 3, 1) := by decide +kernel
theorem dX4_anyOf_43 : decode cX4_anyOf 43 = .ok (.ifCond .ne 7, 3) := by decide +kernel
theorem dX4_anyOf_46 : decode cX4_anyOf 46 = .ok (.iconst 1, 1) := by decide +kernel
theorem dX4_anyOf_47 : decode cX4_anyOf 47 = .ok (.goto 4, 3) := by decide +kernel
theorem dX4_anyOf_50 : decode cX4_anyOf 50 = .ok (.iconst 0, 1) := by decide +kernel
theorem dX4_anyOf_51 : decode cX4_anyOf 51 = .ok (.invokevirtual 74, 3) := by decide +kernel
theorem dX4_anyOf_54 : decode cX4_anyOf 54 = .ok (.istore 5, 2) := by decide +kernel
theorem dX4_anyOf_56 : decode cX4_anyOf 56 = .ok (.iload_n 3, 1) := by decide +kernel
theorem dX4_anyOf_57 : decode cX4_anyOf 57 = .ok (.ifCond .ne 8, 3) := by decide +kernel
theorem dX4_anyOf_60 : decode cX4_anyOf 60 = .ok (.iload 5, 2) := by decide +kernel
theorem dX4_anyOf_62 : decode cX4_anyOf 62 = .ok (.ifCond .eq 7, 3) := by decide +kernel
theorem dX4_anyOf_65 : decode cX4_anyOf 65 = .ok (.iconst 1, 1) := by decide +kernel
theorem dX4_anyOf_66 : decode cX4_anyOf 66 = .ok (.goto 4, 3) := by decide +kernel
theorem dX4_anyOf_69 : decode cX4_anyOf 69 = .ok (.iconst 0, 1) := by decide +kernel
theorem dX4_anyOf_70 : decode cX4_anyOf 70 = .ok (.istore_n 3, 1) := by decide +kernel
theorem dX4_anyOf_71 : decode cX4_anyOf 71 = .ok (.iinc 4 1, 3) := by decide +kernel
theorem dX4_anyOf_74 : decode cX4_anyOf 74 = .ok (.goto (-64), 3) := by decide +kernel
theorem dX4_anyOf_77 : decode cX4_anyOf 77 = .ok (.iload_n 3, 1) := by decide +kernel
theorem dX4_anyOf_78 : decode cX4_anyOf 78 = .ok (.ireturn, 1) := by decide +kernel
theorem dX4_allOf_0 : decode cX4_allOf 0 = .ok (.aload_n 0, 1) := by decide +kernel
theorem dX4_allOf_1 : decode cX4_allOf 1 = .ok (.iload_n 1, 1) := by decide +kernel
theorem dX4_allOf_2 : decode cX4_allOf 2 = .ok (.iload_n 2, 1) := by decide +kernel
theorem dX4_allOf_3 : decode cX4_allOf 3 = .ok (.invokevirtual 77, 3) := by decide +kernel
theorem dX4_allOf_6 : decode cX4_allOf 6 = .ok (.istore_n 3, 1) := by decide +kernel
theorem dX4_allOf_7 : decode cX4_allOf 7 = .ok (.iconst 0, 1) := by decide +kernel
theorem dX4_allOf_8 : decode cX4_allOf 8 = .ok (.istore 4, 2) := by decide +kernel
theorem dX4_allOf_10 : decode cX4_allOf 10 = .ok (.iload 4, 2) := by decide +kernel
theorem dX4_allOf_12 : decode cX4_allOf 12 = .ok (.bipush 100, 2) := by decide +kernel
theorem dX4_allOf_14 : decode cX4_allOf 14 = .ok (.if_icmp .ge 63, 3) := by decide +kernel
theorem dX4_allOf_17 : decode cX4_allOf 17 = .ok (.aload_n 0, 1) := by decide +kernel
theorem dX4_allOf_18 : decode cX4_allOf 18 = .ok (.invokevirtual 70, 3) := by decide +kernel
theorem dX4_allOf_21 : decode cX4_allOf 21 = .ok (.bipush 38, 2) := by decide +kernel
theorem dX4_allOf_23 : decode cX4_allOf 23 = .ok (.if_icmp .ne 54, 3) := by decide +kernel
theorem dX4_allOf_26 : decode cX4_allOf 26 = .ok (.aload_n 0, 1) := by decide +kernel
theorem dX4_allOf_27 : decode cX4_allOf 27 = .ok (.dup, 1) := by decide +kernel
theorem dX4_allOf_28 : decode cX4_allOf 28 = .ok (.getfield 41, 3) := by decide +kernel
theorem dX4_allOf_31 : decode cX4_allOf 31 = .ok (.iconst 1, 1) := by decide +kernel
theorem dX4_allOf_32 : decode cX4_allOf 32 = .ok (.iadd, 1) := by decide +kernel
theorem dX4_allOf_33 : decode cX4_allOf 33 = .ok (.putfield 41, 3) := by decide +kernel
theorem dX4_allOf_36 : decode cX4_allOf 36 = .ok (.aload_n 0, 1) := by decide +kernel
theorem dX4_allOf_37 : decode cX4_allOf 37 = .ok (.iload_n 1, 1) := by decide +kernel
theorem dX4_allOf_38 : decode cX4_allOf 38 = .ok (.iload_n 2, 1) := by decide +kernel
theorem dX4_allOf_39 : decode cX4_allOf 39 = .ok (.ifCond .eq 11, 3) := by decide +kernel
theorem dX4_allOf_42 : decode cX4_allOf 42 = .ok (.iload_n 3, 1) := by decide +kernel
theorem dX4_allOf_43 : decode cX4_allOf 43 = .ok (.ifCond .eq 7, 3) := by decide +kernel
theorem dX4_allOf_46 : decode cX4_allOf 46 = .ok (.iconst 1, 1) := by decide +kernel
theorem dX4_allOf_47 : decode cX4_allOf 47 = .ok (.goto 4, 3) := by decide +kernel
theorem dX4_allOf_50 : decode cX4_allOf 50 = .ok (.iconst 0, 1) := by decide +kernel
theorem dX4_allOf_51 : decode cX4_allOf 51 = .ok (.invokevirtual 77, 3) := by decide +kernel
theorem dX4_allOf_54 : decode cX4_allOf 54 = .ok (.istore 5, 2) := by decide +kernel
theorem dX4_allOf_56 : decode cX4_allOf 56 = .ok (.iload_n 3, 1) := by decide +kernel
theorem dX4_allOf_57 : decode cX4_allOf 57 = .ok (.ifCond .eq 12, 3) := by decide +kernel
theorem dX4_allOf_60 : decode cX4_allOf 60 = .ok (.iload 5, 2) := by decide +kernel
theorem dX4_allOf_62 : decode cX4_allOf 62 = .ok (.ifCond .eq 7, 3) := by decide +kernel
theorem dX4_allOf_65 : decode cX4_allOf 65 = .ok (.iconst 1, 1) := by decide +kernel
theorem dX4_allOf_66 : decode cX4_allOf 66 = .ok (.goto 4, 3) := by decide +kernel
theorem dX4_allOf_69 : decode cX4_allOf 69 = .ok (.iconst 0, 1) := by decide +kernel
theorem dX4_allOf_70 : decode cX4_allOf 70 = .ok (.istore_n 3, 1) := by decide +kernel
theorem dX4_allOf_71 : decode cX4_allOf 71 = .ok (.iinc 4 1, 3) := by decide +kernel
theorem dX4_allOf_74 : decode cX4_allOf 74 = .ok (.goto (-64), 3) := by decide +kernel
theorem dX4_allOf_77 : decode cX4_allOf 77 = .ok (.iload_n 3, 1) := by decide +kernel
theorem dX4_allOf_78 : decode cX4_allOf 78 = .ok (.ireturn, 1) := by decide +kernel
theorem dX4_piece_0 : decode cX4_piece 0 = .ok (.aload_n 0, 1) := by decide +kernel
theorem dX4_piece_1 : decode cX4_piece 1 = .ok (.invokevirtual 70, 3) := by decide +kernel
theorem dX4_piece_4 : decode cX4_piece 4 = .ok (.bipush 33, 2) := by decide +kernel
theorem dX4_piece_6 : decode cX4_piece 6 = .ok (.if_icmp .ne 28, 3) := by decide +kernel
theorem dX4_piece_9 : decode cX4_piece 9 = .ok (.aload_n 0, 1) := by decide +kernel
theorem dX4_piece_10 : decode cX4_piece 10 = .ok (.iload_n 1, 1) := by decide +kernel
theorem dX4_piece_11 : decode cX4_piece 11 = .ok (.invokevirtual 80, 3) := by decide +kernel
theorem dX4_piece_14 : decode cX4_piece 14 = .ok (.ifCond .eq 18, 3) := by decide +kernel
theorem dX4_piece_17 : decode cX4_piece 17 = .ok (.aload_n 0, 1) := by decide +kernel
theorem dX4_piece_18 : decode cX4_piece 18 = .ok (.iload_n 1, 1) := by decide +kernel
theorem dX4_piece_19 : decode cX4_piece 19 = .ok (.iconst 1, 1) := by decide +kernel
theorem dX4_piece_20 : decode cX4_piece 20 = .ok (.iadd, 1) := by decide +kernel
theorem dX4_piece_21 : decode cX4_piece 21 = .ok (.iload_n 2, 1) := by decide +kernel
theorem dX4_piece_22 : decode cX4_piece 22 = .ok (.invokevirtual 77, 3) := by decide +kernel
theorem dX4_piece_25 : decode cX4_piece 25 = .ok (.ifCond .ne 7, 3) := by decide +kernel
theorem dX4_piece_28 : decode cX4_piece 28 = .ok (.iconst 1, 1) := by decide +kernel
theorem dX4_piece_29 : decode cX4_piece 29 = .ok (.goto 4, 3) := by decide +kernel
theorem dX4_piece_32 : decode cX4_piece 32 = .ok (.iconst 0, 1) := by decide +kernel
theorem dX4_piece_33 : decode cX4_piece 33 = .ok (.ireturn, 1) := by decide +kernel
theorem dX4_piece_34 : decode cX4_piece 34 = .ok (.aload_n 0, 1) := by decide +kernel
theorem dX4_piece_35 : decode cX4_piece 35 = .ok (.invokevirtual 70, 3) := by decide +kernel
theorem dX4_piece_38 : decode cX4_piece 38 = .ok (.bipush 40, 2) := by decide +kernel
theorem dX4_piece_40 : decode cX4_piece 40 = .ok (.if_icmp .ne 36, 3) := by decide +kernel
theorem dX4_piece_43 : decode cX4_piece 43 = .ok (.aload_n 0, 1) := by decide +kernel
theorem dX4_piece_44 : decode cX4_piece 44 = .ok (.iload_n 1, 1) := by decide +kernel
theorem dX4_piece_45 : decode cX4_piece 45 = .ok (.invokevirtual 80, 3) := by decide +kernel
theorem dX4_piece_48 : decode cX4_piece 48 = .ok (.ifCond .eq 18, 3) := by decide +kernel
theorem dX4_piece_51 : decode cX4_piece 51 = .ok (.aload_n 0, 1) := by decide +kernel
theorem dX4_piece_52 : decode cX4_piece 52 = .ok (.iload_n 1, 1) := by decide +kernel
theorem dX4_piece_53 : decode cX4_piece 53 = .ok (.iconst 1, 1) := by decide +kernel
theorem dX4_piece_54 : decode cX4_piece 54 = .ok (.iadd, 1) := by decide +kernel
theorem dX4_piece_55 : decode cX4_piece 55 = .ok (.iload_n 2, 1) := by decide +kernel
theorem dX4_piece_56 : decode cX4_piece 56 = .ok (.invokevirtual 62, 3) := by decide +kernel
theorem dX4_piece_59 : decode cX4_piece 59 = .ok (.ifCond .eq 7, 3) := by decide +kernel
theorem dX4_piece_62 : decode cX4_piece 62 = .ok (.iconst 1, 1) := by decide +kernel
theorem dX4_piece_63 : decode cX4_piece 63 = .ok (.goto 4, 3) := by decide +kernel
theorem dX4_piece_66 : decode cX4_piece 66 = .ok (.iconst 0, 1) := by decide +kernel
theorem dX4_piece_67 : decode cX4_piece 67 = .ok (.istore_n 3, 1) := by decide +kernel
theorem dX4_piece_68 : decode cX4_piece 68 = .ok (.aload_n 0, 1) := by decide +kernel
theorem dX4_piece_69 : decode cX4_piece 69 = .ok (.bipush 41, 2) := by decide +kernel
theorem dX4_piece_71 : decode cX4_piece 71 = .ok (.invokevirtual 84, 3) := by decide +kernel
theorem dX4_piece_74 : decode cX4_piece 74 = .ok (.iload_n 3, 1) := by decide +kernel
theorem dX4_piece_75 : decode cX4_piece 75 = .ok (.ireturn, 1) := by decide +kernel
theorem dX4_piece_76 : decode cX4_piece 76 = .ok (.aload_n 0, 1) := by decide +kernel
theorem dX4_piece_77 : decode cX4_piece 77 = .ok (.iload_n 1, 1) := by decide +kernel
theorem dX4_piece_78 : decode cX4_piece 78 = .ok (.iload_n 2, 1) := by decide +kernel
theorem dX4_piece_79 : decode cX4_piece 79 = .ok (.invokevirtual 87, 3) := by decide +kernel
theorem dX4_piece_82 : decode cX4_piece 82 = .ok (.istore_n 3, 1) := by decide +kernel
theorem dX4_piece_83 : decode cX4_piece 83 = .ok (.aload_n 0, 1) := by decide +kernel
theorem dX4_piece_84 : decode cX4_piece 84 = .ok (.invokevirtual 70, 3) := by decide +kernel
theorem dX4_piece_87 : decode cX4_piece 87 = .ok (.istore 4, 2) := by decide +kernel
theorem dX4_piece_89 : decode cX4_piece 89 = .ok (.iload 4, 2) := by decide +kernel
theorem dX4_piece_91 : decode cX4_piece 91 = .ok (.bipush 60, 2) := by decide +kernel
theorem dX4_piece_93 : decode cX4_piece 93 = .ok (.if_icmp .eq 24, 3) := by decide +kernel
theorem dX4_piece_96 : decode cX4_piece 96 = .ok (.iload 4, 2) := by decide +kernel
theorem dX4_piece_98 : decode cX4_piece 98 = .ok (.bipush 62, 2) := by decide +kernel
theorem dX4_piece_100 : decode cX4_piece 100 = .ok (.if_icmp .eq 17, 3) := by decide +kernel
theorem dX4_piece_103 : decode cX4_piece 103 = .ok (.iload 4, 2) := by decide +kernel
theorem dX4_piece_105 : decode cX4_piece 105 = .ok (.bipush 61, 2) := by decide +kernel
theorem dX4_piece_107 : decode cX4_piece 107 = .ok (.if_icmp .eq 10, 3) := by decide +kernel
theorem dX4_piece_110 : decode cX4_piece 110 = .ok (.aload_n 0, 1) := by decide +kernel
theorem dX4_piece_111 : decode cX4_piece 111 = .ok (.iconst 1, 1) := by decide +kernel
theorem dX4_piece_112 : decode cX4_piece 112 = .ok (.invokevirtual 66, 3) := by decide +kernel
theorem dX4_piece_115 : decode cX4_piece 115 = .ok (.iconst 0, 1) := by decide +kernel
theorem dX4_piece_116 : decode cX4_piece 116 = .ok (.ireturn, 1) := by decide +kernel
theorem dX4_piece_117 : decode cX4_piece 117 = .ok (.aload_n 0, 1) := by decide +kernel
theorem dX4_piece_118 : decode cX4_piece 118 = .ok (.dup, 1) := by decide +kernel
theorem dX4_piece_119 : decode cX4_piece 119 = .ok (.getfield 41, 3) := by decide +kernel
theorem dX4_piece_122 : decode cX4_piece 122 = .ok (.iconst 1, 1) := by decide +kernel
theorem dX4_piece_123 : decode cX4_piece 123 = .ok (.iadd, 1) := by decide +kernel
theorem dX4_piece_124 : decode cX4_piece 124 = .ok (.putfield 41, 3) := by decide +kernel
theorem dX4_piece_127 : decode cX4_piece 127 = .ok (.aload_n 0, 1) := by decide +kernel
theorem dX4_piece_128 : decode cX4_piece 128 = .ok (.iload_n 1, 1) := by decide +kernel
theorem dX4_piece_129 : decode cX4_piece 129 = .ok (.iload_n 2, 1) := by decide +kernel
theorem dX4_piece_130 : decode cX4_piece 130 = .ok (.invokevirtual 87, 3) := by decide +kernel
theorem dX4_piece_133 : decode cX4_piece 133 = .ok (.istore 5, 2) := by decide +kernel
theorem dX4_piece_135 : decode cX4_piece 135 = .ok (.iload 4, 2) := by decide +kernel
theorem dX4_piece_137 : decode cX4_piece 137 = .ok (.bipush 60, 2) := by decide +kernel
theorem dX4_piece_139 : decode cX4_piece 139 = .ok (.if_icmp .ne 17, 3) := by decide +kernel
theorem dX4_piece_142 : decode cX4_piece 142 = .ok (.iload_n 3, 1) := by decide +kernel
theorem dX4_piece_143 : decode cX4_piece 143 = .ok (.iload 5, 2) := by decide +kernel
theorem dX4_piece_145 : decode cX4_piece 145 = .ok (.if_icmp .ge 7, 3) := by decide +kernel
theorem dX4_piece_148 : decode cX4_piece 148 = .ok (.iconst 1, 1) := by decide +kernel
theorem dX4_piece_149 : decode cX4_piece 149 = .ok (.goto 39, 3) := by decide +kernel
theorem dX4_piece_152 : decode cX4_piece 152 = .ok (.iconst 0, 1) := by decide +kernel
theorem dX4_piece_153 : decode cX4_piece 153 = .ok (.goto 35, 3) := by decide +kernel
theorem dX4_piece_156 : decode cX4_piece 156 = .ok (.iload 4, 2) := by decide +kernel
theorem dX4_piece_158 : decode cX4_piece 158 = .ok (.bipush 62, 2) := by decide +kernel
theorem dX4_piece_160 : decode cX4_piece 160 = .ok (.if_icmp .ne 17, 3) := by decide +kernel
theorem dX4_piece_163 : decode cX4_piece 163 = .ok (.iload_n 3, 1) := by decide +kernel
theorem dX4_piece_164 : decode cX4_piece 164 = .ok (.iload 5, 2) := by decide +kernel
theorem dX4_piece_166 : decode cX4_piece 166 = .ok (.if_icmp .le 7, 3) := by decide +kernel
theorem dX4_piece_169 : decode cX4_piece 169 = .ok (.iconst 1, 1) := by decide +kernel
theorem dX4_piece_170 : decode cX4_piece 170 = .ok (.goto 18, 3) := by decide +kernel
theorem dX4_piece_173 : decode cX4_piece 173 = .ok (.iconst 0, 1) := by decide +kernel
theorem dX4_piece_174 : decode cX4_piece 174 = .ok (.goto 14, 3) := by decide +kernel
theorem dX4_piece_177 : decode cX4_piece 177 = .ok (.iload_n 3, 1) := by decide +kernel
theorem dX4_piece_178 : decode cX4_piece 178 = .ok (.iload 5, 2) := by decide +kernel
theorem dX4_piece_180 : decode cX4_piece 180 = .ok (.if_icmp .ne 7, 3) := by decide +kernel
theorem dX4_piece_183 : decode cX4_piece 183 = .ok (.iconst 1, 1) := by decide +kernel
theorem dX4_piece_184 : decode cX4_piece 184 = .ok (.goto 4, 3) := by decide +kernel
theorem dX4_piece_187 : decode cX4_piece 187 = .ok (.iconst 0, 1) := by decide +kernel
theorem dX4_piece_188 : decode cX4_piece 188 = .ok (.ireturn, 1) := by decide +kernel
theorem dX4_sum_0 : decode cX4_sum 0 = .ok (.aload_n 0, 1) := by decide +kernel
theorem dX4_sum_1 : decode cX4_sum 1 = .ok (.iload_n 1, 1) := by decide +kernel
theorem dX4_sum_2 : decode cX4_sum 2 = .ok (.iload_n 2, 1) := by decide +kernel
theorem dX4_sum_3 : decode cX4_sum 3 = .ok (.invokevirtual 91, 3) := by decide +kernel
theorem dX4_sum_6 : decode cX4_sum 6 = .ok (.istore_n 3, 1) := by decide +kernel
theorem dX4_sum_7 : decode cX4_sum 7 = .ok (.iconst 0, 1) := by decide +kernel
theorem dX4_sum_8 : decode cX4_sum 8 = .ok (.istore 4, 2) := by decide +kernel
theorem dX4_sum_10 : decode cX4_sum 10 = .ok (.iload 4, 2) := by decide +kernel
theorem dX4_sum_12 : decode cX4_sum 12 = .ok (.bipush 100, 2) := by decide +kernel
theorem dX4_sum_14 : decode cX4_sum 14 = .ok (.if_icmp .ge 70, 3) := by decide +kernel
theorem dX4_sum_17 : decode cX4_sum 17 = .ok (.aload_n 0, 1) := by decide +kernel
theorem dX4_sum_18 : decode cX4_sum 18 = .ok (.invokevirtual 70, 3) := by decide +kernel
theorem dX4_sum_21 : decode cX4_sum 21 = .ok (.bipush 43, 2) := by decide +kernel
theorem dX4_sum_23 : decode cX4_sum 23 = .ok (.if_icmp .eq 12, 3) := by decide +kernel
theorem dX4_sum_26 : decode cX4_sum 26 = .ok (.aload_n 0, 1) := by decide +kernel
theorem dX4_sum_27 : decode cX4_sum 27 = .ok (.invokevirtual 70, 3) := by decide +kernel
theorem dX4_sum_30 : decode cX4_sum 30 = .ok (.bipush 45, 2) := by decide +kernel
theorem dX4_sum_32 : decode cX4_sum 32 = .ok (.if_icmp .ne 52, 3) := by decide +kernel
theorem dX4_sum_35 : decode cX4_sum 35 = .ok (.aload_n 0, 1) := by decide +kernel
theorem dX4_sum_36 : decode cX4_sum 36 = .ok (.invokevirtual 70, 3) := by decide +kernel
theorem dX4_sum_39 : decode cX4_sum 39 = .ok (.istore 5, 2) := by decide +kernel
theorem dX4_sum_41 : decode cX4_sum 41 = .ok (.aload_n 0, 1) := by decide +kernel
theorem dX4_sum_42 : decode cX4_sum 42 = .ok (.dup, 1) := by decide +kernel
theorem dX4_sum_43 : decode cX4_sum 43 = .ok (.getfield 41, 3) := by decide +kernel
theorem dX4_sum_46 : decode cX4_sum 46 = .ok (.iconst 1, 1) := by decide +kernel
theorem dX4_sum_47 : decode cX4_sum 47 = .ok (.iadd, 1) := by decide +kernel
theorem dX4_sum_48 : decode cX4_sum 48 = .ok (.putfield 41, 3) := by decide +kernel
theorem dX4_sum_51 : decode cX4_sum 51 = .ok (.aload_n 0, 1) := by decide +kernel
theorem dX4_sum_52 : decode cX4_sum 52 = .ok (.iload_n 1, 1) := by decide +kernel
theorem dX4_sum_53 : decode cX4_sum 53 = .ok (.iload_n 2, 1) := by decide +kernel
theorem dX4_sum_54 : decode cX4_sum 54 = .ok (.invokevirtual 91, 3) := by decide +kernel
theorem dX4_sum_57 : decode cX4_sum 57 = .ok (.istore 6, 2) := by decide +kernel
theorem dX4_sum_59 : decode cX4_sum 59 = .ok (.iload 5, 2) := by decide +kernel
theorem dX4_sum_61 : decode cX4_sum 61 = .ok (.bipush 43, 2) := by decide +kernel
theorem dX4_sum_63 : decode cX4_sum 63 = .ok (.if_icmp .ne 10, 3) := by decide +kernel
theorem dX4_sum_66 : decode cX4_sum 66 = .ok (.iload_n 3, 1) := by decide +kernel
theorem dX4_sum_67 : decode cX4_sum 67 = .ok (.iload 6, 2) := by decide +kernel
theorem dX4_sum_69 : decode cX4_sum 69 = .ok (.iadd, 1) := by decide +kernel
theorem dX4_sum_70 : decode cX4_sum 70 = .ok (.goto 7, 3) := by decide +kernel
theorem dX4_sum_73 : decode cX4_sum 73 = .ok (.iload_n 3, 1) := by decide +kernel
theorem dX4_sum_74 : decode cX4_sum 74 = .ok (.iload 6, 2) := by decide +kernel
theorem dX4_sum_76 : decode cX4_sum 76 = .ok (.isub, 1) := by decide +kernel
theorem dX4_sum_77 : decode cX4_sum 77 = .ok (.istore_n 3, 1) := by decide +kernel
theorem dX4_sum_78 : decode cX4_sum 78 = .ok (.iinc 4 1, 3) := by decide +kernel
theorem dX4_sum_81 : decode cX4_sum 81 = .ok (.goto (-71), 3) := by decide +kernel
theorem dX4_sum_84 : decode cX4_sum 84 = .ok (.iload_n 3, 1) := by decide +kernel
theorem dX4_sum_85 : decode cX4_sum 85 = .ok (.ireturn, 1) := by decide +kernel
theorem dX4_product_0 : decode cX4_product 0 = .ok (.aload_n 0, 1) := by decide +kernel
theorem dX4_product_1 : decode cX4_product 1 = .ok (.iload_n 1, 1) := by decide +kernel
theorem dX4_product_2 : decode cX4_product 2 = .ok (.iload_n 2, 1) := by decide +kernel
theorem dX4_product_3 : decode cX4_product 3 = .ok (.invokevirtual 94, 3) := by decide +kernel
theorem dX4_product_6 : decode cX4_product 6 = .ok (.istore_n 3, 1) := by decide +kernel
theorem dX4_product_7 : decode cX4_product 7 = .ok (.iconst 0, 1) := by decide +kernel
theorem dX4_product_8 : decode cX4_product 8 = .ok (.istore 4, 2) := by decide +kernel
theorem dX4_product_10 : decode cX4_product 10 = .ok (.iload 4, 2) := by decide +kernel
theorem dX4_product_12 : decode cX4_product 12 = .ok (.bipush 100, 2) := by decide +kernel
theorem dX4_product_14 : decode cX4_product 14 = .ok (.if_icmp .ge 122, 3) := by decide +kernel
theorem dX4_product_17 : decode cX4_product 17 = .ok (.aload_n 0, 1) := by decide +kernel
theorem dX4_product_18 : decode cX4_product 18 = .ok (.invokevirtual 70, 3) := by decide +kernel
theorem dX4_product_21 : decode cX4_product 21 = .ok (.bipush 42, 2) := by decide +kernel
theorem dX4_product_23 : decode cX4_product 23 = .ok (.if_icmp .eq 21, 3) := by decide +kernel
theorem dX4_product_26 : decode cX4_product 26 = .ok (.aload_n 0, 1) := by decide +kernel
theorem dX4_product_27 : decode cX4_product 27 = .ok (.invokevirtual 70, 3) := by decide +kernel
theorem dX4_product_30 : decode cX4_product 30 = .ok (.bipush 47, 2) := by decide +kernel
theorem dX4_product_32 : decode cX4_product 32 = .ok (.if_icmp .eq 12, 3) := by decide +kernel
theorem dX4_product_35 : decode cX4_product 35 = .ok (.aload_n 0, 1) := by decide +kernel
theorem dX4_product_36 : decode cX4_product 36 = .ok (.invokevirtual 70, 3) := by decide +kernel
theorem dX4_product_39 : decode cX4_product 39 = .ok (.bipush 37, 2) := by decide +kernel
theorem dX4_product_41 : decode cX4_product 41 = .ok (.if_icmp .ne 95, 3) := by decide +kernel
theorem dX4_product_44 : decode cX4_product 44 = .ok (.aload_n 0, 1) := by decide +kernel
theorem dX4_product_45 : decode cX4_product 45 = .ok (.invokevirtual 70, 3) := by decide +kernel
theorem dX4_product_48 : decode cX4_product 48 = .ok (.istore 5, 2) := by decide +kernel
theorem dX4_product_50 : decode cX4_product 50 = .ok (.aload_n 0, 1) := by decide +kernel
theorem dX4_product_51 : decode cX4_product 51 = .ok (.dup, 1) := by decide +kernel
theorem dX4_product_52 : decode cX4_product 52 = .ok (.getfield 41, 3) := by decide +kernel
theorem dX4_product_55 : decode cX4_product 55 = .ok (.iconst 1, 1) := by decide +kernel
theorem dX4_product_56 : decode cX4_product 56 = .ok (.iadd, 1) := by decide +kernel
theorem dX4_product_57 : decode cX4_product 57 = .ok (.putfield 41, 3) := by decide +kernel
theorem dX4_product_60 : decode cX4_product 60 = .ok (.aload_n 0, 1) := by decide +kernel
theorem dX4_product_61 : decode cX4_product 61 = .ok (.iload_n 1, 1) := by decide +kernel
theorem dX4_product_62 : decode cX4_product 62 = .ok (.iload_n 2, 1) := by decide +kernel
theorem dX4_product_63 : decode cX4_product 63 = .ok (.invokevirtual 94, 3) := by decide +kernel
theorem dX4_product_66 : decode cX4_product 66 = .ok (.istore 6, 2) := by decide +kernel
theorem dX4_product_68 : decode cX4_product 68 = .ok (.iload 5, 2) := by decide +kernel
theorem dX4_product_70 : decode cX4_product 70 = .ok (.bipush 42, 2) := by decide +kernel
theorem dX4_product_72 : decode cX4_product 72 = .ok (.if_icmp .ne 11, 3) := by decide +kernel
theorem dX4_product_75 : decode cX4_product 75 = .ok (.iload_n 3, 1) := by decide +kernel
theorem dX4_product_76 : decode cX4_product 76 = .ok (.iload 6, 2) := by decide +kernel
theorem dX4_product_78 : decode cX4_product 78 = .ok (.imul, 1) := by decide +kernel
theorem dX4_product_79 : decode cX4_product 79 = .ok (.istore_n 3, 1) := by decide +kernel
theorem dX4_product_80 : decode cX4_product 80 = .ok (.goto 50, 3) := by decide +kernel
theorem dX4_product_83 : decode cX4_product 83 = .ok (.iload 6, 2) := by decide +kernel
theorem dX4_product_85 : decode cX4_product 85 = .ok (.ifCond .ne 26, 3) := by decide +kernel
theorem dX4_product_88 : decode cX4_product 88 = .ok (.aload_n 0, 1) := by decide +kernel
theorem dX4_product_89 : decode cX4_product 89 = .ok (.aload_n 0, 1) := by decide +kernel
theorem dX4_product_90 : decode cX4_product 90 = .ok (.getfield 44, 3) := by decide +kernel
theorem dX4_product_93 : decode cX4_product 93 = .ok (.ifCond .ne 7, 3) := by decide +kernel
theorem dX4_product_96 : decode cX4_product 96 = .ok (.iload_n 2, 1) := by decide +kernel
theorem dX4_product_97 : decode cX4_product 97 = .ok (.ifCond .eq 7, 3) := by decide +kernel
theorem dX4_product_100 : decode cX4_product 100 = .ok (.iconst 1, 1) := by decide +kernel
theorem dX4_product_101 : decode cX4_product 101 = .ok (.goto 4, 3) := by decide +kernel
theorem dX4_product_104 : decode cX4_product 104 = .ok (.iconst 0, 1) := by decide +kernel
theorem dX4_product_105 : decode cX4_product 105 = .ok (.putfield 44, 3) := by decide +kernel
theorem dX4_product_108 : decode cX4_product 108 = .ok (.goto 22, 3) := by decide +kernel
theorem dX4_product_111 : decode cX4_product 111 = .ok (.iload 5, 2) := by decide +kernel
theorem dX4_product_113 : decode cX4_product 113 = .ok (.bipush 47, 2) := by decide +kernel
theorem dX4_product_115 : decode cX4_product 115 = .ok (.if_icmp .ne 10, 3) := by decide +kernel
theorem dX4_product_118 : decode cX4_product 118 = .ok (.iload_n 3, 1) := by decide +kernel
theorem dX4_product_119 : decode cX4_product 119 = .ok (.iload 6, 2) := by decide +kernel
theorem dX4_product_121 : decode cX4_product 121 = .ok (.idiv, 1) := by decide +kernel
theorem dX4_product_122 : decode cX4_product 122 = .ok (.goto 7, 3) := by decide +kernel
theorem dX4_product_125 : decode cX4_product 125 = .ok (.iload_n 3, 1) := by decide +kernel
theorem dX4_product_126 : decode cX4_product 126 = .ok (.iload 6, 2) := by decide +kernel
theorem dX4_product_128 : decode cX4_product 128 = .ok (.irem, 1) := by decide +kernel
theorem dX4_product_129 : decode cX4_product 129 = .ok (.istore_n 3, 1) := by decide +kernel
theorem dX4_product_130 : decode cX4_product 130 = .ok (.iinc 4 1, 3) := by decide +kernel
theorem dX4_product_133 : decode cX4_product 133 = .ok (.goto (-123), 3) := by decide +kernel
theorem dX4_product_136 : decode cX4_product 136 = .ok (.iload_n 3, 1) := by decide +kernel
theorem dX4_product_137 : decode cX4_product 137 = .ok (.ireturn, 1) := by decide +kernel
theorem dX4_factor_0 : decode cX4_factor 0 = .ok (.aload_n 0, 1) := by decide +kernel
theorem dX4_factor_1 : decode cX4_factor 1 = .ok (.invokevirtual 70, 3) := by decide +kernel
theorem dX4_factor_4 : decode cX4_factor 4 = .ok (.istore_n 3, 1) := by decide +kernel
theorem dX4_factor_5 : decode cX4_factor 5 = .ok (.iload_n 3, 1) := by decide +kernel
theorem dX4_factor_6 : decode cX4_factor 6 = .ok (.bipush 91, 2) := by decide +kernel
theorem dX4_factor_8 : decode cX4_factor 8 = .ok (.if_icmp .ne 34, 3) := by decide +kernel
theorem dX4_factor_11 : decode cX4_factor 11 = .ok (.aload_n 0, 1) := by decide +kernel
theorem dX4_factor_12 : decode cX4_factor 12 = .ok (.iload_n 1, 1) := by decide +kernel
theorem dX4_factor_13 : decode cX4_factor 13 = .ok (.invokevirtual 80, 3) := by decide +kernel
theorem dX4_factor_16 : decode cX4_factor 16 = .ok (.ifCond .eq 14, 3) := by decide +kernel
theorem dX4_factor_19 : decode cX4_factor 19 = .ok (.aload_n 0, 1) := by decide +kernel
theorem dX4_factor_20 : decode cX4_factor 20 = .ok (.iload_n 1, 1) := by decide +kernel
theorem dX4_factor_21 : decode cX4_factor 21 = .ok (.iconst 1, 1) := by decide +kernel
theorem dX4_factor_22 : decode cX4_factor 22 = .ok (.iadd, 1) := by decide +kernel
theorem dX4_factor_23 : decode cX4_factor 23 = .ok (.iload_n 2, 1) := by decide +kernel
theorem dX4_factor_24 : decode cX4_factor 24 = .ok (.invokevirtual 87, 3) := by decide +kernel
theorem dX4_factor_27 : decode cX4_factor 27 = .ok (.goto 4, 3) := by decide +kernel
theorem dX4_factor_30 : decode cX4_factor 30 = .ok (.iconst 0, 1) := by decide +kernel
theorem dX4_factor_31 : decode cX4_factor 31 = .ok (.istore 4, 2) := by decide +kernel
theorem dX4_factor_33 : decode cX4_factor 33 = .ok (.aload_n 0, 1) := by decide +kernel
theorem dX4_factor_34 : decode cX4_factor 34 = .ok (.bipush 93, 2) := by decide +kernel
theorem dX4_factor_36 : decode cX4_factor 36 = .ok (.invokevirtual 84, 3) := by decide +kernel
theorem dX4_factor_39 : decode cX4_factor 39 = .ok (.iload 4, 2) := by decide +kernel
theorem dX4_factor_41 : decode cX4_factor 41 = .ok (.ireturn, 1) := by decide +kernel
theorem dX4_factor_42 : decode cX4_factor 42 = .ok (.iload_n 3, 1) := by decide +kernel
theorem dX4_factor_43 : decode cX4_factor 43 = .ok (.invokestatic 97, 3) := by decide +kernel
theorem dX4_factor_46 : decode cX4_factor 46 = .ok (.ifCond .eq 8, 3) := by decide +kernel
theorem dX4_factor_49 : decode cX4_factor 49 = .ok (.aload_n 0, 1) := by decide +kernel
theorem dX4_factor_50 : decode cX4_factor 50 = .ok (.invokevirtual 100, 3) := by decide +kernel
theorem dX4_factor_53 : decode cX4_factor 53 = .ok (.ireturn, 1) := by decide +kernel
theorem dX4_factor_54 : decode cX4_factor 54 = .ok (.iload_n 3, 1) := by decide +kernel
theorem dX4_factor_55 : decode cX4_factor 55 = .ok (.invokestatic 103, 3) := by decide +kernel
theorem dX4_factor_58 : decode cX4_factor 58 = .ok (.istore 4, 2) := by decide +kernel
theorem dX4_factor_60 : decode cX4_factor 60 = .ok (.iload 4, 2) := by decide +kernel
theorem dX4_factor_62 : decode cX4_factor 62 = .ok (.ifCond .lt 13, 3) := by decide +kernel
theorem dX4_factor_65 : decode cX4_factor 65 = .ok (.iload 4, 2) := by decide +kernel
theorem dX4_factor_67 : decode cX4_factor 67 = .ok (.aload_n 0, 1) := by decide +kernel
theorem dX4_factor_68 : decode cX4_factor 68 = .ok (.getfield 31, 3) := by decide +kernel
theorem dX4_factor_71 : decode cX4_factor 71 = .ok (.arraylength, 1) := by decide +kernel
theorem dX4_factor_72 : decode cX4_factor 72 = .ok (.if_icmp .lt 10, 3) := by decide +kernel
theorem dX4_factor_75 : decode cX4_factor 75 = .ok (.aload_n 0, 1) := by decide +kernel
theorem dX4_factor_76 : decode cX4_factor 76 = .ok (.iconst 1, 1) := by decide +kernel
theorem dX4_factor_77 : decode cX4_factor 77 = .ok (.invokevirtual 66, 3) := by decide +kernel
theorem dX4_factor_80 : decode cX4_factor 80 = .ok (.iconst 0, 1) := by decide +kernel
theorem dX4_factor_81 : decode cX4_factor 81 = .ok (.ireturn, 1) := by decide +kernel
theorem dX4_factor_82 : decode cX4_factor 82 = .ok (.aload_n 0, 1) := by decide +kernel
theorem dX4_factor_83 : decode cX4_factor 83 = .ok (.dup, 1) := by decide +kernel
theorem dX4_factor_84 : decode cX4_factor 84 = .ok (.getfield 41, 3) := by decide +kernel
theorem dX4_factor_87 : decode cX4_factor 87 = .ok (.iconst 1, 1) := by decide +kernel
theorem dX4_factor_88 : decode cX4_factor 88 = .ok (.iadd, 1) := by decide +kernel
theorem dX4_factor_89 : decode cX4_factor 89 = .ok (.putfield 41, 3) := by decide +kernel
theorem dX4_factor_92 : decode cX4_factor 92 = .ok (.aload_n 0, 1) := by decide +kernel
theorem dX4_factor_93 : decode cX4_factor 93 = .ok (.getfield 31, 3) := by decide +kernel
theorem dX4_factor_96 : decode cX4_factor 96 = .ok (.iload 4, 2) := by decide +kernel
theorem dX4_factor_98 : decode cX4_factor 98 = .ok (.iaload, 1) := by decide +kernel
theorem dX4_factor_99 : decode cX4_factor 99 = .ok (.ireturn, 1) := by decide +kernel
theorem dX4_numeral_0 : decode cX4_numeral 0 = .ok (.iconst 0, 1) := by decide +kernel
theorem dX4_numeral_1 : decode cX4_numeral 1 = .ok (.istore_n 1, 1) := by decide +kernel
theorem dX4_numeral_2 : decode cX4_numeral 2 = .ok (.iconst 0, 1) := by decide +kernel
theorem dX4_numeral_3 : decode cX4_numeral 3 = .ok (.istore_n 2, 1) := by decide +kernel
theorem dX4_numeral_4 : decode cX4_numeral 4 = .ok (.iload_n 2, 1) := by decide +kernel
theorem dX4_numeral_5 : decode cX4_numeral 5 = .ok (.iconst 5, 1) := by decide +kernel
theorem dX4_numeral_6 : decode cX4_numeral 6 = .ok (.if_icmp .ge 42, 3) := by decide +kernel
theorem dX4_numeral_9 : decode cX4_numeral 9 = .ok (.aload_n 0, 1) := by decide +kernel
theorem dX4_numeral_10 : decode cX4_numeral 10 = .ok (.invokevirtual 70, 3) := by decide +kernel
theorem dX4_numeral_13 : decode cX4_numeral 13 = .ok (.invokestatic 97, 3) := by decide +kernel
theorem dX4_numeral_16 : decode cX4_numeral 16 = .ok (.ifCond .eq 32, 3) := by decide +kernel
theorem dX4_numeral_19 : decode cX4_numeral 19 = .ok (.bipush 10, 2) := by decide +kernel
theorem dX4_numeral_21 : decode cX4_numeral 21 = .ok (.iload_n 1, 1) := by decide +kernel
theorem dX4_numeral_22 : decode cX4_numeral 22 = .ok (.imul, 1) := by decide +kernel
theorem dX4_numeral_23 : decode cX4_numeral 23 = .ok (.aload_n 0, 1) := by decide +kernel
theorem dX4_numeral_24 : decode cX4_numeral 24 = .ok (.invokevirtual 70, 3) := by decide +kernel
theorem dX4_numeral_27 : decode cX4_numeral 27 = .ok (.iadd, 1) := by decide +kernel
theorem dX4_numeral_28 : decode cX4_numeral 28 = .ok (.bipush 48, 2) := by decide +kernel
theorem dX4_numeral_30 : decode cX4_numeral 30 = .ok (.isub, 1) := by decide +kernel
theorem dX4_numeral_31 : decode cX4_numeral 31 = .ok (.istore_n 1, 1) := by decide +kernel
theorem dX4_numeral_32 : decode cX4_numeral 32 = .ok (.aload_n 0, 1) := by decide +kernel
theorem dX4_numeral_33 : decode cX4_numeral 33 = .ok (.dup, 1) := by decide +kernel
theorem dX4_numeral_34 : decode cX4_numeral 34 = .ok (.getfield 41, 3) := by decide +kernel
theorem dX4_numeral_37 : decode cX4_numeral 37 = .ok (.iconst 1, 1) := by decide +kernel
theorem dX4_numeral_38 : decode cX4_numeral 38 = .ok (.iadd, 1) := by decide +kernel
theorem dX4_numeral_39 : decode cX4_numeral 39 = .ok (.putfield 41, 3) := by decide +kernel
theorem dX4_numeral_42 : decode cX4_numeral 42 = .ok (.iinc 2 1, 3) := by decide +kernel
theorem dX4_numeral_45 : decode cX4_numeral 45 = .ok (.goto (-41), 3) := by decide +kernel
theorem dX4_numeral_48 : decode cX4_numeral 48 = .ok (.aload_n 0, 1) := by decide +kernel
theorem dX4_numeral_49 : decode cX4_numeral 49 = .ok (.invokevirtual 70, 3) := by decide +kernel
theorem dX4_numeral_52 : decode cX4_numeral 52 = .ok (.invokestatic 97, 3) := by decide +kernel
theorem dX4_numeral_55 : decode cX4_numeral 55 = .ok (.ifCond .eq 8, 3) := by decide +kernel
theorem dX4_numeral_58 : decode cX4_numeral 58 = .ok (.aload_n 0, 1) := by decide +kernel
theorem dX4_numeral_59 : decode cX4_numeral 59 = .ok (.iconst 2, 1) := by decide +kernel
theorem dX4_numeral_60 : decode cX4_numeral 60 = .ok (.invokevirtual 66, 3) := by decide +kernel
theorem dX4_numeral_63 : decode cX4_numeral 63 = .ok (.iload_n 1, 1) := by decide +kernel
theorem dX4_numeral_64 : decode cX4_numeral 64 = .ok (.ireturn, 1) := by decide +kernel
theorem dX4_isDigit_0 : decode cX4_isDigit 0 = .ok (.iload_n 0, 1) := by decide +kernel
theorem dX4_isDigit_1 : decode cX4_isDigit 1 = .ok (.bipush 48, 2) := by decide +kernel
theorem dX4_isDigit_3 : decode cX4_isDigit 3 = .ok (.if_icmp .lt 13, 3) := by decide +kernel
theorem dX4_isDigit_6 : decode cX4_isDigit 6 = .ok (.iload_n 0, 1) := by decide +kernel
theorem dX4_isDigit_7 : decode cX4_isDigit 7 = .ok (.bipush 57, 2) := by decide +kernel
theorem dX4_isDigit_9 : decode cX4_isDigit 9 = .ok (.if_icmp .gt 7, 3) := by decide +kernel
theorem dX4_isDigit_12 : decode cX4_isDigit 12 = .ok (.iconst 1, 1) := by decide +kernel
theorem dX4_isDigit_13 : decode cX4_isDigit 13 = .ok (.goto 4, 3) := by decide +kernel
theorem dX4_isDigit_16 : decode cX4_isDigit 16 = .ok (.iconst 0, 1) := by decide +kernel
theorem dX4_isDigit_17 : decode cX4_isDigit 17 = .ok (.ireturn, 1) := by decide +kernel
theorem dX4_letterOf_0 : decode cX4_letterOf 0 = .ok (.iload_n 0, 1) := by decide +kernel
theorem dX4_letterOf_1 : decode cX4_letterOf 1 = .ok (.tableswitch 119 97 119 #[107, 107, 107, 107, 119, 119, 119, 119, 119, 119, 119, 116, 119, 119, 119, 112, 119, 119, 119, 119, 119, 119, 114], 107) := by decide +kernel
theorem dX4_letterOf_108 : decode cX4_letterOf 108 = .ok (.iload_n 0, 1) := by decide +kernel
theorem dX4_letterOf_109 : decode cX4_letterOf 109 = .ok (.bipush 97, 2) := by decide +kernel
theorem dX4_letterOf_111 : decode cX4_letterOf 111 = .ok (.isub, 1) := by decide +kernel
theorem dX4_letterOf_112 : decode cX4_letterOf 112 = .ok (.ireturn, 1) := by decide +kernel
theorem dX4_letterOf_113 : decode cX4_letterOf 113 = .ok (.iconst 4, 1) := by decide +kernel
theorem dX4_letterOf_114 : decode cX4_letterOf 114 = .ok (.ireturn, 1) := by decide +kernel
theorem dX4_letterOf_115 : decode cX4_letterOf 115 = .ok (.iconst 5, 1) := by decide +kernel
theorem dX4_letterOf_116 : decode cX4_letterOf 116 = .ok (.ireturn, 1) := by decide +kernel
theorem dX4_letterOf_117 : decode cX4_letterOf 117 = .ok (.bipush 6, 2) := by decide +kernel
theorem dX4_letterOf_119 : decode cX4_letterOf 119 = .ok (.ireturn, 1) := by decide +kernel
theorem dX4_letterOf_120 : decode cX4_letterOf 120 = .ok (.iconst (-1), 1) := by decide +kernel
theorem dX4_letterOf_121 : decode cX4_letterOf 121 = .ok (.ireturn, 1) := by decide +kernel
theorem dX5_add_0 : decode cX5_add 0 = .ok (.aload_n 0, 1) := by decide +kernel
theorem dX5_add_1 : decode cX5_add 1 = .ok (.getfield 9, 3) := by decide +kernel
theorem dX5_add_4 : decode cX5_add 4 = .ok (.bipush 40, 2) := by decide +kernel
theorem dX5_add_6 : decode cX5_add 6 = .ok (.if_icmp .ge 33, 3) := by decide +kernel
theorem dX5_add_9 : decode cX5_add 9 = .ok (.aload_n 0, 1) := by decide +kernel
theorem dX5_add_10 : decode cX5_add 10 = .ok (.getfield 15, 3) := by decide +kernel
theorem dX5_add_13 : decode cX5_add 13 = .ok (.aload_n 0, 1) := by decide +kernel
theorem dX5_add_14 : decode cX5_add 14 = .ok (.getfield 9, 3) := by decide +kernel
theorem dX5_add_17 : decode cX5_add 17 = .ok (.iload_n 1, 1) := by decide +kernel
theorem dX5_add_18 : decode cX5_add 18 = .ok (.iastore, 1) := by decide +kernel
theorem dX5_add_19 : decode cX5_add 19 = .ok (.aload_n 0, 1) := by decide +kernel
theorem dX5_add_20 : decode cX5_add 20 = .ok (.getfield 19, 3) := by decide +kernel
theorem dX5_add_23 : decode cX5_add 23 = .ok (.aload_n 0, 1) := by decide +kernel
theorem dX5_add_24 : decode cX5_add 24 = .ok (.getfield 9, 3) := by decide +kernel
theorem dX5_add_27 : decode cX5_add 27 = .ok (.iload_n 2, 1) := by decide +kernel
theorem dX5_add_28 : decode cX5_add 28 = .ok (.iastore, 1) := by decide +kernel
theorem dX5_add_29 : decode cX5_add 29 = .ok (.aload_n 0, 1) := by decide +kernel
theorem dX5_add_30 : decode cX5_add 30 = .ok (.dup, 1) := by decide +kernel
theorem dX5_add_31 : decode cX5_add 31 = .ok (.getfield 9, 3) := by decide +kernel
theorem dX5_add_34 : decode cX5_add 34 = .ok (.iconst 1, 1) := by decide +kernel
theorem dX5_add_35 : decode cX5_add 35 = .ok (.iadd, 1) := by decide +kernel
theorem dX5_add_36 : decode cX5_add 36 = .ok (.putfield 9, 3) := by decide +kernel
theorem dX5_add_39 : decode cX5_add 39 = .ok (.return_, 1) := by decide +kernel
theorem dX5_reached_0 : decode cX5_reached 0 = .ok (.iconst 1, 1) := by decide +kernel
theorem dX5_reached_1 : decode cX5_reached 1 = .ok (.iload_n 1, 1) := by decide +kernel
theorem dX5_reached_2 : decode cX5_reached 2 = .ok (.ishl, 1) := by decide +kernel
theorem dX5_reached_3 : decode cX5_reached 3 = .ok (.istore_n 3, 1) := by decide +kernel
theorem dX5_reached_4 : decode cX5_reached 4 = .ok (.iconst 1, 1) := by decide +kernel
theorem dX5_reached_5 : decode cX5_reached 5 = .ok (.istore 4, 2) := by decide +kernel
theorem dX5_reached_7 : decode cX5_reached 7 = .ok (.iconst 0, 1) := by decide +kernel
theorem dX5_reached_8 : decode cX5_reached 8 = .ok (.istore 5, 2) := by decide +kernel
theorem dX5_reached_10 : decode cX5_reached 10 = .ok (.iload 5, 2) := by decide +kernel
theorem dX5_reached_12 : decode cX5_reached 12 = .ok (.bipush 32, 2) := by decide +kernel
theorem dX5_reached_14 : decode cX5_reached 14 = .ok (.if_icmp .ge 83, 3) := by decide +kernel
theorem dX5_reached_17 : decode cX5_reached 17 = .ok (.iload 4, 2) := by decide +kernel
theorem dX5_reached_19 : decode cX5_reached 19 = .ok (.ifCond .eq 78, 3) := by decide +kernel
theorem dX5_reached_22 : decode cX5_reached 22 = .ok (.iload_n 3, 1) := by decide +kernel
theorem dX5_reached_23 : decode cX5_reached 23 = .ok (.istore 6, 2) := by decide +kernel
theorem dX5_reached_25 : decode cX5_reached 25 = .ok (.iconst 0, 1) := by decide +kernel
theorem dX5_reached_26 : decode cX5_reached 26 = .ok (.istore 7, 2) := by decide +kernel
theorem dX5_reached_28 : decode cX5_reached 28 = .ok (.iload 7, 2) := by decide +kernel
theorem dX5_reached_30 : decode cX5_reached 30 = .ok (.aload_n 0, 1) := by decide +kernel
theorem dX5_reached_31 : decode cX5_reached 31 = .ok (.getfield 9, 3) := by decide +kernel
theorem dX5_reached_34 : decode cX5_reached 34 = .ok (.if_icmp .ge 44, 3) := by decide +kernel
theorem dX5_reached_37 : decode cX5_reached 37 = .ok (.iconst 1, 1) := by decide +kernel
theorem dX5_reached_38 : decode cX5_reached 38 = .ok (.aload_n 0, 1) := by decide +kernel
theorem dX5_reached_39 : decode cX5_reached 39 = .ok (.getfield 15, 3) := by decide +kernel
theorem dX5_reached_42 : decode cX5_reached 42 = .ok (.iload 7, 2) := by decide +kernel
theorem dX5_reached_44 : decode cX5_reached 44 = .ok (.iaload, 1) := by decide +kernel
theorem dX5_reached_45 : decode cX5_reached 45 = .ok (.ishl, 1) := by decide +kernel
theorem dX5_reached_46 : decode cX5_reached 46 = .ok (.iconst 1, 1) := by decide +kernel
theorem dX5_reached_47 : decode cX5_reached 47 = .ok (.aload_n 0, 1) := by decide +kernel
theorem dX5_reached_48 : decode cX5_reached 48 = .ok (.getfield 19, 3) := by decide +kernel
theorem dX5_reached_51 : decode cX5_reached 51 = .ok (.iload 7, 2) := by decide +kernel
theorem dX5_reached_53 : decode cX5_reached 53 = .ok (.iaload, 1) := by decide +kernel
theorem dX5_reached_54 : decode cX5_reached 54 = .ok (.ishl, 1) := by decide +kernel
theorem dX5_reached_55 : decode cX5_reached 55 = .ok (.ior, 1) := by decide +kernel
theorem dX5_reached_56 : decode cX5_reached 56 = .ok (.istore 8, 2) := by decide +kernel
theorem dX5_reached_58 : decode cX5_reached 58 = .ok (.iload_n 3, 1) := by decide +kernel
theorem dX5_reached_59 : decode cX5_reached 59 = .ok (.iload 8, 2) := by decide +kernel
theorem dX5_reached_61 : decode cX5_reached 61 = .ok (.iand, 1) := by decide +kernel
theorem dX5_reached_62 : decode cX5_reached 62 = .ok (.ifCond .eq 10, 3) := by decide +kernel
theorem dX5_reached_65 : decode cX5_reached 65 = .ok (.iload_n 3, 1) := by decide +kernel
theorem dX5_reached_66 : decode cX5_reached 66 = .ok (.iload 8, 2) := by decide +kernel
theorem dX5_reached_68 : decode cX5_reached 68 = .ok (.iload_n 2, 1) := by decide +kernel
theorem dX5_reached_69 : decode cX5_reached 69 = .ok (.iand, 1) := by decide +kernel
theorem dX5_reached_70 : decode cX5_reached 70 = .ok (.ior, 1) := by decide +kernel
theorem dX5_reached_71 : decode cX5_reached 71 = .ok (.istore_n 3, 1) := by decide +kernel
theorem dX5_reached_72 : decode cX5_reached 72 = .ok (.iinc 7 1, 3) := by decide +kernel
theorem dX5_reached_75 : decode cX5_reached 75 = .ok (.goto (-47), 3) := by decide +kernel
theorem dX5_reached_78 : decode cX5_reached 78 = .ok (.iload_n 3, 1) := by decide +kernel
theorem dX5_reached_79 : decode cX5_reached 79 = .ok (.iload 6, 2) := by decide +kernel
theorem dX5_reached_81 : decode cX5_reached 81 = .ok (.if_icmp .eq 7, 3) := by decide +kernel
theorem dX5_reached_84 : decode cX5_reached 84 = .ok (.iconst 1, 1) := by decide +kernel
theorem dX5_reached_85 : decode cX5_reached 85 = .ok (.goto 4, 3) := by decide +kernel
theorem dX5_reached_88 : decode cX5_reached 88 = .ok (.iconst 0, 1) := by decide +kernel
theorem dX5_reached_89 : decode cX5_reached 89 = .ok (.istore 4, 2) := by decide +kernel
theorem dX5_reached_91 : decode cX5_reached 91 = .ok (.iinc 5 1, 3) := by decide +kernel
theorem dX5_reached_94 : decode cX5_reached 94 = .ok (.goto (-84), 3) := by decide +kernel
theorem dX5_reached_97 : decode cX5_reached 97 = .ok (.iload_n 3, 1) := by decide +kernel
theorem dX5_reached_98 : decode cX5_reached 98 = .ok (.ireturn, 1) := by decide +kernel
theorem dX6_weigh_0 : decode cX6_weigh 0 = .ok (.aload_n 0, 1) := by decide +kernel
theorem dX6_weigh_1 : decode cX6_weigh 1 = .ok (.iconst 0, 1) := by decide +kernel
theorem dX6_weigh_2 : decode cX6_weigh 2 = .ok (.putfield 18, 3) := by decide +kernel
theorem dX6_weigh_5 : decode cX6_weigh 5 = .ok (.iconst 0, 1) := by decide +kernel
theorem dX6_weigh_6 : decode cX6_weigh 6 = .ok (.istore_n 1, 1) := by decide +kernel
theorem dX6_weigh_7 : decode cX6_weigh 7 = .ok (.iload_n 1, 1) := by decide +kernel
theorem dX6_weigh_8 : decode cX6_weigh 8 = .ok (.bipush 8, 2) := by decide +kernel
theorem dX6_weigh_10 : decode cX6_weigh 10 = .ok (.if_icmp .ge 21, 3) := by decide +kernel
theorem dX6_weigh_13 : decode cX6_weigh 13 = .ok (.aload_n 0, 1) := by decide +kernel
theorem dX6_weigh_14 : decode cX6_weigh 14 = .ok (.getfield 31, 3) := by decide +kernel
theorem dX6_weigh_17 : decode cX6_weigh 17 = .ok (.iload_n 1, 1) := by decide +kernel
theorem dX6_weigh_18 : decode cX6_weigh 18 = .ok (.aload_n 0, 1) := by decide +kernel
theorem dX6_weigh_19 : decode cX6_weigh 19 = .ok (.getfield 28, 3) := by decide +kernel
theorem dX6_weigh_22 : decode cX6_weigh 22 = .ok (.iload_n 1, 1) := by decide +kernel
theorem dX6_weigh_23 : decode cX6_weigh 23 = .ok (.iaload, 1) := by decide +kernel
theorem dX6_weigh_24 : decode cX6_weigh 24 = .ok (.iastore, 1) := by decide +kernel
theorem dX6_weigh_25 : decode cX6_weigh 25 = .ok (.iinc 1 1, 3) := by decide +kernel
theorem dX6_weigh_28 : decode cX6_weigh 28 = .ok (.goto (-21), 3) := by decide +kernel
theorem dX6_weigh_31 : decode cX6_weigh 31 = .ok (.iconst 0, 1) := by decide +kernel
theorem dX6_weigh_32 : decode cX6_weigh 32 = .ok (.istore_n 1, 1) := by decide +kernel
theorem dX6_weigh_33 : decode cX6_weigh 33 = .ok (.iload_n 1, 1) := by decide +kernel
theorem dX6_weigh_34 : decode cX6_weigh 34 = .ok (.aload_n 0, 1) := by decide +kernel
theorem dX6_weigh_35 : decode cX6_weigh 35 = .ok (.getfield 9, 3) := by decide +kernel
theorem dX6_weigh_38 : decode cX6_weigh 38 = .ok (.if_icmp .ge 68, 3) := by decide +kernel
theorem dX6_weigh_41 : decode cX6_weigh 41 = .ok (.aload_n 0, 1) := by decide +kernel
theorem dX6_weigh_42 : decode cX6_weigh 42 = .ok (.getfield 15, 3) := by decide +kernel
theorem dX6_weigh_45 : decode cX6_weigh 45 = .ok (.iload_n 1, 1) := by decide +kernel
theorem dX6_weigh_46 : decode cX6_weigh 46 = .ok (.ishr, 1) := by decide +kernel
theorem dX6_weigh_47 : decode cX6_weigh 47 = .ok (.iconst 1, 1) := by decide +kernel
theorem dX6_weigh_48 : decode cX6_weigh 48 = .ok (.iand, 1) := by decide +kernel
theorem dX6_weigh_49 : decode cX6_weigh 49 = .ok (.iconst 1, 1) := by decide +kernel
theorem dX6_weigh_50 : decode cX6_weigh 50 = .ok (.if_icmp .ne 50, 3) := by decide +kernel
theorem dX6_weigh_53 : decode cX6_weigh 53 = .ok (.iconst 0, 1) := by decide +kernel
theorem dX6_weigh_54 : decode cX6_weigh 54 = .ok (.istore_n 2, 1) := by decide +kernel
theorem dX6_weigh_55 : decode cX6_weigh 55 = .ok (.iload_n 2, 1) := by decide +kernel
theorem dX6_weigh_56 : decode cX6_weigh 56 = .ok (.iconst 1, 1) := by decide +kernel
theorem dX6_weigh_57 : decode cX6_weigh 57 = .ok (.iload_n 1, 1) := by decide +kernel
theorem dX6_weigh_58 : decode cX6_weigh 58 = .ok (.ishl, 1) := by decide +kernel
theorem dX6_weigh_59 : decode cX6_weigh 59 = .ok (.if_icmp .ge 41, 3) := by decide +kernel
theorem dX6_weigh_62 : decode cX6_weigh 62 = .ok (.aload_n 0, 1) := by decide +kernel
theorem dX6_weigh_63 : decode cX6_weigh 63 = .ok (.getfield 34, 3) := by decide +kernel
theorem dX6_weigh_66 : decode cX6_weigh 66 = .ok (.iload_n 2, 1) := by decide +kernel
theorem dX6_weigh_67 : decode cX6_weigh 67 = .ok (.iconst 1, 1) := by decide +kernel
theorem dX6_weigh_68 : decode cX6_weigh 68 = .ok (.iload_n 1, 1) := by decide +kernel
theorem dX6_weigh_69 : decode cX6_weigh 69 = .ok (.ishl, 1) := by decide +kernel
theorem dX6_weigh_70 : decode cX6_weigh 70 = .ok (.ior, 1) := by decide +kernel
theorem dX6_weigh_71 : decode cX6_weigh 71 = .ok (.aload_n 0, 1) := by decide +kernel
theorem dX6_weigh_72 : decode cX6_weigh 72 = .ok (.getfield 34, 3) := by decide +kernel
theorem dX6_weigh_75 : decode cX6_weigh 75 = .ok (.iload_n 2, 1) := by decide +kernel
theorem dX6_weigh_76 : decode cX6_weigh 76 = .ok (.iaload, 1) := by decide +kernel
theorem dX6_weigh_77 : decode cX6_weigh 77 = .ok (.aload_n 0, 1) := by decide +kernel
theorem dX6_weigh_78 : decode cX6_weigh 78 = .ok (.getfield 28, 3) := by decide +kernel
theorem dX6_weigh_81 : decode cX6_weigh 81 = .ok (.iload_n 1, 1) := by decide +kernel
theorem dX6_weigh_82 : decode cX6_weigh 82 = .ok (.iaload, 1) := by decide +kernel
theorem dX6_weigh_83 : decode cX6_weigh 83 = .ok (.ior, 1) := by decide +kernel
theorem dX6_weigh_84 : decode cX6_weigh 84 = .ok (.iastore, 1) := by decide +kernel
theorem dX6_weigh_85 : decode cX6_weigh 85 = .ok (.aload_n 0, 1) := by decide +kernel
theorem dX6_weigh_86 : decode cX6_weigh 86 = .ok (.iload_n 2, 1) := by decide +kernel
theorem dX6_weigh_87 : decode cX6_weigh 87 = .ok (.iconst 1, 1) := by decide +kernel
theorem dX6_weigh_88 : decode cX6_weigh 88 = .ok (.iload_n 1, 1) := by decide +kernel
theorem dX6_weigh_89 : decode cX6_weigh 89 = .ok (.ishl, 1) := by decide +kernel
theorem dX6_weigh_90 : decode cX6_weigh 90 = .ok (.ior, 1) := by decide +kernel
theorem dX6_weigh_91 : decode cX6_weigh 91 = .ok (.invokevirtual 44, 3) := by decide +kernel
theorem dX6_weigh_94 : decode cX6_weigh 94 = .ok (.iinc 2 1, 3) := by decide +kernel
theorem dX6_weigh_97 : decode cX6_weigh 97 = .ok (.goto (-42), 3) := by decide +kernel
theorem dX6_weigh_100 : decode cX6_weigh 100 = .ok (.iinc 1 1, 3) := by decide +kernel
theorem dX6_weigh_103 : decode cX6_weigh 103 = .ok (.goto (-70), 3) := by decide +kernel
theorem dX6_weigh_106 : decode cX6_weigh 106 = .ok (.iconst 0, 1) := by decide +kernel
theorem dX6_weigh_107 : decode cX6_weigh 107 = .ok (.istore_n 1, 1) := by decide +kernel
theorem dX6_weigh_108 : decode cX6_weigh 108 = .ok (.iload_n 1, 1) := by decide +kernel
theorem dX6_weigh_109 : decode cX6_weigh 109 = .ok (.bipush 8, 2) := by decide +kernel
theorem dX6_weigh_111 : decode cX6_weigh 111 = .ok (.if_icmp .ge 23, 3) := by decide +kernel
theorem dX6_weigh_114 : decode cX6_weigh 114 = .ok (.aload_n 0, 1) := by decide +kernel
theorem dX6_weigh_115 : decode cX6_weigh 115 = .ok (.getfield 18, 3) := by decide +kernel
theorem dX6_weigh_118 : decode cX6_weigh 118 = .ok (.ifCond .eq 16, 3) := by decide +kernel
theorem dX6_weigh_121 : decode cX6_weigh 121 = .ok (.aload_n 0, 1) := by decide +kernel
theorem dX6_weigh_122 : decode cX6_weigh 122 = .ok (.getfield 31, 3) := by decide +kernel
theorem dX6_weigh_125 : decode cX6_weigh 125 = .ok (.iload_n 1, 1) := by decide +kernel
theorem dX6_weigh_126 : decode cX6_weigh 126 = .ok (.iconst 0, 1) := by decide +kernel
theorem dX6_weigh_127 : decode cX6_weigh 127 = .ok (.iastore, 1) := by decide +kernel
theorem dX6_weigh_128 : decode cX6_weigh 128 = .ok (.iinc 1 1, 3) := by decide +kernel
theorem dX6_weigh_131 : decode cX6_weigh 131 = .ok (.goto (-23), 3) := by decide +kernel
theorem dX6_weigh_134 : decode cX6_weigh 134 = .ok (.return_, 1) := by decide +kernel
theorem dX6_weighSet_0 : decode cX6_weighSet 0 = .ok (.iload_n 1, 1) := by decide +kernel
theorem dX6_weighSet_1 : decode cX6_weighSet 1 = .ok (.aload_n 0, 1) := by decide +kernel
theorem dX6_weighSet_2 : decode cX6_weighSet 2 = .ok (.getfield 15, 3) := by decide +kernel
theorem dX6_weighSet_5 : decode cX6_weighSet 5 = .ok (.iconst (-1), 1) := by decide +kernel
theorem dX6_weighSet_6 : decode cX6_weighSet 6 = .ok (.ixor, 1) := by decide +kernel
theorem dX6_weighSet_7 : decode cX6_weighSet 7 = .ok (.iand, 1) := by decide +kernel
theorem dX6_weighSet_8 : decode cX6_weighSet 8 = .ok (.ifCond .eq 4, 3) := by decide +kernel
theorem dX6_weighSet_11 : decode cX6_weighSet 11 = .ok (.return_, 1) := by decide +kernel
theorem dX6_weighSet_12 : decode cX6_weighSet 12 = .ok (.aload_n 0, 1) := by decide +kernel
theorem dX6_weighSet_13 : decode cX6_weighSet 13 = .ok (.getfield 34, 3) := by decide +kernel
theorem dX6_weighSet_16 : decode cX6_weighSet 16 = .ok (.iload_n 1, 1) := by decide +kernel
theorem dX6_weighSet_17 : decode cX6_weighSet 17 = .ok (.iaload, 1) := by decide +kernel
theorem dX6_weighSet_18 : decode cX6_weighSet 18 = .ok (.invokestatic 48, 3) := by decide +kernel
theorem dX6_weighSet_21 : decode cX6_weighSet 21 = .ok (.iload_n 1, 1) := by decide +kernel
theorem dX6_weighSet_22 : decode cX6_weighSet 22 = .ok (.invokestatic 48, 3) := by decide +kernel
theorem dX6_weighSet_25 : decode cX6_weighSet 25 = .ok (.isub, 1) := by decide +kernel
theorem dX6_weighSet_26 : decode cX6_weighSet 26 = .ok (.istore_n 2, 1) := by decide +kernel
theorem dX6_weighSet_27 : decode cX6_weighSet 27 = .ok (.iload_n 2, 1) := by decide +kernel
theorem dX6_weighSet_28 : decode cX6_weighSet 28 = .ok (.ifCond .ge 29, 3) := by decide +kernel
theorem dX6_weighSet_31 : decode cX6_weighSet 31 = .ok (.aload_n 0, 1) := by decide +kernel
theorem dX6_weighSet_32 : decode cX6_weighSet 32 = .ok (.getfield 18, 3) := by decide +kernel
theorem dX6_weighSet_35 : decode cX6_weighSet 35 = .ok (.ifCond .eq 17, 3) := by decide +kernel
theorem dX6_weighSet_38 : decode cX6_weighSet 38 = .ok (.iload_n 1, 1) := by decide +kernel
theorem dX6_weighSet_39 : decode cX6_weighSet 39 = .ok (.invokestatic 48, 3) := by decide +kernel
theorem dX6_weighSet_42 : decode cX6_weighSet 42 = .ok (.aload_n 0, 1) := by decide +kernel
theorem dX6_weighSet_43 : decode cX6_weighSet 43 = .ok (.getfield 18, 3) := by decide +kernel
theorem dX6_weighSet_46 : decode cX6_weighSet 46 = .ok (.invokestatic 48, 3) := by decide +kernel
theorem dX6_weighSet_49 : decode cX6_weighSet 49 = .ok (.if_icmp .ge 8, 3) := by decide +kernel
theorem dX6_weighSet_52 : decode cX6_weighSet 52 = .ok (.aload_n 0, 1) := by decide +kernel
theorem dX6_weighSet_53 : decode cX6_weighSet 53 = .ok (.iload_n 1, 1) := by decide +kernel
theorem dX6_weighSet_54 : decode cX6_weighSet 54 = .ok (.putfield 18, 3) := by decide +kernel
theorem dX6_weighSet_57 : decode cX6_weighSet 57 = .ok (.iconst 0, 1) := by decide +kernel
theorem dX6_weighSet_58 : decode cX6_weighSet 58 = .ok (.istore_n 3, 1) := by decide +kernel
theorem dX6_weighSet_59 : decode cX6_weighSet 59 = .ok (.iload_n 3, 1) := by decide +kernel
theorem dX6_weighSet_60 : decode cX6_weighSet 60 = .ok (.aload_n 0, 1) := by decide +kernel
theorem dX6_weighSet_61 : decode cX6_weighSet 61 = .ok (.getfield 9, 3) := by decide +kernel
theorem dX6_weighSet_64 : decode cX6_weighSet 64 = .ok (.if_icmp .ge 38, 3) := by decide +kernel
theorem dX6_weighSet_67 : decode cX6_weighSet 67 = .ok (.iload_n 2, 1) := by decide +kernel
theorem dX6_weighSet_68 : decode cX6_weighSet 68 = .ok (.ifCond .ne 34, 3) := by decide +kernel
theorem dX6_weighSet_71 : decode cX6_weighSet 71 = .ok (.iload_n 1, 1) := by decide +kernel
theorem dX6_weighSet_72 : decode cX6_weighSet 72 = .ok (.iload_n 3, 1) := by decide +kernel
theorem dX6_weighSet_73 : decode cX6_weighSet 73 = .ok (.ishr, 1) := by decide +kernel
theorem dX6_weighSet_74 : decode cX6_weighSet 74 = .ok (.iconst 1, 1) := by decide +kernel
theorem dX6_weighSet_75 : decode cX6_weighSet 75 = .ok (.iand, 1) := by decide +kernel
theorem dX6_weighSet_76 : decode cX6_weighSet 76 = .ok (.ifCond .ne 20, 3) := by decide +kernel
theorem dX6_weighSet_79 : decode cX6_weighSet 79 = .ok (.aload_n 0, 1) := by decide +kernel
theorem dX6_weighSet_80 : decode cX6_weighSet 80 = .ok (.getfield 31, 3) := by decide +kernel
theorem dX6_weighSet_83 : decode cX6_weighSet 83 = .ok (.iload_n 3, 1) := by decide +kernel
theorem dX6_weighSet_84 : decode cX6_weighSet 84 = .ok (.dup2, 1) := by decide +kernel
theorem dX6_weighSet_85 : decode cX6_weighSet 85 = .ok (.iaload, 1) := by decide +kernel
theorem dX6_weighSet_86 : decode cX6_weighSet 86 = .ok (.aload_n 0, 1) := by decide +kernel
theorem dX6_weighSet_87 : decode cX6_weighSet 87 = .ok (.getfield 34, 3) := by decide +kernel
theorem dX6_weighSet_90 : decode cX6_weighSet 90 = .ok (.iload_n 1, 1) := by decide +kernel
theorem dX6_weighSet_91 : decode cX6_weighSet 91 = .ok (.iaload, 1) := by decide +kernel
theorem dX6_weighSet_92 : decode cX6_weighSet 92 = .ok (.iconst (-1), 1) := by decide +kernel
theorem dX6_weighSet_93 : decode cX6_weighSet 93 = .ok (.ixor, 1) := by decide +kernel
theorem dX6_weighSet_94 : decode cX6_weighSet 94 = .ok (.iand, 1) := by decide +kernel
theorem dX6_weighSet_95 : decode cX6_weighSet 95 = .ok (.iastore, 1) := by decide +kernel
theorem dX6_weighSet_96 : decode cX6_weighSet 96 = .ok (.iinc 3 1, 3) := by decide +kernel
theorem dX6_weighSet_99 : decode cX6_weighSet 99 = .ok (.goto (-40), 3) := by decide +kernel
theorem dX6_weighSet_102 : decode cX6_weighSet 102 = .ok (.return_, 1) := by decide +kernel
theorem dX6_number_0 : decode cX6_number 0 = .ok (.iconst 1, 1) := by decide +kernel
theorem dX6_number_1 : decode cX6_number 1 = .ok (.aload_n 0, 1) := by decide +kernel
theorem dX6_number_2 : decode cX6_number 2 = .ok (.getfield 9, 3) := by decide +kernel
theorem dX6_number_5 : decode cX6_number 5 = .ok (.ishl, 1) := by decide +kernel
theorem dX6_number_6 : decode cX6_number 6 = .ok (.istore_n 1, 1) := by decide +kernel
theorem dX6_number_7 : decode cX6_number 7 = .ok (.iconst 0, 1) := by decide +kernel
theorem dX6_number_8 : decode cX6_number 8 = .ok (.istore_n 2, 1) := by decide +kernel
theorem dX6_number_9 : decode cX6_number 9 = .ok (.iload_n 2, 1) := by decide +kernel
theorem dX6_number_10 : decode cX6_number 10 = .ok (.iload_n 1, 1) := by decide +kernel
theorem dX6_number_11 : decode cX6_number 11 = .ok (.if_icmp .ge 16, 3) := by decide +kernel
theorem dX6_number_14 : decode cX6_number 14 = .ok (.aload_n 0, 1) := by decide +kernel
theorem dX6_number_15 : decode cX6_number 15 = .ok (.getfield 37, 3) := by decide +kernel
theorem dX6_number_18 : decode cX6_number 18 = .ok (.iload_n 2, 1) := by decide +kernel
theorem dX6_number_19 : decode cX6_number 19 = .ok (.lconst 0, 1) := by decide +kernel
theorem dX6_number_20 : decode cX6_number 20 = .ok (.lastore, 1) := by decide +kernel
theorem dX6_number_21 : decode cX6_number 21 = .ok (.iinc 2 1, 3) := by decide +kernel
theorem dX6_number_24 : decode cX6_number 24 = .ok (.goto (-15), 3) := by decide +kernel
theorem dX6_number_27 : decode cX6_number 27 = .ok (.aload_n 0, 1) := by decide +kernel
theorem dX6_number_28 : decode cX6_number 28 = .ok (.getfield 37, 3) := by decide +kernel
theorem dX6_number_31 : decode cX6_number 31 = .ok (.iconst 0, 1) := by decide +kernel
theorem dX6_number_32 : decode cX6_number 32 = .ok (.lconst 1, 1) := by decide +kernel
theorem dX6_number_33 : decode cX6_number 33 = .ok (.lastore, 1) := by decide +kernel
theorem dX6_number_34 : decode cX6_number 34 = .ok (.iconst 0, 1) := by decide +kernel
theorem dX6_number_35 : decode cX6_number 35 = .ok (.istore_n 2, 1) := by decide +kernel
theorem dX6_number_36 : decode cX6_number 36 = .ok (.iload_n 2, 1) := by decide +kernel
theorem dX6_number_37 : decode cX6_number 37 = .ok (.bipush 16, 2) := by decide +kernel
theorem dX6_number_39 : decode cX6_number 39 = .ok (.if_icmp .ge 40, 3) := by decide +kernel
theorem dX6_number_42 : decode cX6_number 42 = .ok (.iload_n 1, 1) := by decide +kernel
theorem dX6_number_43 : decode cX6_number 43 = .ok (.iconst 1, 1) := by decide +kernel
theorem dX6_number_44 : decode cX6_number 44 = .ok (.isub, 1) := by decide +kernel
theorem dX6_number_45 : decode cX6_number 45 = .ok (.istore_n 3, 1) := by decide +kernel
theorem dX6_number_46 : decode cX6_number 46 = .ok (.iload_n 3, 1) := by decide +kernel
theorem dX6_number_47 : decode cX6_number 47 = .ok (.ifCond .lt 26, 3) := by decide +kernel
theorem dX6_number_50 : decode cX6_number 50 = .ok (.aload_n 0, 1) := by decide +kernel
theorem dX6_number_51 : decode cX6_number 51 = .ok (.getfield 37, 3) := by decide +kernel
theorem dX6_number_54 : decode cX6_number 54 = .ok (.iload_n 3, 1) := by decide +kernel
theorem dX6_number_55 : decode cX6_number 55 = .ok (.laload, 1) := by decide +kernel
theorem dX6_number_56 : decode cX6_number 56 = .ok (.lconst 0, 1) := by decide +kernel
theorem dX6_number_57 : decode cX6_number 57 = .ok (.lcmp, 1) := by decide +kernel
theorem dX6_number_58 : decode cX6_number 58 = .ok (.ifCond .eq 9, 3) := by decide +kernel
theorem dX6_number_61 : decode cX6_number 61 = .ok (.aload_n 0, 1) := by decide +kernel
theorem dX6_number_62 : decode cX6_number 62 = .ok (.iload_n 3, 1) := by decide +kernel
theorem dX6_number_63 : decode cX6_number 63 = .ok (.iload_n 2, 1) := by decide +kernel
theorem dX6_number_64 : decode cX6_number 64 = .ok (.invokevirtual 54, 3) := by decide +kernel
theorem dX6_number_67 : decode cX6_number 67 = .ok (.iinc 3 (-1), 3) := by decide +kernel
theorem dX6_number_70 : decode cX6_number 70 = .ok (.goto (-24), 3) := by decide +kernel
theorem dX6_number_73 : decode cX6_number 73 = .ok (.iinc 2 1, 3) := by decide +kernel
theorem dX6_number_76 : decode cX6_number 76 = .ok (.goto (-40), 3) := by decide +kernel
theorem dX6_number_79 : decode cX6_number 79 = .ok (.aload_n 0, 1) := by decide +kernel
theorem dX6_number_80 : decode cX6_number 80 = .ok (.getfield 37, 3) := by decide +kernel
theorem dX6_number_83 : decode cX6_number 83 = .ok (.aload_n 0, 1) := by decide +kernel
theorem dX6_number_84 : decode cX6_number 84 = .ok (.getfield 15, 3) := by decide +kernel
theorem dX6_number_87 : decode cX6_number 87 = .ok (.laload, 1) := by decide +kernel
theorem dX6_number_88 : decode cX6_number 88 = .ok (.lreturn, 1) := by decide +kernel
theorem dX6_giveTo_0 : decode cX6_giveTo 0 = .ok (.iconst 0, 1) := by decide +kernel
theorem dX6_giveTo_1 : decode cX6_giveTo 1 = .ok (.istore_n 3, 1) := by decide +kernel
theorem dX6_giveTo_2 : decode cX6_giveTo 2 = .ok (.iload_n 3, 1) := by decide +kernel
theorem dX6_giveTo_3 : decode cX6_giveTo 3 = .ok (.aload_n 0, 1) := by decide +kernel
theorem dX6_giveTo_4 : decode cX6_giveTo 4 = .ok (.getfield 9, 3) := by decide +kernel
theorem dX6_giveTo_7 : decode cX6_giveTo 7 = .ok (.if_icmp .ge 50, 3) := by decide +kernel
theorem dX6_giveTo_10 : decode cX6_giveTo 10 = .ok (.iload_n 1, 1) := by decide +kernel
theorem dX6_giveTo_11 : decode cX6_giveTo 11 = .ok (.iload_n 3, 1) := by decide +kernel
theorem dX6_giveTo_12 : decode cX6_giveTo 12 = .ok (.ishr, 1) := by decide +kernel
theorem dX6_giveTo_13 : decode cX6_giveTo 13 = .ok (.iconst 1, 1) := by decide +kernel
theorem dX6_giveTo_14 : decode cX6_giveTo 14 = .ok (.iand, 1) := by decide +kernel
theorem dX6_giveTo_15 : decode cX6_giveTo 15 = .ok (.ifCond .ne 36, 3) := by decide +kernel
theorem dX6_giveTo_18 : decode cX6_giveTo 18 = .ok (.aload_n 0, 1) := by decide +kernel
theorem dX6_giveTo_19 : decode cX6_giveTo 19 = .ok (.getfield 28, 3) := by decide +kernel
theorem dX6_giveTo_22 : decode cX6_giveTo 22 = .ok (.iload_n 3, 1) := by decide +kernel
theorem dX6_giveTo_23 : decode cX6_giveTo 23 = .ok (.iaload, 1) := by decide +kernel
theorem dX6_giveTo_24 : decode cX6_giveTo 24 = .ok (.iload_n 2, 1) := by decide +kernel
theorem dX6_giveTo_25 : decode cX6_giveTo 25 = .ok (.ishr, 1) := by decide +kernel
theorem dX6_giveTo_26 : decode cX6_giveTo 26 = .ok (.iconst 1, 1) := by decide +kernel
theorem dX6_giveTo_27 : decode cX6_giveTo 27 = .ok (.iand, 1) := by decide +kernel
theorem dX6_giveTo_28 : decode cX6_giveTo 28 = .ok (.iconst 1, 1) := by decide +kernel
theorem dX6_giveTo_29 : decode cX6_giveTo 29 = .ok (.if_icmp .ne 22, 3) := by decide +kernel
theorem dX6_giveTo_32 : decode cX6_giveTo 32 = .ok (.aload_n 0, 1) := by decide +kernel
theorem dX6_giveTo_33 : decode cX6_giveTo 33 = .ok (.getfield 37, 3) := by decide +kernel
theorem dX6_giveTo_36 : decode cX6_giveTo 36 = .ok (.iload_n 1, 1) := by decide +kernel
theorem dX6_giveTo_37 : decode cX6_giveTo 37 = .ok (.iconst 1, 1) := by decide +kernel
theorem dX6_giveTo_38 : decode cX6_giveTo 38 = .ok (.iload_n 3, 1) := by decide +kernel
theorem dX6_giveTo_39 : decode cX6_giveTo 39 = .ok (.ishl, 1) := by decide +kernel
theorem dX6_giveTo_40 : decode cX6_giveTo 40 = .ok (.ior, 1) := by decide +kernel
theorem dX6_giveTo_41 : decode cX6_giveTo 41 = .ok (.dup2, 1) := by decide +kernel
theorem dX6_giveTo_42 : decode cX6_giveTo 42 = .ok (.laload, 1) := by decide +kernel
theorem dX6_giveTo_43 : decode cX6_giveTo 43 = .ok (.aload_n 0, 1) := by decide +kernel
theorem dX6_giveTo_44 : decode cX6_giveTo 44 = .ok (.getfield 37, 3) := by decide +kernel
theorem dX6_giveTo_47 : decode cX6_giveTo 47 = .ok (.iload_n 1, 1) := by decide +kernel
theorem dX6_giveTo_48 : decode cX6_giveTo 48 = .ok (.laload, 1) := by decide +kernel
theorem dX6_giveTo_49 : decode cX6_giveTo 49 = .ok (.ladd, 1) := by decide +kernel
theorem dX6_giveTo_50 : decode cX6_giveTo 50 = .ok (.lastore, 1) := by decide +kernel
theorem dX6_giveTo_51 : decode cX6_giveTo 51 = .ok (.iinc 3 1, 3) := by decide +kernel
theorem dX6_giveTo_54 : decode cX6_giveTo 54 = .ok (.goto (-52), 3) := by decide +kernel
theorem dX6_giveTo_57 : decode cX6_giveTo 57 = .ok (.return_, 1) := by decide +kernel
theorem dX6_least_0 : decode cX6_least 0 = .ok (.iconst (-1), 1) := by decide +kernel
theorem dX6_least_1 : decode cX6_least 1 = .ok (.istore_n 2, 1) := by decide +kernel
theorem dX6_least_2 : decode cX6_least 2 = .ok (.iconst 0, 1) := by decide +kernel
theorem dX6_least_3 : decode cX6_least 3 = .ok (.istore_n 3, 1) := by decide +kernel
theorem dX6_least_4 : decode cX6_least 4 = .ok (.iload_n 3, 1) := by decide +kernel
theorem dX6_least_5 : decode cX6_least 5 = .ok (.iload_n 1, 1) := by decide +kernel
theorem dX6_least_6 : decode cX6_least 6 = .ok (.if_icmp .gt 61, 3) := by decide +kernel
theorem dX6_least_9 : decode cX6_least 9 = .ok (.iload_n 3, 1) := by decide +kernel
theorem dX6_least_10 : decode cX6_least 10 = .ok (.aload_n 0, 1) := by decide +kernel
theorem dX6_least_11 : decode cX6_least 11 = .ok (.getfield 9, 3) := by decide +kernel
theorem dX6_least_14 : decode cX6_least 14 = .ok (.if_icmp .ge 53, 3) := by decide +kernel
theorem dX6_least_17 : decode cX6_least 17 = .ok (.aload_n 0, 1) := by decide +kernel
theorem dX6_least_18 : decode cX6_least 18 = .ok (.getfield 15, 3) := by decide +kernel
theorem dX6_least_21 : decode cX6_least 21 = .ok (.iload_n 3, 1) := by decide +kernel
theorem dX6_least_22 : decode cX6_least 22 = .ok (.ishr, 1) := by decide +kernel
theorem dX6_least_23 : decode cX6_least 23 = .ok (.iconst 1, 1) := by decide +kernel
theorem dX6_least_24 : decode cX6_least 24 = .ok (.iand, 1) := by decide +kernel
theorem dX6_least_25 : decode cX6_least 25 = .ok (.iconst 1, 1) := by decide +kernel
theorem dX6_least_26 : decode cX6_least 26 = .ok (.if_icmp .ne 35, 3) := by decide +kernel
theorem dX6_least_29 : decode cX6_least 29 = .ok (.aload_n 0, 1) := by decide +kernel
theorem dX6_least_30 : decode cX6_least 30 = .ok (.invokevirtual 58, 3) := by decide +kernel
theorem dX6_least_33 : decode cX6_least 33 = .ok (.aload_n 0, 1) := by decide +kernel
theorem dX6_least_34 : decode cX6_least 34 = .ok (.getfield 31, 3) := by decide +kernel
theorem dX6_least_37 : decode cX6_least 37 = .ok (.iload_n 3, 1) := by decide +kernel
theorem dX6_least_38 : decode cX6_least 38 = .ok (.iaload, 1) := by decide +kernel
theorem dX6_least_39 : decode cX6_least 39 = .ok (.invokestatic 61, 3) := by decide +kernel
theorem dX6_least_42 : decode cX6_least 42 = .ok (.istore_n 2, 1) := by decide +kernel
theorem dX6_least_43 : decode cX6_least 43 = .ok (.aload_n 0, 1) := by decide +kernel
theorem dX6_least_44 : decode cX6_least 44 = .ok (.getfield 28, 3) := by decide +kernel
theorem dX6_least_47 : decode cX6_least 47 = .ok (.iload_n 3, 1) := by decide +kernel
theorem dX6_least_48 : decode cX6_least 48 = .ok (.iload_n 2, 1) := by decide +kernel
theorem dX6_least_49 : decode cX6_least 49 = .ok (.iconst (-1), 1) := by decide +kernel
theorem dX6_least_50 : decode cX6_least 50 = .ok (.if_icmp .ne 7, 3) := by decide +kernel
theorem dX6_least_53 : decode cX6_least 53 = .ok (.iconst 0, 1) := by decide +kernel
theorem dX6_least_54 : decode cX6_least 54 = .ok (.goto 6, 3) := by decide +kernel
theorem dX6_least_57 : decode cX6_least 57 = .ok (.iconst 1, 1) := by decide +kernel
theorem dX6_least_58 : decode cX6_least 58 = .ok (.iload_n 2, 1) := by decide +kernel
theorem dX6_least_59 : decode cX6_least 59 = .ok (.ishl, 1) := by decide +kernel
theorem dX6_least_60 : decode cX6_least 60 = .ok (.iastore, 1) := by decide +kernel
theorem dX6_least_61 : decode cX6_least 61 = .ok (.iinc 3 1, 3) := by decide +kernel
theorem dX6_least_64 : decode cX6_least 64 = .ok (.goto (-60), 3) := by decide +kernel
theorem dX6_least_67 : decode cX6_least 67 = .ok (.iload_n 2, 1) := by decide +kernel
theorem dX6_least_68 : decode cX6_least 68 = .ok (.ireturn, 1) := by decide +kernel
theorem dX6_stepByStep_0 : decode cX6_stepByStep 0 = .ok (.aload_n 0, 1) := by decide +kernel
theorem dX6_stepByStep_1 : decode cX6_stepByStep 1 = .ok (.iconst 0, 1) := by decide +kernel
theorem dX6_stepByStep_2 : decode cX6_stepByStep 2 = .ok (.putfield 21, 3) := by decide +kernel
theorem dX6_stepByStep_5 : decode cX6_stepByStep 5 = .ok (.iconst 0, 1) := by decide +kernel
theorem dX6_stepByStep_6 : decode cX6_stepByStep 6 = .ok (.istore_n 1, 1) := by decide +kernel
theorem dX6_stepByStep_7 : decode cX6_stepByStep 7 = .ok (.iload_n 1, 1) := by decide +kernel
theorem dX6_stepByStep_8 : decode cX6_stepByStep 8 = .ok (.bipush 8, 2) := by decide +kernel
theorem dX6_stepByStep_10 : decode cX6_stepByStep 10 = .ok (.if_icmp .ge 21, 3) := by decide +kernel
theorem dX6_stepByStep_13 : decode cX6_stepByStep 13 = .ok (.aload_n 0, 1) := by decide +kernel
theorem dX6_stepByStep_14 : decode cX6_stepByStep 14 = .ok (.getfield 41, 3) := by decide +kernel
theorem dX6_stepByStep_17 : decode cX6_stepByStep 17 = .ok (.iload_n 1, 1) := by decide +kernel
theorem dX6_stepByStep_18 : decode cX6_stepByStep 18 = .ok (.aload_n 0, 1) := by decide +kernel
theorem dX6_stepByStep_19 : decode cX6_stepByStep 19 = .ok (.getfield 28, 3) := by decide +kernel
theorem dX6_stepByStep_22 : decode cX6_stepByStep 22 = .ok (.iload_n 1, 1) := by decide +kernel
theorem dX6_stepByStep_23 : decode cX6_stepByStep 23 = .ok (.iaload, 1) := by decide +kernel
theorem dX6_stepByStep_24 : decode cX6_stepByStep 24 = .ok (.iastore, 1) := by decide +kernel
theorem dX6_stepByStep_25 : decode cX6_stepByStep 25 = .ok (.iinc 1 1, 3) := by decide +kernel
theorem dX6_stepByStep_28 : decode cX6_stepByStep 28 = .ok (.goto (-21), 3) := by decide +kernel
theorem dX6_stepByStep_31 : decode cX6_stepByStep 31 = .ok (.iconst 0, 1) := by decide +kernel
theorem dX6_stepByStep_32 : decode cX6_stepByStep 32 = .ok (.istore_n 1, 1) := by decide +kernel
theorem dX6_stepByStep_33 : decode cX6_stepByStep 33 = .ok (.iconst 1, 1) := by decide +kernel
theorem dX6_stepByStep_34 : decode cX6_stepByStep 34 = .ok (.istore_n 2, 1) := by decide +kernel
theorem dX6_stepByStep_35 : decode cX6_stepByStep 35 = .ok (.iconst 0, 1) := by decide +kernel
theorem dX6_stepByStep_36 : decode cX6_stepByStep 36 = .ok (.istore_n 3, 1) := by decide +kernel
theorem dX6_stepByStep_37 : decode cX6_stepByStep 37 = .ok (.iload_n 3, 1) := by decide +kernel
theorem dX6_stepByStep_38 : decode cX6_stepByStep 38 = .ok (.bipush 8, 2) := by decide +kernel
theorem dX6_stepByStep_40 : decode cX6_stepByStep 40 = .ok (.if_icmp .gt 25, 3) := by decide +kernel
theorem dX6_stepByStep_43 : decode cX6_stepByStep 43 = .ok (.iload_n 2, 1) := by decide +kernel
theorem dX6_stepByStep_44 : decode cX6_stepByStep 44 = .ok (.ifCond .eq 21, 3) := by decide +kernel
theorem dX6_stepByStep_47 : decode cX6_stepByStep 47 = .ok (.aload_n 0, 1) := by decide +kernel
theorem dX6_stepByStep_48 : decode cX6_stepByStep 48 = .ok (.invokevirtual 64, 3) := by decide +kernel
theorem dX6_stepByStep_51 : decode cX6_stepByStep 51 = .ok (.istore_n 2, 1) := by decide +kernel
theorem dX6_stepByStep_52 : decode cX6_stepByStep 52 = .ok (.iload_n 2, 1) := by decide +kernel
theorem dX6_stepByStep_53 : decode cX6_stepByStep 53 = .ok (.ifCond .eq 6, 3) := by decide +kernel
theorem dX6_stepByStep_56 : decode cX6_stepByStep 56 = .ok (.iinc 1 1, 3) := by decide +kernel
theorem dX6_stepByStep_59 : decode cX6_stepByStep 59 = .ok (.iinc 3 1, 3) := by decide +kernel
theorem dX6_stepByStep_62 : decode cX6_stepByStep 62 = .ok (.goto (-25), 3) := by decide +kernel
theorem dX6_stepByStep_65 : decode cX6_stepByStep 65 = .ok (.iload_n 1, 1) := by decide +kernel
theorem dX6_stepByStep_66 : decode cX6_stepByStep 66 = .ok (.ireturn, 1) := by decide +kernel
theorem dX6_findSome_0 : decode cX6_findSome 0 = .ok (.iconst 0, 1) := by decide +kernel
theorem dX6_findSome_1 : decode cX6_findSome 1 = .ok (.istore_n 1, 1) := by decide +kernel
theorem dX6_findSome_2 : decode cX6_findSome 2 = .ok (.iconst 0, 1) := by decide +kernel
theorem dX6_findSome_3 : decode cX6_findSome 3 = .ok (.istore_n 2, 1) := by decide +kernel
theorem dX6_findSome_4 : decode cX6_findSome 4 = .ok (.iconst 0, 1) := by decide +kernel
theorem dX6_findSome_5 : decode cX6_findSome 5 = .ok (.istore_n 3, 1) := by decide +kernel
theorem dX6_findSome_6 : decode cX6_findSome 6 = .ok (.iconst 0, 1) := by decide +kernel
theorem dX6_findSome_7 : decode cX6_findSome 7 = .ok (.istore 4, 2) := by decide +kernel
theorem dX6_findSome_9 : decode cX6_findSome 9 = .ok (.iload 4, 2) := by decide +kernel
theorem dX6_findSome_11 : decode cX6_findSome 11 = .ok (.aload_n 0, 1) := by decide +kernel
theorem dX6_findSome_12 : decode cX6_findSome 12 = .ok (.getfield 9, 3) := by decide +kernel
theorem dX6_findSome_15 : decode cX6_findSome 15 = .ok (.if_icmp .ge 64, 3) := by decide +kernel
theorem dX6_findSome_18 : decode cX6_findSome 18 = .ok (.aload_n 0, 1) := by decide +kernel
theorem dX6_findSome_19 : decode cX6_findSome 19 = .ok (.getfield 21, 3) := by decide +kernel
theorem dX6_findSome_22 : decode cX6_findSome 22 = .ok (.iload 4, 2) := by decide +kernel
theorem dX6_findSome_24 : decode cX6_findSome 24 = .ok (.ishr, 1) := by decide +kernel
theorem dX6_findSome_25 : decode cX6_findSome 25 = .ok (.iconst 1, 1) := by decide +kernel
theorem dX6_findSome_26 : decode cX6_findSome 26 = .ok (.iand, 1) := by decide +kernel
theorem dX6_findSome_27 : decode cX6_findSome 27 = .ok (.ifCond .ne 46, 3) := by decide +kernel
theorem dX6_findSome_30 : decode cX6_findSome 30 = .ok (.aload_n 0, 1) := by decide +kernel
theorem dX6_findSome_31 : decode cX6_findSome 31 = .ok (.getfield 41, 3) := by decide +kernel
theorem dX6_findSome_34 : decode cX6_findSome 34 = .ok (.iload 4, 2) := by decide +kernel
theorem dX6_findSome_36 : decode cX6_findSome 36 = .ok (.iaload, 1) := by decide +kernel
theorem dX6_findSome_37 : decode cX6_findSome 37 = .ok (.invokestatic 48, 3) := by decide +kernel
theorem dX6_findSome_40 : decode cX6_findSome 40 = .ok (.iconst 1, 1) := by decide +kernel
theorem dX6_findSome_41 : decode cX6_findSome 41 = .ok (.if_icmp .ne 32, 3) := by decide +kernel
theorem dX6_findSome_44 : decode cX6_findSome 44 = .ok (.iload_n 3, 1) := by decide +kernel
theorem dX6_findSome_45 : decode cX6_findSome 45 = .ok (.iconst 1, 1) := by decide +kernel
theorem dX6_findSome_46 : decode cX6_findSome 46 = .ok (.iload 4, 2) := by decide +kernel
theorem dX6_findSome_48 : decode cX6_findSome 48 = .ok (.ishl, 1) := by decide +kernel
theorem dX6_findSome_49 : decode cX6_findSome 49 = .ok (.ior, 1) := by decide +kernel
theorem dX6_findSome_50 : decode cX6_findSome 50 = .ok (.istore_n 3, 1) := by decide +kernel
theorem dX6_findSome_51 : decode cX6_findSome 51 = .ok (.iload_n 2, 1) := by decide +kernel
theorem dX6_findSome_52 : decode cX6_findSome 52 = .ok (.iload_n 1, 1) := by decide +kernel
theorem dX6_findSome_53 : decode cX6_findSome 53 = .ok (.aload_n 0, 1) := by decide +kernel
theorem dX6_findSome_54 : decode cX6_findSome 54 = .ok (.getfield 41, 3) := by decide +kernel
theorem dX6_findSome_57 : decode cX6_findSome 57 = .ok (.iload 4, 2) := by decide +kernel
theorem dX6_findSome_59 : decode cX6_findSome 59 = .ok (.iaload, 1) := by decide +kernel
theorem dX6_findSome_60 : decode cX6_findSome 60 = .ok (.iand, 1) := by decide +kernel
theorem dX6_findSome_61 : decode cX6_findSome 61 = .ok (.ior, 1) := by decide +kernel
theorem dX6_findSome_62 : decode cX6_findSome 62 = .ok (.istore_n 2, 1) := by decide +kernel
theorem dX6_findSome_63 : decode cX6_findSome 63 = .ok (.iload_n 1, 1) := by decide +kernel
theorem dX6_findSome_64 : decode cX6_findSome 64 = .ok (.aload_n 0, 1) := by decide +kernel
theorem dX6_findSome_65 : decode cX6_findSome 65 = .ok (.getfield 41, 3) := by decide +kernel
theorem dX6_findSome_68 : decode cX6_findSome 68 = .ok (.iload 4, 2) := by decide +kernel
theorem dX6_findSome_70 : decode cX6_findSome 70 = .ok (.iaload, 1) := by decide +kernel
theorem dX6_findSome_71 : decode cX6_findSome 71 = .ok (.ior, 1) := by decide +kernel
theorem dX6_findSome_72 : decode cX6_findSome 72 = .ok (.istore_n 1, 1) := by decide +kernel
theorem dX6_findSome_73 : decode cX6_findSome 73 = .ok (.iinc 4 1, 3) := by decide +kernel
theorem dX6_findSome_76 : decode cX6_findSome 76 = .ok (.goto (-67), 3) := by decide +kernel
theorem dX6_findSome_79 : decode cX6_findSome 79 = .ok (.iconst 0, 1) := by decide +kernel
theorem dX6_findSome_80 : decode cX6_findSome 80 = .ok (.istore 4, 2) := by decide +kernel
theorem dX6_findSome_82 : decode cX6_findSome 82 = .ok (.iload 4, 2) := by decide +kernel
theorem dX6_findSome_84 : decode cX6_findSome 84 = .ok (.aload_n 0, 1) := by decide +kernel
theorem dX6_findSome_85 : decode cX6_findSome 85 = .ok (.getfield 9, 3) := by decide +kernel
theorem dX6_findSome_88 : decode cX6_findSome 88 = .ok (.if_icmp .ge 56, 3) := by decide +kernel
theorem dX6_findSome_91 : decode cX6_findSome 91 = .ok (.iload_n 3, 1) := by decide +kernel
theorem dX6_findSome_92 : decode cX6_findSome 92 = .ok (.iload 4, 2) := by decide +kernel
theorem dX6_findSome_94 : decode cX6_findSome 94 = .ok (.ishr, 1) := by decide +kernel
theorem dX6_findSome_95 : decode cX6_findSome 95 = .ok (.iconst 1, 1) := by decide +kernel
theorem dX6_findSome_96 : decode cX6_findSome 96 = .ok (.iand, 1) := by decide +kernel
theorem dX6_findSome_97 : decode cX6_findSome 97 = .ok (.iconst 1, 1) := by decide +kernel
theorem dX6_findSome_98 : decode cX6_findSome 98 = .ok (.if_icmp .ne 19, 3) := by decide +kernel
theorem dX6_findSome_101 : decode cX6_findSome 101 = .ok (.iload_n 2, 1) := by decide +kernel
theorem dX6_findSome_102 : decode cX6_findSome 102 = .ok (.aload_n 0, 1) := by decide +kernel
theorem dX6_findSome_103 : decode cX6_findSome 103 = .ok (.getfield 41, 3) := by decide +kernel
theorem dX6_findSome_106 : decode cX6_findSome 106 = .ok (.iload 4, 2) := by decide +kernel
theorem dX6_findSome_108 : decode cX6_findSome 108 = .ok (.iaload, 1) := by decide +kernel
theorem dX6_findSome_109 : decode cX6_findSome 109 = .ok (.iand, 1) := by decide +kernel
theorem dX6_findSome_110 : decode cX6_findSome 110 = .ok (.ifCond .ne 7, 3) := by decide +kernel
theorem dX6_findSome_113 : decode cX6_findSome 113 = .ok (.iconst 1, 1) := by decide +kernel
theorem dX6_findSome_114 : decode cX6_findSome 114 = .ok (.goto 4, 3) := by decide +kernel
theorem dX6_findSome_117 : decode cX6_findSome 117 = .ok (.iconst 0, 1) := by decide +kernel
theorem dX6_findSome_118 : decode cX6_findSome 118 = .ok (.istore 5, 2) := by decide +kernel
theorem dX6_findSome_120 : decode cX6_findSome 120 = .ok (.iload 5, 2) := by decide +kernel
theorem dX6_findSome_122 : decode cX6_findSome 122 = .ok (.ifCond .ne 16, 3) := by decide +kernel
theorem dX6_findSome_125 : decode cX6_findSome 125 = .ok (.aload_n 0, 1) := by decide +kernel
theorem dX6_findSome_126 : decode cX6_findSome 126 = .ok (.getfield 41, 3) := by decide +kernel
theorem dX6_findSome_129 : decode cX6_findSome 129 = .ok (.iload 4, 2) := by decide +kernel
theorem dX6_findSome_131 : decode cX6_findSome 131 = .ok (.dup2, 1) := by decide +kernel
theorem dX6_findSome_132 : decode cX6_findSome 132 = .ok (.iaload, 1) := by decide +kernel
theorem dX6_findSome_133 : decode cX6_findSome 133 = .ok (.iload_n 1, 1) := by decide +kernel
theorem dX6_findSome_134 : decode cX6_findSome 134 = .ok (.iconst (-1), 1) := by decide +kernel
theorem dX6_findSome_135 : decode cX6_findSome 135 = .ok (.ixor, 1) := by decide +kernel
theorem dX6_findSome_136 : decode cX6_findSome 136 = .ok (.iand, 1) := by decide +kernel
theorem dX6_findSome_137 : decode cX6_findSome 137 = .ok (.iastore, 1) := by decide +kernel
theorem dX6_findSome_138 : decode cX6_findSome 138 = .ok (.iinc 4 1, 3) := by decide +kernel
theorem dX6_findSome_141 : decode cX6_findSome 141 = .ok (.goto (-59), 3) := by decide +kernel
theorem dX6_findSome_144 : decode cX6_findSome 144 = .ok (.aload_n 0, 1) := by decide +kernel
theorem dX6_findSome_145 : decode cX6_findSome 145 = .ok (.dup, 1) := by decide +kernel
theorem dX6_findSome_146 : decode cX6_findSome 146 = .ok (.getfield 21, 3) := by decide +kernel
theorem dX6_findSome_149 : decode cX6_findSome 149 = .ok (.iload_n 3, 1) := by decide +kernel
theorem dX6_findSome_150 : decode cX6_findSome 150 = .ok (.ior, 1) := by decide +kernel
theorem dX6_findSome_151 : decode cX6_findSome 151 = .ok (.putfield 21, 3) := by decide +kernel
theorem dX6_findSome_154 : decode cX6_findSome 154 = .ok (.iload_n 3, 1) := by decide +kernel
theorem dX6_findSome_155 : decode cX6_findSome 155 = .ok (.ifCond .eq 7, 3) := by decide +kernel
theorem dX6_findSome_158 : decode cX6_findSome 158 = .ok (.iconst 1, 1) := by decide +kernel
theorem dX6_findSome_159 : decode cX6_findSome 159 = .ok (.goto 4, 3) := by decide +kernel
theorem dX6_findSome_162 : decode cX6_findSome 162 = .ok (.iconst 0, 1) := by decide +kernel
theorem dX6_findSome_163 : decode cX6_findSome 163 = .ok (.ireturn, 1) := by decide +kernel
theorem dX6_left_0 : decode cX6_left 0 = .ok (.iload_n 1, 1) := by decide +kernel
theorem dX6_left_1 : decode cX6_left 1 = .ok (.iconst 0, 1) := by decide +kernel
theorem dX6_left_2 : decode cX6_left 2 = .ok (.bipush 7, 2) := by decide +kernel
theorem dX6_left_4 : decode cX6_left 4 = .ok (.invokestatic 68, 3) := by decide +kernel
theorem dX6_left_7 : decode cX6_left 7 = .ok (.ifCond .eq 12, 3) := by decide +kernel
theorem dX6_left_10 : decode cX6_left 10 = .ok (.aload_n 0, 1) := by decide +kernel
theorem dX6_left_11 : decode cX6_left 11 = .ok (.getfield 41, 3) := by decide +kernel
theorem dX6_left_14 : decode cX6_left 14 = .ok (.iload_n 1, 1) := by decide +kernel
theorem dX6_left_15 : decode cX6_left 15 = .ok (.iaload, 1) := by decide +kernel
theorem dX6_left_16 : decode cX6_left 16 = .ok (.goto 4, 3) := by decide +kernel
theorem dX6_left_19 : decode cX6_left 19 = .ok (.iconst 0, 1) := by decide +kernel
theorem dX6_left_20 : decode cX6_left 20 = .ok (.ireturn, 1) := by decide +kernel
theorem dX7_append_0 : decode cX7_append 0 = .ok (.bipush 24, 2) := by decide +kernel
theorem dX7_append_2 : decode cX7_append 2 = .ok (.istore_n 2, 1) := by decide +kernel
theorem dX7_append_3 : decode cX7_append 3 = .ok (.iload_n 2, 1) := by decide +kernel
theorem dX7_append_4 : decode cX7_append 4 = .ok (.ifCond .lt 45, 3) := by decide +kernel
theorem dX7_append_7 : decode cX7_append 7 = .ok (.aload_n 0, 1) := by decide +kernel
theorem dX7_append_8 : decode cX7_append 8 = .ok (.getfield 9, 3) := by decide +kernel
theorem dX7_append_11 : decode cX7_append 11 = .ok (.sipush 200, 3) := by decide +kernel
theorem dX7_append_14 : decode cX7_append 14 = .ok (.if_icmp .ge 35, 3) := by decide +kernel
theorem dX7_append_17 : decode cX7_append 17 = .ok (.aload_n 0, 1) := by decide +kernel
theorem dX7_append_18 : decode cX7_append 18 = .ok (.getfield 15, 3) := by decide +kernel
theorem dX7_append_21 : decode cX7_append 21 = .ok (.aload_n 0, 1) := by decide +kernel
theorem dX7_append_22 : decode cX7_append 22 = .ok (.getfield 9, 3) := by decide +kernel
theorem dX7_append_25 : decode cX7_append 25 = .ok (.iload_n 1, 1) := by decide +kernel
theorem dX7_append_26 : decode cX7_append 26 = .ok (.iload_n 2, 1) := by decide +kernel
theorem dX7_append_27 : decode cX7_append 27 = .ok (.iushr, 1) := by decide +kernel
theorem dX7_append_28 : decode cX7_append 28 = .ok (.sipush 255, 3) := by decide +kernel
theorem dX7_append_31 : decode cX7_append 31 = .ok (.iand, 1) := by decide +kernel
theorem dX7_append_32 : decode cX7_append 32 = .ok (.iastore, 1) := by decide +kernel
theorem dX7_append_33 : decode cX7_append 33 = .ok (.aload_n 0, 1) := by decide +kernel
theorem dX7_append_34 : decode cX7_append 34 = .ok (.dup, 1) := by decide +kernel
theorem dX7_append_35 : decode cX7_append 35 = .ok (.getfield 9, 3) := by decide +kernel
theorem dX7_append_38 : decode cX7_append 38 = .ok (.iconst 1, 1) := by decide +kernel
theorem dX7_append_39 : decode cX7_append 39 = .ok (.iadd, 1) := by decide +kernel
theorem dX7_append_40 : decode cX7_append 40 = .ok (.putfield 9, 3) := by decide +kernel
theorem dX7_append_43 : decode cX7_append 43 = .ok (.iinc 2 (-8), 3) := by decide +kernel
theorem dX7_append_46 : decode cX7_append 46 = .ok (.goto (-43), 3) := by decide +kernel
theorem dX7_append_49 : decode cX7_append 49 = .ok (.return_, 1) := by decide +kernel
theorem dX7_byteAt_0 : decode cX7_byteAt 0 = .ok (.iload_n 1, 1) := by decide +kernel
theorem dX7_byteAt_1 : decode cX7_byteAt 1 = .ok (.iconst 0, 1) := by decide +kernel
theorem dX7_byteAt_2 : decode cX7_byteAt 2 = .ok (.aload_n 0, 1) := by decide +kernel
theorem dX7_byteAt_3 : decode cX7_byteAt 3 = .ok (.getfield 9, 3) := by decide +kernel
theorem dX7_byteAt_6 : decode cX7_byteAt 6 = .ok (.iconst 1, 1) := by decide +kernel
theorem dX7_byteAt_7 : decode cX7_byteAt 7 = .ok (.isub, 1) := by decide +kernel
theorem dX7_byteAt_8 : decode cX7_byteAt 8 = .ok (.invokestatic 19, 3) := by decide +kernel
theorem dX7_byteAt_11 : decode cX7_byteAt 11 = .ok (.ifCond .eq 12, 3) := by decide +kernel
theorem dX7_byteAt_14 : decode cX7_byteAt 14 = .ok (.aload_n 0, 1) := by decide +kernel
theorem dX7_byteAt_15 : decode cX7_byteAt 15 = .ok (.getfield 15, 3) := by decide +kernel
theorem dX7_byteAt_18 : decode cX7_byteAt 18 = .ok (.iload_n 1, 1) := by decide +kernel
theorem dX7_byteAt_19 : decode cX7_byteAt 19 = .ok (.iaload, 1) := by decide +kernel
theorem dX7_byteAt_20 : decode cX7_byteAt 20 = .ok (.goto 4, 3) := by decide +kernel
theorem dX7_byteAt_23 : decode cX7_byteAt 23 = .ok (.iconst 0, 1) := by decide +kernel
theorem dX7_byteAt_24 : decode cX7_byteAt 24 = .ok (.ireturn, 1) := by decide +kernel
theorem dX7_number_0 : decode cX7_number 0 = .ok (.aload_n 0, 1) := by decide +kernel
theorem dX7_number_1 : decode cX7_number 1 = .ok (.iload_n 1, 1) := by decide +kernel
theorem dX7_number_2 : decode cX7_number 2 = .ok (.invokevirtual 23, 3) := by decide +kernel
theorem dX7_number_5 : decode cX7_number 5 = .ok (.bipush 24, 2) := by decide +kernel
theorem dX7_number_7 : decode cX7_number 7 = .ok (.ishl, 1) := by decide +kernel
theorem dX7_number_8 : decode cX7_number 8 = .ok (.aload_n 0, 1) := by decide +kernel
theorem dX7_number_9 : decode cX7_number 9 = .ok (.iload_n 1, 1) := by decide +kernel
theorem dX7_number_10 : decode cX7_number 10 = .ok (.iconst 1, 1) := by decide +kernel
theorem dX7_number_11 : decode cX7_number 11 = .ok (.iadd, 1) := by decide +kernel
theorem dX7_number_12 : decode cX7_number 12 = .ok (.invokevirtual 23, 3) := by decide +kernel
theorem dX7_number_15 : decode cX7_number 15 = .ok (.bipush 16, 2) := by decide +kernel
theorem dX7_number_17 : decode cX7_number 17 = .ok (.ishl, 1) := by decide +kernel
theorem dX7_number_18 : decode cX7_number 18 = .ok (.ior, 1) := by decide +kernel
theorem dX7_number_19 : decode cX7_number 19 = .ok (.aload_n 0, 1) := by decide +kernel
theorem dX7_number_20 : decode cX7_number 20 = .ok (.iload_n 1, 1) := by decide +kernel
theorem dX7_number_21 : decode cX7_number 21 = .ok (.iconst 2, 1) := by decide +kernel
theorem dX7_number_22 : decode cX7_number 22 = .ok (.iadd, 1) := by decide +kernel
theorem dX7_number_23 : decode cX7_number 23 = .ok (.invokevirtual 23, 3) := by decide +kernel
theorem dX7_number_26 : decode cX7_number 26 = .ok (.bipush 8, 2) := by decide +kernel
theorem dX7_number_28 : decode cX7_number 28 = .ok (.ishl, 1) := by decide +kernel
theorem dX7_number_29 : decode cX7_number 29 = .ok (.ior, 1) := by decide +kernel
theorem dX7_number_30 : decode cX7_number 30 = .ok (.aload_n 0, 1) := by decide +kernel
theorem dX7_number_31 : decode cX7_number 31 = .ok (.iload_n 1, 1) := by decide +kernel
theorem dX7_number_32 : decode cX7_number 32 = .ok (.iconst 3, 1) := by decide +kernel
theorem dX7_number_33 : decode cX7_number 33 = .ok (.iadd, 1) := by decide +kernel
theorem dX7_number_34 : decode cX7_number 34 = .ok (.invokevirtual 23, 3) := by decide +kernel
theorem dX7_number_37 : decode cX7_number 37 = .ok (.ior, 1) := by decide +kernel
theorem dX7_number_38 : decode cX7_number 38 = .ok (.ireturn, 1) := by decide +kernel
theorem dX7_clear_0 : decode cX7_clear 0 = .ok (.aload_n 0, 1) := by decide +kernel
theorem dX7_clear_1 : decode cX7_clear 1 = .ok (.iconst 0, 1) := by decide +kernel
theorem dX7_clear_2 : decode cX7_clear 2 = .ok (.putfield 9, 3) := by decide +kernel
theorem dX7_clear_5 : decode cX7_clear 5 = .ok (.return_, 1) := by decide +kernel
theorem dX8_upper_0 : decode cX8_upper 0 = .ok (.iload_n 1, 1) := by decide +kernel
theorem dX8_upper_1 : decode cX8_upper 1 = .ok (.invokestatic 83, 3) := by decide +kernel
theorem dX8_upper_4 : decode cX8_upper 4 = .ok (.ifCond .eq 13, 3) := by decide +kernel
theorem dX8_upper_7 : decode cX8_upper 7 = .ok (.iload_n 2, 1) := by decide +kernel
theorem dX8_upper_8 : decode cX8_upper 8 = .ok (.iconst 0, 1) := by decide +kernel
theorem dX8_upper_9 : decode cX8_upper 9 = .ok (.bipush 31, 2) := by decide +kernel
theorem dX8_upper_11 : decode cX8_upper 11 = .ok (.invokestatic 87, 3) := by decide +kernel
theorem dX8_upper_14 : decode cX8_upper 14 = .ok (.ifCond .ne 5, 3) := by decide +kernel
theorem dX8_upper_17 : decode cX8_upper 17 = .ok (.iconst 0, 1) := by decide +kernel
theorem dX8_upper_18 : decode cX8_upper 18 = .ok (.ireturn, 1) := by decide +kernel
theorem dX8_upper_19 : decode cX8_upper 19 = .ok (.iload_n 3, 1) := by decide +kernel
theorem dX8_upper_20 : decode cX8_upper 20 = .ok (.iconst (-1), 1) := by decide +kernel
theorem dX8_upper_21 : decode cX8_upper 21 = .ok (.if_icmp .eq 21, 3) := by decide +kernel
theorem dX8_upper_24 : decode cX8_upper 24 = .ok (.iload_n 3, 1) := by decide +kernel
theorem dX8_upper_25 : decode cX8_upper 25 = .ok (.bipush 16, 2) := by decide +kernel
theorem dX8_upper_27 : decode cX8_upper 27 = .ok (.bipush 31, 2) := by decide +kernel
theorem dX8_upper_29 : decode cX8_upper 29 = .ok (.invokestatic 87, 3) := by decide +kernel
theorem dX8_upper_32 : decode cX8_upper 32 = .ok (.ifCond .eq 8, 3) := by decide +kernel
theorem dX8_upper_35 : decode cX8_upper 35 = .ok (.iload_n 3, 1) := by decide +kernel
theorem dX8_upper_36 : decode cX8_upper 36 = .ok (.iload_n 2, 1) := by decide +kernel
theorem dX8_upper_37 : decode cX8_upper 37 = .ok (.if_icmp .gt 5, 3) := by decide +kernel
theorem dX8_upper_40 : decode cX8_upper 40 = .ok (.iconst 0, 1) := by decide +kernel
theorem dX8_upper_41 : decode cX8_upper 41 = .ok (.ireturn, 1) := by decide +kernel
theorem dX8_upper_42 : decode cX8_upper 42 = .ok (.aload_n 0, 1) := by decide +kernel
theorem dX8_upper_43 : decode cX8_upper 43 = .ok (.getfield 11, 3) := by decide +kernel
theorem dX8_upper_46 : decode cX8_upper 46 = .ok (.iload_n 1, 1) := by decide +kernel
theorem dX8_upper_47 : decode cX8_upper 47 = .ok (.aaload, 1) := by decide +kernel
theorem dX8_upper_48 : decode cX8_upper 48 = .ok (.iload_n 2, 1) := by decide +kernel
theorem dX8_upper_49 : decode cX8_upper 49 = .ok (.iload_n 3, 1) := by decide +kernel
theorem dX8_upper_50 : decode cX8_upper 50 = .ok (.invokevirtual 91, 3) := by decide +kernel
theorem dX8_upper_53 : decode cX8_upper 53 = .ok (.aload_n 0, 1) := by decide +kernel
theorem dX8_upper_54 : decode cX8_upper 54 = .ok (.getfield 55, 3) := by decide +kernel
theorem dX8_upper_57 : decode cX8_upper 57 = .ok (.invokevirtual 95, 3) := by decide +kernel
theorem dX8_upper_60 : decode cX8_upper 60 = .ok (.iconst 1, 1) := by decide +kernel
theorem dX8_upper_61 : decode cX8_upper 61 = .ok (.ireturn, 1) := by decide +kernel
theorem dX8_weight_0 : decode cX8_weight 0 = .ok (.iload_n 1, 1) := by decide +kernel
theorem dX8_weight_1 : decode cX8_weight 1 = .ok (.invokestatic 83, 3) := by decide +kernel
theorem dX8_weight_4 : decode cX8_weight 4 = .ok (.ifCond .eq 13, 3) := by decide +kernel
theorem dX8_weight_7 : decode cX8_weight 7 = .ok (.iload_n 2, 1) := by decide +kernel
theorem dX8_weight_8 : decode cX8_weight 8 = .ok (.iconst 0, 1) := by decide +kernel
theorem dX8_weight_9 : decode cX8_weight 9 = .ok (.bipush 99, 2) := by decide +kernel
theorem dX8_weight_11 : decode cX8_weight 11 = .ok (.invokestatic 87, 3) := by decide +kernel
theorem dX8_weight_14 : decode cX8_weight 14 = .ok (.ifCond .ne 5, 3) := by decide +kernel
theorem dX8_weight_17 : decode cX8_weight 17 = .ok (.iconst 0, 1) := by decide +kernel
theorem dX8_weight_18 : decode cX8_weight 18 = .ok (.ireturn, 1) := by decide +kernel
theorem dX8_weight_19 : decode cX8_weight 19 = .ok (.aload_n 0, 1) := by decide +kernel
theorem dX8_weight_20 : decode cX8_weight 20 = .ok (.getfield 11, 3) := by decide +kernel
theorem dX8_weight_23 : decode cX8_weight 23 = .ok (.iload_n 1, 1) := by decide +kernel
theorem dX8_weight_24 : decode cX8_weight 24 = .ok (.aaload, 1) := by decide +kernel
theorem dX8_weight_25 : decode cX8_weight 25 = .ok (.iload_n 2, 1) := by decide +kernel
theorem dX8_weight_26 : decode cX8_weight 26 = .ok (.putfield 98, 3) := by decide +kernel
theorem dX8_weight_29 : decode cX8_weight 29 = .ok (.iconst 1, 1) := by decide +kernel
theorem dX8_weight_30 : decode cX8_weight 30 = .ok (.ireturn, 1) := by decide +kernel
theorem dX8_person_0 : decode cX8_person 0 = .ok (.iload_n 1, 1) := by decide +kernel
theorem dX8_person_1 : decode cX8_person 1 = .ok (.invokestatic 101, 3) := by decide +kernel
theorem dX8_person_4 : decode cX8_person 4 = .ok (.ifCond .eq 34, 3) := by decide +kernel
theorem dX8_person_7 : decode cX8_person 7 = .ok (.iload_n 2, 1) := by decide +kernel
theorem dX8_person_8 : decode cX8_person 8 = .ok (.invokestatic 101, 3) := by decide +kernel
theorem dX8_person_11 : decode cX8_person 11 = .ok (.ifCond .eq 27, 3) := by decide +kernel
theorem dX8_person_14 : decode cX8_person 14 = .ok (.iload_n 3, 1) := by decide +kernel
theorem dX8_person_15 : decode cX8_person 15 = .ok (.invokestatic 101, 3) := by decide +kernel
theorem dX8_person_18 : decode cX8_person 18 = .ok (.ifCond .eq 20, 3) := by decide +kernel
theorem dX8_person_21 : decode cX8_person 21 = .ok (.iload 4, 2) := by decide +kernel
theorem dX8_person_23 : decode cX8_person 23 = .ok (.invokestatic 101, 3) := by decide +kernel
theorem dX8_person_26 : decode cX8_person 26 = .ok (.ifCond .eq 12, 3) := by decide +kernel
theorem dX8_person_29 : decode cX8_person 29 = .ok (.aload_n 0, 1) := by decide +kernel
theorem dX8_person_30 : decode cX8_person 30 = .ok (.getfield 74, 3) := by decide +kernel
theorem dX8_person_33 : decode cX8_person 33 = .ok (.bipush 16, 2) := by decide +kernel
theorem dX8_person_35 : decode cX8_person 35 = .ok (.if_icmp .lt 5, 3) := by decide +kernel
theorem dX8_person_38 : decode cX8_person 38 = .ok (.iconst (-1), 1) := by decide +kernel
theorem dX8_person_39 : decode cX8_person 39 = .ok (.ireturn, 1) := by decide +kernel
theorem dX8_person_40 : decode cX8_person 40 = .ok (.aload_n 0, 1) := by decide +kernel
theorem dX8_person_41 : decode cX8_person 41 = .ok (.getfield 74, 3) := by decide +kernel
theorem dX8_person_44 : decode cX8_person 44 = .ok (.istore 5, 2) := by decide +kernel
theorem dX8_person_46 : decode cX8_person 46 = .ok (.aload_n 0, 1) := by decide +kernel
theorem dX8_person_47 : decode cX8_person 47 = .ok (.dup, 1) := by decide +kernel
theorem dX8_person_48 : decode cX8_person 48 = .ok (.getfield 74, 3) := by decide +kernel
theorem dX8_person_51 : decode cX8_person 51 = .ok (.iconst 1, 1) := by decide +kernel
theorem dX8_person_52 : decode cX8_person 52 = .ok (.iadd, 1) := by decide +kernel
theorem dX8_person_53 : decode cX8_person 53 = .ok (.putfield 74, 3) := by decide +kernel
theorem dX8_person_56 : decode cX8_person 56 = .ok (.aload_n 0, 1) := by decide +kernel
theorem dX8_person_57 : decode cX8_person 57 = .ok (.getfield 11, 3) := by decide +kernel
theorem dX8_person_60 : decode cX8_person 60 = .ok (.iconst 0, 1) := by decide +kernel
theorem dX8_person_61 : decode cX8_person 61 = .ok (.aaload, 1) := by decide +kernel
theorem dX8_person_62 : decode cX8_person 62 = .ok (.iload 5, 2) := by decide +kernel
theorem dX8_person_64 : decode cX8_person 64 = .ok (.iload_n 1, 1) := by decide +kernel
theorem dX8_person_65 : decode cX8_person 65 = .ok (.invokevirtual 104, 3) := by decide +kernel
theorem dX8_person_68 : decode cX8_person 68 = .ok (.aload_n 0, 1) := by decide +kernel
theorem dX8_person_69 : decode cX8_person 69 = .ok (.getfield 11, 3) := by decide +kernel
theorem dX8_person_72 : decode cX8_person 72 = .ok (.iconst 1, 1) := by decide +kernel
theorem dX8_person_73 : decode cX8_person 73 = .ok (.aaload, 1) := by decide +kernel
theorem dX8_person_74 : decode cX8_person 74 = .ok (.iload 5, 2) := by decide +kernel
theorem dX8_person_76 : decode cX8_person 76 = .ok (.iload_n 2, 1) := by decide +kernel
theorem dX8_person_77 : decode cX8_person 77 = .ok (.invokevirtual 104, 3) := by decide +kernel
theorem dX8_person_80 : decode cX8_person 80 = .ok (.aload_n 0, 1) := by decide +kernel
theorem dX8_person_81 : decode cX8_person 81 = .ok (.getfield 11, 3) := by decide +kernel
theorem dX8_person_84 : decode cX8_person 84 = .ok (.iconst 2, 1) := by decide +kernel
theorem dX8_person_85 : decode cX8_person 85 = .ok (.aaload, 1) := by decide +kernel
theorem dX8_person_86 : decode cX8_person 86 = .ok (.iload 5, 2) := by decide +kernel
theorem dX8_person_88 : decode cX8_person 88 = .ok (.iload_n 3, 1) := by decide +kernel
theorem dX8_person_89 : decode cX8_person 89 = .ok (.invokevirtual 104, 3) := by decide +kernel
theorem dX8_person_92 : decode cX8_person 92 = .ok (.aload_n 0, 1) := by decide +kernel
theorem dX8_person_93 : decode cX8_person 93 = .ok (.getfield 11, 3) := by decide +kernel
theorem dX8_person_96 : decode cX8_person 96 = .ok (.iconst 3, 1) := by decide +kernel
theorem dX8_person_97 : decode cX8_person 97 = .ok (.aaload, 1) := by decide +kernel
theorem dX8_person_98 : decode cX8_person 98 = .ok (.iload 5, 2) := by decide +kernel
theorem dX8_person_100 : decode cX8_person 100 = .ok (.iload 4, 2) := by decide +kernel
theorem dX8_person_102 : decode cX8_person 102 = .ok (.invokevirtual 104, 3) := by decide +kernel
theorem dX8_person_105 : decode cX8_person 105 = .ok (.aload_n 0, 1) := by decide +kernel
theorem dX8_person_106 : decode cX8_person 106 = .ok (.iload 5, 2) := by decide +kernel
theorem dX8_person_108 : decode cX8_person 108 = .ok (.invokevirtual 107, 3) := by decide +kernel
theorem dX8_person_111 : decode cX8_person 111 = .ok (.iload 5, 2) := by decide +kernel
theorem dX8_person_113 : decode cX8_person 113 = .ok (.ireturn, 1) := by decide +kernel
theorem dX8_wish_0 : decode cX8_wish 0 = .ok (.aload_n 0, 1) := by decide +kernel
theorem dX8_wish_1 : decode cX8_wish 1 = .ok (.iload_n 1, 1) := by decide +kernel
theorem dX8_wish_2 : decode cX8_wish 2 = .ok (.invokevirtual 111, 3) := by decide +kernel
theorem dX8_wish_5 : decode cX8_wish 5 = .ok (.ifCond .eq 13, 3) := by decide +kernel
theorem dX8_wish_8 : decode cX8_wish 8 = .ok (.iload_n 2, 1) := by decide +kernel
theorem dX8_wish_9 : decode cX8_wish 9 = .ok (.iconst 0, 1) := by decide +kernel
theorem dX8_wish_10 : decode cX8_wish 10 = .ok (.bipush 16, 2) := by decide +kernel
theorem dX8_wish_12 : decode cX8_wish 12 = .ok (.invokestatic 87, 3) := by decide +kernel
theorem dX8_wish_15 : decode cX8_wish 15 = .ok (.ifCond .ne 5, 3) := by decide +kernel
theorem dX8_wish_18 : decode cX8_wish 18 = .ok (.iconst 0, 1) := by decide +kernel
theorem dX8_wish_19 : decode cX8_wish 19 = .ok (.ireturn, 1) := by decide +kernel
theorem dX8_wish_20 : decode cX8_wish 20 = .ok (.aload_n 0, 1) := by decide +kernel
theorem dX8_wish_21 : decode cX8_wish 21 = .ok (.getfield 15, 3) := by decide +kernel
theorem dX8_wish_24 : decode cX8_wish 24 = .ok (.iload_n 1, 1) := by decide +kernel
theorem dX8_wish_25 : decode cX8_wish 25 = .ok (.iload_n 2, 1) := by decide +kernel
theorem dX8_wish_26 : decode cX8_wish 26 = .ok (.iastore, 1) := by decide +kernel
theorem dX8_wish_27 : decode cX8_wish 27 = .ok (.aload_n 0, 1) := by decide +kernel
theorem dX8_wish_28 : decode cX8_wish 28 = .ok (.iload_n 1, 1) := by decide +kernel
theorem dX8_wish_29 : decode cX8_wish 29 = .ok (.invokevirtual 107, 3) := by decide +kernel
theorem dX8_wish_32 : decode cX8_wish 32 = .ok (.iconst 1, 1) := by decide +kernel
theorem dX8_wish_33 : decode cX8_wish 33 = .ok (.ireturn, 1) := by decide +kernel
theorem dX8_feed_0 : decode cX8_feed 0 = .ok (.aload_n 0, 1) := by decide +kernel
theorem dX8_feed_1 : decode cX8_feed 1 = .ok (.getfield 22, 3) := by decide +kernel
theorem dX8_feed_4 : decode cX8_feed 4 = .ok (.getfield 114, 3) := by decide +kernel
theorem dX8_feed_7 : decode cX8_feed 7 = .ok (.bipush 20, 2) := by decide +kernel
theorem dX8_feed_9 : decode cX8_feed 9 = .ok (.iadd, 1) := by decide +kernel
theorem dX8_feed_10 : decode cX8_feed 10 = .ok (.sipush 200, 3) := by decide +kernel
theorem dX8_feed_13 : decode cX8_feed 13 = .ok (.if_icmp .le 5, 3) := by decide +kernel
theorem dX8_feed_16 : decode cX8_feed 16 = .ok (.iconst (-1), 1) := by decide +kernel
theorem dX8_feed_17 : decode cX8_feed 17 = .ok (.ireturn, 1) := by decide +kernel
theorem dX8_feed_18 : decode cX8_feed 18 = .ok (.aload_n 0, 1) := by decide +kernel
theorem dX8_feed_19 : decode cX8_feed 19 = .ok (.getfield 22, 3) := by decide +kernel
theorem dX8_feed_22 : decode cX8_feed 22 = .ok (.iload_n 1, 1) := by decide +kernel
theorem dX8_feed_23 : decode cX8_feed 23 = .ok (.invokevirtual 117, 3) := by decide +kernel
theorem dX8_feed_26 : decode cX8_feed 26 = .ok (.aload_n 0, 1) := by decide +kernel
theorem dX8_feed_27 : decode cX8_feed 27 = .ok (.getfield 22, 3) := by decide +kernel
theorem dX8_feed_30 : decode cX8_feed 30 = .ok (.iload_n 2, 1) := by decide +kernel
theorem dX8_feed_31 : decode cX8_feed 31 = .ok (.invokevirtual 117, 3) := by decide +kernel
theorem dX8_feed_34 : decode cX8_feed 34 = .ok (.aload_n 0, 1) := by decide +kernel
theorem dX8_feed_35 : decode cX8_feed 35 = .ok (.getfield 22, 3) := by decide +kernel
theorem dX8_feed_38 : decode cX8_feed 38 = .ok (.iload_n 3, 1) := by decide +kernel
theorem dX8_feed_39 : decode cX8_feed 39 = .ok (.invokevirtual 117, 3) := by decide +kernel
theorem dX8_feed_42 : decode cX8_feed 42 = .ok (.aload_n 0, 1) := by decide +kernel
theorem dX8_feed_43 : decode cX8_feed 43 = .ok (.getfield 22, 3) := by decide +kernel
theorem dX8_feed_46 : decode cX8_feed 46 = .ok (.iload 4, 2) := by decide +kernel
theorem dX8_feed_48 : decode cX8_feed 48 = .ok (.invokevirtual 117, 3) := by decide +kernel
theorem dX8_feed_51 : decode cX8_feed 51 = .ok (.aload_n 0, 1) := by decide +kernel
theorem dX8_feed_52 : decode cX8_feed 52 = .ok (.getfield 22, 3) := by decide +kernel
theorem dX8_feed_55 : decode cX8_feed 55 = .ok (.iload 5, 2) := by decide +kernel
theorem dX8_feed_57 : decode cX8_feed 57 = .ok (.invokevirtual 117, 3) := by decide +kernel
theorem dX8_feed_60 : decode cX8_feed 60 = .ok (.aload_n 0, 1) := by decide +kernel
theorem dX8_feed_61 : decode cX8_feed 61 = .ok (.getfield 22, 3) := by decide +kernel
theorem dX8_feed_64 : decode cX8_feed 64 = .ok (.getfield 114, 3) := by decide +kernel
theorem dX8_feed_67 : decode cX8_feed 67 = .ok (.ireturn, 1) := by decide +kernel
theorem dX8_blurred_0 : decode cX8_blurred 0 = .ok (.iload_n 1, 1) := by decide +kernel
theorem dX8_blurred_1 : decode cX8_blurred 1 = .ok (.invokestatic 83, 3) := by decide +kernel
theorem dX8_blurred_4 : decode cX8_blurred 4 = .ok (.ifCond .eq 17, 3) := by decide +kernel
theorem dX8_blurred_7 : decode cX8_blurred 7 = .ok (.iload_n 2, 1) := by decide +kernel
theorem dX8_blurred_8 : decode cX8_blurred 8 = .ok (.invokestatic 101, 3) := by decide +kernel
theorem dX8_blurred_11 : decode cX8_blurred 11 = .ok (.ifCond .eq 10, 3) := by decide +kernel
theorem dX8_blurred_14 : decode cX8_blurred 14 = .ok (.iload_n 3, 1) := by decide +kernel
theorem dX8_blurred_15 : decode cX8_blurred 15 = .ok (.invokestatic 120, 3) := by decide +kernel
theorem dX8_blurred_18 : decode cX8_blurred 18 = .ok (.ifCond .ne 5, 3) := by decide +kernel
theorem dX8_blurred_21 : decode cX8_blurred 21 = .ok (.iconst (-1), 1) := by decide +kernel
theorem dX8_blurred_22 : decode cX8_blurred 22 = .ok (.ireturn, 1) := by decide +kernel
theorem dX8_blurred_23 : decode cX8_blurred 23 = .ok (.aload_n 0, 1) := by decide +kernel
theorem dX8_blurred_24 : decode cX8_blurred 24 = .ok (.getfield 11, 3) := by decide +kernel
theorem dX8_blurred_27 : decode cX8_blurred 27 = .ok (.iload_n 1, 1) := by decide +kernel
theorem dX8_blurred_28 : decode cX8_blurred 28 = .ok (.aaload, 1) := by decide +kernel
theorem dX8_blurred_29 : decode cX8_blurred 29 = .ok (.iload_n 2, 1) := by decide +kernel
theorem dX8_blurred_30 : decode cX8_blurred 30 = .ok (.iload_n 3, 1) := by decide +kernel
theorem dX8_blurred_31 : decode cX8_blurred 31 = .ok (.invokevirtual 123, 3) := by decide +kernel
theorem dX8_blurred_34 : decode cX8_blurred 34 = .ok (.ireturn, 1) := by decide +kernel
theorem dX8_size_0 : decode cX8_size 0 = .ok (.iload_n 1, 1) := by decide +kernel
theorem dX8_size_1 : decode cX8_size 1 = .ok (.invokestatic 83, 3) := by decide +kernel
theorem dX8_size_4 : decode cX8_size 4 = .ok (.ifCond .eq 13, 3) := by decide +kernel
theorem dX8_size_7 : decode cX8_size 7 = .ok (.iload_n 2, 1) := by decide +kernel
theorem dX8_size_8 : decode cX8_size 8 = .ok (.iconst 0, 1) := by decide +kernel
theorem dX8_size_9 : decode cX8_size 9 = .ok (.bipush 32, 2) := by decide +kernel
theorem dX8_size_11 : decode cX8_size 11 = .ok (.invokestatic 87, 3) := by decide +kernel
theorem dX8_size_14 : decode cX8_size 14 = .ok (.ifCond .ne 5, 3) := by decide +kernel
theorem dX8_size_17 : decode cX8_size 17 = .ok (.iconst (-1), 1) := by decide +kernel
theorem dX8_size_18 : decode cX8_size 18 = .ok (.ireturn, 1) := by decide +kernel
theorem dX8_size_19 : decode cX8_size 19 = .ok (.aload_n 0, 1) := by decide +kernel
theorem dX8_size_20 : decode cX8_size 20 = .ok (.getfield 11, 3) := by decide +kernel
theorem dX8_size_23 : decode cX8_size 23 = .ok (.iload_n 1, 1) := by decide +kernel
theorem dX8_size_24 : decode cX8_size 24 = .ok (.aaload, 1) := by decide +kernel
theorem dX8_size_25 : decode cX8_size 25 = .ok (.iload_n 2, 1) := by decide +kernel
theorem dX8_size_26 : decode cX8_size 26 = .ok (.invokevirtual 127, 3) := by decide +kernel
theorem dX8_size_29 : decode cX8_size 29 = .ok (.ireturn, 1) := by decide +kernel
theorem dX8_book_0 : decode cX8_book 0 = .ok (.iload_n 1, 1) := by decide +kernel
theorem dX8_book_1 : decode cX8_book 1 = .ok (.iconst 1, 1) := by decide +kernel
theorem dX8_book_2 : decode cX8_book 2 = .ok (.bipush 8, 2) := by decide +kernel
theorem dX8_book_4 : decode cX8_book 4 = .ok (.invokestatic 87, 3) := by decide +kernel
theorem dX8_book_7 : decode cX8_book 7 = .ok (.ifCond .eq 22, 3) := by decide +kernel
theorem dX8_book_10 : decode cX8_book 10 = .ok (.aload_n 0, 1) := by decide +kernel
theorem dX8_book_11 : decode cX8_book 11 = .ok (.getfield 78, 3) := by decide +kernel
theorem dX8_book_14 : decode cX8_book 14 = .ok (.iconst 4, 1) := by decide +kernel
theorem dX8_book_15 : decode cX8_book 15 = .ok (.if_icmp .ge 14, 3) := by decide +kernel
theorem dX8_book_18 : decode cX8_book 18 = .ok (.aload_n 0, 1) := by decide +kernel
theorem dX8_book_19 : decode cX8_book 19 = .ok (.getfield 22, 3) := by decide +kernel
theorem dX8_book_22 : decode cX8_book 22 = .ok (.getfield 114, 3) := by decide +kernel
theorem dX8_book_25 : decode cX8_book 25 = .ok (.iload_n 1, 1) := by decide +kernel
theorem dX8_book_26 : decode cX8_book 26 = .ok (.if_icmp .ge 5, 3) := by decide +kernel
theorem dX8_book_29 : decode cX8_book 29 = .ok (.iconst (-1), 1) := by decide +kernel
theorem dX8_book_30 : decode cX8_book 30 = .ok (.ireturn, 1) := by decide +kernel
theorem dX8_book_31 : decode cX8_book 31 = .ok (.iload_n 2, 1) := by decide +kernel
theorem dX8_book_32 : decode cX8_book 32 = .ok (.invokestatic 120, 3) := by decide +kernel
theorem dX8_book_35 : decode cX8_book 35 = .ok (.ifCond .eq 26, 3) := by decide +kernel
theorem dX8_book_38 : decode cX8_book 38 = .ok (.iload_n 3, 1) := by decide +kernel
theorem dX8_book_39 : decode cX8_book 39 = .ok (.invokestatic 120, 3) := by decide +kernel
theorem dX8_book_42 : decode cX8_book 42 = .ok (.ifCond .eq 19, 3) := by decide +kernel
theorem dX8_book_45 : decode cX8_book 45 = .ok (.iload 4, 2) := by decide +kernel
theorem dX8_book_47 : decode cX8_book 47 = .ok (.invokestatic 120, 3) := by decide +kernel
theorem dX8_book_50 : decode cX8_book 50 = .ok (.ifCond .eq 11, 3) := by decide +kernel
theorem dX8_book_53 : decode cX8_book 53 = .ok (.iload 5, 2) := by decide +kernel
theorem dX8_book_55 : decode cX8_book 55 = .ok (.invokestatic 120, 3) := by decide +kernel
theorem dX8_book_58 : decode cX8_book 58 = .ok (.ifCond .ne 5, 3) := by decide +kernel
theorem dX8_book_61 : decode cX8_book 61 = .ok (.iconst (-1), 1) := by decide +kernel
theorem dX8_book_62 : decode cX8_book 62 = .ok (.ireturn, 1) := by decide +kernel
theorem dX8_book_63 : decode cX8_book 63 = .ok (.aload_n 0, 1) := by decide +kernel
theorem dX8_book_64 : decode cX8_book 64 = .ok (.iload_n 1, 1) := by decide +kernel
theorem dX8_book_65 : decode cX8_book 65 = .ok (.invokevirtual 131, 3) := by decide +kernel
theorem dX8_book_68 : decode cX8_book 68 = .ok (.istore 6, 2) := by decide +kernel
theorem dX8_book_70 : decode cX8_book 70 = .ok (.iload 6, 2) := by decide +kernel
theorem dX8_book_72 : decode cX8_book 72 = .ok (.ifCond .eq 87, 3) := by decide +kernel
theorem dX8_book_75 : decode cX8_book 75 = .ok (.aload_n 0, 1) := by decide +kernel
theorem dX8_book_76 : decode cX8_book 76 = .ok (.getfield 28, 3) := by decide +kernel
theorem dX8_book_79 : decode cX8_book 79 = .ok (.aload_n 0, 1) := by decide +kernel
theorem dX8_book_80 : decode cX8_book 80 = .ok (.getfield 78, 3) := by decide +kernel
theorem dX8_book_83 : decode cX8_book 83 = .ok (.aaload, 1) := by decide +kernel
theorem dX8_book_84 : decode cX8_book 84 = .ok (.astore 7, 2) := by decide +kernel
theorem dX8_book_86 : decode cX8_book 86 = .ok (.iconst 0, 1) := by decide +kernel
theorem dX8_book_87 : decode cX8_book 87 = .ok (.istore 8, 2) := by decide +kernel
theorem dX8_book_89 : decode cX8_book 89 = .ok (.iload 8, 2) := by decide +kernel
theorem dX8_book_91 : decode cX8_book 91 = .ok (.iload_n 1, 1) := by decide +kernel
theorem dX8_book_92 : decode cX8_book 92 = .ok (.if_icmp .ge 23, 3) := by decide +kernel
theorem dX8_book_95 : decode cX8_book 95 = .ok (.aload 7, 2) := by decide +kernel
theorem dX8_book_97 : decode cX8_book 97 = .ok (.aload_n 0, 1) := by decide +kernel
theorem dX8_book_98 : decode cX8_book 98 = .ok (.getfield 22, 3) := by decide +kernel
theorem dX8_book_101 : decode cX8_book 101 = .ok (.iload 8, 2) := by decide +kernel
theorem dX8_book_103 : decode cX8_book 103 = .ok (.invokevirtual 134, 3) := by decide +kernel
theorem dX8_book_106 : decode cX8_book 106 = .ok (.invokevirtual 137, 3) := by decide +kernel
theorem dX8_book_109 : decode cX8_book 109 = .ok (.iinc 8 1, 3) := by decide +kernel
theorem dX8_book_112 : decode cX8_book 112 = .ok (.goto (-23), 3) := by decide +kernel
theorem dX8_book_115 : decode cX8_book 115 = .ok (.aload_n 0, 1) := by decide +kernel
theorem dX8_book_116 : decode cX8_book 116 = .ok (.aload 7, 2) := by decide +kernel
theorem dX8_book_118 : decode cX8_book 118 = .ok (.iconst 0, 1) := by decide +kernel
theorem dX8_book_119 : decode cX8_book 119 = .ok (.iload_n 2, 1) := by decide +kernel
theorem dX8_book_120 : decode cX8_book 120 = .ok (.invokevirtual 140, 3) := by decide +kernel
theorem dX8_book_123 : decode cX8_book 123 = .ok (.aload_n 0, 1) := by decide +kernel
theorem dX8_book_124 : decode cX8_book 124 = .ok (.aload 7, 2) := by decide +kernel
theorem dX8_book_126 : decode cX8_book 126 = .ok (.iconst 1, 1) := by decide +kernel
theorem dX8_book_127 : decode cX8_book 127 = .ok (.iload_n 3, 1) := by decide +kernel
theorem dX8_book_128 : decode cX8_book 128 = .ok (.invokevirtual 140, 3) := by decide +kernel
theorem dX8_book_131 : decode cX8_book 131 = .ok (.aload_n 0, 1) := by decide +kernel
theorem dX8_book_132 : decode cX8_book 132 = .ok (.aload 7, 2) := by decide +kernel
theorem dX8_book_134 : decode cX8_book 134 = .ok (.iconst 2, 1) := by decide +kernel
theorem dX8_book_135 : decode cX8_book 135 = .ok (.iload 4, 2) := by decide +kernel
theorem dX8_book_137 : decode cX8_book 137 = .ok (.invokevirtual 140, 3) := by decide +kernel
theorem dX8_book_140 : decode cX8_book 140 = .ok (.aload_n 0, 1) := by decide +kernel
theorem dX8_book_141 : decode cX8_book 141 = .ok (.aload 7, 2) := by decide +kernel
theorem dX8_book_143 : decode cX8_book 143 = .ok (.iconst 3, 1) := by decide +kernel
theorem dX8_book_144 : decode cX8_book 144 = .ok (.iload 5, 2) := by decide +kernel
theorem dX8_book_146 : decode cX8_book 146 = .ok (.invokevirtual 140, 3) := by decide +kernel
theorem dX8_book_149 : decode cX8_book 149 = .ok (.aload_n 0, 1) := by decide +kernel
theorem dX8_book_150 : decode cX8_book 150 = .ok (.dup, 1) := by decide +kernel
theorem dX8_book_151 : decode cX8_book 151 = .ok (.getfield 78, 3) := by decide +kernel
theorem dX8_book_154 : decode cX8_book 154 = .ok (.iconst 1, 1) := by decide +kernel
theorem dX8_book_155 : decode cX8_book 155 = .ok (.iadd, 1) := by decide +kernel
theorem dX8_book_156 : decode cX8_book 156 = .ok (.putfield 78, 3) := by decide +kernel
theorem dX8_book_159 : decode cX8_book 159 = .ok (.aload_n 0, 1) := by decide +kernel
theorem dX8_book_160 : decode cX8_book 160 = .ok (.getfield 22, 3) := by decide +kernel
theorem dX8_book_163 : decode cX8_book 163 = .ok (.invokevirtual 144, 3) := by decide +kernel
theorem dX8_book_166 : decode cX8_book 166 = .ok (.iload 6, 2) := by decide +kernel
theorem dX8_book_168 : decode cX8_book 168 = .ok (.ifCond .eq 12, 3) := by decide +kernel
theorem dX8_book_171 : decode cX8_book 171 = .ok (.aload_n 0, 1) := by decide +kernel
theorem dX8_book_172 : decode cX8_book 172 = .ok (.getfield 78, 3) := by decide +kernel
theorem dX8_book_175 : decode cX8_book 175 = .ok (.iconst 1, 1) := by decide +kernel
theorem dX8_book_176 : decode cX8_book 176 = .ok (.isub, 1) := by decide +kernel
theorem dX8_book_177 : decode cX8_book 177 = .ok (.goto 5, 3) := by decide +kernel
theorem dX8_book_180 : decode cX8_book 180 = .ok (.bipush (-2), 2) := by decide +kernel
theorem dX8_book_182 : decode cX8_book 182 = .ok (.ireturn, 1) := by decide +kernel
theorem dX8_cut_0 : decode cX8_cut 0 = .ok (.aload_n 0, 1) := by decide +kernel
theorem dX8_cut_1 : decode cX8_cut 1 = .ok (.iload_n 1, 1) := by decide +kernel
theorem dX8_cut_2 : decode cX8_cut 2 = .ok (.iload_n 2, 1) := by decide +kernel
theorem dX8_cut_3 : decode cX8_cut 3 = .ok (.invokevirtual 147, 3) := by decide +kernel
theorem dX8_cut_6 : decode cX8_cut 6 = .ok (.ifCond .ne 5, 3) := by decide +kernel
theorem dX8_cut_9 : decode cX8_cut 9 = .ok (.iconst 0, 1) := by decide +kernel
theorem dX8_cut_10 : decode cX8_cut 10 = .ok (.ireturn, 1) := by decide +kernel
theorem dX8_cut_11 : decode cX8_cut 11 = .ok (.aload_n 0, 1) := by decide +kernel
theorem dX8_cut_12 : decode cX8_cut 12 = .ok (.getfield 28, 3) := by decide +kernel
theorem dX8_cut_15 : decode cX8_cut 15 = .ok (.iload_n 1, 1) := by decide +kernel
theorem dX8_cut_16 : decode cX8_cut 16 = .ok (.aaload, 1) := by decide +kernel
theorem dX8_cut_17 : decode cX8_cut 17 = .ok (.dup, 1) := by decide +kernel
theorem dX8_cut_18 : decode cX8_cut 18 = .ok (.getfield 151, 3) := by decide +kernel
theorem dX8_cut_21 : decode cX8_cut 21 = .ok (.iconst 1, 1) := by decide +kernel
theorem dX8_cut_22 : decode cX8_cut 22 = .ok (.iload_n 2, 1) := by decide +kernel
theorem dX8_cut_23 : decode cX8_cut 23 = .ok (.ishl, 1) := by decide +kernel
theorem dX8_cut_24 : decode cX8_cut 24 = .ok (.iconst (-1), 1) := by decide +kernel
theorem dX8_cut_25 : decode cX8_cut 25 = .ok (.ixor, 1) := by decide +kernel
theorem dX8_cut_26 : decode cX8_cut 26 = .ok (.iand, 1) := by decide +kernel
theorem dX8_cut_27 : decode cX8_cut 27 = .ok (.putfield 151, 3) := by decide +kernel
theorem dX8_cut_30 : decode cX8_cut 30 = .ok (.iconst 1, 1) := by decide +kernel
theorem dX8_cut_31 : decode cX8_cut 31 = .ok (.ireturn, 1) := by decide +kernel
theorem dX8_swap_0 : decode cX8_swap 0 = .ok (.aload_n 0, 1) := by decide +kernel
theorem dX8_swap_1 : decode cX8_swap 1 = .ok (.iload_n 1, 1) := by decide +kernel
theorem dX8_swap_2 : decode cX8_swap 2 = .ok (.iload_n 2, 1) := by decide +kernel
theorem dX8_swap_3 : decode cX8_swap 3 = .ok (.invokevirtual 147, 3) := by decide +kernel
theorem dX8_swap_6 : decode cX8_swap 6 = .ok (.ifCond .eq 25, 3) := by decide +kernel
theorem dX8_swap_9 : decode cX8_swap 9 = .ok (.aload_n 0, 1) := by decide +kernel
theorem dX8_swap_10 : decode cX8_swap 10 = .ok (.iload_n 1, 1) := by decide +kernel
theorem dX8_swap_11 : decode cX8_swap 11 = .ok (.iload_n 3, 1) := by decide +kernel
theorem dX8_swap_12 : decode cX8_swap 12 = .ok (.invokevirtual 147, 3) := by decide +kernel
theorem dX8_swap_15 : decode cX8_swap 15 = .ok (.ifCond .eq 16, 3) := by decide +kernel
theorem dX8_swap_18 : decode cX8_swap 18 = .ok (.iload_n 2, 1) := by decide +kernel
theorem dX8_swap_19 : decode cX8_swap 19 = .ok (.iload_n 3, 1) := by decide +kernel
theorem dX8_swap_20 : decode cX8_swap 20 = .ok (.if_icmp .eq 11, 3) := by decide +kernel
theorem dX8_swap_23 : decode cX8_swap 23 = .ok (.iload 4, 2) := by decide +kernel
theorem dX8_swap_25 : decode cX8_swap 25 = .ok (.invokestatic 83, 3) := by decide +kernel
theorem dX8_swap_28 : decode cX8_swap 28 = .ok (.ifCond .ne 5, 3) := by decide +kernel
theorem dX8_swap_31 : decode cX8_swap 31 = .ok (.iconst 0, 1) := by decide +kernel
theorem dX8_swap_32 : decode cX8_swap 32 = .ok (.ireturn, 1) := by decide +kernel
theorem dX8_swap_33 : decode cX8_swap 33 = .ok (.aload_n 0, 1) := by decide +kernel
theorem dX8_swap_34 : decode cX8_swap 34 = .ok (.getfield 28, 3) := by decide +kernel
theorem dX8_swap_37 : decode cX8_swap 37 = .ok (.iload_n 1, 1) := by decide +kernel
theorem dX8_swap_38 : decode cX8_swap 38 = .ok (.aaload, 1) := by decide +kernel
theorem dX8_swap_39 : decode cX8_swap 39 = .ok (.iload_n 2, 1) := by decide +kernel
theorem dX8_swap_40 : decode cX8_swap 40 = .ok (.iload 4, 2) := by decide +kernel
theorem dX8_swap_42 : decode cX8_swap 42 = .ok (.invokevirtual 154, 3) := by decide +kernel
theorem dX8_swap_45 : decode cX8_swap 45 = .ok (.aload_n 0, 1) := by decide +kernel
theorem dX8_swap_46 : decode cX8_swap 46 = .ok (.getfield 28, 3) := by decide +kernel
theorem dX8_swap_49 : decode cX8_swap 49 = .ok (.iload_n 1, 1) := by decide +kernel
theorem dX8_swap_50 : decode cX8_swap 50 = .ok (.aaload, 1) := by decide +kernel
theorem dX8_swap_51 : decode cX8_swap 51 = .ok (.iload_n 3, 1) := by decide +kernel
theorem dX8_swap_52 : decode cX8_swap 52 = .ok (.iload 4, 2) := by decide +kernel
theorem dX8_swap_54 : decode cX8_swap 54 = .ok (.invokevirtual 154, 3) := by decide +kernel
theorem dX8_swap_57 : decode cX8_swap 57 = .ok (.if_icmp .ne 5, 3) := by decide +kernel
theorem dX8_swap_60 : decode cX8_swap 60 = .ok (.iconst 0, 1) := by decide +kernel
theorem dX8_swap_61 : decode cX8_swap 61 = .ok (.ireturn, 1) := by decide +kernel
theorem dX8_swap_62 : decode cX8_swap 62 = .ok (.aload_n 0, 1) := by decide +kernel
theorem dX8_swap_63 : decode cX8_swap 63 = .ok (.getfield 28, 3) := by decide +kernel
theorem dX8_swap_66 : decode cX8_swap 66 = .ok (.iload_n 1, 1) := by decide +kernel
theorem dX8_swap_67 : decode cX8_swap 67 = .ok (.aaload, 1) := by decide +kernel
theorem dX8_swap_68 : decode cX8_swap 68 = .ok (.iload_n 2, 1) := by decide +kernel
theorem dX8_swap_69 : decode cX8_swap 69 = .ok (.iload_n 3, 1) := by decide +kernel
theorem dX8_swap_70 : decode cX8_swap 70 = .ok (.iload 4, 2) := by decide +kernel
theorem dX8_swap_72 : decode cX8_swap 72 = .ok (.invokevirtual 157, 3) := by decide +kernel
theorem dX8_swap_75 : decode cX8_swap 75 = .ok (.iconst 1, 1) := by decide +kernel
theorem dX8_swap_76 : decode cX8_swap 76 = .ok (.ireturn, 1) := by decide +kernel
theorem dX8_show_0 : decode cX8_show 0 = .ok (.aload_n 0, 1) := by decide +kernel
theorem dX8_show_1 : decode cX8_show 1 = .ok (.iload_n 1, 1) := by decide +kernel
theorem dX8_show_2 : decode cX8_show 2 = .ok (.invokevirtual 161, 3) := by decide +kernel
theorem dX8_show_5 : decode cX8_show 5 = .ok (.ifCond .eq 16, 3) := by decide +kernel
theorem dX8_show_8 : decode cX8_show 8 = .ok (.aload_n 0, 1) := by decide +kernel
theorem dX8_show_9 : decode cX8_show 9 = .ok (.getfield 28, 3) := by decide +kernel
theorem dX8_show_12 : decode cX8_show 12 = .ok (.iload_n 1, 1) := by decide +kernel
theorem dX8_show_13 : decode cX8_show 13 = .ok (.aaload, 1) := by decide +kernel
theorem dX8_show_14 : decode cX8_show 14 = .ok (.getfield 164, 3) := by decide +kernel
theorem dX8_show_17 : decode cX8_show 17 = .ok (.iload_n 2, 1) := by decide +kernel
theorem dX8_show_18 : decode cX8_show 18 = .ok (.if_icmp .ne 5, 3) := by decide +kernel
theorem dX8_show_21 : decode cX8_show 21 = .ok (.iconst 0, 1) := by decide +kernel
theorem dX8_show_22 : decode cX8_show 22 = .ok (.ireturn, 1) := by decide +kernel
theorem dX8_show_23 : decode cX8_show 23 = .ok (.aload_n 0, 1) := by decide +kernel
theorem dX8_show_24 : decode cX8_show 24 = .ok (.getfield 28, 3) := by decide +kernel
theorem dX8_show_27 : decode cX8_show 27 = .ok (.iload_n 1, 1) := by decide +kernel
theorem dX8_show_28 : decode cX8_show 28 = .ok (.aaload, 1) := by decide +kernel
theorem dX8_show_29 : decode cX8_show 29 = .ok (.iload_n 2, 1) := by decide +kernel
theorem dX8_show_30 : decode cX8_show 30 = .ok (.putfield 164, 3) := by decide +kernel
theorem dX8_show_33 : decode cX8_show 33 = .ok (.iconst 1, 1) := by decide +kernel
theorem dX8_show_34 : decode cX8_show 34 = .ok (.ireturn, 1) := by decide +kernel
theorem dX8_link_0 : decode cX8_link 0 = .ok (.aload_n 0, 1) := by decide +kernel
theorem dX8_link_1 : decode cX8_link 1 = .ok (.iload_n 1, 1) := by decide +kernel
theorem dX8_link_2 : decode cX8_link 2 = .ok (.iload_n 2, 1) := by decide +kernel
theorem dX8_link_3 : decode cX8_link 3 = .ok (.invokevirtual 168, 3) := by decide +kernel
theorem dX8_link_6 : decode cX8_link 6 = .ok (.ifCond .eq 30, 3) := by decide +kernel
theorem dX8_link_9 : decode cX8_link 9 = .ok (.aload_n 0, 1) := by decide +kernel
theorem dX8_link_10 : decode cX8_link 10 = .ok (.iload_n 3, 1) := by decide +kernel
theorem dX8_link_11 : decode cX8_link 11 = .ok (.iload 4, 2) := by decide +kernel
theorem dX8_link_13 : decode cX8_link 13 = .ok (.invokevirtual 168, 3) := by decide +kernel
theorem dX8_link_16 : decode cX8_link 16 = .ok (.ifCond .eq 20, 3) := by decide +kernel
theorem dX8_link_19 : decode cX8_link 19 = .ok (.iload_n 1, 1) := by decide +kernel
theorem dX8_link_20 : decode cX8_link 20 = .ok (.iload_n 3, 1) := by decide +kernel
theorem dX8_link_21 : decode cX8_link 21 = .ok (.if_icmp .eq 15, 3) := by decide +kernel
theorem dX8_link_24 : decode cX8_link 24 = .ok (.aload_n 0, 1) := by decide +kernel
theorem dX8_link_25 : decode cX8_link 25 = .ok (.getfield 35, 3) := by decide +kernel
theorem dX8_link_28 : decode cX8_link 28 = .ok (.getfield 171, 3) := by decide +kernel
theorem dX8_link_31 : decode cX8_link 31 = .ok (.bipush 40, 2) := by decide +kernel
theorem dX8_link_33 : decode cX8_link 33 = .ok (.if_icmp .lt 5, 3) := by decide +kernel
theorem dX8_link_36 : decode cX8_link 36 = .ok (.iconst (-1), 1) := by decide +kernel
theorem dX8_link_37 : decode cX8_link 37 = .ok (.ireturn, 1) := by decide +kernel
theorem dX8_link_38 : decode cX8_link 38 = .ok (.aload_n 0, 1) := by decide +kernel
theorem dX8_link_39 : decode cX8_link 39 = .ok (.getfield 35, 3) := by decide +kernel
theorem dX8_link_42 : decode cX8_link 42 = .ok (.iload_n 1, 1) := by decide +kernel
theorem dX8_link_43 : decode cX8_link 43 = .ok (.iload_n 2, 1) := by decide +kernel
theorem dX8_link_44 : decode cX8_link 44 = .ok (.invokestatic 174, 3) := by decide +kernel
theorem dX8_link_47 : decode cX8_link 47 = .ok (.iload_n 3, 1) := by decide +kernel
theorem dX8_link_48 : decode cX8_link 48 = .ok (.iload 4, 2) := by decide +kernel
theorem dX8_link_50 : decode cX8_link 50 = .ok (.invokestatic 174, 3) := by decide +kernel
theorem dX8_link_53 : decode cX8_link 53 = .ok (.invokevirtual 177, 3) := by decide +kernel
theorem dX8_link_56 : decode cX8_link 56 = .ok (.aload_n 0, 1) := by decide +kernel
theorem dX8_link_57 : decode cX8_link 57 = .ok (.getfield 35, 3) := by decide +kernel
theorem dX8_link_60 : decode cX8_link 60 = .ok (.getfield 171, 3) := by decide +kernel
theorem dX8_link_63 : decode cX8_link 63 = .ok (.ireturn, 1) := by decide +kernel
theorem dX8_gossip_0 : decode cX8_gossip 0 = .ok (.iload_n 1, 1) := by decide +kernel
theorem dX8_gossip_1 : decode cX8_gossip 1 = .ok (.iconst 0, 1) := by decide +kernel
theorem dX8_gossip_2 : decode cX8_gossip 2 = .ok (.bipush 7, 2) := by decide +kernel
theorem dX8_gossip_4 : decode cX8_gossip 4 = .ok (.invokestatic 87, 3) := by decide +kernel
theorem dX8_gossip_7 : decode cX8_gossip 7 = .ok (.ifCond .eq 35, 3) := by decide +kernel
theorem dX8_gossip_10 : decode cX8_gossip 10 = .ok (.aload_n 0, 1) := by decide +kernel
theorem dX8_gossip_11 : decode cX8_gossip 11 = .ok (.iload_n 2, 1) := by decide +kernel
theorem dX8_gossip_12 : decode cX8_gossip 12 = .ok (.iload_n 3, 1) := by decide +kernel
theorem dX8_gossip_13 : decode cX8_gossip 13 = .ok (.invokevirtual 147, 3) := by decide +kernel
theorem dX8_gossip_16 : decode cX8_gossip 16 = .ok (.ifCond .eq 26, 3) := by decide +kernel
theorem dX8_gossip_19 : decode cX8_gossip 19 = .ok (.iload 4, 2) := by decide +kernel
theorem dX8_gossip_21 : decode cX8_gossip 21 = .ok (.iconst 1, 1) := by decide +kernel
theorem dX8_gossip_22 : decode cX8_gossip 22 = .ok (.bipush 100, 2) := by decide +kernel
theorem dX8_gossip_24 : decode cX8_gossip 24 = .ok (.invokestatic 87, 3) := by decide +kernel
theorem dX8_gossip_27 : decode cX8_gossip 27 = .ok (.ifCond .eq 15, 3) := by decide +kernel
theorem dX8_gossip_30 : decode cX8_gossip 30 = .ok (.aload_n 0, 1) := by decide +kernel
theorem dX8_gossip_31 : decode cX8_gossip 31 = .ok (.getfield 22, 3) := by decide +kernel
theorem dX8_gossip_34 : decode cX8_gossip 34 = .ok (.getfield 114, 3) := by decide +kernel
theorem dX8_gossip_37 : decode cX8_gossip 37 = .ok (.iload 4, 2) := by decide +kernel
theorem dX8_gossip_39 : decode cX8_gossip 39 = .ok (.if_icmp .ge 5, 3) := by decide +kernel
theorem dX8_gossip_42 : decode cX8_gossip 42 = .ok (.iconst (-1), 1) := by decide +kernel
theorem dX8_gossip_43 : decode cX8_gossip 43 = .ok (.ireturn, 1) := by decide +kernel
theorem dX8_gossip_44 : decode cX8_gossip 44 = .ok (.aload_n 0, 1) := by decide +kernel
theorem dX8_gossip_45 : decode cX8_gossip 45 = .ok (.getfield 70, 3) := by decide +kernel
theorem dX8_gossip_48 : decode cX8_gossip 48 = .ok (.aload_n 0, 1) := by decide +kernel
theorem dX8_gossip_49 : decode cX8_gossip 49 = .ok (.getfield 22, 3) := by decide +kernel
theorem dX8_gossip_52 : decode cX8_gossip 52 = .ok (.iload 4, 2) := by decide +kernel
theorem dX8_gossip_54 : decode cX8_gossip 54 = .ok (.invokevirtual 179, 3) := by decide +kernel
theorem dX8_gossip_57 : decode cX8_gossip 57 = .ok (.aload_n 0, 1) := by decide +kernel
theorem dX8_gossip_58 : decode cX8_gossip 58 = .ok (.getfield 22, 3) := by decide +kernel
theorem dX8_gossip_61 : decode cX8_gossip 61 = .ok (.invokevirtual 144, 3) := by decide +kernel
theorem dX8_gossip_64 : decode cX8_gossip 64 = .ok (.aload_n 0, 1) := by decide +kernel
theorem dX8_gossip_65 : decode cX8_gossip 65 = .ok (.getfield 70, 3) := by decide +kernel
theorem dX8_gossip_68 : decode cX8_gossip 68 = .ok (.invokevirtual 183, 3) := by decide +kernel
theorem dX8_gossip_71 : decode cX8_gossip 71 = .ok (.aload_n 0, 1) := by decide +kernel
theorem dX8_gossip_72 : decode cX8_gossip 72 = .ok (.getfield 70, 3) := by decide +kernel
theorem dX8_gossip_75 : decode cX8_gossip 75 = .ok (.getfield 186, 3) := by decide +kernel
theorem dX8_gossip_78 : decode cX8_gossip 78 = .ok (.ifCond .eq 23, 3) := by decide +kernel
theorem dX8_gossip_81 : decode cX8_gossip 81 = .ok (.sipush (-1000), 3) := by decide +kernel
theorem dX8_gossip_84 : decode cX8_gossip 84 = .ok (.aload_n 0, 1) := by decide +kernel
theorem dX8_gossip_85 : decode cX8_gossip 85 = .ok (.getfield 70, 3) := by decide +kernel
theorem dX8_gossip_88 : decode cX8_gossip 88 = .ok (.getfield 186, 3) := by decide +kernel
theorem dX8_gossip_91 : decode cX8_gossip 91 = .ok (.imul, 1) := by decide +kernel
theorem dX8_gossip_92 : decode cX8_gossip 92 = .ok (.aload_n 0, 1) := by decide +kernel
theorem dX8_gossip_93 : decode cX8_gossip 93 = .ok (.getfield 70, 3) := by decide +kernel
theorem dX8_gossip_96 : decode cX8_gossip 96 = .ok (.getfield 189, 3) := by decide +kernel
theorem dX8_gossip_99 : decode cX8_gossip 99 = .ok (.isub, 1) := by decide +kernel
theorem dX8_gossip_100 : decode cX8_gossip 100 = .ok (.ireturn, 1) := by decide +kernel
theorem dX8_gossip_101 : decode cX8_gossip 101 = .ok (.aload_n 0, 1) := by decide +kernel
theorem dX8_gossip_102 : decode cX8_gossip 102 = .ok (.getfield 70, 3) := by decide +kernel
theorem dX8_gossip_105 : decode cX8_gossip 105 = .ok (.astore 5, 2) := by decide +kernel
theorem dX8_gossip_107 : decode cX8_gossip 107 = .ok (.aload_n 0, 1) := by decide +kernel
theorem dX8_gossip_108 : decode cX8_gossip 108 = .ok (.aload_n 0, 1) := by decide +kernel
theorem dX8_gossip_109 : decode cX8_gossip 109 = .ok (.getfield 41, 3) := by decide +kernel
theorem dX8_gossip_112 : decode cX8_gossip 112 = .ok (.iload_n 1, 1) := by decide +kernel
theorem dX8_gossip_113 : decode cX8_gossip 113 = .ok (.aaload, 1) := by decide +kernel
theorem dX8_gossip_114 : decode cX8_gossip 114 = .ok (.putfield 70, 3) := by decide +kernel
theorem dX8_gossip_117 : decode cX8_gossip 117 = .ok (.aload_n 0, 1) := by decide +kernel
theorem dX8_gossip_118 : decode cX8_gossip 118 = .ok (.getfield 41, 3) := by decide +kernel
theorem dX8_gossip_121 : decode cX8_gossip 121 = .ok (.iload_n 1, 1) := by decide +kernel
theorem dX8_gossip_122 : decode cX8_gossip 122 = .ok (.aload 5, 2) := by decide +kernel
theorem dX8_gossip_124 : decode cX8_gossip 124 = .ok (.aastore, 1) := by decide +kernel
theorem dX8_gossip_125 : decode cX8_gossip 125 = .ok (.aload 5, 2) := by decide +kernel
theorem dX8_gossip_127 : decode cX8_gossip 127 = .ok (.iload_n 2, 1) := by decide +kernel
theorem dX8_gossip_128 : decode cX8_gossip 128 = .ok (.iload_n 3, 1) := by decide +kernel
theorem dX8_gossip_129 : decode cX8_gossip 129 = .ok (.invokevirtual 192, 3) := by decide +kernel
theorem dX8_gossip_132 : decode cX8_gossip 132 = .ok (.iconst 0, 1) := by decide +kernel
theorem dX8_gossip_133 : decode cX8_gossip 133 = .ok (.istore 6, 2) := by decide +kernel
theorem dX8_gossip_135 : decode cX8_gossip 135 = .ok (.iload 6, 2) := by decide +kernel
theorem dX8_gossip_137 : decode cX8_gossip 137 = .ok (.aload_n 0, 1) := by decide +kernel
theorem dX8_gossip_138 : decode cX8_gossip 138 = .ok (.getfield 74, 3) := by decide +kernel
theorem dX8_gossip_141 : decode cX8_gossip 141 = .ok (.if_icmp .ge 24, 3) := by decide +kernel
theorem dX8_gossip_144 : decode cX8_gossip 144 = .ok (.aload_n 0, 1) := by decide +kernel
theorem dX8_gossip_145 : decode cX8_gossip 145 = .ok (.iload 6, 2) := by decide +kernel
theorem dX8_gossip_147 : decode cX8_gossip 147 = .ok (.invokevirtual 195, 3) := by decide +kernel
theorem dX8_gossip_150 : decode cX8_gossip 150 = .ok (.aload 5, 2) := by decide +kernel
theorem dX8_gossip_152 : decode cX8_gossip 152 = .ok (.aload_n 0, 1) := by decide +kernel
theorem dX8_gossip_153 : decode cX8_gossip 153 = .ok (.getfield 66, 3) := by decide +kernel
theorem dX8_gossip_156 : decode cX8_gossip 156 = .ok (.invokevirtual 198, 3) := by decide +kernel
theorem dX8_gossip_159 : decode cX8_gossip 159 = .ok (.iinc 6 1, 3) := by decide +kernel
theorem dX8_gossip_162 : decode cX8_gossip 162 = .ok (.goto (-27), 3) := by decide +kernel
theorem dX8_gossip_165 : decode cX8_gossip 165 = .ok (.iconst 1, 1) := by decide +kernel
theorem dX8_gossip_166 : decode cX8_gossip 166 = .ok (.ireturn, 1) := by decide +kernel
theorem dX8_line_0 : decode cX8_line 0 = .ok (.aload_n 0, 1) := by decide +kernel
theorem dX8_line_1 : decode cX8_line 1 = .ok (.iload_n 1, 1) := by decide +kernel
theorem dX8_line_2 : decode cX8_line 2 = .ok (.iload_n 2, 1) := by decide +kernel
theorem dX8_line_3 : decode cX8_line 3 = .ok (.invokevirtual 168, 3) := by decide +kernel
theorem dX8_line_6 : decode cX8_line 6 = .ok (.ifCond .eq 12, 3) := by decide +kernel
theorem dX8_line_9 : decode cX8_line 9 = .ok (.iload_n 3, 1) := by decide +kernel
theorem dX8_line_10 : decode cX8_line 10 = .ok (.iconst 0, 1) := by decide +kernel
theorem dX8_line_11 : decode cX8_line 11 = .ok (.iconst 4, 1) := by decide +kernel
theorem dX8_line_12 : decode cX8_line 12 = .ok (.invokestatic 87, 3) := by decide +kernel
theorem dX8_line_15 : decode cX8_line 15 = .ok (.ifCond .ne 5, 3) := by decide +kernel
theorem dX8_line_18 : decode cX8_line 18 = .ok (.iconst (-1), 1) := by decide +kernel
theorem dX8_line_19 : decode cX8_line 19 = .ok (.ireturn, 1) := by decide +kernel
theorem dX8_line_20 : decode cX8_line 20 = .ok (.iload_n 3, 1) := by decide +kernel
theorem dX8_line_21 : decode cX8_line 21 = .ok (.iconst 4, 1) := by decide +kernel
theorem dX8_line_22 : decode cX8_line 22 = .ok (.if_icmp .ne 14, 3) := by decide +kernel
theorem dX8_line_25 : decode cX8_line 25 = .ok (.aload_n 0, 1) := by decide +kernel
theorem dX8_line_26 : decode cX8_line 26 = .ok (.getfield 28, 3) := by decide +kernel
theorem dX8_line_29 : decode cX8_line 29 = .ok (.iload_n 1, 1) := by decide +kernel
theorem dX8_line_30 : decode cX8_line 30 = .ok (.aaload, 1) := by decide +kernel
theorem dX8_line_31 : decode cX8_line 31 = .ok (.iload_n 2, 1) := by decide +kernel
theorem dX8_line_32 : decode cX8_line 32 = .ok (.invokevirtual 202, 3) := by decide +kernel
theorem dX8_line_35 : decode cX8_line 35 = .ok (.ireturn, 1) := by decide +kernel
theorem dX8_line_36 : decode cX8_line 36 = .ok (.aload_n 0, 1) := by decide +kernel
theorem dX8_line_37 : decode cX8_line 37 = .ok (.iload_n 1, 1) := by decide +kernel
theorem dX8_line_38 : decode cX8_line 38 = .ok (.iload_n 2, 1) := by decide +kernel
theorem dX8_line_39 : decode cX8_line 39 = .ok (.invokevirtual 147, 3) := by decide +kernel
theorem dX8_line_42 : decode cX8_line 42 = .ok (.ifCond .eq 17, 3) := by decide +kernel
theorem dX8_line_45 : decode cX8_line 45 = .ok (.aload_n 0, 1) := by decide +kernel
theorem dX8_line_46 : decode cX8_line 46 = .ok (.getfield 28, 3) := by decide +kernel
theorem dX8_line_49 : decode cX8_line 49 = .ok (.iload_n 1, 1) := by decide +kernel
theorem dX8_line_50 : decode cX8_line 50 = .ok (.aaload, 1) := by decide +kernel
theorem dX8_line_51 : decode cX8_line 51 = .ok (.iload_n 2, 1) := by decide +kernel
theorem dX8_line_52 : decode cX8_line 52 = .ok (.iload_n 3, 1) := by decide +kernel
theorem dX8_line_53 : decode cX8_line 53 = .ok (.invokevirtual 154, 3) := by decide +kernel
theorem dX8_line_56 : decode cX8_line 56 = .ok (.goto 5, 3) := by decide +kernel
theorem dX8_line_59 : decode cX8_line 59 = .ok (.bipush (-2), 2) := by decide +kernel
theorem dX8_line_61 : decode cX8_line 61 = .ok (.ireturn, 1) := by decide +kernel
theorem dX8_fits_0 : decode cX8_fits 0 = .ok (.aload_n 0, 1) := by decide +kernel
theorem dX8_fits_1 : decode cX8_fits 1 = .ok (.iload_n 1, 1) := by decide +kernel
theorem dX8_fits_2 : decode cX8_fits 2 = .ok (.iload_n 2, 1) := by decide +kernel
theorem dX8_fits_3 : decode cX8_fits 3 = .ok (.invokevirtual 168, 3) := by decide +kernel
theorem dX8_fits_6 : decode cX8_fits 6 = .ok (.ifCond .eq 10, 3) := by decide +kernel
theorem dX8_fits_9 : decode cX8_fits 9 = .ok (.iload_n 3, 1) := by decide +kernel
theorem dX8_fits_10 : decode cX8_fits 10 = .ok (.invokestatic 205, 3) := by decide +kernel
theorem dX8_fits_13 : decode cX8_fits 13 = .ok (.ifCond .ne 5, 3) := by decide +kernel
theorem dX8_fits_16 : decode cX8_fits 16 = .ok (.iconst (-1), 1) := by decide +kernel
theorem dX8_fits_17 : decode cX8_fits 17 = .ok (.ireturn, 1) := by decide +kernel
theorem dX8_fits_18 : decode cX8_fits 18 = .ok (.aload_n 0, 1) := by decide +kernel
theorem dX8_fits_19 : decode cX8_fits 19 = .ok (.iload_n 1, 1) := by decide +kernel
theorem dX8_fits_20 : decode cX8_fits 20 = .ok (.iload_n 2, 1) := by decide +kernel
theorem dX8_fits_21 : decode cX8_fits 21 = .ok (.invokevirtual 147, 3) := by decide +kernel
theorem dX8_fits_24 : decode cX8_fits 24 = .ok (.ifCond .ne 6, 3) := by decide +kernel
theorem dX8_fits_27 : decode cX8_fits 27 = .ok (.bipush (-2), 2) := by decide +kernel
theorem dX8_fits_29 : decode cX8_fits 29 = .ok (.ireturn, 1) := by decide +kernel
theorem dX8_fits_30 : decode cX8_fits 30 = .ok (.aload_n 0, 1) := by decide +kernel
theorem dX8_fits_31 : decode cX8_fits 31 = .ok (.iload_n 1, 1) := by decide +kernel
theorem dX8_fits_32 : decode cX8_fits 32 = .ok (.iload_n 3, 1) := by decide +kernel
theorem dX8_fits_33 : decode cX8_fits 33 = .ok (.invokevirtual 208, 3) := by decide +kernel
theorem dX8_fits_36 : decode cX8_fits 36 = .ok (.aload_n 0, 1) := by decide +kernel
theorem dX8_fits_37 : decode cX8_fits 37 = .ok (.getfield 48, 3) := by decide +kernel
theorem dX8_fits_40 : decode cX8_fits 40 = .ok (.getfield 211, 3) := by decide +kernel
theorem dX8_fits_43 : decode cX8_fits 43 = .ok (.iload_n 2, 1) := by decide +kernel
theorem dX8_fits_44 : decode cX8_fits 44 = .ok (.iaload, 1) := by decide +kernel
theorem dX8_fits_45 : decode cX8_fits 45 = .ok (.ireturn, 1) := by decide +kernel
theorem dX8_givings_0 : decode cX8_givings 0 = .ok (.aload_n 0, 1) := by decide +kernel
theorem dX8_givings_1 : decode cX8_givings 1 = .ok (.iload_n 1, 1) := by decide +kernel
theorem dX8_givings_2 : decode cX8_givings 2 = .ok (.invokevirtual 161, 3) := by decide +kernel
theorem dX8_givings_5 : decode cX8_givings 5 = .ok (.ifCond .eq 10, 3) := by decide +kernel
theorem dX8_givings_8 : decode cX8_givings 8 = .ok (.iload_n 2, 1) := by decide +kernel
theorem dX8_givings_9 : decode cX8_givings 9 = .ok (.invokestatic 205, 3) := by decide +kernel
theorem dX8_givings_12 : decode cX8_givings 12 = .ok (.ifCond .ne 7, 3) := by decide +kernel
theorem dX8_givings_15 : decode cX8_givings 15 = .ok (.ldc2_w 213, 3) := by decide +kernel
theorem dX8_givings_18 : decode cX8_givings 18 = .ok (.lreturn, 1) := by decide +kernel
theorem dX8_givings_19 : decode cX8_givings 19 = .ok (.aload_n 0, 1) := by decide +kernel
theorem dX8_givings_20 : decode cX8_givings 20 = .ok (.iload_n 1, 1) := by decide +kernel
theorem dX8_givings_21 : decode cX8_givings 21 = .ok (.iload_n 2, 1) := by decide +kernel
theorem dX8_givings_22 : decode cX8_givings 22 = .ok (.invokevirtual 208, 3) := by decide +kernel
theorem dX8_givings_25 : decode cX8_givings 25 = .ok (.aload_n 0, 1) := by decide +kernel
theorem dX8_givings_26 : decode cX8_givings 26 = .ok (.getfield 48, 3) := by decide +kernel
theorem dX8_givings_29 : decode cX8_givings 29 = .ok (.invokevirtual 215, 3) := by decide +kernel
theorem dX8_givings_32 : decode cX8_givings 32 = .ok (.lreturn, 1) := by decide +kernel
theorem dX8_odds_0 : decode cX8_odds 0 = .ok (.aload_n 0, 1) := by decide +kernel
theorem dX8_odds_1 : decode cX8_odds 1 = .ok (.iload_n 1, 1) := by decide +kernel
theorem dX8_odds_2 : decode cX8_odds 2 = .ok (.iload_n 2, 1) := by decide +kernel
theorem dX8_odds_3 : decode cX8_odds 3 = .ok (.invokevirtual 168, 3) := by decide +kernel
theorem dX8_odds_6 : decode cX8_odds 6 = .ok (.ifCond .eq 29, 3) := by decide +kernel
theorem dX8_odds_9 : decode cX8_odds 9 = .ok (.aload_n 0, 1) := by decide +kernel
theorem dX8_odds_10 : decode cX8_odds 10 = .ok (.iload_n 3, 1) := by decide +kernel
theorem dX8_odds_11 : decode cX8_odds 11 = .ok (.invokevirtual 111, 3) := by decide +kernel
theorem dX8_odds_14 : decode cX8_odds 14 = .ok (.ifCond .eq 21, 3) := by decide +kernel
theorem dX8_odds_17 : decode cX8_odds 17 = .ok (.iload 4, 2) := by decide +kernel
theorem dX8_odds_19 : decode cX8_odds 19 = .ok (.invokestatic 205, 3) := by decide +kernel
theorem dX8_odds_22 : decode cX8_odds 22 = .ok (.ifCond .eq 13, 3) := by decide +kernel
theorem dX8_odds_25 : decode cX8_odds 25 = .ok (.iload 5, 2) := by decide +kernel
theorem dX8_odds_27 : decode cX8_odds 27 = .ok (.iconst 0, 1) := by decide +kernel
theorem dX8_odds_28 : decode cX8_odds 28 = .ok (.iconst 1, 1) := by decide +kernel
theorem dX8_odds_29 : decode cX8_odds 29 = .ok (.invokestatic 87, 3) := by decide +kernel
theorem dX8_odds_32 : decode cX8_odds 32 = .ok (.ifCond .ne 7, 3) := by decide +kernel
theorem dX8_odds_35 : decode cX8_odds 35 = .ok (.ldc2_w 213, 3) := by decide +kernel
theorem dX8_odds_38 : decode cX8_odds 38 = .ok (.lreturn, 1) := by decide +kernel
theorem dX8_odds_39 : decode cX8_odds 39 = .ok (.aload_n 0, 1) := by decide +kernel
theorem dX8_odds_40 : decode cX8_odds 40 = .ok (.iload_n 1, 1) := by decide +kernel
theorem dX8_odds_41 : decode cX8_odds 41 = .ok (.iload_n 2, 1) := by decide +kernel
theorem dX8_odds_42 : decode cX8_odds 42 = .ok (.invokevirtual 147, 3) := by decide +kernel
theorem dX8_odds_45 : decode cX8_odds 45 = .ok (.ifCond .ne 7, 3) := by decide +kernel
theorem dX8_odds_48 : decode cX8_odds 48 = .ok (.ldc2_w 218, 3) := by decide +kernel
theorem dX8_odds_51 : decode cX8_odds 51 = .ok (.lreturn, 1) := by decide +kernel
theorem dX8_odds_52 : decode cX8_odds 52 = .ok (.aload_n 0, 1) := by decide +kernel
theorem dX8_odds_53 : decode cX8_odds 53 = .ok (.iload_n 1, 1) := by decide +kernel
theorem dX8_odds_54 : decode cX8_odds 54 = .ok (.iload 4, 2) := by decide +kernel
theorem dX8_odds_56 : decode cX8_odds 56 = .ok (.invokevirtual 208, 3) := by decide +kernel
theorem dX8_odds_59 : decode cX8_odds 59 = .ok (.aload_n 0, 1) := by decide +kernel
theorem dX8_odds_60 : decode cX8_odds 60 = .ok (.getfield 48, 3) := by decide +kernel
theorem dX8_odds_63 : decode cX8_odds 63 = .ok (.invokevirtual 215, 3) := by decide +kernel
theorem dX8_odds_66 : decode cX8_odds 66 = .ok (.lstore 6, 2) := by decide +kernel
theorem dX8_odds_68 : decode cX8_odds 68 = .ok (.lload 6, 2) := by decide +kernel
theorem dX8_odds_70 : decode cX8_odds 70 = .ok (.lconst 0, 1) := by decide +kernel
theorem dX8_odds_71 : decode cX8_odds 71 = .ok (.lcmp, 1) := by decide +kernel
theorem dX8_odds_72 : decode cX8_odds 72 = .ok (.ifCond .ne 7, 3) := by decide +kernel
theorem dX8_odds_75 : decode cX8_odds 75 = .ok (.ldc2_w 218, 3) := by decide +kernel
theorem dX8_odds_78 : decode cX8_odds 78 = .ok (.lreturn, 1) := by decide +kernel
theorem dX8_odds_79 : decode cX8_odds 79 = .ok (.aload_n 0, 1) := by decide +kernel
theorem dX8_odds_80 : decode cX8_odds 80 = .ok (.getfield 48, 3) := by decide +kernel
theorem dX8_odds_83 : decode cX8_odds 83 = .ok (.getfield 211, 3) := by decide +kernel
theorem dX8_odds_86 : decode cX8_odds 86 = .ok (.iload_n 2, 1) := by decide +kernel
theorem dX8_odds_87 : decode cX8_odds 87 = .ok (.dup2, 1) := by decide +kernel
theorem dX8_odds_88 : decode cX8_odds 88 = .ok (.iaload, 1) := by decide +kernel
theorem dX8_odds_89 : decode cX8_odds 89 = .ok (.iconst 1, 1) := by decide +kernel
theorem dX8_odds_90 : decode cX8_odds 90 = .ok (.iload_n 3, 1) := by decide +kernel
theorem dX8_odds_91 : decode cX8_odds 91 = .ok (.ishl, 1) := by decide +kernel
theorem dX8_odds_92 : decode cX8_odds 92 = .ok (.iand, 1) := by decide +kernel
theorem dX8_odds_93 : decode cX8_odds 93 = .ok (.iastore, 1) := by decide +kernel
theorem dX8_odds_94 : decode cX8_odds 94 = .ok (.aload_n 0, 1) := by decide +kernel
theorem dX8_odds_95 : decode cX8_odds 95 = .ok (.getfield 48, 3) := by decide +kernel
theorem dX8_odds_98 : decode cX8_odds 98 = .ok (.invokevirtual 215, 3) := by decide +kernel
theorem dX8_odds_101 : decode cX8_odds 101 = .ok (.lstore 8, 2) := by decide +kernel
theorem dX8_odds_103 : decode cX8_odds 103 = .ok (.lload 8, 2) := by decide +kernel
theorem dX8_odds_105 : decode cX8_odds 105 = .ok (.lload 6, 2) := by decide +kernel
theorem dX8_odds_107 : decode cX8_odds 107 = .ok (.invokestatic 220, 3) := by decide +kernel
theorem dX8_odds_110 : decode cX8_odds 110 = .ok (.lstore 10, 2) := by decide +kernel
theorem dX8_odds_112 : decode cX8_odds 112 = .ok (.lload 10, 2) := by decide +kernel
theorem dX8_odds_114 : decode cX8_odds 114 = .ok (.lconst 0, 1) := by decide +kernel
theorem dX8_odds_115 : decode cX8_odds 115 = .ok (.lcmp, 1) := by decide +kernel
theorem dX8_odds_116 : decode cX8_odds 116 = .ok (.ifCond .ne 7, 3) := by decide +kernel
theorem dX8_odds_119 : decode cX8_odds 119 = .ok (.ldc2_w 218, 3) := by decide +kernel
theorem dX8_odds_122 : decode cX8_odds 122 = .ok (.lreturn, 1) := by decide +kernel
theorem dX8_odds_123 : decode cX8_odds 123 = .ok (.iload 5, 2) := by decide +kernel
theorem dX8_odds_125 : decode cX8_odds 125 = .ok (.ifCond .ne 11, 3) := by decide +kernel
theorem dX8_odds_128 : decode cX8_odds 128 = .ok (.lload 8, 2) := by decide +kernel
theorem dX8_odds_130 : decode cX8_odds 130 = .ok (.lload 10, 2) := by decide +kernel
theorem dX8_odds_132 : decode cX8_odds 132 = .ok (.ldiv, 1) := by decide +kernel
theorem dX8_odds_133 : decode cX8_odds 133 = .ok (.goto 8, 3) := by decide +kernel
theorem dX8_odds_136 : decode cX8_odds 136 = .ok (.lload 6, 2) := by decide +kernel
theorem dX8_odds_138 : decode cX8_odds 138 = .ok (.lload 10, 2) := by decide +kernel
theorem dX8_odds_140 : decode cX8_odds 140 = .ok (.ldiv, 1) := by decide +kernel
theorem dX8_odds_141 : decode cX8_odds 141 = .ok (.lreturn, 1) := by decide +kernel
theorem dX8_mustBe_0 : decode cX8_mustBe 0 = .ok (.aload_n 0, 1) := by decide +kernel
theorem dX8_mustBe_1 : decode cX8_mustBe 1 = .ok (.iload_n 1, 1) := by decide +kernel
theorem dX8_mustBe_2 : decode cX8_mustBe 2 = .ok (.iload_n 2, 1) := by decide +kernel
theorem dX8_mustBe_3 : decode cX8_mustBe 3 = .ok (.invokevirtual 168, 3) := by decide +kernel
theorem dX8_mustBe_6 : decode cX8_mustBe 6 = .ok (.ifCond .eq 19, 3) := by decide +kernel
theorem dX8_mustBe_9 : decode cX8_mustBe 9 = .ok (.aload_n 0, 1) := by decide +kernel
theorem dX8_mustBe_10 : decode cX8_mustBe 10 = .ok (.iload_n 3, 1) := by decide +kernel
theorem dX8_mustBe_11 : decode cX8_mustBe 11 = .ok (.invokevirtual 111, 3) := by decide +kernel
theorem dX8_mustBe_14 : decode cX8_mustBe 14 = .ok (.ifCond .eq 11, 3) := by decide +kernel
theorem dX8_mustBe_17 : decode cX8_mustBe 17 = .ok (.iload 4, 2) := by decide +kernel
theorem dX8_mustBe_19 : decode cX8_mustBe 19 = .ok (.invokestatic 205, 3) := by decide +kernel
theorem dX8_mustBe_22 : decode cX8_mustBe 22 = .ok (.ifCond .ne 5, 3) := by decide +kernel
theorem dX8_mustBe_25 : decode cX8_mustBe 25 = .ok (.iconst (-1), 1) := by decide +kernel
theorem dX8_mustBe_26 : decode cX8_mustBe 26 = .ok (.ireturn, 1) := by decide +kernel
theorem dX8_mustBe_27 : decode cX8_mustBe 27 = .ok (.aload_n 0, 1) := by decide +kernel
theorem dX8_mustBe_28 : decode cX8_mustBe 28 = .ok (.iload_n 1, 1) := by decide +kernel
theorem dX8_mustBe_29 : decode cX8_mustBe 29 = .ok (.iload_n 2, 1) := by decide +kernel
theorem dX8_mustBe_30 : decode cX8_mustBe 30 = .ok (.invokevirtual 147, 3) := by decide +kernel
theorem dX8_mustBe_33 : decode cX8_mustBe 33 = .ok (.ifCond .ne 6, 3) := by decide +kernel
theorem dX8_mustBe_36 : decode cX8_mustBe 36 = .ok (.bipush (-2), 2) := by decide +kernel
theorem dX8_mustBe_38 : decode cX8_mustBe 38 = .ok (.ireturn, 1) := by decide +kernel
theorem dX8_mustBe_39 : decode cX8_mustBe 39 = .ok (.aload_n 0, 1) := by decide +kernel
theorem dX8_mustBe_40 : decode cX8_mustBe 40 = .ok (.iload_n 1, 1) := by decide +kernel
theorem dX8_mustBe_41 : decode cX8_mustBe 41 = .ok (.iload 4, 2) := by decide +kernel
theorem dX8_mustBe_43 : decode cX8_mustBe 43 = .ok (.invokevirtual 208, 3) := by decide +kernel
theorem dX8_mustBe_46 : decode cX8_mustBe 46 = .ok (.aload_n 0, 1) := by decide +kernel
theorem dX8_mustBe_47 : decode cX8_mustBe 47 = .ok (.getfield 48, 3) := by decide +kernel
theorem dX8_mustBe_50 : decode cX8_mustBe 50 = .ok (.invokevirtual 224, 3) := by decide +kernel
theorem dX8_mustBe_53 : decode cX8_mustBe 53 = .ok (.aload_n 0, 1) := by decide +kernel
theorem dX8_mustBe_54 : decode cX8_mustBe 54 = .ok (.getfield 48, 3) := by decide +kernel
theorem dX8_mustBe_57 : decode cX8_mustBe 57 = .ok (.getfield 227, 3) := by decide +kernel
theorem dX8_mustBe_60 : decode cX8_mustBe 60 = .ok (.iload_n 2, 1) := by decide +kernel
theorem dX8_mustBe_61 : decode cX8_mustBe 61 = .ok (.iaload, 1) := by decide +kernel
theorem dX8_mustBe_62 : decode cX8_mustBe 62 = .ok (.istore 5, 2) := by decide +kernel
theorem dX8_mustBe_64 : decode cX8_mustBe 64 = .ok (.iload 5, 2) := by decide +kernel
theorem dX8_mustBe_66 : decode cX8_mustBe 66 = .ok (.iload_n 3, 1) := by decide +kernel
theorem dX8_mustBe_67 : decode cX8_mustBe 67 = .ok (.ishr, 1) := by decide +kernel
theorem dX8_mustBe_68 : decode cX8_mustBe 68 = .ok (.iconst 1, 1) := by decide +kernel
theorem dX8_mustBe_69 : decode cX8_mustBe 69 = .ok (.iand, 1) := by decide +kernel
theorem dX8_mustBe_70 : decode cX8_mustBe 70 = .ok (.ifCond .ne 5, 3) := by decide +kernel
theorem dX8_mustBe_73 : decode cX8_mustBe 73 = .ok (.iconst 0, 1) := by decide +kernel
theorem dX8_mustBe_74 : decode cX8_mustBe 74 = .ok (.ireturn, 1) := by decide +kernel
theorem dX8_mustBe_75 : decode cX8_mustBe 75 = .ok (.iload 5, 2) := by decide +kernel
theorem dX8_mustBe_77 : decode cX8_mustBe 77 = .ok (.invokestatic 230, 3) := by decide +kernel
theorem dX8_mustBe_80 : decode cX8_mustBe 80 = .ok (.iconst 1, 1) := by decide +kernel
theorem dX8_mustBe_81 : decode cX8_mustBe 81 = .ok (.if_icmp .ne 7, 3) := by decide +kernel
theorem dX8_mustBe_84 : decode cX8_mustBe 84 = .ok (.iconst 2, 1) := by decide +kernel
theorem dX8_mustBe_85 : decode cX8_mustBe 85 = .ok (.goto 4, 3) := by decide +kernel
theorem dX8_mustBe_88 : decode cX8_mustBe 88 = .ok (.iconst 1, 1) := by decide +kernel
theorem dX8_mustBe_89 : decode cX8_mustBe 89 = .ok (.ireturn, 1) := by decide +kernel
theorem dX8_giving_0 : decode cX8_giving 0 = .ok (.aload_n 0, 1) := by decide +kernel
theorem dX8_giving_1 : decode cX8_giving 1 = .ok (.iload_n 1, 1) := by decide +kernel
theorem dX8_giving_2 : decode cX8_giving 2 = .ok (.iload_n 2, 1) := by decide +kernel
theorem dX8_giving_3 : decode cX8_giving 3 = .ok (.invokevirtual 168, 3) := by decide +kernel
theorem dX8_giving_6 : decode cX8_giving 6 = .ok (.ifCond .eq 10, 3) := by decide +kernel
theorem dX8_giving_9 : decode cX8_giving 9 = .ok (.iload_n 3, 1) := by decide +kernel
theorem dX8_giving_10 : decode cX8_giving 10 = .ok (.invokestatic 205, 3) := by decide +kernel
theorem dX8_giving_13 : decode cX8_giving 13 = .ok (.ifCond .ne 5, 3) := by decide +kernel
theorem dX8_giving_16 : decode cX8_giving 16 = .ok (.iconst (-1), 1) := by decide +kernel
theorem dX8_giving_17 : decode cX8_giving 17 = .ok (.ireturn, 1) := by decide +kernel
theorem dX8_giving_18 : decode cX8_giving 18 = .ok (.aload_n 0, 1) := by decide +kernel
theorem dX8_giving_19 : decode cX8_giving 19 = .ok (.iload_n 1, 1) := by decide +kernel
theorem dX8_giving_20 : decode cX8_giving 20 = .ok (.iload_n 2, 1) := by decide +kernel
theorem dX8_giving_21 : decode cX8_giving 21 = .ok (.invokevirtual 147, 3) := by decide +kernel
theorem dX8_giving_24 : decode cX8_giving 24 = .ok (.ifCond .ne 6, 3) := by decide +kernel
theorem dX8_giving_27 : decode cX8_giving 27 = .ok (.bipush (-2), 2) := by decide +kernel
theorem dX8_giving_29 : decode cX8_giving 29 = .ok (.ireturn, 1) := by decide +kernel
theorem dX8_giving_30 : decode cX8_giving 30 = .ok (.aload_n 0, 1) := by decide +kernel
theorem dX8_giving_31 : decode cX8_giving 31 = .ok (.iload_n 1, 1) := by decide +kernel
theorem dX8_giving_32 : decode cX8_giving 32 = .ok (.iload_n 3, 1) := by decide +kernel
theorem dX8_giving_33 : decode cX8_giving 33 = .ok (.invokevirtual 208, 3) := by decide +kernel
theorem dX8_giving_36 : decode cX8_giving 36 = .ok (.aload_n 0, 1) := by decide +kernel
theorem dX8_giving_37 : decode cX8_giving 37 = .ok (.getfield 48, 3) := by decide +kernel
theorem dX8_giving_40 : decode cX8_giving 40 = .ok (.iload_n 2, 1) := by decide +kernel
theorem dX8_giving_41 : decode cX8_giving 41 = .ok (.invokevirtual 235, 3) := by decide +kernel
theorem dX8_giving_44 : decode cX8_giving 44 = .ok (.istore 4, 2) := by decide +kernel
theorem dX8_giving_46 : decode cX8_giving 46 = .ok (.iload 4, 2) := by decide +kernel
theorem dX8_giving_48 : decode cX8_giving 48 = .ok (.iconst (-1), 1) := by decide +kernel
theorem dX8_giving_49 : decode cX8_giving 49 = .ok (.if_icmp .ne 8, 3) := by decide +kernel
theorem dX8_giving_52 : decode cX8_giving 52 = .ok (.bipush (-2), 2) := by decide +kernel
theorem dX8_giving_54 : decode cX8_giving 54 = .ok (.goto 5, 3) := by decide +kernel
theorem dX8_giving_57 : decode cX8_giving 57 = .ok (.iload 4, 2) := by decide +kernel
theorem dX8_giving_59 : decode cX8_giving 59 = .ok (.ireturn, 1) := by decide +kernel
theorem dX8_tooFew_0 : decode cX8_tooFew 0 = .ok (.aload_n 0, 1) := by decide +kernel
theorem dX8_tooFew_1 : decode cX8_tooFew 1 = .ok (.iload_n 1, 1) := by decide +kernel
theorem dX8_tooFew_2 : decode cX8_tooFew 2 = .ok (.invokevirtual 161, 3) := by decide +kernel
theorem dX8_tooFew_5 : decode cX8_tooFew 5 = .ok (.ifCond .eq 10, 3) := by decide +kernel
theorem dX8_tooFew_8 : decode cX8_tooFew 8 = .ok (.iload_n 2, 1) := by decide +kernel
theorem dX8_tooFew_9 : decode cX8_tooFew 9 = .ok (.invokestatic 205, 3) := by decide +kernel
theorem dX8_tooFew_12 : decode cX8_tooFew 12 = .ok (.ifCond .ne 5, 3) := by decide +kernel
theorem dX8_tooFew_15 : decode cX8_tooFew 15 = .ok (.iconst (-1), 1) := by decide +kernel
theorem dX8_tooFew_16 : decode cX8_tooFew 16 = .ok (.ireturn, 1) := by decide +kernel
theorem dX8_tooFew_17 : decode cX8_tooFew 17 = .ok (.aload_n 0, 1) := by decide +kernel
theorem dX8_tooFew_18 : decode cX8_tooFew 18 = .ok (.iload_n 1, 1) := by decide +kernel
theorem dX8_tooFew_19 : decode cX8_tooFew 19 = .ok (.iload_n 2, 1) := by decide +kernel
theorem dX8_tooFew_20 : decode cX8_tooFew 20 = .ok (.invokevirtual 208, 3) := by decide +kernel
theorem dX8_tooFew_23 : decode cX8_tooFew 23 = .ok (.aload_n 0, 1) := by decide +kernel
theorem dX8_tooFew_24 : decode cX8_tooFew 24 = .ok (.getfield 48, 3) := by decide +kernel
theorem dX8_tooFew_27 : decode cX8_tooFew 27 = .ok (.invokevirtual 224, 3) := by decide +kernel
theorem dX8_tooFew_30 : decode cX8_tooFew 30 = .ok (.aload_n 0, 1) := by decide +kernel
theorem dX8_tooFew_31 : decode cX8_tooFew 31 = .ok (.getfield 48, 3) := by decide +kernel
theorem dX8_tooFew_34 : decode cX8_tooFew 34 = .ok (.getfield 238, 3) := by decide +kernel
theorem dX8_tooFew_37 : decode cX8_tooFew 37 = .ok (.ireturn, 1) := by decide +kernel
theorem dX8_steps_0 : decode cX8_steps 0 = .ok (.aload_n 0, 1) := by decide +kernel
theorem dX8_steps_1 : decode cX8_steps 1 = .ok (.iload_n 1, 1) := by decide +kernel
theorem dX8_steps_2 : decode cX8_steps 2 = .ok (.invokevirtual 161, 3) := by decide +kernel
theorem dX8_steps_5 : decode cX8_steps 5 = .ok (.ifCond .eq 10, 3) := by decide +kernel
theorem dX8_steps_8 : decode cX8_steps 8 = .ok (.iload_n 2, 1) := by decide +kernel
theorem dX8_steps_9 : decode cX8_steps 9 = .ok (.invokestatic 205, 3) := by decide +kernel
theorem dX8_steps_12 : decode cX8_steps 12 = .ok (.ifCond .ne 5, 3) := by decide +kernel
theorem dX8_steps_15 : decode cX8_steps 15 = .ok (.iconst (-1), 1) := by decide +kernel
theorem dX8_steps_16 : decode cX8_steps 16 = .ok (.ireturn, 1) := by decide +kernel
theorem dX8_steps_17 : decode cX8_steps 17 = .ok (.iload_n 3, 1) := by decide +kernel
theorem dX8_steps_18 : decode cX8_steps 18 = .ok (.iconst (-1), 1) := by decide +kernel
theorem dX8_steps_19 : decode cX8_steps 19 = .ok (.if_icmp .eq 20, 3) := by decide +kernel
theorem dX8_steps_22 : decode cX8_steps 22 = .ok (.iload_n 3, 1) := by decide +kernel
theorem dX8_steps_23 : decode cX8_steps 23 = .ok (.bipush 8, 2) := by decide +kernel
theorem dX8_steps_25 : decode cX8_steps 25 = .ok (.if_icmp .eq 14, 3) := by decide +kernel
theorem dX8_steps_28 : decode cX8_steps 28 = .ok (.aload_n 0, 1) := by decide +kernel
theorem dX8_steps_29 : decode cX8_steps 29 = .ok (.iload_n 1, 1) := by decide +kernel
theorem dX8_steps_30 : decode cX8_steps 30 = .ok (.iload_n 3, 1) := by decide +kernel
theorem dX8_steps_31 : decode cX8_steps 31 = .ok (.invokevirtual 168, 3) := by decide +kernel
theorem dX8_steps_34 : decode cX8_steps 34 = .ok (.ifCond .ne 5, 3) := by decide +kernel
theorem dX8_steps_37 : decode cX8_steps 37 = .ok (.iconst (-1), 1) := by decide +kernel
theorem dX8_steps_38 : decode cX8_steps 38 = .ok (.ireturn, 1) := by decide +kernel
theorem dX8_steps_39 : decode cX8_steps 39 = .ok (.iload_n 3, 1) := by decide +kernel
theorem dX8_steps_40 : decode cX8_steps 40 = .ok (.iconst 0, 1) := by decide +kernel
theorem dX8_steps_41 : decode cX8_steps 41 = .ok (.bipush 7, 2) := by decide +kernel
theorem dX8_steps_43 : decode cX8_steps 43 = .ok (.invokestatic 87, 3) := by decide +kernel
theorem dX8_steps_46 : decode cX8_steps 46 = .ok (.ifCond .eq 15, 3) := by decide +kernel
theorem dX8_steps_49 : decode cX8_steps 49 = .ok (.aload_n 0, 1) := by decide +kernel
theorem dX8_steps_50 : decode cX8_steps 50 = .ok (.iload_n 1, 1) := by decide +kernel
theorem dX8_steps_51 : decode cX8_steps 51 = .ok (.iload_n 3, 1) := by decide +kernel
theorem dX8_steps_52 : decode cX8_steps 52 = .ok (.invokevirtual 147, 3) := by decide +kernel
theorem dX8_steps_55 : decode cX8_steps 55 = .ok (.ifCond .ne 6, 3) := by decide +kernel
theorem dX8_steps_58 : decode cX8_steps 58 = .ok (.bipush (-2), 2) := by decide +kernel
theorem dX8_steps_60 : decode cX8_steps 60 = .ok (.ireturn, 1) := by decide +kernel
theorem dX8_steps_61 : decode cX8_steps 61 = .ok (.aload_n 0, 1) := by decide +kernel
theorem dX8_steps_62 : decode cX8_steps 62 = .ok (.iload_n 1, 1) := by decide +kernel
theorem dX8_steps_63 : decode cX8_steps 63 = .ok (.iload_n 2, 1) := by decide +kernel
theorem dX8_steps_64 : decode cX8_steps 64 = .ok (.invokevirtual 208, 3) := by decide +kernel
theorem dX8_steps_67 : decode cX8_steps 67 = .ok (.aload_n 0, 1) := by decide +kernel
theorem dX8_steps_68 : decode cX8_steps 68 = .ok (.getfield 48, 3) := by decide +kernel
theorem dX8_steps_71 : decode cX8_steps 71 = .ok (.invokevirtual 241, 3) := by decide +kernel
theorem dX8_steps_74 : decode cX8_steps 74 = .ok (.istore 4, 2) := by decide +kernel
theorem dX8_steps_76 : decode cX8_steps 76 = .ok (.iload_n 3, 1) := by decide +kernel
theorem dX8_steps_77 : decode cX8_steps 77 = .ok (.iconst (-1), 1) := by decide +kernel
theorem dX8_steps_78 : decode cX8_steps 78 = .ok (.if_icmp .ne 6, 3) := by decide +kernel
theorem dX8_steps_81 : decode cX8_steps 81 = .ok (.iload 4, 2) := by decide +kernel
theorem dX8_steps_83 : decode cX8_steps 83 = .ok (.ireturn, 1) := by decide +kernel
theorem dX8_steps_84 : decode cX8_steps 84 = .ok (.iload_n 3, 1) := by decide +kernel
theorem dX8_steps_85 : decode cX8_steps 85 = .ok (.bipush 8, 2) := by decide +kernel
theorem dX8_steps_87 : decode cX8_steps 87 = .ok (.if_icmp .ne 13, 3) := by decide +kernel
theorem dX8_steps_90 : decode cX8_steps 90 = .ok (.aload_n 0, 1) := by decide +kernel
theorem dX8_steps_91 : decode cX8_steps 91 = .ok (.getfield 48, 3) := by decide +kernel
theorem dX8_steps_94 : decode cX8_steps 94 = .ok (.getfield 245, 3) := by decide +kernel
theorem dX8_steps_97 : decode cX8_steps 97 = .ok (.goto 11, 3) := by decide +kernel
theorem dX8_steps_100 : decode cX8_steps 100 = .ok (.aload_n 0, 1) := by decide +kernel
theorem dX8_steps_101 : decode cX8_steps 101 = .ok (.getfield 48, 3) := by decide +kernel
theorem dX8_steps_104 : decode cX8_steps 104 = .ok (.iload_n 3, 1) := by decide +kernel
theorem dX8_steps_105 : decode cX8_steps 105 = .ok (.invokevirtual 248, 3) := by decide +kernel
theorem dX8_steps_108 : decode cX8_steps 108 = .ok (.ireturn, 1) := by decide +kernel
theorem dX8_safe_0 : decode cX8_safe 0 = .ok (.aload_n 0, 1) := by decide +kernel
theorem dX8_safe_1 : decode cX8_safe 1 = .ok (.iload_n 1, 1) := by decide +kernel
theorem dX8_safe_2 : decode cX8_safe 2 = .ok (.invokevirtual 161, 3) := by decide +kernel
theorem dX8_safe_5 : decode cX8_safe 5 = .ok (.ifCond .eq 17, 3) := by decide +kernel
theorem dX8_safe_8 : decode cX8_safe 8 = .ok (.iload_n 2, 1) := by decide +kernel
theorem dX8_safe_9 : decode cX8_safe 9 = .ok (.invokestatic 251, 3) := by decide +kernel
theorem dX8_safe_12 : decode cX8_safe 12 = .ok (.ifCond .eq 10, 3) := by decide +kernel
theorem dX8_safe_15 : decode cX8_safe 15 = .ok (.iload_n 3, 1) := by decide +kernel
theorem dX8_safe_16 : decode cX8_safe 16 = .ok (.invokestatic 205, 3) := by decide +kernel
theorem dX8_safe_19 : decode cX8_safe 19 = .ok (.ifCond .ne 5, 3) := by decide +kernel
theorem dX8_safe_22 : decode cX8_safe 22 = .ok (.iconst (-1), 1) := by decide +kernel
theorem dX8_safe_23 : decode cX8_safe 23 = .ok (.ireturn, 1) := by decide +kernel
theorem dX8_safe_24 : decode cX8_safe 24 = .ok (.aload_n 0, 1) := by decide +kernel
theorem dX8_safe_25 : decode cX8_safe 25 = .ok (.iload_n 1, 1) := by decide +kernel
theorem dX8_safe_26 : decode cX8_safe 26 = .ok (.iload_n 3, 1) := by decide +kernel
theorem dX8_safe_27 : decode cX8_safe 27 = .ok (.invokevirtual 208, 3) := by decide +kernel
theorem dX8_safe_30 : decode cX8_safe 30 = .ok (.aload_n 0, 1) := by decide +kernel
theorem dX8_safe_31 : decode cX8_safe 31 = .ok (.iload_n 1, 1) := by decide +kernel
theorem dX8_safe_32 : decode cX8_safe 32 = .ok (.iload_n 2, 1) := by decide +kernel
theorem dX8_safe_33 : decode cX8_safe 33 = .ok (.invokevirtual 254, 3) := by decide +kernel
theorem dX8_safe_36 : decode cX8_safe 36 = .ok (.ireturn, 1) := by decide +kernel
theorem dX8_fewest_0 : decode cX8_fewest 0 = .ok (.aload_n 0, 1) := by decide +kernel
theorem dX8_fewest_1 : decode cX8_fewest 1 = .ok (.iload_n 1, 1) := by decide +kernel
theorem dX8_fewest_2 : decode cX8_fewest 2 = .ok (.iload_n 2, 1) := by decide +kernel
theorem dX8_fewest_3 : decode cX8_fewest 3 = .ok (.invokevirtual 168, 3) := by decide +kernel
theorem dX8_fewest_6 : decode cX8_fewest 6 = .ok (.ifCond .eq 12, 3) := by decide +kernel
theorem dX8_fewest_9 : decode cX8_fewest 9 = .ok (.iload_n 3, 1) := by decide +kernel
theorem dX8_fewest_10 : decode cX8_fewest 10 = .ok (.iconst 0, 1) := by decide +kernel
theorem dX8_fewest_11 : decode cX8_fewest 11 = .ok (.iconst 2, 1) := by decide +kernel
theorem dX8_fewest_12 : decode cX8_fewest 12 = .ok (.invokestatic 87, 3) := by decide +kernel
theorem dX8_fewest_15 : decode cX8_fewest 15 = .ok (.ifCond .ne 5, 3) := by decide +kernel
theorem dX8_fewest_18 : decode cX8_fewest 18 = .ok (.iconst (-1), 1) := by decide +kernel
theorem dX8_fewest_19 : decode cX8_fewest 19 = .ok (.ireturn, 1) := by decide +kernel
theorem dX8_fewest_20 : decode cX8_fewest 20 = .ok (.aload_n 0, 1) := by decide +kernel
theorem dX8_fewest_21 : decode cX8_fewest 21 = .ok (.iload_n 1, 1) := by decide +kernel
theorem dX8_fewest_22 : decode cX8_fewest 22 = .ok (.iload_n 2, 1) := by decide +kernel
theorem dX8_fewest_23 : decode cX8_fewest 23 = .ok (.invokevirtual 147, 3) := by decide +kernel
theorem dX8_fewest_26 : decode cX8_fewest 26 = .ok (.ifCond .ne 6, 3) := by decide +kernel
theorem dX8_fewest_29 : decode cX8_fewest 29 = .ok (.bipush (-2), 2) := by decide +kernel
theorem dX8_fewest_31 : decode cX8_fewest 31 = .ok (.ireturn, 1) := by decide +kernel
theorem dX8_fewest_32 : decode cX8_fewest 32 = .ok (.aload_n 0, 1) := by decide +kernel
theorem dX8_fewest_33 : decode cX8_fewest 33 = .ok (.iload_n 1, 1) := by decide +kernel
theorem dX8_fewest_34 : decode cX8_fewest 34 = .ok (.iload_n 2, 1) := by decide +kernel
theorem dX8_fewest_35 : decode cX8_fewest 35 = .ok (.invokevirtual 257, 3) := by decide +kernel
theorem dX8_fewest_38 : decode cX8_fewest 38 = .ok (.istore 4, 2) := by decide +kernel
theorem dX8_fewest_40 : decode cX8_fewest 40 = .ok (.iload 4, 2) := by decide +kernel
theorem dX8_fewest_42 : decode cX8_fewest 42 = .ok (.iconst (-1), 1) := by decide +kernel
theorem dX8_fewest_43 : decode cX8_fewest 43 = .ok (.if_icmp .ne 6, 3) := by decide +kernel
theorem dX8_fewest_46 : decode cX8_fewest 46 = .ok (.bipush (-2), 2) := by decide +kernel
theorem dX8_fewest_48 : decode cX8_fewest 48 = .ok (.ireturn, 1) := by decide +kernel
theorem dX8_fewest_49 : decode cX8_fewest 49 = .ok (.iload_n 3, 1) := by decide +kernel
theorem dX8_fewest_50 : decode cX8_fewest 50 = .ok (.ifCond .ne 9, 3) := by decide +kernel
theorem dX8_fewest_53 : decode cX8_fewest 53 = .ok (.iload 4, 2) := by decide +kernel
theorem dX8_fewest_55 : decode cX8_fewest 55 = .ok (.invokestatic 230, 3) := by decide +kernel
theorem dX8_fewest_58 : decode cX8_fewest 58 = .ok (.ireturn, 1) := by decide +kernel
theorem dX8_fewest_59 : decode cX8_fewest 59 = .ok (.iload_n 3, 1) := by decide +kernel
theorem dX8_fewest_60 : decode cX8_fewest 60 = .ok (.iconst 1, 1) := by decide +kernel
theorem dX8_fewest_61 : decode cX8_fewest 61 = .ok (.if_icmp .ne 8, 3) := by decide +kernel
theorem dX8_fewest_64 : decode cX8_fewest 64 = .ok (.iload 4, 2) := by decide +kernel
theorem dX8_fewest_66 : decode cX8_fewest 66 = .ok (.goto 14, 3) := by decide +kernel
theorem dX8_fewest_69 : decode cX8_fewest 69 = .ok (.aload_n 0, 1) := by decide +kernel
theorem dX8_fewest_70 : decode cX8_fewest 70 = .ok (.iload_n 1, 1) := by decide +kernel
theorem dX8_fewest_71 : decode cX8_fewest 71 = .ok (.iload_n 2, 1) := by decide +kernel
theorem dX8_fewest_72 : decode cX8_fewest 72 = .ok (.iload 4, 2) := by decide +kernel
theorem dX8_fewest_74 : decode cX8_fewest 74 = .ok (.invokevirtual 260, 3) := by decide +kernel
theorem dX8_fewest_77 : decode cX8_fewest 77 = .ok (.invokestatic 264, 3) := by decide +kernel
theorem dX8_fewest_80 : decode cX8_fewest 80 = .ok (.ireturn, 1) := by decide +kernel
theorem dX8_questions_0 : decode cX8_questions 0 = .ok (.aload_n 0, 1) := by decide +kernel
theorem dX8_questions_1 : decode cX8_questions 1 = .ok (.iload_n 1, 1) := by decide +kernel
theorem dX8_questions_2 : decode cX8_questions 2 = .ok (.iload_n 2, 1) := by decide +kernel
theorem dX8_questions_3 : decode cX8_questions 3 = .ok (.invokevirtual 168, 3) := by decide +kernel
theorem dX8_questions_6 : decode cX8_questions 6 = .ok (.ifCond .eq 20, 3) := by decide +kernel
theorem dX8_questions_9 : decode cX8_questions 9 = .ok (.iload_n 3, 1) := by decide +kernel
theorem dX8_questions_10 : decode cX8_questions 10 = .ok (.invokestatic 205, 3) := by decide +kernel
theorem dX8_questions_13 : decode cX8_questions 13 = .ok (.ifCond .eq 13, 3) := by decide +kernel
theorem dX8_questions_16 : decode cX8_questions 16 = .ok (.iload 4, 2) := by decide +kernel
theorem dX8_questions_18 : decode cX8_questions 18 = .ok (.iconst 0, 1) := by decide +kernel
theorem dX8_questions_19 : decode cX8_questions 19 = .ok (.iconst 2, 1) := by decide +kernel
theorem dX8_questions_20 : decode cX8_questions 20 = .ok (.invokestatic 87, 3) := by decide +kernel
theorem dX8_questions_23 : decode cX8_questions 23 = .ok (.ifCond .ne 5, 3) := by decide +kernel
theorem dX8_questions_26 : decode cX8_questions 26 = .ok (.iconst (-1), 1) := by decide +kernel
theorem dX8_questions_27 : decode cX8_questions 27 = .ok (.ireturn, 1) := by decide +kernel
theorem dX8_questions_28 : decode cX8_questions 28 = .ok (.aload_n 0, 1) := by decide +kernel
theorem dX8_questions_29 : decode cX8_questions 29 = .ok (.iload_n 1, 1) := by decide +kernel
theorem dX8_questions_30 : decode cX8_questions 30 = .ok (.iload_n 2, 1) := by decide +kernel
theorem dX8_questions_31 : decode cX8_questions 31 = .ok (.invokevirtual 147, 3) := by decide +kernel
theorem dX8_questions_34 : decode cX8_questions 34 = .ok (.ifCond .ne 6, 3) := by decide +kernel
theorem dX8_questions_37 : decode cX8_questions 37 = .ok (.bipush (-2), 2) := by decide +kernel
theorem dX8_questions_39 : decode cX8_questions 39 = .ok (.ireturn, 1) := by decide +kernel
theorem dX8_questions_40 : decode cX8_questions 40 = .ok (.aload_n 0, 1) := by decide +kernel
theorem dX8_questions_41 : decode cX8_questions 41 = .ok (.iload_n 1, 1) := by decide +kernel
theorem dX8_questions_42 : decode cX8_questions 42 = .ok (.iload_n 3, 1) := by decide +kernel
theorem dX8_questions_43 : decode cX8_questions 43 = .ok (.invokevirtual 208, 3) := by decide +kernel
theorem dX8_questions_46 : decode cX8_questions 46 = .ok (.aload_n 0, 1) := by decide +kernel
theorem dX8_questions_47 : decode cX8_questions 47 = .ok (.getfield 48, 3) := by decide +kernel
theorem dX8_questions_50 : decode cX8_questions 50 = .ok (.getfield 211, 3) := by decide +kernel
theorem dX8_questions_53 : decode cX8_questions 53 = .ok (.iload_n 2, 1) := by decide +kernel
theorem dX8_questions_54 : decode cX8_questions 54 = .ok (.iaload, 1) := by decide +kernel
theorem dX8_questions_55 : decode cX8_questions 55 = .ok (.istore 5, 2) := by decide +kernel
theorem dX8_questions_57 : decode cX8_questions 57 = .ok (.iload 5, 2) := by decide +kernel
theorem dX8_questions_59 : decode cX8_questions 59 = .ok (.ifCond .eq 12, 3) := by decide +kernel
theorem dX8_questions_62 : decode cX8_questions 62 = .ok (.aload_n 0, 1) := by decide +kernel
theorem dX8_questions_63 : decode cX8_questions 63 = .ok (.iload 5, 2) := by decide +kernel
theorem dX8_questions_65 : decode cX8_questions 65 = .ok (.invokevirtual 267, 3) := by decide +kernel
theorem dX8_questions_68 : decode cX8_questions 68 = .ok (.ifCond .eq 6, 3) := by decide +kernel
theorem dX8_questions_71 : decode cX8_questions 71 = .ok (.bipush (-2), 2) := by decide +kernel
theorem dX8_questions_73 : decode cX8_questions 73 = .ok (.ireturn, 1) := by decide +kernel
theorem dX8_questions_74 : decode cX8_questions 74 = .ok (.aload_n 0, 1) := by decide +kernel
theorem dX8_questions_75 : decode cX8_questions 75 = .ok (.getfield 55, 3) := by decide +kernel
theorem dX8_questions_78 : decode cX8_questions 78 = .ok (.aload_n 0, 1) := by decide +kernel
theorem dX8_questions_79 : decode cX8_questions 79 = .ok (.getfield 11, 3) := by decide +kernel
theorem dX8_questions_82 : decode cX8_questions 82 = .ok (.iload 5, 2) := by decide +kernel
theorem dX8_questions_84 : decode cX8_questions 84 = .ok (.invokevirtual 270, 3) := by decide +kernel
theorem dX8_questions_87 : decode cX8_questions 87 = .ok (.aload_n 0, 1) := by decide +kernel
theorem dX8_questions_88 : decode cX8_questions 88 = .ok (.getfield 55, 3) := by decide +kernel
theorem dX8_questions_91 : decode cX8_questions 91 = .ok (.iload 5, 2) := by decide +kernel
theorem dX8_questions_93 : decode cX8_questions 93 = .ok (.invokevirtual 274, 3) := by decide +kernel
theorem dX8_questions_96 : decode cX8_questions 96 = .ok (.istore 6, 2) := by decide +kernel
theorem dX8_questions_98 : decode cX8_questions 98 = .ok (.iload 4, 2) := by decide +kernel
theorem dX8_questions_100 : decode cX8_questions 100 = .ok (.ifCond .ne 6, 3) := by decide +kernel
theorem dX8_questions_103 : decode cX8_questions 103 = .ok (.iload 6, 2) := by decide +kernel
theorem dX8_questions_105 : decode cX8_questions 105 = .ok (.ireturn, 1) := by decide +kernel
theorem dX8_questions_106 : decode cX8_questions 106 = .ok (.iload 6, 2) := by decide +kernel
theorem dX8_questions_108 : decode cX8_questions 108 = .ok (.ifCond .ne 8, 3) := by decide +kernel
theorem dX8_questions_111 : decode cX8_questions 111 = .ok (.bipush (-3), 2) := by decide +kernel
theorem dX8_questions_113 : decode cX8_questions 113 = .ok (.goto 13, 3) := by decide +kernel
theorem dX8_questions_116 : decode cX8_questions 116 = .ok (.aload_n 0, 1) := by decide +kernel
theorem dX8_questions_117 : decode cX8_questions 117 = .ok (.iload 5, 2) := by decide +kernel
theorem dX8_questions_119 : decode cX8_questions 119 = .ok (.iload 6, 2) := by decide +kernel
theorem dX8_questions_121 : decode cX8_questions 121 = .ok (.iload 4, 2) := by decide +kernel
theorem dX8_questions_123 : decode cX8_questions 123 = .ok (.invokevirtual 277, 3) := by decide +kernel
theorem dX8_questions_126 : decode cX8_questions 126 = .ok (.ireturn, 1) := by decide +kernel
theorem dX8_blurring_0 : decode cX8_blurring 0 = .ok (.iload_n 1, 1) := by decide +kernel
theorem dX8_blurring_1 : decode cX8_blurring 1 = .ok (.iconst 1, 1) := by decide +kernel
theorem dX8_blurring_2 : decode cX8_blurring 2 = .ok (.bipush 8, 2) := by decide +kernel
theorem dX8_blurring_4 : decode cX8_blurring 4 = .ok (.invokestatic 87, 3) := by decide +kernel
theorem dX8_blurring_7 : decode cX8_blurring 7 = .ok (.ifCond .eq 21, 3) := by decide +kernel
theorem dX8_blurring_10 : decode cX8_blurring 10 = .ok (.iload_n 2, 1) := by decide +kernel
theorem dX8_blurring_11 : decode cX8_blurring 11 = .ok (.invokestatic 251, 3) := by decide +kernel
theorem dX8_blurring_14 : decode cX8_blurring 14 = .ok (.ifCond .eq 14, 3) := by decide +kernel
theorem dX8_blurring_17 : decode cX8_blurring 17 = .ok (.iload_n 3, 1) := by decide +kernel
theorem dX8_blurring_18 : decode cX8_blurring 18 = .ok (.iconst 0, 1) := by decide +kernel
theorem dX8_blurring_19 : decode cX8_blurring 19 = .ok (.sipush 9999, 3) := by decide +kernel
theorem dX8_blurring_22 : decode cX8_blurring 22 = .ok (.invokestatic 87, 3) := by decide +kernel
theorem dX8_blurring_25 : decode cX8_blurring 25 = .ok (.ifCond .ne 6, 3) := by decide +kernel
theorem dX8_blurring_28 : decode cX8_blurring 28 = .ok (.bipush (-3), 2) := by decide +kernel
theorem dX8_blurring_30 : decode cX8_blurring 30 = .ok (.ireturn, 1) := by decide +kernel
theorem dX8_blurring_31 : decode cX8_blurring 31 = .ok (.iload 4, 2) := by decide +kernel
theorem dX8_blurring_33 : decode cX8_blurring 33 = .ok (.iconst (-1), 1) := by decide +kernel
theorem dX8_blurring_34 : decode cX8_blurring 34 = .ok (.iconst 4, 1) := by decide +kernel
theorem dX8_blurring_35 : decode cX8_blurring 35 = .ok (.invokestatic 87, 3) := by decide +kernel
theorem dX8_blurring_38 : decode cX8_blurring 38 = .ok (.ifCond .eq 14, 3) := by decide +kernel
theorem dX8_blurring_41 : decode cX8_blurring 41 = .ok (.aload_n 0, 1) := by decide +kernel
theorem dX8_blurring_42 : decode cX8_blurring 42 = .ok (.getfield 22, 3) := by decide +kernel
theorem dX8_blurring_45 : decode cX8_blurring 45 = .ok (.getfield 114, 3) := by decide +kernel
theorem dX8_blurring_48 : decode cX8_blurring 48 = .ok (.iload_n 1, 1) := by decide +kernel
theorem dX8_blurring_49 : decode cX8_blurring 49 = .ok (.if_icmp .ge 6, 3) := by decide +kernel
theorem dX8_blurring_52 : decode cX8_blurring 52 = .ok (.bipush (-3), 2) := by decide +kernel
theorem dX8_blurring_54 : decode cX8_blurring 54 = .ok (.ireturn, 1) := by decide +kernel
theorem dX8_blurring_55 : decode cX8_blurring 55 = .ok (.aload_n 0, 1) := by decide +kernel
theorem dX8_blurring_56 : decode cX8_blurring 56 = .ok (.iload_n 1, 1) := by decide +kernel
theorem dX8_blurring_57 : decode cX8_blurring 57 = .ok (.invokevirtual 131, 3) := by decide +kernel
theorem dX8_blurring_60 : decode cX8_blurring 60 = .ok (.istore 5, 2) := by decide +kernel
theorem dX8_blurring_62 : decode cX8_blurring 62 = .ok (.iload 5, 2) := by decide +kernel
theorem dX8_blurring_64 : decode cX8_blurring 64 = .ok (.ifCond .eq 18, 3) := by decide +kernel
theorem dX8_blurring_67 : decode cX8_blurring 67 = .ok (.aload_n 0, 1) := by decide +kernel
theorem dX8_blurring_68 : decode cX8_blurring 68 = .ok (.iload_n 1, 1) := by decide +kernel
theorem dX8_blurring_69 : decode cX8_blurring 69 = .ok (.invokevirtual 280, 3) := by decide +kernel
theorem dX8_blurring_72 : decode cX8_blurring 72 = .ok (.aload_n 0, 1) := by decide +kernel
theorem dX8_blurring_73 : decode cX8_blurring 73 = .ok (.getfield 62, 3) := by decide +kernel
theorem dX8_blurring_76 : decode cX8_blurring 76 = .ok (.iload_n 1, 1) := by decide +kernel
theorem dX8_blurring_77 : decode cX8_blurring 77 = .ok (.iload_n 2, 1) := by decide +kernel
theorem dX8_blurring_78 : decode cX8_blurring 78 = .ok (.iload_n 3, 1) := by decide +kernel
theorem dX8_blurring_79 : decode cX8_blurring 79 = .ok (.invokevirtual 283, 3) := by decide +kernel
theorem dX8_blurring_82 : decode cX8_blurring 82 = .ok (.aload_n 0, 1) := by decide +kernel
theorem dX8_blurring_83 : decode cX8_blurring 83 = .ok (.getfield 22, 3) := by decide +kernel
theorem dX8_blurring_86 : decode cX8_blurring 86 = .ok (.invokevirtual 144, 3) := by decide +kernel
theorem dX8_blurring_89 : decode cX8_blurring 89 = .ok (.iload 5, 2) := by decide +kernel
theorem dX8_blurring_91 : decode cX8_blurring 91 = .ok (.ifCond .ne 6, 3) := by decide +kernel
theorem dX8_blurring_94 : decode cX8_blurring 94 = .ok (.bipush (-2), 2) := by decide +kernel
theorem dX8_blurring_96 : decode cX8_blurring 96 = .ok (.ireturn, 1) := by decide +kernel
theorem dX8_blurring_97 : decode cX8_blurring 97 = .ok (.iload 4, 2) := by decide +kernel
theorem dX8_blurring_99 : decode cX8_blurring 99 = .ok (.iconst (-1), 1) := by decide +kernel
theorem dX8_blurring_100 : decode cX8_blurring 100 = .ok (.if_icmp .ne 11, 3) := by decide +kernel
theorem dX8_blurring_103 : decode cX8_blurring 103 = .ok (.aload_n 0, 1) := by decide +kernel
theorem dX8_blurring_104 : decode cX8_blurring 104 = .ok (.getfield 62, 3) := by decide +kernel
theorem dX8_blurring_107 : decode cX8_blurring 107 = .ok (.getfield 286, 3) := by decide +kernel
theorem dX8_blurring_110 : decode cX8_blurring 110 = .ok (.ireturn, 1) := by decide +kernel
theorem dX8_blurring_111 : decode cX8_blurring 111 = .ok (.iload 4, 2) := by decide +kernel
theorem dX8_blurring_113 : decode cX8_blurring 113 = .ok (.iconst 4, 1) := by decide +kernel
theorem dX8_blurring_114 : decode cX8_blurring 114 = .ok (.if_icmp .ne 13, 3) := by decide +kernel
theorem dX8_blurring_117 : decode cX8_blurring 117 = .ok (.aload_n 0, 1) := by decide +kernel
theorem dX8_blurring_118 : decode cX8_blurring 118 = .ok (.getfield 62, 3) := by decide +kernel
theorem dX8_blurring_121 : decode cX8_blurring 121 = .ok (.getfield 288, 3) := by decide +kernel
theorem dX8_blurring_124 : decode cX8_blurring 124 = .ok (.goto 15, 3) := by decide +kernel
theorem dX8_blurring_127 : decode cX8_blurring 127 = .ok (.aload_n 0, 1) := by decide +kernel
theorem dX8_blurring_128 : decode cX8_blurring 128 = .ok (.getfield 62, 3) := by decide +kernel
theorem dX8_blurring_131 : decode cX8_blurring 131 = .ok (.getfield 291, 3) := by decide +kernel
theorem dX8_blurring_134 : decode cX8_blurring 134 = .ok (.iload 4, 2) := by decide +kernel
theorem dX8_blurring_136 : decode cX8_blurring 136 = .ok (.invokestatic 294, 3) := by decide +kernel
theorem dX8_blurring_139 : decode cX8_blurring 139 = .ok (.ireturn, 1) := by decide +kernel
theorem dX8_bestSwap_0 : decode cX8_bestSwap 0 = .ok (.aload_n 0, 1) := by decide +kernel
theorem dX8_bestSwap_1 : decode cX8_bestSwap 1 = .ok (.iload_n 1, 1) := by decide +kernel
theorem dX8_bestSwap_2 : decode cX8_bestSwap 2 = .ok (.invokevirtual 161, 3) := by decide +kernel
theorem dX8_bestSwap_5 : decode cX8_bestSwap 5 = .ok (.ifCond .eq 19, 3) := by decide +kernel
theorem dX8_bestSwap_8 : decode cX8_bestSwap 8 = .ok (.iload_n 2, 1) := by decide +kernel
theorem dX8_bestSwap_9 : decode cX8_bestSwap 9 = .ok (.invokestatic 251, 3) := by decide +kernel
theorem dX8_bestSwap_12 : decode cX8_bestSwap 12 = .ok (.ifCond .eq 12, 3) := by decide +kernel
theorem dX8_bestSwap_15 : decode cX8_bestSwap 15 = .ok (.iload_n 3, 1) := by decide +kernel
theorem dX8_bestSwap_16 : decode cX8_bestSwap 16 = .ok (.iconst 0, 1) := by decide +kernel
theorem dX8_bestSwap_17 : decode cX8_bestSwap 17 = .ok (.iconst 3, 1) := by decide +kernel
theorem dX8_bestSwap_18 : decode cX8_bestSwap 18 = .ok (.invokestatic 87, 3) := by decide +kernel
theorem dX8_bestSwap_21 : decode cX8_bestSwap 21 = .ok (.ifCond .ne 5, 3) := by decide +kernel
theorem dX8_bestSwap_24 : decode cX8_bestSwap 24 = .ok (.iconst (-1), 1) := by decide +kernel
theorem dX8_bestSwap_25 : decode cX8_bestSwap 25 = .ok (.ireturn, 1) := by decide +kernel
theorem dX8_bestSwap_26 : decode cX8_bestSwap 26 = .ok (.bipush (-2), 2) := by decide +kernel
theorem dX8_bestSwap_28 : decode cX8_bestSwap 28 = .ok (.istore 4, 2) := by decide +kernel
theorem dX8_bestSwap_30 : decode cX8_bestSwap 30 = .ok (.iconst (-1), 1) := by decide +kernel
theorem dX8_bestSwap_31 : decode cX8_bestSwap 31 = .ok (.istore 5, 2) := by decide +kernel
theorem dX8_bestSwap_33 : decode cX8_bestSwap 33 = .ok (.aload_n 0, 1) := by decide +kernel
theorem dX8_bestSwap_34 : decode cX8_bestSwap 34 = .ok (.iload_n 1, 1) := by decide +kernel
theorem dX8_bestSwap_35 : decode cX8_bestSwap 35 = .ok (.aload_n 0, 1) := by decide +kernel
theorem dX8_bestSwap_36 : decode cX8_bestSwap 36 = .ok (.iload_n 1, 1) := by decide +kernel
theorem dX8_bestSwap_37 : decode cX8_bestSwap 37 = .ok (.invokevirtual 297, 3) := by decide +kernel
theorem dX8_bestSwap_40 : decode cX8_bestSwap 40 = .ok (.invokevirtual 300, 3) := by decide +kernel
theorem dX8_bestSwap_43 : decode cX8_bestSwap 43 = .ok (.iconst 0, 1) := by decide +kernel
theorem dX8_bestSwap_44 : decode cX8_bestSwap 44 = .ok (.istore 6, 2) := by decide +kernel
theorem dX8_bestSwap_46 : decode cX8_bestSwap 46 = .ok (.iload 6, 2) := by decide +kernel
theorem dX8_bestSwap_48 : decode cX8_bestSwap 48 = .ok (.iconst 4, 1) := by decide +kernel
theorem dX8_bestSwap_49 : decode cX8_bestSwap 49 = .ok (.if_icmp .ge 102, 3) := by decide +kernel
theorem dX8_bestSwap_52 : decode cX8_bestSwap 52 = .ok (.iconst 0, 1) := by decide +kernel
theorem dX8_bestSwap_53 : decode cX8_bestSwap 53 = .ok (.istore 7, 2) := by decide +kernel
theorem dX8_bestSwap_55 : decode cX8_bestSwap 55 = .ok (.iload 7, 2) := by decide +kernel
theorem dX8_bestSwap_57 : decode cX8_bestSwap 57 = .ok (.bipush 8, 2) := by decide +kernel
theorem dX8_bestSwap_59 : decode cX8_bestSwap 59 = .ok (.if_icmp .ge 86, 3) := by decide +kernel
theorem dX8_bestSwap_62 : decode cX8_bestSwap 62 = .ok (.iload 7, 2) := by decide +kernel
theorem dX8_bestSwap_64 : decode cX8_bestSwap 64 = .ok (.iconst 1, 1) := by decide +kernel
theorem dX8_bestSwap_65 : decode cX8_bestSwap 65 = .ok (.iadd, 1) := by decide +kernel
theorem dX8_bestSwap_66 : decode cX8_bestSwap 66 = .ok (.istore 8, 2) := by decide +kernel
theorem dX8_bestSwap_68 : decode cX8_bestSwap 68 = .ok (.iload 8, 2) := by decide +kernel
theorem dX8_bestSwap_70 : decode cX8_bestSwap 70 = .ok (.bipush 8, 2) := by decide +kernel
theorem dX8_bestSwap_72 : decode cX8_bestSwap 72 = .ok (.if_icmp .ge 67, 3) := by decide +kernel
theorem dX8_bestSwap_75 : decode cX8_bestSwap 75 = .ok (.aload_n 0, 1) := by decide +kernel
theorem dX8_bestSwap_76 : decode cX8_bestSwap 76 = .ok (.iload_n 1, 1) := by decide +kernel
theorem dX8_bestSwap_77 : decode cX8_bestSwap 77 = .ok (.iload_n 2, 1) := by decide +kernel
theorem dX8_bestSwap_78 : decode cX8_bestSwap 78 = .ok (.iload 7, 2) := by decide +kernel
theorem dX8_bestSwap_80 : decode cX8_bestSwap 80 = .ok (.iload 8, 2) := by decide +kernel
theorem dX8_bestSwap_82 : decode cX8_bestSwap 82 = .ok (.iload 6, 2) := by decide +kernel
theorem dX8_bestSwap_84 : decode cX8_bestSwap 84 = .ok (.invokevirtual 303, 3) := by decide +kernel
theorem dX8_bestSwap_87 : decode cX8_bestSwap 87 = .ok (.istore 9, 2) := by decide +kernel
theorem dX8_bestSwap_89 : decode cX8_bestSwap 89 = .ok (.iload 9, 2) := by decide +kernel
theorem dX8_bestSwap_91 : decode cX8_bestSwap 91 = .ok (.iload 5, 2) := by decide +kernel
theorem dX8_bestSwap_93 : decode cX8_bestSwap 93 = .ok (.if_icmp .le 40, 3) := by decide +kernel
theorem dX8_bestSwap_96 : decode cX8_bestSwap 96 = .ok (.iload 9, 2) := by decide +kernel
theorem dX8_bestSwap_98 : decode cX8_bestSwap 98 = .ok (.istore 5, 2) := by decide +kernel
theorem dX8_bestSwap_100 : decode cX8_bestSwap 100 = .ok (.iload_n 3, 1) := by decide +kernel
theorem dX8_bestSwap_101 : decode cX8_bestSwap 101 = .ok (.ifCond .ne 8, 3) := by decide +kernel
theorem dX8_bestSwap_104 : decode cX8_bestSwap 104 = .ok (.iload 6, 2) := by decide +kernel
theorem dX8_bestSwap_106 : decode cX8_bestSwap 106 = .ok (.goto 25, 3) := by decide +kernel
theorem dX8_bestSwap_109 : decode cX8_bestSwap 109 = .ok (.iload_n 3, 1) := by decide +kernel
theorem dX8_bestSwap_110 : decode cX8_bestSwap 110 = .ok (.iconst 1, 1) := by decide +kernel
theorem dX8_bestSwap_111 : decode cX8_bestSwap 111 = .ok (.if_icmp .ne 8, 3) := by decide +kernel
theorem dX8_bestSwap_114 : decode cX8_bestSwap 114 = .ok (.iload 7, 2) := by decide +kernel
theorem dX8_bestSwap_116 : decode cX8_bestSwap 116 = .ok (.goto 15, 3) := by decide +kernel
theorem dX8_bestSwap_119 : decode cX8_bestSwap 119 = .ok (.iload_n 3, 1) := by decide +kernel
theorem dX8_bestSwap_120 : decode cX8_bestSwap 120 = .ok (.iconst 2, 1) := by decide +kernel
theorem dX8_bestSwap_121 : decode cX8_bestSwap 121 = .ok (.if_icmp .ne 8, 3) := by decide +kernel
theorem dX8_bestSwap_124 : decode cX8_bestSwap 124 = .ok (.iload 8, 2) := by decide +kernel
theorem dX8_bestSwap_126 : decode cX8_bestSwap 126 = .ok (.goto 5, 3) := by decide +kernel
theorem dX8_bestSwap_129 : decode cX8_bestSwap 129 = .ok (.iload 9, 2) := by decide +kernel
theorem dX8_bestSwap_131 : decode cX8_bestSwap 131 = .ok (.istore 4, 2) := by decide +kernel
theorem dX8_bestSwap_133 : decode cX8_bestSwap 133 = .ok (.iinc 8 1, 3) := by decide +kernel
theorem dX8_bestSwap_136 : decode cX8_bestSwap 136 = .ok (.goto (-68), 3) := by decide +kernel
theorem dX8_bestSwap_139 : decode cX8_bestSwap 139 = .ok (.iinc 7 1, 3) := by decide +kernel
theorem dX8_bestSwap_142 : decode cX8_bestSwap 142 = .ok (.goto (-87), 3) := by decide +kernel
theorem dX8_bestSwap_145 : decode cX8_bestSwap 145 = .ok (.iinc 6 1, 3) := by decide +kernel
theorem dX8_bestSwap_148 : decode cX8_bestSwap 148 = .ok (.goto (-102), 3) := by decide +kernel
theorem dX8_bestSwap_151 : decode cX8_bestSwap 151 = .ok (.iload 4, 2) := by decide +kernel
theorem dX8_bestSwap_153 : decode cX8_bestSwap 153 = .ok (.ireturn, 1) := by decide +kernel
theorem dX8_together_0 : decode cX8_together 0 = .ok (.iload_n 1, 1) := by decide +kernel
theorem dX8_together_1 : decode cX8_together 1 = .ok (.invokestatic 251, 3) := by decide +kernel
theorem dX8_together_4 : decode cX8_together 4 = .ok (.ifCond .eq 12, 3) := by decide +kernel
theorem dX8_together_7 : decode cX8_together 7 = .ok (.iload_n 2, 1) := by decide +kernel
theorem dX8_together_8 : decode cX8_together 8 = .ok (.iconst 0, 1) := by decide +kernel
theorem dX8_together_9 : decode cX8_together 9 = .ok (.iconst 2, 1) := by decide +kernel
theorem dX8_together_10 : decode cX8_together 10 = .ok (.invokestatic 87, 3) := by decide +kernel
theorem dX8_together_13 : decode cX8_together 13 = .ok (.ifCond .ne 5, 3) := by decide +kernel
theorem dX8_together_16 : decode cX8_together 16 = .ok (.iconst (-1), 1) := by decide +kernel
theorem dX8_together_17 : decode cX8_together 17 = .ok (.ireturn, 1) := by decide +kernel
theorem dX8_together_18 : decode cX8_together 18 = .ok (.iconst 0, 1) := by decide +kernel
theorem dX8_together_19 : decode cX8_together 19 = .ok (.istore_n 3, 1) := by decide +kernel
theorem dX8_together_20 : decode cX8_together 20 = .ok (.iload_n 3, 1) := by decide +kernel
theorem dX8_together_21 : decode cX8_together 21 = .ok (.aload_n 0, 1) := by decide +kernel
theorem dX8_together_22 : decode cX8_together 22 = .ok (.getfield 78, 3) := by decide +kernel
theorem dX8_together_25 : decode cX8_together 25 = .ok (.if_icmp .ge 68, 3) := by decide +kernel
theorem dX8_together_28 : decode cX8_together 28 = .ok (.aload_n 0, 1) := by decide +kernel
theorem dX8_together_29 : decode cX8_together 29 = .ok (.getfield 28, 3) := by decide +kernel
theorem dX8_together_32 : decode cX8_together 32 = .ok (.iload_n 3, 1) := by decide +kernel
theorem dX8_together_33 : decode cX8_together 33 = .ok (.aaload, 1) := by decide +kernel
theorem dX8_together_34 : decode cX8_together 34 = .ok (.getfield 164, 3) := by decide +kernel
theorem dX8_together_37 : decode cX8_together 37 = .ok (.ifCond .eq 12, 3) := by decide +kernel
theorem dX8_together_40 : decode cX8_together 40 = .ok (.aload_n 0, 1) := by decide +kernel
theorem dX8_together_41 : decode cX8_together 41 = .ok (.iload_n 3, 1) := by decide +kernel
theorem dX8_together_42 : decode cX8_together 42 = .ok (.iload_n 1, 1) := by decide +kernel
theorem dX8_together_43 : decode cX8_together 43 = .ok (.invokevirtual 307, 3) := by decide +kernel
theorem dX8_together_46 : decode cX8_together 46 = .ok (.goto 4, 3) := by decide +kernel
theorem dX8_together_49 : decode cX8_together 49 = .ok (.iconst (-1), 1) := by decide +kernel
theorem dX8_together_50 : decode cX8_together 50 = .ok (.istore 4, 2) := by decide +kernel
theorem dX8_together_52 : decode cX8_together 52 = .ok (.iload 4, 2) := by decide +kernel
theorem dX8_together_54 : decode cX8_together 54 = .ok (.iconst (-1), 1) := by decide +kernel
theorem dX8_together_55 : decode cX8_together 55 = .ok (.if_icmp .eq 32, 3) := by decide +kernel
theorem dX8_together_58 : decode cX8_together 58 = .ok (.iload_n 2, 1) := by decide +kernel
theorem dX8_together_59 : decode cX8_together 59 = .ok (.ifCond .ne 7, 3) := by decide +kernel
theorem dX8_together_62 : decode cX8_together 62 = .ok (.iload_n 3, 1) := by decide +kernel
theorem dX8_together_63 : decode cX8_together 63 = .ok (.goto 23, 3) := by decide +kernel
theorem dX8_together_66 : decode cX8_together 66 = .ok (.iload_n 2, 1) := by decide +kernel
theorem dX8_together_67 : decode cX8_together 67 = .ok (.iconst 1, 1) := by decide +kernel
theorem dX8_together_68 : decode cX8_together 68 = .ok (.if_icmp .ne 8, 3) := by decide +kernel
theorem dX8_together_71 : decode cX8_together 71 = .ok (.iload 4, 2) := by decide +kernel
theorem dX8_together_73 : decode cX8_together 73 = .ok (.goto 13, 3) := by decide +kernel
theorem dX8_together_76 : decode cX8_together 76 = .ok (.aload_n 0, 1) := by decide +kernel
theorem dX8_together_77 : decode cX8_together 77 = .ok (.getfield 48, 3) := by decide +kernel
theorem dX8_together_80 : decode cX8_together 80 = .ok (.getfield 227, 3) := by decide +kernel
theorem dX8_together_83 : decode cX8_together 83 = .ok (.iload 4, 2) := by decide +kernel
theorem dX8_together_85 : decode cX8_together 85 = .ok (.iaload, 1) := by decide +kernel
theorem dX8_together_86 : decode cX8_together 86 = .ok (.ireturn, 1) := by decide +kernel
theorem dX8_together_87 : decode cX8_together 87 = .ok (.iinc 3 1, 3) := by decide +kernel
theorem dX8_together_90 : decode cX8_together 90 = .ok (.goto (-70), 3) := by decide +kernel
theorem dX8_together_93 : decode cX8_together 93 = .ok (.bipush (-2), 2) := by decide +kernel
theorem dX8_together_95 : decode cX8_together 95 = .ok (.ireturn, 1) := by decide +kernel
theorem dX8_loss_0 : decode cX8_loss 0 = .ok (.aload_n 0, 1) := by decide +kernel
theorem dX8_loss_1 : decode cX8_loss 1 = .ok (.iload_n 1, 1) := by decide +kernel
theorem dX8_loss_2 : decode cX8_loss 2 = .ok (.invokevirtual 161, 3) := by decide +kernel
theorem dX8_loss_5 : decode cX8_loss 5 = .ok (.ifCond .ne 5, 3) := by decide +kernel
theorem dX8_loss_8 : decode cX8_loss 8 = .ok (.iconst (-1), 1) := by decide +kernel
theorem dX8_loss_9 : decode cX8_loss 9 = .ok (.ireturn, 1) := by decide +kernel
theorem dX8_loss_10 : decode cX8_loss 10 = .ok (.iconst 0, 1) := by decide +kernel
theorem dX8_loss_11 : decode cX8_loss 11 = .ok (.istore_n 2, 1) := by decide +kernel
theorem dX8_loss_12 : decode cX8_loss 12 = .ok (.iconst 0, 1) := by decide +kernel
theorem dX8_loss_13 : decode cX8_loss 13 = .ok (.istore_n 3, 1) := by decide +kernel
theorem dX8_loss_14 : decode cX8_loss 14 = .ok (.iload_n 3, 1) := by decide +kernel
theorem dX8_loss_15 : decode cX8_loss 15 = .ok (.bipush 8, 2) := by decide +kernel
theorem dX8_loss_17 : decode cX8_loss 17 = .ok (.if_icmp .ge 36, 3) := by decide +kernel
theorem dX8_loss_20 : decode cX8_loss 20 = .ok (.iload_n 2, 1) := by decide +kernel
theorem dX8_loss_21 : decode cX8_loss 21 = .ok (.aload_n 0, 1) := by decide +kernel
theorem dX8_loss_22 : decode cX8_loss 22 = .ok (.iload_n 1, 1) := by decide +kernel
theorem dX8_loss_23 : decode cX8_loss 23 = .ok (.iload_n 3, 1) := by decide +kernel
theorem dX8_loss_24 : decode cX8_loss 24 = .ok (.invokevirtual 147, 3) := by decide +kernel
theorem dX8_loss_27 : decode cX8_loss 27 = .ok (.ifCond .eq 17, 3) := by decide +kernel
theorem dX8_loss_30 : decode cX8_loss 30 = .ok (.aload_n 0, 1) := by decide +kernel
theorem dX8_loss_31 : decode cX8_loss 31 = .ok (.aload_n 0, 1) := by decide +kernel
theorem dX8_loss_32 : decode cX8_loss 32 = .ok (.getfield 28, 3) := by decide +kernel
theorem dX8_loss_35 : decode cX8_loss 35 = .ok (.iload_n 1, 1) := by decide +kernel
theorem dX8_loss_36 : decode cX8_loss 36 = .ok (.aaload, 1) := by decide +kernel
theorem dX8_loss_37 : decode cX8_loss 37 = .ok (.iload_n 3, 1) := by decide +kernel
theorem dX8_loss_38 : decode cX8_loss 38 = .ok (.invokevirtual 310, 3) := by decide +kernel
theorem dX8_loss_41 : decode cX8_loss 41 = .ok (.goto 4, 3) := by decide +kernel
theorem dX8_loss_44 : decode cX8_loss 44 = .ok (.iconst 0, 1) := by decide +kernel
theorem dX8_loss_45 : decode cX8_loss 45 = .ok (.iadd, 1) := by decide +kernel
theorem dX8_loss_46 : decode cX8_loss 46 = .ok (.istore_n 2, 1) := by decide +kernel
theorem dX8_loss_47 : decode cX8_loss 47 = .ok (.iinc 3 1, 3) := by decide +kernel
theorem dX8_loss_50 : decode cX8_loss 50 = .ok (.goto (-36), 3) := by decide +kernel
theorem dX8_loss_53 : decode cX8_loss 53 = .ok (.iload_n 2, 1) := by decide +kernel
theorem dX8_loss_54 : decode cX8_loss 54 = .ok (.ireturn, 1) := by decide +kernel
theorem dX8_linesOf_0 : decode cX8_linesOf 0 = .ok (.aload_n 0, 1) := by decide +kernel
theorem dX8_linesOf_1 : decode cX8_linesOf 1 = .ok (.iload_n 1, 1) := by decide +kernel
theorem dX8_linesOf_2 : decode cX8_linesOf 2 = .ok (.invokevirtual 161, 3) := by decide +kernel
theorem dX8_linesOf_5 : decode cX8_linesOf 5 = .ok (.ifCond .eq 18, 3) := by decide +kernel
theorem dX8_linesOf_8 : decode cX8_linesOf 8 = .ok (.aload_n 0, 1) := by decide +kernel
theorem dX8_linesOf_9 : decode cX8_linesOf 9 = .ok (.iload_n 2, 1) := by decide +kernel
theorem dX8_linesOf_10 : decode cX8_linesOf 10 = .ok (.invokevirtual 111, 3) := by decide +kernel
theorem dX8_linesOf_13 : decode cX8_linesOf 13 = .ok (.ifCond .eq 10, 3) := by decide +kernel
theorem dX8_linesOf_16 : decode cX8_linesOf 16 = .ok (.iload_n 3, 1) := by decide +kernel
theorem dX8_linesOf_17 : decode cX8_linesOf 17 = .ok (.invokestatic 205, 3) := by decide +kernel
theorem dX8_linesOf_20 : decode cX8_linesOf 20 = .ok (.ifCond .ne 5, 3) := by decide +kernel
theorem dX8_linesOf_23 : decode cX8_linesOf 23 = .ok (.iconst (-1), 1) := by decide +kernel
theorem dX8_linesOf_24 : decode cX8_linesOf 24 = .ok (.ireturn, 1) := by decide +kernel
theorem dX8_linesOf_25 : decode cX8_linesOf 25 = .ok (.aload_n 0, 1) := by decide +kernel
theorem dX8_linesOf_26 : decode cX8_linesOf 26 = .ok (.iload_n 1, 1) := by decide +kernel
theorem dX8_linesOf_27 : decode cX8_linesOf 27 = .ok (.iload_n 3, 1) := by decide +kernel
theorem dX8_linesOf_28 : decode cX8_linesOf 28 = .ok (.invokevirtual 208, 3) := by decide +kernel
theorem dX8_linesOf_31 : decode cX8_linesOf 31 = .ok (.aload_n 0, 1) := by decide +kernel
theorem dX8_linesOf_32 : decode cX8_linesOf 32 = .ok (.getfield 48, 3) := by decide +kernel
theorem dX8_linesOf_35 : decode cX8_linesOf 35 = .ok (.invokevirtual 224, 3) := by decide +kernel
theorem dX8_linesOf_38 : decode cX8_linesOf 38 = .ok (.iconst 0, 1) := by decide +kernel
theorem dX8_linesOf_39 : decode cX8_linesOf 39 = .ok (.istore 4, 2) := by decide +kernel
theorem dX8_linesOf_41 : decode cX8_linesOf 41 = .ok (.iconst 0, 1) := by decide +kernel
theorem dX8_linesOf_42 : decode cX8_linesOf 42 = .ok (.istore 5, 2) := by decide +kernel
theorem dX8_linesOf_44 : decode cX8_linesOf 44 = .ok (.iload 5, 2) := by decide +kernel
theorem dX8_linesOf_46 : decode cX8_linesOf 46 = .ok (.bipush 8, 2) := by decide +kernel
theorem dX8_linesOf_48 : decode cX8_linesOf 48 = .ok (.if_icmp .ge 31, 3) := by decide +kernel
theorem dX8_linesOf_51 : decode cX8_linesOf 51 = .ok (.iload 4, 2) := by decide +kernel
theorem dX8_linesOf_53 : decode cX8_linesOf 53 = .ok (.aload_n 0, 1) := by decide +kernel
theorem dX8_linesOf_54 : decode cX8_linesOf 54 = .ok (.getfield 48, 3) := by decide +kernel
theorem dX8_linesOf_57 : decode cX8_linesOf 57 = .ok (.getfield 227, 3) := by decide +kernel
theorem dX8_linesOf_60 : decode cX8_linesOf 60 = .ok (.iload 5, 2) := by decide +kernel
theorem dX8_linesOf_62 : decode cX8_linesOf 62 = .ok (.iaload, 1) := by decide +kernel
theorem dX8_linesOf_63 : decode cX8_linesOf 63 = .ok (.iload_n 2, 1) := by decide +kernel
theorem dX8_linesOf_64 : decode cX8_linesOf 64 = .ok (.ishr, 1) := by decide +kernel
theorem dX8_linesOf_65 : decode cX8_linesOf 65 = .ok (.iconst 1, 1) := by decide +kernel
theorem dX8_linesOf_66 : decode cX8_linesOf 66 = .ok (.iand, 1) := by decide +kernel
theorem dX8_linesOf_67 : decode cX8_linesOf 67 = .ok (.iload 5, 2) := by decide +kernel
theorem dX8_linesOf_69 : decode cX8_linesOf 69 = .ok (.ishl, 1) := by decide +kernel
theorem dX8_linesOf_70 : decode cX8_linesOf 70 = .ok (.ior, 1) := by decide +kernel
theorem dX8_linesOf_71 : decode cX8_linesOf 71 = .ok (.istore 4, 2) := by decide +kernel
theorem dX8_linesOf_73 : decode cX8_linesOf 73 = .ok (.iinc 5 1, 3) := by decide +kernel
theorem dX8_linesOf_76 : decode cX8_linesOf 76 = .ok (.goto (-32), 3) := by decide +kernel
theorem dX8_linesOf_79 : decode cX8_linesOf 79 = .ok (.iload 4, 2) := by decide +kernel
theorem dX8_linesOf_81 : decode cX8_linesOf 81 = .ok (.ireturn, 1) := by decide +kernel
theorem dX8_check_0 : decode cX8_check 0 = .ok (.aload_n 0, 1) := by decide +kernel
theorem dX8_check_1 : decode cX8_check 1 = .ok (.iload_n 1, 1) := by decide +kernel
theorem dX8_check_2 : decode cX8_check 2 = .ok (.iload_n 2, 1) := by decide +kernel
theorem dX8_check_3 : decode cX8_check 3 = .ok (.invokevirtual 147, 3) := by decide +kernel
theorem dX8_check_6 : decode cX8_check 6 = .ok (.ifCond .eq 25, 3) := by decide +kernel
theorem dX8_check_9 : decode cX8_check 9 = .ok (.iload_n 3, 1) := by decide +kernel
theorem dX8_check_10 : decode cX8_check 10 = .ok (.iconst 0, 1) := by decide +kernel
theorem dX8_check_11 : decode cX8_check 11 = .ok (.iconst 4, 1) := by decide +kernel
theorem dX8_check_12 : decode cX8_check 12 = .ok (.invokestatic 87, 3) := by decide +kernel
theorem dX8_check_15 : decode cX8_check 15 = .ok (.ifCond .eq 16, 3) := by decide +kernel
theorem dX8_check_18 : decode cX8_check 18 = .ok (.aload_n 0, 1) := by decide +kernel
theorem dX8_check_19 : decode cX8_check 19 = .ok (.getfield 22, 3) := by decide +kernel
theorem dX8_check_22 : decode cX8_check 22 = .ok (.getfield 114, 3) := by decide +kernel
theorem dX8_check_25 : decode cX8_check 25 = .ok (.iconst 4, 1) := by decide +kernel
theorem dX8_check_26 : decode cX8_check 26 = .ok (.iload_n 3, 1) := by decide +kernel
theorem dX8_check_27 : decode cX8_check 27 = .ok (.imul, 1) := by decide +kernel
theorem dX8_check_28 : decode cX8_check 28 = .ok (.if_icmp .ge 6, 3) := by decide +kernel
theorem dX8_check_31 : decode cX8_check 31 = .ok (.bipush (-2), 2) := by decide +kernel
theorem dX8_check_33 : decode cX8_check 33 = .ok (.ireturn, 1) := by decide +kernel
theorem dX8_check_34 : decode cX8_check 34 = .ok (.iconst (-1), 1) := by decide +kernel
theorem dX8_check_35 : decode cX8_check 35 = .ok (.istore 4, 2) := by decide +kernel
theorem dX8_check_37 : decode cX8_check 37 = .ok (.iconst 0, 1) := by decide +kernel
theorem dX8_check_38 : decode cX8_check 38 = .ok (.istore 5, 2) := by decide +kernel
theorem dX8_check_40 : decode cX8_check 40 = .ok (.iload 5, 2) := by decide +kernel
theorem dX8_check_42 : decode cX8_check 42 = .ok (.iload_n 3, 1) := by decide +kernel
theorem dX8_check_43 : decode cX8_check 43 = .ok (.if_icmp .ge 45, 3) := by decide +kernel
theorem dX8_check_46 : decode cX8_check 46 = .ok (.iload 4, 2) := by decide +kernel
theorem dX8_check_48 : decode cX8_check 48 = .ok (.iconst (-1), 1) := by decide +kernel
theorem dX8_check_49 : decode cX8_check 49 = .ok (.if_icmp .ne 39, 3) := by decide +kernel
theorem dX8_check_52 : decode cX8_check 52 = .ok (.aload_n 0, 1) := by decide +kernel
theorem dX8_check_53 : decode cX8_check 53 = .ok (.getfield 22, 3) := by decide +kernel
theorem dX8_check_56 : decode cX8_check 56 = .ok (.iconst 4, 1) := by decide +kernel
theorem dX8_check_57 : decode cX8_check 57 = .ok (.iload 5, 2) := by decide +kernel
theorem dX8_check_59 : decode cX8_check 59 = .ok (.imul, 1) := by decide +kernel
theorem dX8_check_60 : decode cX8_check 60 = .ok (.invokevirtual 314, 3) := by decide +kernel
theorem dX8_check_63 : decode cX8_check 63 = .ok (.aload_n 0, 1) := by decide +kernel
theorem dX8_check_64 : decode cX8_check 64 = .ok (.getfield 28, 3) := by decide +kernel
theorem dX8_check_67 : decode cX8_check 67 = .ok (.iload_n 1, 1) := by decide +kernel
theorem dX8_check_68 : decode cX8_check 68 = .ok (.aaload, 1) := by decide +kernel
theorem dX8_check_69 : decode cX8_check 69 = .ok (.iload_n 2, 1) := by decide +kernel
theorem dX8_check_70 : decode cX8_check 70 = .ok (.iload 5, 2) := by decide +kernel
theorem dX8_check_72 : decode cX8_check 72 = .ok (.invokevirtual 154, 3) := by decide +kernel
theorem dX8_check_75 : decode cX8_check 75 = .ok (.if_icmp .eq 7, 3) := by decide +kernel
theorem dX8_check_78 : decode cX8_check 78 = .ok (.iload 5, 2) := by decide +kernel
theorem dX8_check_80 : decode cX8_check 80 = .ok (.istore 4, 2) := by decide +kernel
theorem dX8_check_82 : decode cX8_check 82 = .ok (.iinc 5 1, 3) := by decide +kernel
theorem dX8_check_85 : decode cX8_check 85 = .ok (.goto (-45), 3) := by decide +kernel
theorem dX8_check_88 : decode cX8_check 88 = .ok (.aload_n 0, 1) := by decide +kernel
theorem dX8_check_89 : decode cX8_check 89 = .ok (.getfield 22, 3) := by decide +kernel
theorem dX8_check_92 : decode cX8_check 92 = .ok (.invokevirtual 144, 3) := by decide +kernel
theorem dX8_check_95 : decode cX8_check 95 = .ok (.iload 4, 2) := by decide +kernel
theorem dX8_check_97 : decode cX8_check 97 = .ok (.ireturn, 1) := by decide +kernel
theorem dX8_count_0 : decode cX8_count 0 = .ok (.iload_n 1, 1) := by decide +kernel
theorem dX8_count_1 : decode cX8_count 1 = .ok (.tableswitch 75 0 5 #[39, 44, 49, 57, 62, 70], 39) := by decide +kernel
theorem dX8_count_40 : decode cX8_count 40 = .ok (.aload_n 0, 1) := by decide +kernel
theorem dX8_count_41 : decode cX8_count 41 = .ok (.getfield 74, 3) := by decide +kernel
theorem dX8_count_44 : decode cX8_count 44 = .ok (.ireturn, 1) := by decide +kernel
theorem dX8_count_45 : decode cX8_count 45 = .ok (.aload_n 0, 1) := by decide +kernel
theorem dX8_count_46 : decode cX8_count 46 = .ok (.getfield 78, 3) := by decide +kernel
theorem dX8_count_49 : decode cX8_count 49 = .ok (.ireturn, 1) := by decide +kernel
theorem dX8_count_50 : decode cX8_count 50 = .ok (.aload_n 0, 1) := by decide +kernel
theorem dX8_count_51 : decode cX8_count 51 = .ok (.getfield 35, 3) := by decide +kernel
theorem dX8_count_54 : decode cX8_count 54 = .ok (.getfield 171, 3) := by decide +kernel
theorem dX8_count_57 : decode cX8_count 57 = .ok (.ireturn, 1) := by decide +kernel
theorem dX8_count_58 : decode cX8_count 58 = .ok (.aload_n 0, 1) := by decide +kernel
theorem dX8_count_59 : decode cX8_count 59 = .ok (.invokevirtual 316, 3) := by decide +kernel
theorem dX8_count_62 : decode cX8_count 62 = .ok (.ireturn, 1) := by decide +kernel
theorem dX8_count_63 : decode cX8_count 63 = .ok (.aload_n 0, 1) := by decide +kernel
theorem dX8_count_64 : decode cX8_count 64 = .ok (.getfield 22, 3) := by decide +kernel
theorem dX8_count_67 : decode cX8_count 67 = .ok (.getfield 114, 3) := by decide +kernel
theorem dX8_count_70 : decode cX8_count 70 = .ok (.ireturn, 1) := by decide +kernel
theorem dX8_count_71 : decode cX8_count 71 = .ok (.aload_n 0, 1) := by decide +kernel
theorem dX8_count_72 : decode cX8_count 72 = .ok (.invokevirtual 319, 3) := by decide +kernel
theorem dX8_count_75 : decode cX8_count 75 = .ok (.ireturn, 1) := by decide +kernel
theorem dX8_count_76 : decode cX8_count 76 = .ok (.aload_n 0, 1) := by decide +kernel
theorem dX8_count_77 : decode cX8_count 77 = .ok (.iload_n 1, 1) := by decide +kernel
theorem dX8_count_78 : decode cX8_count 78 = .ok (.bipush 10, 2) := by decide +kernel
theorem dX8_count_80 : decode cX8_count 80 = .ok (.isub, 1) := by decide +kernel
theorem dX8_count_81 : decode cX8_count 81 = .ok (.invokevirtual 161, 3) := by decide +kernel
theorem dX8_count_84 : decode cX8_count 84 = .ok (.ifCond .eq 16, 3) := by decide +kernel
theorem dX8_count_87 : decode cX8_count 87 = .ok (.aload_n 0, 1) := by decide +kernel
theorem dX8_count_88 : decode cX8_count 88 = .ok (.getfield 28, 3) := by decide +kernel
theorem dX8_count_91 : decode cX8_count 91 = .ok (.iload_n 1, 1) := by decide +kernel
theorem dX8_count_92 : decode cX8_count 92 = .ok (.bipush 10, 2) := by decide +kernel
theorem dX8_count_94 : decode cX8_count 94 = .ok (.isub, 1) := by decide +kernel
theorem dX8_count_95 : decode cX8_count 95 = .ok (.aaload, 1) := by decide +kernel
theorem dX8_count_96 : decode cX8_count 96 = .ok (.getfield 322, 3) := by decide +kernel
theorem dX8_count_99 : decode cX8_count 99 = .ok (.ireturn, 1) := by decide +kernel
theorem dX8_count_100 : decode cX8_count 100 = .ok (.iload_n 1, 1) := by decide +kernel
theorem dX8_count_101 : decode cX8_count 101 = .ok (.bipush 20, 2) := by decide +kernel
theorem dX8_count_103 : decode cX8_count 103 = .ok (.isub, 1) := by decide +kernel
theorem dX8_count_104 : decode cX8_count 104 = .ok (.invokestatic 83, 3) := by decide +kernel
theorem dX8_count_107 : decode cX8_count 107 = .ok (.ifCond .eq 16, 3) := by decide +kernel
theorem dX8_count_110 : decode cX8_count 110 = .ok (.aload_n 0, 1) := by decide +kernel
theorem dX8_count_111 : decode cX8_count 111 = .ok (.getfield 11, 3) := by decide +kernel
theorem dX8_count_114 : decode cX8_count 114 = .ok (.iload_n 1, 1) := by decide +kernel
theorem dX8_count_115 : decode cX8_count 115 = .ok (.bipush 20, 2) := by decide +kernel
theorem dX8_count_117 : decode cX8_count 117 = .ok (.isub, 1) := by decide +kernel
theorem dX8_count_118 : decode cX8_count 118 = .ok (.aaload, 1) := by decide +kernel
theorem dX8_count_119 : decode cX8_count 119 = .ok (.getfield 98, 3) := by decide +kernel
theorem dX8_count_122 : decode cX8_count 122 = .ok (.ireturn, 1) := by decide +kernel
theorem dX8_count_123 : decode cX8_count 123 = .ok (.aload_n 0, 1) := by decide +kernel
theorem dX8_count_124 : decode cX8_count 124 = .ok (.iload_n 1, 1) := by decide +kernel
theorem dX8_count_125 : decode cX8_count 125 = .ok (.bipush 30, 2) := by decide +kernel
theorem dX8_count_127 : decode cX8_count 127 = .ok (.isub, 1) := by decide +kernel
theorem dX8_count_128 : decode cX8_count 128 = .ok (.invokevirtual 111, 3) := by decide +kernel
theorem dX8_count_131 : decode cX8_count 131 = .ok (.ifCond .eq 15, 3) := by decide +kernel
theorem dX8_count_134 : decode cX8_count 134 = .ok (.aload_n 0, 1) := by decide +kernel
theorem dX8_count_135 : decode cX8_count 135 = .ok (.getfield 15, 3) := by decide +kernel
theorem dX8_count_138 : decode cX8_count 138 = .ok (.iload_n 1, 1) := by decide +kernel
theorem dX8_count_139 : decode cX8_count 139 = .ok (.bipush 30, 2) := by decide +kernel
theorem dX8_count_141 : decode cX8_count 141 = .ok (.isub, 1) := by decide +kernel
theorem dX8_count_142 : decode cX8_count 142 = .ok (.iaload, 1) := by decide +kernel
theorem dX8_count_143 : decode cX8_count 143 = .ok (.goto 4, 3) := by decide +kernel
theorem dX8_count_146 : decode cX8_count 146 = .ok (.iconst (-1), 1) := by decide +kernel
theorem dX8_count_147 : decode cX8_count 147 = .ok (.ireturn, 1) := by decide +kernel
theorem dX8_within_0 : decode cX8_within 0 = .ok (.iload_n 0, 1) := by decide +kernel
theorem dX8_within_1 : decode cX8_within 1 = .ok (.iload_n 1, 1) := by decide +kernel
theorem dX8_within_2 : decode cX8_within 2 = .ok (.if_icmp .lt 12, 3) := by decide +kernel
theorem dX8_within_5 : decode cX8_within 5 = .ok (.iload_n 0, 1) := by decide +kernel
theorem dX8_within_6 : decode cX8_within 6 = .ok (.iload_n 2, 1) := by decide +kernel
theorem dX8_within_7 : decode cX8_within 7 = .ok (.if_icmp .gt 7, 3) := by decide +kernel
theorem dX8_within_10 : decode cX8_within 10 = .ok (.iconst 1, 1) := by decide +kernel
theorem dX8_within_11 : decode cX8_within 11 = .ok (.goto 4, 3) := by decide +kernel
theorem dX8_within_14 : decode cX8_within 14 = .ok (.iconst 0, 1) := by decide +kernel
theorem dX8_within_15 : decode cX8_within 15 = .ok (.ireturn, 1) := by decide +kernel
theorem dX8_isColumn_0 : decode cX8_isColumn 0 = .ok (.iload_n 0, 1) := by decide +kernel
theorem dX8_isColumn_1 : decode cX8_isColumn 1 = .ok (.ifCond .lt 12, 3) := by decide +kernel
theorem dX8_isColumn_4 : decode cX8_isColumn 4 = .ok (.iload_n 0, 1) := by decide +kernel
theorem dX8_isColumn_5 : decode cX8_isColumn 5 = .ok (.iconst 4, 1) := by decide +kernel
theorem dX8_isColumn_6 : decode cX8_isColumn 6 = .ok (.if_icmp .ge 7, 3) := by decide +kernel
theorem dX8_isColumn_9 : decode cX8_isColumn 9 = .ok (.iconst 1, 1) := by decide +kernel
theorem dX8_isColumn_10 : decode cX8_isColumn 10 = .ok (.goto 4, 3) := by decide +kernel
theorem dX8_isColumn_13 : decode cX8_isColumn 13 = .ok (.iconst 0, 1) := by decide +kernel
theorem dX8_isColumn_14 : decode cX8_isColumn 14 = .ok (.ireturn, 1) := by decide +kernel
theorem dX8_isValue_0 : decode cX8_isValue 0 = .ok (.iload_n 0, 1) := by decide +kernel
theorem dX8_isValue_1 : decode cX8_isValue 1 = .ok (.iconst 0, 1) := by decide +kernel
theorem dX8_isValue_2 : decode cX8_isValue 2 = .ok (.bipush 15, 2) := by decide +kernel
theorem dX8_isValue_4 : decode cX8_isValue 4 = .ok (.invokestatic 87, 3) := by decide +kernel
theorem dX8_isValue_7 : decode cX8_isValue 7 = .ok (.ireturn, 1) := by decide +kernel
theorem dX8_isLevel_0 : decode cX8_isLevel 0 = .ok (.iload_n 0, 1) := by decide +kernel
theorem dX8_isLevel_1 : decode cX8_isLevel 1 = .ok (.iconst 0, 1) := by decide +kernel
theorem dX8_isLevel_2 : decode cX8_isLevel 2 = .ok (.iconst 4, 1) := by decide +kernel
theorem dX8_isLevel_3 : decode cX8_isLevel 3 = .ok (.invokestatic 87, 3) := by decide +kernel
theorem dX8_isLevel_6 : decode cX8_isLevel 6 = .ok (.ireturn, 1) := by decide +kernel
theorem dX8_isBar_0 : decode cX8_isBar 0 = .ok (.iload_n 0, 1) := by decide +kernel
theorem dX8_isBar_1 : decode cX8_isBar 1 = .ok (.iconst 1, 1) := by decide +kernel
theorem dX8_isBar_2 : decode cX8_isBar 2 = .ok (.bipush 16, 2) := by decide +kernel
theorem dX8_isBar_4 : decode cX8_isBar 4 = .ok (.invokestatic 87, 3) := by decide +kernel
theorem dX8_isBar_7 : decode cX8_isBar 7 = .ok (.ireturn, 1) := by decide +kernel
theorem dX8_areGossips_0 : decode cX8_areGossips 0 = .ok (.iload_n 0, 1) := by decide +kernel
theorem dX8_areGossips_1 : decode cX8_areGossips 1 = .ok (.iconst 0, 1) := by decide +kernel
theorem dX8_areGossips_2 : decode cX8_areGossips 2 = .ok (.sipush 255, 3) := by decide +kernel
theorem dX8_areGossips_5 : decode cX8_areGossips 5 = .ok (.invokestatic 87, 3) := by decide +kernel
theorem dX8_areGossips_8 : decode cX8_areGossips 8 = .ok (.ireturn, 1) := by decide +kernel
theorem dX8_isPerson_0 : decode cX8_isPerson 0 = .ok (.iload_n 1, 1) := by decide +kernel
theorem dX8_isPerson_1 : decode cX8_isPerson 1 = .ok (.ifCond .lt 15, 3) := by decide +kernel
theorem dX8_isPerson_4 : decode cX8_isPerson 4 = .ok (.iload_n 1, 1) := by decide +kernel
theorem dX8_isPerson_5 : decode cX8_isPerson 5 = .ok (.aload_n 0, 1) := by decide +kernel
theorem dX8_isPerson_6 : decode cX8_isPerson 6 = .ok (.getfield 74, 3) := by decide +kernel
theorem dX8_isPerson_9 : decode cX8_isPerson 9 = .ok (.if_icmp .ge 7, 3) := by decide +kernel
theorem dX8_isPerson_12 : decode cX8_isPerson 12 = .ok (.iconst 1, 1) := by decide +kernel
theorem dX8_isPerson_13 : decode cX8_isPerson 13 = .ok (.goto 4, 3) := by decide +kernel
theorem dX8_isPerson_16 : decode cX8_isPerson 16 = .ok (.iconst 0, 1) := by decide +kernel
theorem dX8_isPerson_17 : decode cX8_isPerson 17 = .ok (.ireturn, 1) := by decide +kernel
theorem dX8_isBook_0 : decode cX8_isBook 0 = .ok (.iload_n 1, 1) := by decide +kernel
theorem dX8_isBook_1 : decode cX8_isBook 1 = .ok (.ifCond .lt 15, 3) := by decide +kernel
theorem dX8_isBook_4 : decode cX8_isBook 4 = .ok (.iload_n 1, 1) := by decide +kernel
theorem dX8_isBook_5 : decode cX8_isBook 5 = .ok (.aload_n 0, 1) := by decide +kernel
theorem dX8_isBook_6 : decode cX8_isBook 6 = .ok (.getfield 78, 3) := by decide +kernel
theorem dX8_isBook_9 : decode cX8_isBook 9 = .ok (.if_icmp .ge 7, 3) := by decide +kernel
theorem dX8_isBook_12 : decode cX8_isBook 12 = .ok (.iconst 1, 1) := by decide +kernel
theorem dX8_isBook_13 : decode cX8_isBook 13 = .ok (.goto 4, 3) := by decide +kernel
theorem dX8_isBook_16 : decode cX8_isBook 16 = .ok (.iconst 0, 1) := by decide +kernel
theorem dX8_isBook_17 : decode cX8_isBook 17 = .ok (.ireturn, 1) := by decide +kernel
theorem dX8_isLine_0 : decode cX8_isLine 0 = .ok (.aload_n 0, 1) := by decide +kernel
theorem dX8_isLine_1 : decode cX8_isLine 1 = .ok (.iload_n 1, 1) := by decide +kernel
theorem dX8_isLine_2 : decode cX8_isLine 2 = .ok (.invokevirtual 161, 3) := by decide +kernel
theorem dX8_isLine_5 : decode cX8_isLine 5 = .ok (.ifCond .eq 26, 3) := by decide +kernel
theorem dX8_isLine_8 : decode cX8_isLine 8 = .ok (.iload_n 2, 1) := by decide +kernel
theorem dX8_isLine_9 : decode cX8_isLine 9 = .ok (.iconst 0, 1) := by decide +kernel
theorem dX8_isLine_10 : decode cX8_isLine 10 = .ok (.aload_n 0, 1) := by decide +kernel
theorem dX8_isLine_11 : decode cX8_isLine 11 = .ok (.getfield 28, 3) := by decide +kernel
theorem dX8_isLine_14 : decode cX8_isLine 14 = .ok (.iload_n 1, 1) := by decide +kernel
theorem dX8_isLine_15 : decode cX8_isLine 15 = .ok (.aaload, 1) := by decide +kernel
theorem dX8_isLine_16 : decode cX8_isLine 16 = .ok (.getfield 322, 3) := by decide +kernel
theorem dX8_isLine_19 : decode cX8_isLine 19 = .ok (.iconst 1, 1) := by decide +kernel
theorem dX8_isLine_20 : decode cX8_isLine 20 = .ok (.isub, 1) := by decide +kernel
theorem dX8_isLine_21 : decode cX8_isLine 21 = .ok (.invokestatic 87, 3) := by decide +kernel
theorem dX8_isLine_24 : decode cX8_isLine 24 = .ok (.ifCond .eq 7, 3) := by decide +kernel
theorem dX8_isLine_27 : decode cX8_isLine 27 = .ok (.iconst 1, 1) := by decide +kernel
theorem dX8_isLine_28 : decode cX8_isLine 28 = .ok (.goto 4, 3) := by decide +kernel
theorem dX8_isLine_31 : decode cX8_isLine 31 = .ok (.iconst 0, 1) := by decide +kernel
theorem dX8_isLine_32 : decode cX8_isLine 32 = .ok (.ireturn, 1) := by decide +kernel
theorem dX8_isLive_0 : decode cX8_isLive 0 = .ok (.aload_n 0, 1) := by decide +kernel
theorem dX8_isLive_1 : decode cX8_isLive 1 = .ok (.iload_n 1, 1) := by decide +kernel
theorem dX8_isLive_2 : decode cX8_isLive 2 = .ok (.iload_n 2, 1) := by decide +kernel
theorem dX8_isLive_3 : decode cX8_isLive 3 = .ok (.invokevirtual 168, 3) := by decide +kernel
theorem dX8_isLive_6 : decode cX8_isLive 6 = .ok (.ifCond .eq 24, 3) := by decide +kernel
theorem dX8_isLive_9 : decode cX8_isLive 9 = .ok (.aload_n 0, 1) := by decide +kernel
theorem dX8_isLive_10 : decode cX8_isLive 10 = .ok (.getfield 28, 3) := by decide +kernel
theorem dX8_isLive_13 : decode cX8_isLive 13 = .ok (.iload_n 1, 1) := by decide +kernel
theorem dX8_isLive_14 : decode cX8_isLive 14 = .ok (.aaload, 1) := by decide +kernel
theorem dX8_isLive_15 : decode cX8_isLive 15 = .ok (.getfield 151, 3) := by decide +kernel
theorem dX8_isLive_18 : decode cX8_isLive 18 = .ok (.iload_n 2, 1) := by decide +kernel
theorem dX8_isLive_19 : decode cX8_isLive 19 = .ok (.ishr, 1) := by decide +kernel
theorem dX8_isLive_20 : decode cX8_isLive 20 = .ok (.iconst 1, 1) := by decide +kernel
theorem dX8_isLive_21 : decode cX8_isLive 21 = .ok (.iand, 1) := by decide +kernel
theorem dX8_isLive_22 : decode cX8_isLive 22 = .ok (.iconst 1, 1) := by decide +kernel
theorem dX8_isLive_23 : decode cX8_isLive 23 = .ok (.if_icmp .ne 7, 3) := by decide +kernel
theorem dX8_isLive_26 : decode cX8_isLive 26 = .ok (.iconst 1, 1) := by decide +kernel
theorem dX8_isLive_27 : decode cX8_isLive 27 = .ok (.goto 4, 3) := by decide +kernel
theorem dX8_isLive_30 : decode cX8_isLive 30 = .ok (.iconst 0, 1) := by decide +kernel
theorem dX8_isLive_31 : decode cX8_isLive 31 = .ok (.ireturn, 1) := by decide +kernel
theorem dX8_shownBooks_0 : decode cX8_shownBooks 0 = .ok (.iconst 0, 1) := by decide +kernel
theorem dX8_shownBooks_1 : decode cX8_shownBooks 1 = .ok (.istore_n 1, 1) := by decide +kernel
theorem dX8_shownBooks_2 : decode cX8_shownBooks 2 = .ok (.iconst 0, 1) := by decide +kernel
theorem dX8_shownBooks_3 : decode cX8_shownBooks 3 = .ok (.istore_n 2, 1) := by decide +kernel
theorem dX8_shownBooks_4 : decode cX8_shownBooks 4 = .ok (.iload_n 2, 1) := by decide +kernel
theorem dX8_shownBooks_5 : decode cX8_shownBooks 5 = .ok (.aload_n 0, 1) := by decide +kernel
theorem dX8_shownBooks_6 : decode cX8_shownBooks 6 = .ok (.getfield 78, 3) := by decide +kernel
theorem dX8_shownBooks_9 : decode cX8_shownBooks 9 = .ok (.if_icmp .ge 27, 3) := by decide +kernel
theorem dX8_shownBooks_12 : decode cX8_shownBooks 12 = .ok (.aload_n 0, 1) := by decide +kernel
theorem dX8_shownBooks_13 : decode cX8_shownBooks 13 = .ok (.getfield 28, 3) := by decide +kernel
theorem dX8_shownBooks_16 : decode cX8_shownBooks 16 = .ok (.iload_n 2, 1) := by decide +kernel
theorem dX8_shownBooks_17 : decode cX8_shownBooks 17 = .ok (.aaload, 1) := by decide +kernel
theorem dX8_shownBooks_18 : decode cX8_shownBooks 18 = .ok (.getfield 164, 3) := by decide +kernel
theorem dX8_shownBooks_21 : decode cX8_shownBooks 21 = .ok (.ifCond .eq 9, 3) := by decide +kernel
theorem dX8_shownBooks_24 : decode cX8_shownBooks 24 = .ok (.iload_n 1, 1) := by decide +kernel
theorem dX8_shownBooks_25 : decode cX8_shownBooks 25 = .ok (.iconst 1, 1) := by decide +kernel
theorem dX8_shownBooks_26 : decode cX8_shownBooks 26 = .ok (.iload_n 2, 1) := by decide +kernel
theorem dX8_shownBooks_27 : decode cX8_shownBooks 27 = .ok (.ishl, 1) := by decide +kernel
theorem dX8_shownBooks_28 : decode cX8_shownBooks 28 = .ok (.ior, 1) := by decide +kernel
theorem dX8_shownBooks_29 : decode cX8_shownBooks 29 = .ok (.istore_n 1, 1) := by decide +kernel
theorem dX8_shownBooks_30 : decode cX8_shownBooks 30 = .ok (.iinc 2 1, 3) := by decide +kernel
theorem dX8_shownBooks_33 : decode cX8_shownBooks 33 = .ok (.goto (-29), 3) := by decide +kernel
theorem dX8_shownBooks_36 : decode cX8_shownBooks 36 = .ok (.iload_n 1, 1) := by decide +kernel
theorem dX8_shownBooks_37 : decode cX8_shownBooks 37 = .ok (.ireturn, 1) := by decide +kernel
theorem dX8_toldGossips_0 : decode cX8_toldGossips 0 = .ok (.iconst 0, 1) := by decide +kernel
theorem dX8_toldGossips_1 : decode cX8_toldGossips 1 = .ok (.istore_n 1, 1) := by decide +kernel
theorem dX8_toldGossips_2 : decode cX8_toldGossips 2 = .ok (.iconst 0, 1) := by decide +kernel
theorem dX8_toldGossips_3 : decode cX8_toldGossips 3 = .ok (.istore_n 2, 1) := by decide +kernel
theorem dX8_toldGossips_4 : decode cX8_toldGossips 4 = .ok (.iload_n 2, 1) := by decide +kernel
theorem dX8_toldGossips_5 : decode cX8_toldGossips 5 = .ok (.bipush 8, 2) := by decide +kernel
theorem dX8_toldGossips_7 : decode cX8_toldGossips 7 = .ok (.if_icmp .ge 27, 3) := by decide +kernel
theorem dX8_toldGossips_10 : decode cX8_toldGossips 10 = .ok (.aload_n 0, 1) := by decide +kernel
theorem dX8_toldGossips_11 : decode cX8_toldGossips 11 = .ok (.getfield 41, 3) := by decide +kernel
theorem dX8_toldGossips_14 : decode cX8_toldGossips 14 = .ok (.iload_n 2, 1) := by decide +kernel
theorem dX8_toldGossips_15 : decode cX8_toldGossips 15 = .ok (.aaload, 1) := by decide +kernel
theorem dX8_toldGossips_16 : decode cX8_toldGossips 16 = .ok (.getfield 325, 3) := by decide +kernel
theorem dX8_toldGossips_19 : decode cX8_toldGossips 19 = .ok (.ifCond .eq 9, 3) := by decide +kernel
theorem dX8_toldGossips_22 : decode cX8_toldGossips 22 = .ok (.iload_n 1, 1) := by decide +kernel
theorem dX8_toldGossips_23 : decode cX8_toldGossips 23 = .ok (.iconst 1, 1) := by decide +kernel
theorem dX8_toldGossips_24 : decode cX8_toldGossips 24 = .ok (.iload_n 2, 1) := by decide +kernel
theorem dX8_toldGossips_25 : decode cX8_toldGossips 25 = .ok (.ishl, 1) := by decide +kernel
theorem dX8_toldGossips_26 : decode cX8_toldGossips 26 = .ok (.ior, 1) := by decide +kernel
theorem dX8_toldGossips_27 : decode cX8_toldGossips 27 = .ok (.istore_n 1, 1) := by decide +kernel
theorem dX8_toldGossips_28 : decode cX8_toldGossips 28 = .ok (.iinc 2 1, 3) := by decide +kernel
theorem dX8_toldGossips_31 : decode cX8_toldGossips 31 = .ok (.goto (-27), 3) := by decide +kernel
theorem dX8_toldGossips_34 : decode cX8_toldGossips 34 = .ok (.iload_n 1, 1) := by decide +kernel
theorem dX8_toldGossips_35 : decode cX8_toldGossips 35 = .ok (.ireturn, 1) := by decide +kernel
theorem dX8_place_0 : decode cX8_place 0 = .ok (.bipush 8, 2) := by decide +kernel
theorem dX8_place_2 : decode cX8_place 2 = .ok (.iload_n 0, 1) := by decide +kernel
theorem dX8_place_3 : decode cX8_place 3 = .ok (.imul, 1) := by decide +kernel
theorem dX8_place_4 : decode cX8_place 4 = .ok (.iload_n 1, 1) := by decide +kernel
theorem dX8_place_5 : decode cX8_place 5 = .ok (.iadd, 1) := by decide +kernel
theorem dX8_place_6 : decode cX8_place 6 = .ok (.ireturn, 1) := by decide +kernel
theorem dX8_lowest_0 : decode cX8_lowest 0 = .ok (.iconst 0, 1) := by decide +kernel
theorem dX8_lowest_1 : decode cX8_lowest 1 = .ok (.istore_n 1, 1) := by decide +kernel
theorem dX8_lowest_2 : decode cX8_lowest 2 = .ok (.iload_n 1, 1) := by decide +kernel
theorem dX8_lowest_3 : decode cX8_lowest 3 = .ok (.bipush 32, 2) := by decide +kernel
theorem dX8_lowest_5 : decode cX8_lowest 5 = .ok (.if_icmp .ge 20, 3) := by decide +kernel
theorem dX8_lowest_8 : decode cX8_lowest 8 = .ok (.iload_n 0, 1) := by decide +kernel
theorem dX8_lowest_9 : decode cX8_lowest 9 = .ok (.iload_n 1, 1) := by decide +kernel
theorem dX8_lowest_10 : decode cX8_lowest 10 = .ok (.iushr, 1) := by decide +kernel
theorem dX8_lowest_11 : decode cX8_lowest 11 = .ok (.iconst 1, 1) := by decide +kernel
theorem dX8_lowest_12 : decode cX8_lowest 12 = .ok (.iand, 1) := by decide +kernel
theorem dX8_lowest_13 : decode cX8_lowest 13 = .ok (.iconst 1, 1) := by decide +kernel
theorem dX8_lowest_14 : decode cX8_lowest 14 = .ok (.if_icmp .ne 5, 3) := by decide +kernel
theorem dX8_lowest_17 : decode cX8_lowest 17 = .ok (.iload_n 1, 1) := by decide +kernel
theorem dX8_lowest_18 : decode cX8_lowest 18 = .ok (.ireturn, 1) := by decide +kernel
theorem dX8_lowest_19 : decode cX8_lowest 19 = .ok (.iinc 1 1, 3) := by decide +kernel
theorem dX8_lowest_22 : decode cX8_lowest 22 = .ok (.goto (-20), 3) := by decide +kernel
theorem dX8_lowest_25 : decode cX8_lowest 25 = .ok (.iconst (-1), 1) := by decide +kernel
theorem dX8_lowest_26 : decode cX8_lowest 26 = .ok (.ireturn, 1) := by decide +kernel
theorem dX8_commonDivisor_0 : decode cX8_commonDivisor 0 = .ok (.lload_n 0, 1) := by decide +kernel
theorem dX8_commonDivisor_1 : decode cX8_commonDivisor 1 = .ok (.lstore 4, 2) := by decide +kernel
theorem dX8_commonDivisor_3 : decode cX8_commonDivisor 3 = .ok (.lload_n 2, 1) := by decide +kernel
theorem dX8_commonDivisor_4 : decode cX8_commonDivisor 4 = .ok (.lstore 6, 2) := by decide +kernel
theorem dX8_commonDivisor_6 : decode cX8_commonDivisor 6 = .ok (.iconst 0, 1) := by decide +kernel
theorem dX8_commonDivisor_7 : decode cX8_commonDivisor 7 = .ok (.istore 8, 2) := by decide +kernel
theorem dX8_commonDivisor_9 : decode cX8_commonDivisor 9 = .ok (.iload 8, 2) := by decide +kernel
theorem dX8_commonDivisor_11 : decode cX8_commonDivisor 11 = .ok (.sipush 1000, 3) := by decide +kernel
theorem dX8_commonDivisor_14 : decode cX8_commonDivisor 14 = .ok (.if_icmp .ge 31, 3) := by decide +kernel
theorem dX8_commonDivisor_17 : decode cX8_commonDivisor 17 = .ok (.lload 6, 2) := by decide +kernel
theorem dX8_commonDivisor_19 : decode cX8_commonDivisor 19 = .ok (.lconst 0, 1) := by decide +kernel
theorem dX8_commonDivisor_20 : decode cX8_commonDivisor 20 = .ok (.lcmp, 1) := by decide +kernel
theorem dX8_commonDivisor_21 : decode cX8_commonDivisor 21 = .ok (.ifCond .eq 24, 3) := by decide +kernel
theorem dX8_commonDivisor_24 : decode cX8_commonDivisor 24 = .ok (.lload 4, 2) := by decide +kernel
theorem dX8_commonDivisor_26 : decode cX8_commonDivisor 26 = .ok (.lload 6, 2) := by decide +kernel
theorem dX8_commonDivisor_28 : decode cX8_commonDivisor 28 = .ok (.lrem, 1) := by decide +kernel
theorem dX8_commonDivisor_29 : decode cX8_commonDivisor 29 = .ok (.lstore 9, 2) := by decide +kernel
theorem dX8_commonDivisor_31 : decode cX8_commonDivisor 31 = .ok (.lload 6, 2) := by decide +kernel
theorem dX8_commonDivisor_33 : decode cX8_commonDivisor 33 = .ok (.lstore 4, 2) := by decide +kernel
theorem dX8_commonDivisor_35 : decode cX8_commonDivisor 35 = .ok (.lload 9, 2) := by decide +kernel
theorem dX8_commonDivisor_37 : decode cX8_commonDivisor 37 = .ok (.lstore 6, 2) := by decide +kernel
theorem dX8_commonDivisor_39 : decode cX8_commonDivisor 39 = .ok (.iinc 8 1, 3) := by decide +kernel
theorem dX8_commonDivisor_42 : decode cX8_commonDivisor 42 = .ok (.goto (-33), 3) := by decide +kernel
theorem dX8_commonDivisor_45 : decode cX8_commonDivisor 45 = .ok (.lload 4, 2) := by decide +kernel
theorem dX8_commonDivisor_47 : decode cX8_commonDivisor 47 = .ok (.lreturn, 1) := by decide +kernel
theorem dX8_tellsPeople_0 : decode cX8_tellsPeople 0 = .ok (.iconst 0, 1) := by decide +kernel
theorem dX8_tellsPeople_1 : decode cX8_tellsPeople 1 = .ok (.istore_n 2, 1) := by decide +kernel
theorem dX8_tellsPeople_2 : decode cX8_tellsPeople 2 = .ok (.iconst 0, 1) := by decide +kernel
theorem dX8_tellsPeople_3 : decode cX8_tellsPeople 3 = .ok (.istore_n 3, 1) := by decide +kernel
theorem dX8_tellsPeople_4 : decode cX8_tellsPeople 4 = .ok (.iload_n 3, 1) := by decide +kernel
theorem dX8_tellsPeople_5 : decode cX8_tellsPeople 5 = .ok (.iload_n 1, 1) := by decide +kernel
theorem dX8_tellsPeople_6 : decode cX8_tellsPeople 6 = .ok (.if_icmp .ge 47, 3) := by decide +kernel
theorem dX8_tellsPeople_9 : decode cX8_tellsPeople 9 = .ok (.aload_n 0, 1) := by decide +kernel
theorem dX8_tellsPeople_10 : decode cX8_tellsPeople 10 = .ok (.getfield 22, 3) := by decide +kernel
theorem dX8_tellsPeople_13 : decode cX8_tellsPeople 13 = .ok (.iload_n 3, 1) := by decide +kernel
theorem dX8_tellsPeople_14 : decode cX8_tellsPeople 14 = .ok (.invokevirtual 134, 3) := by decide +kernel
theorem dX8_tellsPeople_17 : decode cX8_tellsPeople 17 = .ok (.istore 4, 2) := by decide +kernel
theorem dX8_tellsPeople_19 : decode cX8_tellsPeople 19 = .ok (.aload_n 0, 1) := by decide +kernel
theorem dX8_tellsPeople_20 : decode cX8_tellsPeople 20 = .ok (.iload 4, 2) := by decide +kernel
theorem dX8_tellsPeople_22 : decode cX8_tellsPeople 22 = .ok (.invokevirtual 111, 3) := by decide +kernel
theorem dX8_tellsPeople_25 : decode cX8_tellsPeople 25 = .ok (.ifCond .eq 13, 3) := by decide +kernel
theorem dX8_tellsPeople_28 : decode cX8_tellsPeople 28 = .ok (.iload_n 2, 1) := by decide +kernel
theorem dX8_tellsPeople_29 : decode cX8_tellsPeople 29 = .ok (.iload 4, 2) := by decide +kernel
theorem dX8_tellsPeople_31 : decode cX8_tellsPeople 31 = .ok (.ishr, 1) := by decide +kernel
theorem dX8_tellsPeople_32 : decode cX8_tellsPeople 32 = .ok (.iconst 1, 1) := by decide +kernel
theorem dX8_tellsPeople_33 : decode cX8_tellsPeople 33 = .ok (.iand, 1) := by decide +kernel
theorem dX8_tellsPeople_34 : decode cX8_tellsPeople 34 = .ok (.iconst 1, 1) := by decide +kernel
theorem dX8_tellsPeople_35 : decode cX8_tellsPeople 35 = .ok (.if_icmp .ne 5, 3) := by decide +kernel
theorem dX8_tellsPeople_38 : decode cX8_tellsPeople 38 = .ok (.iconst 0, 1) := by decide +kernel
theorem dX8_tellsPeople_39 : decode cX8_tellsPeople 39 = .ok (.ireturn, 1) := by decide +kernel
theorem dX8_tellsPeople_40 : decode cX8_tellsPeople 40 = .ok (.iload_n 2, 1) := by decide +kernel
theorem dX8_tellsPeople_41 : decode cX8_tellsPeople 41 = .ok (.iconst 1, 1) := by decide +kernel
theorem dX8_tellsPeople_42 : decode cX8_tellsPeople 42 = .ok (.iload 4, 2) := by decide +kernel
theorem dX8_tellsPeople_44 : decode cX8_tellsPeople 44 = .ok (.ishl, 1) := by decide +kernel
theorem dX8_tellsPeople_45 : decode cX8_tellsPeople 45 = .ok (.ior, 1) := by decide +kernel
theorem dX8_tellsPeople_46 : decode cX8_tellsPeople 46 = .ok (.istore_n 2, 1) := by decide +kernel
theorem dX8_tellsPeople_47 : decode cX8_tellsPeople 47 = .ok (.iinc 3 1, 3) := by decide +kernel
theorem dX8_tellsPeople_50 : decode cX8_tellsPeople 50 = .ok (.goto (-46), 3) := by decide +kernel
theorem dX8_tellsPeople_53 : decode cX8_tellsPeople 53 = .ok (.iconst 1, 1) := by decide +kernel
theorem dX8_tellsPeople_54 : decode cX8_tellsPeople 54 = .ok (.ireturn, 1) := by decide +kernel
theorem dX8_fillColumn_0 : decode cX8_fillColumn 0 = .ok (.iconst 0, 1) := by decide +kernel
theorem dX8_fillColumn_1 : decode cX8_fillColumn 1 = .ok (.istore 4, 2) := by decide +kernel
theorem dX8_fillColumn_3 : decode cX8_fillColumn 3 = .ok (.iload 4, 2) := by decide +kernel
theorem dX8_fillColumn_5 : decode cX8_fillColumn 5 = .ok (.aload_n 1, 1) := by decide +kernel
theorem dX8_fillColumn_6 : decode cX8_fillColumn 6 = .ok (.getfield 322, 3) := by decide +kernel
theorem dX8_fillColumn_9 : decode cX8_fillColumn 9 = .ok (.if_icmp .ge 45, 3) := by decide +kernel
theorem dX8_fillColumn_12 : decode cX8_fillColumn 12 = .ok (.aload_n 0, 1) := by decide +kernel
theorem dX8_fillColumn_13 : decode cX8_fillColumn 13 = .ok (.getfield 11, 3) := by decide +kernel
theorem dX8_fillColumn_16 : decode cX8_fillColumn 16 = .ok (.iload_n 2, 1) := by decide +kernel
theorem dX8_fillColumn_17 : decode cX8_fillColumn 17 = .ok (.aaload, 1) := by decide +kernel
theorem dX8_fillColumn_18 : decode cX8_fillColumn 18 = .ok (.aload_n 1, 1) := by decide +kernel
theorem dX8_fillColumn_19 : decode cX8_fillColumn 19 = .ok (.iload 4, 2) := by decide +kernel
theorem dX8_fillColumn_21 : decode cX8_fillColumn 21 = .ok (.invokevirtual 202, 3) := by decide +kernel
theorem dX8_fillColumn_24 : decode cX8_fillColumn 24 = .ok (.invokevirtual 328, 3) := by decide +kernel
theorem dX8_fillColumn_27 : decode cX8_fillColumn 27 = .ok (.istore 5, 2) := by decide +kernel
theorem dX8_fillColumn_29 : decode cX8_fillColumn 29 = .ok (.aload_n 1, 1) := by decide +kernel
theorem dX8_fillColumn_30 : decode cX8_fillColumn 30 = .ok (.iload 4, 2) := by decide +kernel
theorem dX8_fillColumn_32 : decode cX8_fillColumn 32 = .ok (.iload_n 2, 1) := by decide +kernel
theorem dX8_fillColumn_33 : decode cX8_fillColumn 33 = .ok (.aload_n 0, 1) := by decide +kernel
theorem dX8_fillColumn_34 : decode cX8_fillColumn 34 = .ok (.getfield 11, 3) := by decide +kernel
theorem dX8_fillColumn_37 : decode cX8_fillColumn 37 = .ok (.iload_n 2, 1) := by decide +kernel
theorem dX8_fillColumn_38 : decode cX8_fillColumn 38 = .ok (.aaload, 1) := by decide +kernel
theorem dX8_fillColumn_39 : decode cX8_fillColumn 39 = .ok (.iload 5, 2) := by decide +kernel
theorem dX8_fillColumn_41 : decode cX8_fillColumn 41 = .ok (.iload_n 3, 1) := by decide +kernel
theorem dX8_fillColumn_42 : decode cX8_fillColumn 42 = .ok (.invokevirtual 123, 3) := by decide +kernel
theorem dX8_fillColumn_45 : decode cX8_fillColumn 45 = .ok (.invokevirtual 331, 3) := by decide +kernel
theorem dX8_fillColumn_48 : decode cX8_fillColumn 48 = .ok (.iinc 4 1, 3) := by decide +kernel
theorem dX8_fillColumn_51 : decode cX8_fillColumn 51 = .ok (.goto (-48), 3) := by decide +kernel
theorem dX8_fillColumn_54 : decode cX8_fillColumn 54 = .ok (.return_, 1) := by decide +kernel
theorem dX8_judgeAll_0 : decode cX8_judgeAll 0 = .ok (.aload_n 0, 1) := by decide +kernel
theorem dX8_judgeAll_1 : decode cX8_judgeAll 1 = .ok (.iload_n 1, 1) := by decide +kernel
theorem dX8_judgeAll_2 : decode cX8_judgeAll 2 = .ok (.invokevirtual 195, 3) := by decide +kernel
theorem dX8_judgeAll_5 : decode cX8_judgeAll 5 = .ok (.iconst 0, 1) := by decide +kernel
theorem dX8_judgeAll_6 : decode cX8_judgeAll 6 = .ok (.istore_n 2, 1) := by decide +kernel
theorem dX8_judgeAll_7 : decode cX8_judgeAll 7 = .ok (.iload_n 2, 1) := by decide +kernel
theorem dX8_judgeAll_8 : decode cX8_judgeAll 8 = .ok (.bipush 8, 2) := by decide +kernel
theorem dX8_judgeAll_10 : decode cX8_judgeAll 10 = .ok (.if_icmp .ge 34, 3) := by decide +kernel
theorem dX8_judgeAll_13 : decode cX8_judgeAll 13 = .ok (.aload_n 0, 1) := by decide +kernel
theorem dX8_judgeAll_14 : decode cX8_judgeAll 14 = .ok (.getfield 41, 3) := by decide +kernel
theorem dX8_judgeAll_17 : decode cX8_judgeAll 17 = .ok (.iload_n 2, 1) := by decide +kernel
theorem dX8_judgeAll_18 : decode cX8_judgeAll 18 = .ok (.aaload, 1) := by decide +kernel
theorem dX8_judgeAll_19 : decode cX8_judgeAll 19 = .ok (.getfield 325, 3) := by decide +kernel
theorem dX8_judgeAll_22 : decode cX8_judgeAll 22 = .ok (.ifCond .eq 16, 3) := by decide +kernel
theorem dX8_judgeAll_25 : decode cX8_judgeAll 25 = .ok (.aload_n 0, 1) := by decide +kernel
theorem dX8_judgeAll_26 : decode cX8_judgeAll 26 = .ok (.getfield 41, 3) := by decide +kernel
theorem dX8_judgeAll_29 : decode cX8_judgeAll 29 = .ok (.iload_n 2, 1) := by decide +kernel
theorem dX8_judgeAll_30 : decode cX8_judgeAll 30 = .ok (.aaload, 1) := by decide +kernel
theorem dX8_judgeAll_31 : decode cX8_judgeAll 31 = .ok (.aload_n 0, 1) := by decide +kernel
theorem dX8_judgeAll_32 : decode cX8_judgeAll 32 = .ok (.getfield 66, 3) := by decide +kernel
theorem dX8_judgeAll_35 : decode cX8_judgeAll 35 = .ok (.invokevirtual 198, 3) := by decide +kernel
theorem dX8_judgeAll_38 : decode cX8_judgeAll 38 = .ok (.iinc 2 1, 3) := by decide +kernel
theorem dX8_judgeAll_41 : decode cX8_judgeAll 41 = .ok (.goto (-34), 3) := by decide +kernel
theorem dX8_judgeAll_44 : decode cX8_judgeAll 44 = .ok (.return_, 1) := by decide +kernel
theorem dX8_spell_0 : decode cX8_spell 0 = .ok (.iconst 0, 1) := by decide +kernel
theorem dX8_spell_1 : decode cX8_spell 1 = .ok (.istore_n 2, 1) := by decide +kernel
theorem dX8_spell_2 : decode cX8_spell 2 = .ok (.iload_n 2, 1) := by decide +kernel
theorem dX8_spell_3 : decode cX8_spell 3 = .ok (.iconst 4, 1) := by decide +kernel
theorem dX8_spell_4 : decode cX8_spell 4 = .ok (.if_icmp .ge 25, 3) := by decide +kernel
theorem dX8_spell_7 : decode cX8_spell 7 = .ok (.aload_n 0, 1) := by decide +kernel
theorem dX8_spell_8 : decode cX8_spell 8 = .ok (.getfield 66, 3) := by decide +kernel
theorem dX8_spell_11 : decode cX8_spell 11 = .ok (.iload_n 2, 1) := by decide +kernel
theorem dX8_spell_12 : decode cX8_spell 12 = .ok (.aload_n 0, 1) := by decide +kernel
theorem dX8_spell_13 : decode cX8_spell 13 = .ok (.getfield 11, 3) := by decide +kernel
theorem dX8_spell_16 : decode cX8_spell 16 = .ok (.iload_n 2, 1) := by decide +kernel
theorem dX8_spell_17 : decode cX8_spell 17 = .ok (.aaload, 1) := by decide +kernel
theorem dX8_spell_18 : decode cX8_spell 18 = .ok (.iload_n 1, 1) := by decide +kernel
theorem dX8_spell_19 : decode cX8_spell 19 = .ok (.invokevirtual 328, 3) := by decide +kernel
theorem dX8_spell_22 : decode cX8_spell 22 = .ok (.iastore, 1) := by decide +kernel
theorem dX8_spell_23 : decode cX8_spell 23 = .ok (.iinc 2 1, 3) := by decide +kernel
theorem dX8_spell_26 : decode cX8_spell 26 = .ok (.goto (-24), 3) := by decide +kernel
theorem dX8_spell_29 : decode cX8_spell 29 = .ok (.aload_n 0, 1) := by decide +kernel
theorem dX8_spell_30 : decode cX8_spell 30 = .ok (.getfield 66, 3) := by decide +kernel
theorem dX8_spell_33 : decode cX8_spell 33 = .ok (.iconst 4, 1) := by decide +kernel
theorem dX8_spell_34 : decode cX8_spell 34 = .ok (.iload_n 1, 1) := by decide +kernel
theorem dX8_spell_35 : decode cX8_spell 35 = .ok (.iastore, 1) := by decide +kernel
theorem dX8_spell_36 : decode cX8_spell 36 = .ok (.aload_n 0, 1) := by decide +kernel
theorem dX8_spell_37 : decode cX8_spell 37 = .ok (.getfield 66, 3) := by decide +kernel
theorem dX8_spell_40 : decode cX8_spell 40 = .ok (.iconst 5, 1) := by decide +kernel
theorem dX8_spell_41 : decode cX8_spell 41 = .ok (.aload_n 0, 1) := by decide +kernel
theorem dX8_spell_42 : decode cX8_spell 42 = .ok (.iload_n 1, 1) := by decide +kernel
theorem dX8_spell_43 : decode cX8_spell 43 = .ok (.invokevirtual 111, 3) := by decide +kernel
theorem dX8_spell_46 : decode cX8_spell 46 = .ok (.ifCond .eq 12, 3) := by decide +kernel
theorem dX8_spell_49 : decode cX8_spell 49 = .ok (.aload_n 0, 1) := by decide +kernel
theorem dX8_spell_50 : decode cX8_spell 50 = .ok (.getfield 15, 3) := by decide +kernel
theorem dX8_spell_53 : decode cX8_spell 53 = .ok (.iload_n 1, 1) := by decide +kernel
theorem dX8_spell_54 : decode cX8_spell 54 = .ok (.iaload, 1) := by decide +kernel
theorem dX8_spell_55 : decode cX8_spell 55 = .ok (.goto 4, 3) := by decide +kernel
theorem dX8_spell_58 : decode cX8_spell 58 = .ok (.iconst 0, 1) := by decide +kernel
theorem dX8_spell_59 : decode cX8_spell 59 = .ok (.iastore, 1) := by decide +kernel
theorem dX8_spell_60 : decode cX8_spell 60 = .ok (.return_, 1) := by decide +kernel
theorem dX8_openFor_0 : decode cX8_openFor 0 = .ok (.aload_n 0, 1) := by decide +kernel
theorem dX8_openFor_1 : decode cX8_openFor 1 = .ok (.invokevirtual 319, 3) := by decide +kernel
theorem dX8_openFor_4 : decode cX8_openFor 4 = .ok (.iconst 1, 1) := by decide +kernel
theorem dX8_openFor_5 : decode cX8_openFor 5 = .ok (.iload_n 1, 1) := by decide +kernel
theorem dX8_openFor_6 : decode cX8_openFor 6 = .ok (.ishl, 1) := by decide +kernel
theorem dX8_openFor_7 : decode cX8_openFor 7 = .ok (.ior, 1) := by decide +kernel
theorem dX8_openFor_8 : decode cX8_openFor 8 = .ok (.ireturn, 1) := by decide +kernel
theorem dX8_layOut_0 : decode cX8_layOut 0 = .ok (.iconst 0, 1) := by decide +kernel
theorem dX8_layOut_1 : decode cX8_layOut 1 = .ok (.istore_n 3, 1) := by decide +kernel
theorem dX8_layOut_2 : decode cX8_layOut 2 = .ok (.iconst 0, 1) := by decide +kernel
theorem dX8_layOut_3 : decode cX8_layOut 3 = .ok (.istore 4, 2) := by decide +kernel
theorem dX8_layOut_5 : decode cX8_layOut 5 = .ok (.iload 4, 2) := by decide +kernel
theorem dX8_layOut_7 : decode cX8_layOut 7 = .ok (.aload_n 0, 1) := by decide +kernel
theorem dX8_layOut_8 : decode cX8_layOut 8 = .ok (.getfield 78, 3) := by decide +kernel
theorem dX8_layOut_11 : decode cX8_layOut 11 = .ok (.if_icmp .ge 39, 3) := by decide +kernel
theorem dX8_layOut_14 : decode cX8_layOut 14 = .ok (.iload_n 2, 1) := by decide +kernel
theorem dX8_layOut_15 : decode cX8_layOut 15 = .ok (.iload 4, 2) := by decide +kernel
theorem dX8_layOut_17 : decode cX8_layOut 17 = .ok (.ishr, 1) := by decide +kernel
theorem dX8_layOut_18 : decode cX8_layOut 18 = .ok (.iconst 1, 1) := by decide +kernel
theorem dX8_layOut_19 : decode cX8_layOut 19 = .ok (.iand, 1) := by decide +kernel
theorem dX8_layOut_20 : decode cX8_layOut 20 = .ok (.iconst 1, 1) := by decide +kernel
theorem dX8_layOut_21 : decode cX8_layOut 21 = .ok (.if_icmp .ne 23, 3) := by decide +kernel
theorem dX8_layOut_24 : decode cX8_layOut 24 = .ok (.iload_n 3, 1) := by decide +kernel
theorem dX8_layOut_25 : decode cX8_layOut 25 = .ok (.aload_n 0, 1) := by decide +kernel
theorem dX8_layOut_26 : decode cX8_layOut 26 = .ok (.getfield 28, 3) := by decide +kernel
theorem dX8_layOut_29 : decode cX8_layOut 29 = .ok (.iload 4, 2) := by decide +kernel
theorem dX8_layOut_31 : decode cX8_layOut 31 = .ok (.aaload, 1) := by decide +kernel
theorem dX8_layOut_32 : decode cX8_layOut 32 = .ok (.getfield 151, 3) := by decide +kernel
theorem dX8_layOut_35 : decode cX8_layOut 35 = .ok (.iload 4, 2) := by decide +kernel
theorem dX8_layOut_37 : decode cX8_layOut 37 = .ok (.iconst 0, 1) := by decide +kernel
theorem dX8_layOut_38 : decode cX8_layOut 38 = .ok (.invokestatic 174, 3) := by decide +kernel
theorem dX8_layOut_41 : decode cX8_layOut 41 = .ok (.ishl, 1) := by decide +kernel
theorem dX8_layOut_42 : decode cX8_layOut 42 = .ok (.ior, 1) := by decide +kernel
theorem dX8_layOut_43 : decode cX8_layOut 43 = .ok (.istore_n 3, 1) := by decide +kernel
theorem dX8_layOut_44 : decode cX8_layOut 44 = .ok (.iinc 4 1, 3) := by decide +kernel
theorem dX8_layOut_47 : decode cX8_layOut 47 = .ok (.goto (-42), 3) := by decide +kernel
theorem dX8_layOut_50 : decode cX8_layOut 50 = .ok (.iconst 0, 1) := by decide +kernel
theorem dX8_layOut_51 : decode cX8_layOut 51 = .ok (.istore 4, 2) := by decide +kernel
theorem dX8_layOut_53 : decode cX8_layOut 53 = .ok (.iload 4, 2) := by decide +kernel
theorem dX8_layOut_55 : decode cX8_layOut 55 = .ok (.bipush 8, 2) := by decide +kernel
theorem dX8_layOut_57 : decode cX8_layOut 57 = .ok (.if_icmp .ge 47, 3) := by decide +kernel
theorem dX8_layOut_60 : decode cX8_layOut 60 = .ok (.aload_n 0, 1) := by decide +kernel
theorem dX8_layOut_61 : decode cX8_layOut 61 = .ok (.getfield 48, 3) := by decide +kernel
theorem dX8_layOut_64 : decode cX8_layOut 64 = .ok (.getfield 334, 3) := by decide +kernel
theorem dX8_layOut_67 : decode cX8_layOut 67 = .ok (.iload 4, 2) := by decide +kernel
theorem dX8_layOut_69 : decode cX8_layOut 69 = .ok (.aload_n 0, 1) := by decide +kernel
theorem dX8_layOut_70 : decode cX8_layOut 70 = .ok (.iload_n 1, 1) := by decide +kernel
theorem dX8_layOut_71 : decode cX8_layOut 71 = .ok (.iload 4, 2) := by decide +kernel
theorem dX8_layOut_73 : decode cX8_layOut 73 = .ok (.invokevirtual 147, 3) := by decide +kernel
theorem dX8_layOut_76 : decode cX8_layOut 76 = .ok (.ifCond .eq 20, 3) := by decide +kernel
theorem dX8_layOut_79 : decode cX8_layOut 79 = .ok (.aload_n 0, 1) := by decide +kernel
theorem dX8_layOut_80 : decode cX8_layOut 80 = .ok (.getfield 35, 3) := by decide +kernel
theorem dX8_layOut_83 : decode cX8_layOut 83 = .ok (.iload_n 1, 1) := by decide +kernel
theorem dX8_layOut_84 : decode cX8_layOut 84 = .ok (.iload 4, 2) := by decide +kernel
theorem dX8_layOut_86 : decode cX8_layOut 86 = .ok (.invokestatic 174, 3) := by decide +kernel
theorem dX8_layOut_89 : decode cX8_layOut 89 = .ok (.iload_n 3, 1) := by decide +kernel
theorem dX8_layOut_90 : decode cX8_layOut 90 = .ok (.invokevirtual 337, 3) := by decide +kernel
theorem dX8_layOut_93 : decode cX8_layOut 93 = .ok (.goto 4, 3) := by decide +kernel
theorem dX8_layOut_96 : decode cX8_layOut 96 = .ok (.iconst 0, 1) := by decide +kernel
theorem dX8_layOut_97 : decode cX8_layOut 97 = .ok (.iastore, 1) := by decide +kernel
theorem dX8_layOut_98 : decode cX8_layOut 98 = .ok (.iinc 4 1, 3) := by decide +kernel
theorem dX8_layOut_101 : decode cX8_layOut 101 = .ok (.goto (-48), 3) := by decide +kernel
theorem dX8_layOut_104 : decode cX8_layOut 104 = .ok (.return_, 1) := by decide +kernel
theorem dX8_fitLaid_0 : decode cX8_fitLaid 0 = .ok (.aload_n 0, 1) := by decide +kernel
theorem dX8_fitLaid_1 : decode cX8_fitLaid 1 = .ok (.getfield 48, 3) := by decide +kernel
theorem dX8_fitLaid_4 : decode cX8_fitLaid 4 = .ok (.aload_n 0, 1) := by decide +kernel
theorem dX8_fitLaid_5 : decode cX8_fitLaid 5 = .ok (.getfield 28, 3) := by decide +kernel
theorem dX8_fitLaid_8 : decode cX8_fitLaid 8 = .ok (.iload_n 1, 1) := by decide +kernel
theorem dX8_fitLaid_9 : decode cX8_fitLaid 9 = .ok (.aaload, 1) := by decide +kernel
theorem dX8_fitLaid_10 : decode cX8_fitLaid 10 = .ok (.getfield 322, 3) := by decide +kernel
theorem dX8_fitLaid_13 : decode cX8_fitLaid 13 = .ok (.putfield 340, 3) := by decide +kernel
theorem dX8_fitLaid_16 : decode cX8_fitLaid 16 = .ok (.aload_n 0, 1) := by decide +kernel
theorem dX8_fitLaid_17 : decode cX8_fitLaid 17 = .ok (.getfield 48, 3) := by decide +kernel
theorem dX8_fitLaid_20 : decode cX8_fitLaid 20 = .ok (.aload_n 0, 1) := by decide +kernel
theorem dX8_fitLaid_21 : decode cX8_fitLaid 21 = .ok (.getfield 28, 3) := by decide +kernel
theorem dX8_fitLaid_24 : decode cX8_fitLaid 24 = .ok (.iload_n 1, 1) := by decide +kernel
theorem dX8_fitLaid_25 : decode cX8_fitLaid 25 = .ok (.aaload, 1) := by decide +kernel
theorem dX8_fitLaid_26 : decode cX8_fitLaid 26 = .ok (.getfield 151, 3) := by decide +kernel
theorem dX8_fitLaid_29 : decode cX8_fitLaid 29 = .ok (.putfield 341, 3) := by decide +kernel
theorem dX8_fitLaid_32 : decode cX8_fitLaid 32 = .ok (.iconst 0, 1) := by decide +kernel
theorem dX8_fitLaid_33 : decode cX8_fitLaid 33 = .ok (.istore_n 3, 1) := by decide +kernel
theorem dX8_fitLaid_34 : decode cX8_fitLaid 34 = .ok (.iload_n 3, 1) := by decide +kernel
theorem dX8_fitLaid_35 : decode cX8_fitLaid 35 = .ok (.bipush 8, 2) := by decide +kernel
theorem dX8_fitLaid_37 : decode cX8_fitLaid 37 = .ok (.if_icmp .ge 45, 3) := by decide +kernel
theorem dX8_fitLaid_40 : decode cX8_fitLaid 40 = .ok (.aload_n 0, 1) := by decide +kernel
theorem dX8_fitLaid_41 : decode cX8_fitLaid 41 = .ok (.getfield 48, 3) := by decide +kernel
theorem dX8_fitLaid_44 : decode cX8_fitLaid 44 = .ok (.getfield 211, 3) := by decide +kernel
theorem dX8_fitLaid_47 : decode cX8_fitLaid 47 = .ok (.iload_n 3, 1) := by decide +kernel
theorem dX8_fitLaid_48 : decode cX8_fitLaid 48 = .ok (.aload_n 0, 1) := by decide +kernel
theorem dX8_fitLaid_49 : decode cX8_fitLaid 49 = .ok (.iload_n 1, 1) := by decide +kernel
theorem dX8_fitLaid_50 : decode cX8_fitLaid 50 = .ok (.iload_n 3, 1) := by decide +kernel
theorem dX8_fitLaid_51 : decode cX8_fitLaid 51 = .ok (.invokevirtual 147, 3) := by decide +kernel
theorem dX8_fitLaid_54 : decode cX8_fitLaid 54 = .ok (.ifCond .eq 20, 3) := by decide +kernel
theorem dX8_fitLaid_57 : decode cX8_fitLaid 57 = .ok (.aload_n 0, 1) := by decide +kernel
theorem dX8_fitLaid_58 : decode cX8_fitLaid 58 = .ok (.aload_n 0, 1) := by decide +kernel
theorem dX8_fitLaid_59 : decode cX8_fitLaid 59 = .ok (.getfield 48, 3) := by decide +kernel
theorem dX8_fitLaid_62 : decode cX8_fitLaid 62 = .ok (.getfield 334, 3) := by decide +kernel
theorem dX8_fitLaid_65 : decode cX8_fitLaid 65 = .ok (.iload_n 3, 1) := by decide +kernel
theorem dX8_fitLaid_66 : decode cX8_fitLaid 66 = .ok (.iaload, 1) := by decide +kernel
theorem dX8_fitLaid_67 : decode cX8_fitLaid 67 = .ok (.iload_n 2, 1) := by decide +kernel
theorem dX8_fitLaid_68 : decode cX8_fitLaid 68 = .ok (.invokevirtual 342, 3) := by decide +kernel
theorem dX8_fitLaid_71 : decode cX8_fitLaid 71 = .ok (.goto 4, 3) := by decide +kernel
theorem dX8_fitLaid_74 : decode cX8_fitLaid 74 = .ok (.iconst 0, 1) := by decide +kernel
theorem dX8_fitLaid_75 : decode cX8_fitLaid 75 = .ok (.iastore, 1) := by decide +kernel
theorem dX8_fitLaid_76 : decode cX8_fitLaid 76 = .ok (.iinc 3 1, 3) := by decide +kernel
theorem dX8_fitLaid_79 : decode cX8_fitLaid 79 = .ok (.goto (-45), 3) := by decide +kernel
theorem dX8_fitLaid_82 : decode cX8_fitLaid 82 = .ok (.return_, 1) := by decide +kernel
theorem dX8_fit_0 : decode cX8_fit 0 = .ok (.aload_n 0, 1) := by decide +kernel
theorem dX8_fit_1 : decode cX8_fit 1 = .ok (.iload_n 1, 1) := by decide +kernel
theorem dX8_fit_2 : decode cX8_fit 2 = .ok (.aload_n 0, 1) := by decide +kernel
theorem dX8_fit_3 : decode cX8_fit 3 = .ok (.iload_n 1, 1) := by decide +kernel
theorem dX8_fit_4 : decode cX8_fit 4 = .ok (.invokevirtual 297, 3) := by decide +kernel
theorem dX8_fit_7 : decode cX8_fit 7 = .ok (.invokevirtual 300, 3) := by decide +kernel
theorem dX8_fit_10 : decode cX8_fit 10 = .ok (.aload_n 0, 1) := by decide +kernel
theorem dX8_fit_11 : decode cX8_fit 11 = .ok (.iload_n 1, 1) := by decide +kernel
theorem dX8_fit_12 : decode cX8_fit 12 = .ok (.iload_n 2, 1) := by decide +kernel
theorem dX8_fit_13 : decode cX8_fit 13 = .ok (.invokevirtual 345, 3) := by decide +kernel
theorem dX8_fit_16 : decode cX8_fit 16 = .ok (.return_, 1) := by decide +kernel
theorem dX8_fitAll_0 : decode cX8_fitAll 0 = .ok (.iconst 1, 1) := by decide +kernel
theorem dX8_fitAll_1 : decode cX8_fitAll 1 = .ok (.aload_n 0, 1) := by decide +kernel
theorem dX8_fitAll_2 : decode cX8_fitAll 2 = .ok (.getfield 74, 3) := by decide +kernel
theorem dX8_fitAll_5 : decode cX8_fitAll 5 = .ok (.ishl, 1) := by decide +kernel
theorem dX8_fitAll_6 : decode cX8_fitAll 6 = .ok (.iconst 1, 1) := by decide +kernel
theorem dX8_fitAll_7 : decode cX8_fitAll 7 = .ok (.isub, 1) := by decide +kernel
theorem dX8_fitAll_8 : decode cX8_fitAll 8 = .ok (.istore_n 3, 1) := by decide +kernel
theorem dX8_fitAll_9 : decode cX8_fitAll 9 = .ok (.iconst 0, 1) := by decide +kernel
theorem dX8_fitAll_10 : decode cX8_fitAll 10 = .ok (.istore 4, 2) := by decide +kernel
theorem dX8_fitAll_12 : decode cX8_fitAll 12 = .ok (.iload 4, 2) := by decide +kernel
theorem dX8_fitAll_14 : decode cX8_fitAll 14 = .ok (.aload_n 0, 1) := by decide +kernel
theorem dX8_fitAll_15 : decode cX8_fitAll 15 = .ok (.getfield 78, 3) := by decide +kernel
theorem dX8_fitAll_18 : decode cX8_fitAll 18 = .ok (.if_icmp .ge 60, 3) := by decide +kernel
theorem dX8_fitAll_21 : decode cX8_fitAll 21 = .ok (.iconst 0, 1) := by decide +kernel
theorem dX8_fitAll_22 : decode cX8_fitAll 22 = .ok (.istore 5, 2) := by decide +kernel
theorem dX8_fitAll_24 : decode cX8_fitAll 24 = .ok (.iload 5, 2) := by decide +kernel
theorem dX8_fitAll_26 : decode cX8_fitAll 26 = .ok (.aload_n 0, 1) := by decide +kernel
theorem dX8_fitAll_27 : decode cX8_fitAll 27 = .ok (.getfield 28, 3) := by decide +kernel
theorem dX8_fitAll_30 : decode cX8_fitAll 30 = .ok (.iload 4, 2) := by decide +kernel
theorem dX8_fitAll_32 : decode cX8_fitAll 32 = .ok (.aaload, 1) := by decide +kernel
theorem dX8_fitAll_33 : decode cX8_fitAll 33 = .ok (.getfield 322, 3) := by decide +kernel
theorem dX8_fitAll_36 : decode cX8_fitAll 36 = .ok (.if_icmp .ge 36, 3) := by decide +kernel
theorem dX8_fitAll_39 : decode cX8_fitAll 39 = .ok (.iload_n 1, 1) := by decide +kernel
theorem dX8_fitAll_40 : decode cX8_fitAll 40 = .ok (.iload 4, 2) := by decide +kernel
theorem dX8_fitAll_42 : decode cX8_fitAll 42 = .ok (.iload 5, 2) := by decide +kernel
theorem dX8_fitAll_44 : decode cX8_fitAll 44 = .ok (.invokestatic 174, 3) := by decide +kernel
theorem dX8_fitAll_47 : decode cX8_fitAll 47 = .ok (.iushr, 1) := by decide +kernel
theorem dX8_fitAll_48 : decode cX8_fitAll 48 = .ok (.iconst 1, 1) := by decide +kernel
theorem dX8_fitAll_49 : decode cX8_fitAll 49 = .ok (.iand, 1) := by decide +kernel
theorem dX8_fitAll_50 : decode cX8_fitAll 50 = .ok (.iconst 1, 1) := by decide +kernel
theorem dX8_fitAll_51 : decode cX8_fitAll 51 = .ok (.if_icmp .ne 15, 3) := by decide +kernel
theorem dX8_fitAll_54 : decode cX8_fitAll 54 = .ok (.iload_n 3, 1) := by decide +kernel
theorem dX8_fitAll_55 : decode cX8_fitAll 55 = .ok (.aload_n 0, 1) := by decide +kernel
theorem dX8_fitAll_56 : decode cX8_fitAll 56 = .ok (.iload 4, 2) := by decide +kernel
theorem dX8_fitAll_58 : decode cX8_fitAll 58 = .ok (.iload 5, 2) := by decide +kernel
theorem dX8_fitAll_60 : decode cX8_fitAll 60 = .ok (.iload_n 2, 1) := by decide +kernel
theorem dX8_fitAll_61 : decode cX8_fitAll 61 = .ok (.invokevirtual 348, 3) := by decide +kernel
theorem dX8_fitAll_64 : decode cX8_fitAll 64 = .ok (.iand, 1) := by decide +kernel
theorem dX8_fitAll_65 : decode cX8_fitAll 65 = .ok (.istore_n 3, 1) := by decide +kernel
theorem dX8_fitAll_66 : decode cX8_fitAll 66 = .ok (.iinc 5 1, 3) := by decide +kernel
theorem dX8_fitAll_69 : decode cX8_fitAll 69 = .ok (.goto (-45), 3) := by decide +kernel
theorem dX8_fitAll_72 : decode cX8_fitAll 72 = .ok (.iinc 4 1, 3) := by decide +kernel
theorem dX8_fitAll_75 : decode cX8_fitAll 75 = .ok (.goto (-63), 3) := by decide +kernel
theorem dX8_fitAll_78 : decode cX8_fitAll 78 = .ok (.iload_n 3, 1) := by decide +kernel
theorem dX8_fitAll_79 : decode cX8_fitAll 79 = .ok (.ireturn, 1) := by decide +kernel
theorem dX8_fitAlone_0 : decode cX8_fitAlone 0 = .ok (.aload_n 0, 1) := by decide +kernel
theorem dX8_fitAlone_1 : decode cX8_fitAlone 1 = .ok (.getfield 11, 3) := by decide +kernel
theorem dX8_fitAlone_4 : decode cX8_fitAlone 4 = .ok (.iconst 0, 1) := by decide +kernel
theorem dX8_fitAlone_5 : decode cX8_fitAlone 5 = .ok (.aaload, 1) := by decide +kernel
theorem dX8_fitAlone_6 : decode cX8_fitAlone 6 = .ok (.aload_n 0, 1) := by decide +kernel
theorem dX8_fitAlone_7 : decode cX8_fitAlone 7 = .ok (.getfield 28, 3) := by decide +kernel
theorem dX8_fitAlone_10 : decode cX8_fitAlone 10 = .ok (.iload_n 1, 1) := by decide +kernel
theorem dX8_fitAlone_11 : decode cX8_fitAlone 11 = .ok (.aaload, 1) := by decide +kernel
theorem dX8_fitAlone_12 : decode cX8_fitAlone 12 = .ok (.iload_n 2, 1) := by decide +kernel
theorem dX8_fitAlone_13 : decode cX8_fitAlone 13 = .ok (.iconst 0, 1) := by decide +kernel
theorem dX8_fitAlone_14 : decode cX8_fitAlone 14 = .ok (.invokevirtual 154, 3) := by decide +kernel
theorem dX8_fitAlone_17 : decode cX8_fitAlone 17 = .ok (.invokevirtual 351, 3) := by decide +kernel
theorem dX8_fitAlone_20 : decode cX8_fitAlone 20 = .ok (.istore 4, 2) := by decide +kernel
theorem dX8_fitAlone_22 : decode cX8_fitAlone 22 = .ok (.iconst 1, 1) := by decide +kernel
theorem dX8_fitAlone_23 : decode cX8_fitAlone 23 = .ok (.istore 5, 2) := by decide +kernel
theorem dX8_fitAlone_25 : decode cX8_fitAlone 25 = .ok (.iload 5, 2) := by decide +kernel
theorem dX8_fitAlone_27 : decode cX8_fitAlone 27 = .ok (.iconst 4, 1) := by decide +kernel
theorem dX8_fitAlone_28 : decode cX8_fitAlone 28 = .ok (.if_icmp .ge 36, 3) := by decide +kernel
theorem dX8_fitAlone_31 : decode cX8_fitAlone 31 = .ok (.iload 4, 2) := by decide +kernel
theorem dX8_fitAlone_33 : decode cX8_fitAlone 33 = .ok (.aload_n 0, 1) := by decide +kernel
theorem dX8_fitAlone_34 : decode cX8_fitAlone 34 = .ok (.getfield 11, 3) := by decide +kernel
theorem dX8_fitAlone_37 : decode cX8_fitAlone 37 = .ok (.iload 5, 2) := by decide +kernel
theorem dX8_fitAlone_39 : decode cX8_fitAlone 39 = .ok (.aaload, 1) := by decide +kernel
theorem dX8_fitAlone_40 : decode cX8_fitAlone 40 = .ok (.aload_n 0, 1) := by decide +kernel
theorem dX8_fitAlone_41 : decode cX8_fitAlone 41 = .ok (.getfield 28, 3) := by decide +kernel
theorem dX8_fitAlone_44 : decode cX8_fitAlone 44 = .ok (.iload_n 1, 1) := by decide +kernel
theorem dX8_fitAlone_45 : decode cX8_fitAlone 45 = .ok (.aaload, 1) := by decide +kernel
theorem dX8_fitAlone_46 : decode cX8_fitAlone 46 = .ok (.iload_n 2, 1) := by decide +kernel
theorem dX8_fitAlone_47 : decode cX8_fitAlone 47 = .ok (.iload 5, 2) := by decide +kernel
theorem dX8_fitAlone_49 : decode cX8_fitAlone 49 = .ok (.invokevirtual 154, 3) := by decide +kernel
theorem dX8_fitAlone_52 : decode cX8_fitAlone 52 = .ok (.invokevirtual 351, 3) := by decide +kernel
theorem dX8_fitAlone_55 : decode cX8_fitAlone 55 = .ok (.iand, 1) := by decide +kernel
theorem dX8_fitAlone_56 : decode cX8_fitAlone 56 = .ok (.istore 4, 2) := by decide +kernel
theorem dX8_fitAlone_58 : decode cX8_fitAlone 58 = .ok (.iinc 5 1, 3) := by decide +kernel
theorem dX8_fitAlone_61 : decode cX8_fitAlone 61 = .ok (.goto (-36), 3) := by decide +kernel
theorem dX8_fitAlone_64 : decode cX8_fitAlone 64 = .ok (.iconst 0, 1) := by decide +kernel
theorem dX8_fitAlone_65 : decode cX8_fitAlone 65 = .ok (.istore 5, 2) := by decide +kernel
theorem dX8_fitAlone_67 : decode cX8_fitAlone 67 = .ok (.iload 5, 2) := by decide +kernel
theorem dX8_fitAlone_69 : decode cX8_fitAlone 69 = .ok (.bipush 8, 2) := by decide +kernel
theorem dX8_fitAlone_71 : decode cX8_fitAlone 71 = .ok (.if_icmp .ge 49, 3) := by decide +kernel
theorem dX8_fitAlone_74 : decode cX8_fitAlone 74 = .ok (.iload_n 3, 1) := by decide +kernel
theorem dX8_fitAlone_75 : decode cX8_fitAlone 75 = .ok (.iload 5, 2) := by decide +kernel
theorem dX8_fitAlone_77 : decode cX8_fitAlone 77 = .ok (.ishr, 1) := by decide +kernel
theorem dX8_fitAlone_78 : decode cX8_fitAlone 78 = .ok (.iconst 1, 1) := by decide +kernel
theorem dX8_fitAlone_79 : decode cX8_fitAlone 79 = .ok (.iand, 1) := by decide +kernel
theorem dX8_fitAlone_80 : decode cX8_fitAlone 80 = .ok (.iconst 1, 1) := by decide +kernel
theorem dX8_fitAlone_81 : decode cX8_fitAlone 81 = .ok (.if_icmp .ne 33, 3) := by decide +kernel
theorem dX8_fitAlone_84 : decode cX8_fitAlone 84 = .ok (.aload_n 0, 1) := by decide +kernel
theorem dX8_fitAlone_85 : decode cX8_fitAlone 85 = .ok (.getfield 41, 3) := by decide +kernel
theorem dX8_fitAlone_88 : decode cX8_fitAlone 88 = .ok (.iload 5, 2) := by decide +kernel
theorem dX8_fitAlone_90 : decode cX8_fitAlone 90 = .ok (.aaload, 1) := by decide +kernel
theorem dX8_fitAlone_91 : decode cX8_fitAlone 91 = .ok (.iload_n 1, 1) := by decide +kernel
theorem dX8_fitAlone_92 : decode cX8_fitAlone 92 = .ok (.iload_n 2, 1) := by decide +kernel
theorem dX8_fitAlone_93 : decode cX8_fitAlone 93 = .ok (.invokevirtual 354, 3) := by decide +kernel
theorem dX8_fitAlone_96 : decode cX8_fitAlone 96 = .ok (.ifCond .eq 18, 3) := by decide +kernel
theorem dX8_fitAlone_99 : decode cX8_fitAlone 99 = .ok (.iload 4, 2) := by decide +kernel
theorem dX8_fitAlone_101 : decode cX8_fitAlone 101 = .ok (.aload_n 0, 1) := by decide +kernel
theorem dX8_fitAlone_102 : decode cX8_fitAlone 102 = .ok (.getfield 41, 3) := by decide +kernel
theorem dX8_fitAlone_105 : decode cX8_fitAlone 105 = .ok (.iload 5, 2) := by decide +kernel
theorem dX8_fitAlone_107 : decode cX8_fitAlone 107 = .ok (.aaload, 1) := by decide +kernel
theorem dX8_fitAlone_108 : decode cX8_fitAlone 108 = .ok (.getfield 357, 3) := by decide +kernel
theorem dX8_fitAlone_111 : decode cX8_fitAlone 111 = .ok (.iand, 1) := by decide +kernel
theorem dX8_fitAlone_112 : decode cX8_fitAlone 112 = .ok (.istore 4, 2) := by decide +kernel
theorem dX8_fitAlone_114 : decode cX8_fitAlone 114 = .ok (.iinc 5 1, 3) := by decide +kernel
theorem dX8_fitAlone_117 : decode cX8_fitAlone 117 = .ok (.goto (-50), 3) := by decide +kernel
theorem dX8_fitAlone_120 : decode cX8_fitAlone 120 = .ok (.iload 4, 2) := by decide +kernel
theorem dX8_fitAlone_122 : decode cX8_fitAlone 122 = .ok (.ireturn, 1) := by decide +kernel
theorem dX8_safeLines_0 : decode cX8_safeLines 0 = .ok (.aload_n 0, 1) := by decide +kernel
theorem dX8_safeLines_1 : decode cX8_safeLines 1 = .ok (.getfield 48, 3) := by decide +kernel
theorem dX8_safeLines_4 : decode cX8_safeLines 4 = .ok (.invokevirtual 224, 3) := by decide +kernel
theorem dX8_safeLines_7 : decode cX8_safeLines 7 = .ok (.iconst 0, 1) := by decide +kernel
theorem dX8_safeLines_8 : decode cX8_safeLines 8 = .ok (.istore_n 3, 1) := by decide +kernel
theorem dX8_safeLines_9 : decode cX8_safeLines 9 = .ok (.iconst 0, 1) := by decide +kernel
theorem dX8_safeLines_10 : decode cX8_safeLines 10 = .ok (.istore 4, 2) := by decide +kernel
theorem dX8_safeLines_12 : decode cX8_safeLines 12 = .ok (.iload 4, 2) := by decide +kernel
theorem dX8_safeLines_14 : decode cX8_safeLines 14 = .ok (.bipush 8, 2) := by decide +kernel
theorem dX8_safeLines_16 : decode cX8_safeLines 16 = .ok (.if_icmp .ge 83, 3) := by decide +kernel
theorem dX8_safeLines_19 : decode cX8_safeLines 19 = .ok (.aload_n 0, 1) := by decide +kernel
theorem dX8_safeLines_20 : decode cX8_safeLines 20 = .ok (.iload_n 1, 1) := by decide +kernel
theorem dX8_safeLines_21 : decode cX8_safeLines 21 = .ok (.iload 4, 2) := by decide +kernel
theorem dX8_safeLines_23 : decode cX8_safeLines 23 = .ok (.invokevirtual 147, 3) := by decide +kernel
theorem dX8_safeLines_26 : decode cX8_safeLines 26 = .ok (.ifCond .eq 67, 3) := by decide +kernel
theorem dX8_safeLines_29 : decode cX8_safeLines 29 = .ok (.aload_n 0, 1) := by decide +kernel
theorem dX8_safeLines_30 : decode cX8_safeLines 30 = .ok (.getfield 28, 3) := by decide +kernel
theorem dX8_safeLines_33 : decode cX8_safeLines 33 = .ok (.iload_n 1, 1) := by decide +kernel
theorem dX8_safeLines_34 : decode cX8_safeLines 34 = .ok (.aaload, 1) := by decide +kernel
theorem dX8_safeLines_35 : decode cX8_safeLines 35 = .ok (.iload 4, 2) := by decide +kernel
theorem dX8_safeLines_37 : decode cX8_safeLines 37 = .ok (.invokevirtual 202, 3) := by decide +kernel
theorem dX8_safeLines_40 : decode cX8_safeLines 40 = .ok (.istore 5, 2) := by decide +kernel
theorem dX8_safeLines_42 : decode cX8_safeLines 42 = .ok (.aload_n 0, 1) := by decide +kernel
theorem dX8_safeLines_43 : decode cX8_safeLines 43 = .ok (.iload 5, 2) := by decide +kernel
theorem dX8_safeLines_45 : decode cX8_safeLines 45 = .ok (.invokevirtual 111, 3) := by decide +kernel
theorem dX8_safeLines_48 : decode cX8_safeLines 48 = .ok (.ifCond .eq 13, 3) := by decide +kernel
theorem dX8_safeLines_51 : decode cX8_safeLines 51 = .ok (.aload_n 0, 1) := by decide +kernel
theorem dX8_safeLines_52 : decode cX8_safeLines 52 = .ok (.getfield 15, 3) := by decide +kernel
theorem dX8_safeLines_55 : decode cX8_safeLines 55 = .ok (.iload 5, 2) := by decide +kernel
theorem dX8_safeLines_57 : decode cX8_safeLines 57 = .ok (.iaload, 1) := by decide +kernel
theorem dX8_safeLines_58 : decode cX8_safeLines 58 = .ok (.goto 4, 3) := by decide +kernel
theorem dX8_safeLines_61 : decode cX8_safeLines 61 = .ok (.iconst 0, 1) := by decide +kernel
theorem dX8_safeLines_62 : decode cX8_safeLines 62 = .ok (.istore 6, 2) := by decide +kernel
theorem dX8_safeLines_64 : decode cX8_safeLines 64 = .ok (.aload_n 0, 1) := by decide +kernel
theorem dX8_safeLines_65 : decode cX8_safeLines 65 = .ok (.getfield 48, 3) := by decide +kernel
theorem dX8_safeLines_68 : decode cX8_safeLines 68 = .ok (.getfield 227, 3) := by decide +kernel
theorem dX8_safeLines_71 : decode cX8_safeLines 71 = .ok (.iload 4, 2) := by decide +kernel
theorem dX8_safeLines_73 : decode cX8_safeLines 73 = .ok (.iaload, 1) := by decide +kernel
theorem dX8_safeLines_74 : decode cX8_safeLines 74 = .ok (.invokestatic 230, 3) := by decide +kernel
theorem dX8_safeLines_77 : decode cX8_safeLines 77 = .ok (.iload_n 2, 1) := by decide +kernel
theorem dX8_safeLines_78 : decode cX8_safeLines 78 = .ok (.iload 6, 2) := by decide +kernel
theorem dX8_safeLines_80 : decode cX8_safeLines 80 = .ok (.invokestatic 360, 3) := by decide +kernel
theorem dX8_safeLines_83 : decode cX8_safeLines 83 = .ok (.if_icmp .lt 10, 3) := by decide +kernel
theorem dX8_safeLines_86 : decode cX8_safeLines 86 = .ok (.iload_n 3, 1) := by decide +kernel
theorem dX8_safeLines_87 : decode cX8_safeLines 87 = .ok (.iconst 1, 1) := by decide +kernel
theorem dX8_safeLines_88 : decode cX8_safeLines 88 = .ok (.iload 4, 2) := by decide +kernel
theorem dX8_safeLines_90 : decode cX8_safeLines 90 = .ok (.ishl, 1) := by decide +kernel
theorem dX8_safeLines_91 : decode cX8_safeLines 91 = .ok (.ior, 1) := by decide +kernel
theorem dX8_safeLines_92 : decode cX8_safeLines 92 = .ok (.istore_n 3, 1) := by decide +kernel
theorem dX8_safeLines_93 : decode cX8_safeLines 93 = .ok (.iinc 4 1, 3) := by decide +kernel
theorem dX8_safeLines_96 : decode cX8_safeLines 96 = .ok (.goto (-84), 3) := by decide +kernel
theorem dX8_safeLines_99 : decode cX8_safeLines 99 = .ok (.iload_n 3, 1) := by decide +kernel
theorem dX8_safeLines_100 : decode cX8_safeLines 100 = .ok (.ireturn, 1) := by decide +kernel
theorem dX8_safeIfSwapped_0 : decode cX8_safeIfSwapped 0 = .ok (.aload_n 0, 1) := by decide +kernel
theorem dX8_safeIfSwapped_1 : decode cX8_safeIfSwapped 1 = .ok (.iload_n 1, 1) := by decide +kernel
theorem dX8_safeIfSwapped_2 : decode cX8_safeIfSwapped 2 = .ok (.iload_n 3, 1) := by decide +kernel
theorem dX8_safeIfSwapped_3 : decode cX8_safeIfSwapped 3 = .ok (.iload 4, 2) := by decide +kernel
theorem dX8_safeIfSwapped_5 : decode cX8_safeIfSwapped 5 = .ok (.iload 5, 2) := by decide +kernel
theorem dX8_safeIfSwapped_7 : decode cX8_safeIfSwapped 7 = .ok (.invokevirtual 365, 3) := by decide +kernel
theorem dX8_safeIfSwapped_10 : decode cX8_safeIfSwapped 10 = .ok (.ifCond .ne 5, 3) := by decide +kernel
theorem dX8_safeIfSwapped_13 : decode cX8_safeIfSwapped 13 = .ok (.iconst (-1), 1) := by decide +kernel
theorem dX8_safeIfSwapped_14 : decode cX8_safeIfSwapped 14 = .ok (.ireturn, 1) := by decide +kernel
theorem dX8_safeIfSwapped_15 : decode cX8_safeIfSwapped 15 = .ok (.aload_n 0, 1) := by decide +kernel
theorem dX8_safeIfSwapped_16 : decode cX8_safeIfSwapped 16 = .ok (.iload_n 1, 1) := by decide +kernel
theorem dX8_safeIfSwapped_17 : decode cX8_safeIfSwapped 17 = .ok (.iconst 0, 1) := by decide +kernel
theorem dX8_safeIfSwapped_18 : decode cX8_safeIfSwapped 18 = .ok (.invokevirtual 345, 3) := by decide +kernel
theorem dX8_safeIfSwapped_21 : decode cX8_safeIfSwapped 21 = .ok (.aload_n 0, 1) := by decide +kernel
theorem dX8_safeIfSwapped_22 : decode cX8_safeIfSwapped 22 = .ok (.iload_n 1, 1) := by decide +kernel
theorem dX8_safeIfSwapped_23 : decode cX8_safeIfSwapped 23 = .ok (.iload_n 2, 1) := by decide +kernel
theorem dX8_safeIfSwapped_24 : decode cX8_safeIfSwapped 24 = .ok (.invokevirtual 254, 3) := by decide +kernel
theorem dX8_safeIfSwapped_27 : decode cX8_safeIfSwapped 27 = .ok (.invokestatic 230, 3) := by decide +kernel
theorem dX8_safeIfSwapped_30 : decode cX8_safeIfSwapped 30 = .ok (.istore 6, 2) := by decide +kernel
theorem dX8_safeIfSwapped_32 : decode cX8_safeIfSwapped 32 = .ok (.aload_n 0, 1) := by decide +kernel
theorem dX8_safeIfSwapped_33 : decode cX8_safeIfSwapped 33 = .ok (.getfield 28, 3) := by decide +kernel
theorem dX8_safeIfSwapped_36 : decode cX8_safeIfSwapped 36 = .ok (.iload_n 1, 1) := by decide +kernel
theorem dX8_safeIfSwapped_37 : decode cX8_safeIfSwapped 37 = .ok (.aaload, 1) := by decide +kernel
theorem dX8_safeIfSwapped_38 : decode cX8_safeIfSwapped 38 = .ok (.iload_n 3, 1) := by decide +kernel
theorem dX8_safeIfSwapped_39 : decode cX8_safeIfSwapped 39 = .ok (.iload 4, 2) := by decide +kernel
theorem dX8_safeIfSwapped_41 : decode cX8_safeIfSwapped 41 = .ok (.iload 5, 2) := by decide +kernel
theorem dX8_safeIfSwapped_43 : decode cX8_safeIfSwapped 43 = .ok (.invokevirtual 157, 3) := by decide +kernel
theorem dX8_safeIfSwapped_46 : decode cX8_safeIfSwapped 46 = .ok (.iload 6, 2) := by decide +kernel
theorem dX8_safeIfSwapped_48 : decode cX8_safeIfSwapped 48 = .ok (.ireturn, 1) := by decide +kernel
theorem dX8_firstBared_0 : decode cX8_firstBared 0 = .ok (.aload_n 0, 1) := by decide +kernel
theorem dX8_firstBared_1 : decode cX8_firstBared 1 = .ok (.iload_n 1, 1) := by decide +kernel
theorem dX8_firstBared_2 : decode cX8_firstBared 2 = .ok (.iconst 1, 1) := by decide +kernel
theorem dX8_firstBared_3 : decode cX8_firstBared 3 = .ok (.iload_n 1, 1) := by decide +kernel
theorem dX8_firstBared_4 : decode cX8_firstBared 4 = .ok (.ishl, 1) := by decide +kernel
theorem dX8_firstBared_5 : decode cX8_firstBared 5 = .ok (.invokevirtual 300, 3) := by decide +kernel
theorem dX8_firstBared_8 : decode cX8_firstBared 8 = .ok (.aload_n 0, 1) := by decide +kernel
theorem dX8_firstBared_9 : decode cX8_firstBared 9 = .ok (.iload_n 1, 1) := by decide +kernel
theorem dX8_firstBared_10 : decode cX8_firstBared 10 = .ok (.iconst 0, 1) := by decide +kernel
theorem dX8_firstBared_11 : decode cX8_firstBared 11 = .ok (.invokevirtual 345, 3) := by decide +kernel
theorem dX8_firstBared_14 : decode cX8_firstBared 14 = .ok (.aload_n 0, 1) := by decide +kernel
theorem dX8_firstBared_15 : decode cX8_firstBared 15 = .ok (.iload_n 1, 1) := by decide +kernel
theorem dX8_firstBared_16 : decode cX8_firstBared 16 = .ok (.iload_n 2, 1) := by decide +kernel
theorem dX8_firstBared_17 : decode cX8_firstBared 17 = .ok (.invokevirtual 254, 3) := by decide +kernel
theorem dX8_firstBared_20 : decode cX8_firstBared 20 = .ok (.aload_n 0, 1) := by decide +kernel
theorem dX8_firstBared_21 : decode cX8_firstBared 21 = .ok (.getfield 28, 3) := by decide +kernel
theorem dX8_firstBared_24 : decode cX8_firstBared 24 = .ok (.iload_n 1, 1) := by decide +kernel
theorem dX8_firstBared_25 : decode cX8_firstBared 25 = .ok (.aaload, 1) := by decide +kernel
theorem dX8_firstBared_26 : decode cX8_firstBared 26 = .ok (.getfield 151, 3) := by decide +kernel
theorem dX8_firstBared_29 : decode cX8_firstBared 29 = .ok (.if_icmp .eq 5, 3) := by decide +kernel
theorem dX8_firstBared_32 : decode cX8_firstBared 32 = .ok (.iconst (-1), 1) := by decide +kernel
theorem dX8_firstBared_33 : decode cX8_firstBared 33 = .ok (.ireturn, 1) := by decide +kernel
theorem dX8_firstBared_34 : decode cX8_firstBared 34 = .ok (.aload_n 0, 1) := by decide +kernel
theorem dX8_firstBared_35 : decode cX8_firstBared 35 = .ok (.iload_n 1, 1) := by decide +kernel
theorem dX8_firstBared_36 : decode cX8_firstBared 36 = .ok (.iconst 0, 1) := by decide +kernel
theorem dX8_firstBared_37 : decode cX8_firstBared 37 = .ok (.invokevirtual 208, 3) := by decide +kernel
theorem dX8_firstBared_40 : decode cX8_firstBared 40 = .ok (.aload_n 0, 1) := by decide +kernel
theorem dX8_firstBared_41 : decode cX8_firstBared 41 = .ok (.getfield 28, 3) := by decide +kernel
theorem dX8_firstBared_44 : decode cX8_firstBared 44 = .ok (.iload_n 1, 1) := by decide +kernel
theorem dX8_firstBared_45 : decode cX8_firstBared 45 = .ok (.aaload, 1) := by decide +kernel
theorem dX8_firstBared_46 : decode cX8_firstBared 46 = .ok (.getfield 151, 3) := by decide +kernel
theorem dX8_firstBared_49 : decode cX8_firstBared 49 = .ok (.aload_n 0, 1) := by decide +kernel
theorem dX8_firstBared_50 : decode cX8_firstBared 50 = .ok (.iload_n 1, 1) := by decide +kernel
theorem dX8_firstBared_51 : decode cX8_firstBared 51 = .ok (.iload_n 2, 1) := by decide +kernel
theorem dX8_firstBared_52 : decode cX8_firstBared 52 = .ok (.invokevirtual 254, 3) := by decide +kernel
theorem dX8_firstBared_55 : decode cX8_firstBared 55 = .ok (.iconst (-1), 1) := by decide +kernel
theorem dX8_firstBared_56 : decode cX8_firstBared 56 = .ok (.ixor, 1) := by decide +kernel
theorem dX8_firstBared_57 : decode cX8_firstBared 57 = .ok (.iand, 1) := by decide +kernel
theorem dX8_firstBared_58 : decode cX8_firstBared 58 = .ok (.invokestatic 264, 3) := by decide +kernel
theorem dX8_firstBared_61 : decode cX8_firstBared 61 = .ok (.ireturn, 1) := by decide +kernel
theorem dX8_lossOfLine_0 : decode cX8_lossOfLine 0 = .ok (.iconst 0, 1) := by decide +kernel
theorem dX8_lossOfLine_1 : decode cX8_lossOfLine 1 = .ok (.istore_n 3, 1) := by decide +kernel
theorem dX8_lossOfLine_2 : decode cX8_lossOfLine 2 = .ok (.iconst 0, 1) := by decide +kernel
theorem dX8_lossOfLine_3 : decode cX8_lossOfLine 3 = .ok (.istore 4, 2) := by decide +kernel
theorem dX8_lossOfLine_5 : decode cX8_lossOfLine 5 = .ok (.iload 4, 2) := by decide +kernel
theorem dX8_lossOfLine_7 : decode cX8_lossOfLine 7 = .ok (.iconst 4, 1) := by decide +kernel
theorem dX8_lossOfLine_8 : decode cX8_lossOfLine 8 = .ok (.if_icmp .ge 29, 3) := by decide +kernel
theorem dX8_lossOfLine_11 : decode cX8_lossOfLine 11 = .ok (.iload_n 3, 1) := by decide +kernel
theorem dX8_lossOfLine_12 : decode cX8_lossOfLine 12 = .ok (.aload_n 0, 1) := by decide +kernel
theorem dX8_lossOfLine_13 : decode cX8_lossOfLine 13 = .ok (.getfield 11, 3) := by decide +kernel
theorem dX8_lossOfLine_16 : decode cX8_lossOfLine 16 = .ok (.iload 4, 2) := by decide +kernel
theorem dX8_lossOfLine_18 : decode cX8_lossOfLine 18 = .ok (.aaload, 1) := by decide +kernel
theorem dX8_lossOfLine_19 : decode cX8_lossOfLine 19 = .ok (.aload_n 1, 1) := by decide +kernel
theorem dX8_lossOfLine_20 : decode cX8_lossOfLine 20 = .ok (.iload_n 2, 1) := by decide +kernel
theorem dX8_lossOfLine_21 : decode cX8_lossOfLine 21 = .ok (.iload 4, 2) := by decide +kernel
theorem dX8_lossOfLine_23 : decode cX8_lossOfLine 23 = .ok (.invokevirtual 154, 3) := by decide +kernel
theorem dX8_lossOfLine_26 : decode cX8_lossOfLine 26 = .ok (.invokevirtual 369, 3) := by decide +kernel
theorem dX8_lossOfLine_29 : decode cX8_lossOfLine 29 = .ok (.iadd, 1) := by decide +kernel
theorem dX8_lossOfLine_30 : decode cX8_lossOfLine 30 = .ok (.istore_n 3, 1) := by decide +kernel
theorem dX8_lossOfLine_31 : decode cX8_lossOfLine 31 = .ok (.iinc 4 1, 3) := by decide +kernel
theorem dX8_lossOfLine_34 : decode cX8_lossOfLine 34 = .ok (.goto (-29), 3) := by decide +kernel
theorem dX8_lossOfLine_37 : decode cX8_lossOfLine 37 = .ok (.iload_n 3, 1) := by decide +kernel
theorem dX8_lossOfLine_38 : decode cX8_lossOfLine 38 = .ok (.ireturn, 1) := by decide +kernel
theorem dX8_fewestGossips_0 : decode cX8_fewestGossips 0 = .ok (.iconst 0, 1) := by decide +kernel
theorem dX8_fewestGossips_1 : decode cX8_fewestGossips 1 = .ok (.istore_n 3, 1) := by decide +kernel
theorem dX8_fewestGossips_2 : decode cX8_fewestGossips 2 = .ok (.iconst 0, 1) := by decide +kernel
theorem dX8_fewestGossips_3 : decode cX8_fewestGossips 3 = .ok (.istore 4, 2) := by decide +kernel
theorem dX8_fewestGossips_5 : decode cX8_fewestGossips 5 = .ok (.iload 4, 2) := by decide +kernel
theorem dX8_fewestGossips_7 : decode cX8_fewestGossips 7 = .ok (.bipush 8, 2) := by decide +kernel
theorem dX8_fewestGossips_9 : decode cX8_fewestGossips 9 = .ok (.if_icmp .ge 43, 3) := by decide +kernel
theorem dX8_fewestGossips_12 : decode cX8_fewestGossips 12 = .ok (.aload_n 0, 1) := by decide +kernel
theorem dX8_fewestGossips_13 : decode cX8_fewestGossips 13 = .ok (.getfield 41, 3) := by decide +kernel
theorem dX8_fewestGossips_16 : decode cX8_fewestGossips 16 = .ok (.iload 4, 2) := by decide +kernel
theorem dX8_fewestGossips_18 : decode cX8_fewestGossips 18 = .ok (.aaload, 1) := by decide +kernel
theorem dX8_fewestGossips_19 : decode cX8_fewestGossips 19 = .ok (.getfield 325, 3) := by decide +kernel
theorem dX8_fewestGossips_22 : decode cX8_fewestGossips 22 = .ok (.ifCond .eq 24, 3) := by decide +kernel
theorem dX8_fewestGossips_25 : decode cX8_fewestGossips 25 = .ok (.aload_n 0, 1) := by decide +kernel
theorem dX8_fewestGossips_26 : decode cX8_fewestGossips 26 = .ok (.getfield 41, 3) := by decide +kernel
theorem dX8_fewestGossips_29 : decode cX8_fewestGossips 29 = .ok (.iload 4, 2) := by decide +kernel
theorem dX8_fewestGossips_31 : decode cX8_fewestGossips 31 = .ok (.aaload, 1) := by decide +kernel
theorem dX8_fewestGossips_32 : decode cX8_fewestGossips 32 = .ok (.getfield 372, 3) := by decide +kernel
theorem dX8_fewestGossips_35 : decode cX8_fewestGossips 35 = .ok (.iload_n 1, 1) := by decide +kernel
theorem dX8_fewestGossips_36 : decode cX8_fewestGossips 36 = .ok (.if_icmp .ne 10, 3) := by decide +kernel
theorem dX8_fewestGossips_39 : decode cX8_fewestGossips 39 = .ok (.iload_n 3, 1) := by decide +kernel
theorem dX8_fewestGossips_40 : decode cX8_fewestGossips 40 = .ok (.iconst 1, 1) := by decide +kernel
theorem dX8_fewestGossips_41 : decode cX8_fewestGossips 41 = .ok (.iload 4, 2) := by decide +kernel
theorem dX8_fewestGossips_43 : decode cX8_fewestGossips 43 = .ok (.ishl, 1) := by decide +kernel
theorem dX8_fewestGossips_44 : decode cX8_fewestGossips 44 = .ok (.ior, 1) := by decide +kernel
theorem dX8_fewestGossips_45 : decode cX8_fewestGossips 45 = .ok (.istore_n 3, 1) := by decide +kernel
theorem dX8_fewestGossips_46 : decode cX8_fewestGossips 46 = .ok (.iinc 4 1, 3) := by decide +kernel
theorem dX8_fewestGossips_49 : decode cX8_fewestGossips 49 = .ok (.goto (-44), 3) := by decide +kernel
theorem dX8_fewestGossips_52 : decode cX8_fewestGossips 52 = .ok (.aload_n 0, 1) := by decide +kernel
theorem dX8_fewestGossips_53 : decode cX8_fewestGossips 53 = .ok (.iload_n 1, 1) := by decide +kernel
theorem dX8_fewestGossips_54 : decode cX8_fewestGossips 54 = .ok (.aload_n 0, 1) := by decide +kernel
theorem dX8_fewestGossips_55 : decode cX8_fewestGossips 55 = .ok (.iload_n 1, 1) := by decide +kernel
theorem dX8_fewestGossips_56 : decode cX8_fewestGossips 56 = .ok (.invokevirtual 297, 3) := by decide +kernel
theorem dX8_fewestGossips_59 : decode cX8_fewestGossips 59 = .ok (.invokevirtual 300, 3) := by decide +kernel
theorem dX8_fewestGossips_62 : decode cX8_fewestGossips 62 = .ok (.iconst (-1), 1) := by decide +kernel
theorem dX8_fewestGossips_63 : decode cX8_fewestGossips 63 = .ok (.istore 4, 2) := by decide +kernel
theorem dX8_fewestGossips_65 : decode cX8_fewestGossips 65 = .ok (.iconst 0, 1) := by decide +kernel
theorem dX8_fewestGossips_66 : decode cX8_fewestGossips 66 = .ok (.istore 5, 2) := by decide +kernel
theorem dX8_fewestGossips_68 : decode cX8_fewestGossips 68 = .ok (.iload 5, 2) := by decide +kernel
theorem dX8_fewestGossips_70 : decode cX8_fewestGossips 70 = .ok (.sipush 256, 3) := by decide +kernel
theorem dX8_fewestGossips_73 : decode cX8_fewestGossips 73 = .ok (.if_icmp .ge 68, 3) := by decide +kernel
theorem dX8_fewestGossips_76 : decode cX8_fewestGossips 76 = .ok (.iload 4, 2) := by decide +kernel
theorem dX8_fewestGossips_78 : decode cX8_fewestGossips 78 = .ok (.iconst (-1), 1) := by decide +kernel
theorem dX8_fewestGossips_79 : decode cX8_fewestGossips 79 = .ok (.if_icmp .eq 16, 3) := by decide +kernel
theorem dX8_fewestGossips_82 : decode cX8_fewestGossips 82 = .ok (.iload 5, 2) := by decide +kernel
theorem dX8_fewestGossips_84 : decode cX8_fewestGossips 84 = .ok (.invokestatic 230, 3) := by decide +kernel
theorem dX8_fewestGossips_87 : decode cX8_fewestGossips 87 = .ok (.iload 4, 2) := by decide +kernel
theorem dX8_fewestGossips_89 : decode cX8_fewestGossips 89 = .ok (.invokestatic 230, 3) := by decide +kernel
theorem dX8_fewestGossips_92 : decode cX8_fewestGossips 92 = .ok (.if_icmp .ge 7, 3) := by decide +kernel
theorem dX8_fewestGossips_95 : decode cX8_fewestGossips 95 = .ok (.iconst 1, 1) := by decide +kernel
theorem dX8_fewestGossips_96 : decode cX8_fewestGossips 96 = .ok (.goto 4, 3) := by decide +kernel
theorem dX8_fewestGossips_99 : decode cX8_fewestGossips 99 = .ok (.iconst 0, 1) := by decide +kernel
theorem dX8_fewestGossips_100 : decode cX8_fewestGossips 100 = .ok (.istore 6, 2) := by decide +kernel
theorem dX8_fewestGossips_102 : decode cX8_fewestGossips 102 = .ok (.iload 6, 2) := by decide +kernel
theorem dX8_fewestGossips_104 : decode cX8_fewestGossips 104 = .ok (.ifCond .eq 31, 3) := by decide +kernel
theorem dX8_fewestGossips_107 : decode cX8_fewestGossips 107 = .ok (.iload 5, 2) := by decide +kernel
theorem dX8_fewestGossips_109 : decode cX8_fewestGossips 109 = .ok (.iload_n 3, 1) := by decide +kernel
theorem dX8_fewestGossips_110 : decode cX8_fewestGossips 110 = .ok (.iconst (-1), 1) := by decide +kernel
theorem dX8_fewestGossips_111 : decode cX8_fewestGossips 111 = .ok (.ixor, 1) := by decide +kernel
theorem dX8_fewestGossips_112 : decode cX8_fewestGossips 112 = .ok (.iand, 1) := by decide +kernel
theorem dX8_fewestGossips_113 : decode cX8_fewestGossips 113 = .ok (.ifCond .ne 22, 3) := by decide +kernel
theorem dX8_fewestGossips_116 : decode cX8_fewestGossips 116 = .ok (.aload_n 0, 1) := by decide +kernel
theorem dX8_fewestGossips_117 : decode cX8_fewestGossips 117 = .ok (.iload_n 1, 1) := by decide +kernel
theorem dX8_fewestGossips_118 : decode cX8_fewestGossips 118 = .ok (.iload_n 2, 1) := by decide +kernel
theorem dX8_fewestGossips_119 : decode cX8_fewestGossips 119 = .ok (.iload 5, 2) := by decide +kernel
theorem dX8_fewestGossips_121 : decode cX8_fewestGossips 121 = .ok (.invokevirtual 260, 3) := by decide +kernel
theorem dX8_fewestGossips_124 : decode cX8_fewestGossips 124 = .ok (.invokestatic 230, 3) := by decide +kernel
theorem dX8_fewestGossips_127 : decode cX8_fewestGossips 127 = .ok (.iconst 1, 1) := by decide +kernel
theorem dX8_fewestGossips_128 : decode cX8_fewestGossips 128 = .ok (.if_icmp .ne 7, 3) := by decide +kernel
theorem dX8_fewestGossips_131 : decode cX8_fewestGossips 131 = .ok (.iload 5, 2) := by decide +kernel
theorem dX8_fewestGossips_133 : decode cX8_fewestGossips 133 = .ok (.istore 4, 2) := by decide +kernel
theorem dX8_fewestGossips_135 : decode cX8_fewestGossips 135 = .ok (.iinc 5 1, 3) := by decide +kernel
theorem dX8_fewestGossips_138 : decode cX8_fewestGossips 138 = .ok (.goto (-70), 3) := by decide +kernel
theorem dX8_fewestGossips_141 : decode cX8_fewestGossips 141 = .ok (.iload 4, 2) := by decide +kernel
theorem dX8_fewestGossips_143 : decode cX8_fewestGossips 143 = .ok (.ireturn, 1) := by decide +kernel
theorem dX8_mayLaid_0 : decode cX8_mayLaid 0 = .ok (.aload_n 0, 1) := by decide +kernel
theorem dX8_mayLaid_1 : decode cX8_mayLaid 1 = .ok (.iload_n 1, 1) := by decide +kernel
theorem dX8_mayLaid_2 : decode cX8_mayLaid 2 = .ok (.iload_n 3, 1) := by decide +kernel
theorem dX8_mayLaid_3 : decode cX8_mayLaid 3 = .ok (.invokevirtual 345, 3) := by decide +kernel
theorem dX8_mayLaid_6 : decode cX8_mayLaid 6 = .ok (.aload_n 0, 1) := by decide +kernel
theorem dX8_mayLaid_7 : decode cX8_mayLaid 7 = .ok (.getfield 48, 3) := by decide +kernel
theorem dX8_mayLaid_10 : decode cX8_mayLaid 10 = .ok (.invokevirtual 224, 3) := by decide +kernel
theorem dX8_mayLaid_13 : decode cX8_mayLaid 13 = .ok (.aload_n 0, 1) := by decide +kernel
theorem dX8_mayLaid_14 : decode cX8_mayLaid 14 = .ok (.getfield 48, 3) := by decide +kernel
theorem dX8_mayLaid_17 : decode cX8_mayLaid 17 = .ok (.getfield 227, 3) := by decide +kernel
theorem dX8_mayLaid_20 : decode cX8_mayLaid 20 = .ok (.iload_n 2, 1) := by decide +kernel
theorem dX8_mayLaid_21 : decode cX8_mayLaid 21 = .ok (.iaload, 1) := by decide +kernel
theorem dX8_mayLaid_22 : decode cX8_mayLaid 22 = .ok (.ireturn, 1) := by decide +kernel
theorem dX8_someAlike_0 : decode cX8_someAlike 0 = .ok (.iconst 0, 1) := by decide +kernel
theorem dX8_someAlike_1 : decode cX8_someAlike 1 = .ok (.istore_n 2, 1) := by decide +kernel
theorem dX8_someAlike_2 : decode cX8_someAlike 2 = .ok (.iload_n 2, 1) := by decide +kernel
theorem dX8_someAlike_3 : decode cX8_someAlike 3 = .ok (.aload_n 0, 1) := by decide +kernel
theorem dX8_someAlike_4 : decode cX8_someAlike 4 = .ok (.getfield 74, 3) := by decide +kernel
theorem dX8_someAlike_7 : decode cX8_someAlike 7 = .ok (.if_icmp .ge 60, 3) := by decide +kernel
theorem dX8_someAlike_10 : decode cX8_someAlike 10 = .ok (.iload_n 1, 1) := by decide +kernel
theorem dX8_someAlike_11 : decode cX8_someAlike 11 = .ok (.istore_n 3, 1) := by decide +kernel
theorem dX8_someAlike_12 : decode cX8_someAlike 12 = .ok (.iconst 0, 1) := by decide +kernel
theorem dX8_someAlike_13 : decode cX8_someAlike 13 = .ok (.istore 4, 2) := by decide +kernel
theorem dX8_someAlike_15 : decode cX8_someAlike 15 = .ok (.iload 4, 2) := by decide +kernel
theorem dX8_someAlike_17 : decode cX8_someAlike 17 = .ok (.iconst 4, 1) := by decide +kernel
theorem dX8_someAlike_18 : decode cX8_someAlike 18 = .ok (.if_icmp .ge 33, 3) := by decide +kernel
theorem dX8_someAlike_21 : decode cX8_someAlike 21 = .ok (.iload_n 3, 1) := by decide +kernel
theorem dX8_someAlike_22 : decode cX8_someAlike 22 = .ok (.aload_n 0, 1) := by decide +kernel
theorem dX8_someAlike_23 : decode cX8_someAlike 23 = .ok (.getfield 11, 3) := by decide +kernel
theorem dX8_someAlike_26 : decode cX8_someAlike 26 = .ok (.iload 4, 2) := by decide +kernel
theorem dX8_someAlike_28 : decode cX8_someAlike 28 = .ok (.aaload, 1) := by decide +kernel
theorem dX8_someAlike_29 : decode cX8_someAlike 29 = .ok (.aload_n 0, 1) := by decide +kernel
theorem dX8_someAlike_30 : decode cX8_someAlike 30 = .ok (.getfield 11, 3) := by decide +kernel
theorem dX8_someAlike_33 : decode cX8_someAlike 33 = .ok (.iload 4, 2) := by decide +kernel
theorem dX8_someAlike_35 : decode cX8_someAlike 35 = .ok (.aaload, 1) := by decide +kernel
theorem dX8_someAlike_36 : decode cX8_someAlike 36 = .ok (.iload_n 2, 1) := by decide +kernel
theorem dX8_someAlike_37 : decode cX8_someAlike 37 = .ok (.invokevirtual 328, 3) := by decide +kernel
theorem dX8_someAlike_40 : decode cX8_someAlike 40 = .ok (.invokevirtual 351, 3) := by decide +kernel
theorem dX8_someAlike_43 : decode cX8_someAlike 43 = .ok (.iand, 1) := by decide +kernel
theorem dX8_someAlike_44 : decode cX8_someAlike 44 = .ok (.istore_n 3, 1) := by decide +kernel
theorem dX8_someAlike_45 : decode cX8_someAlike 45 = .ok (.iinc 4 1, 3) := by decide +kernel
theorem dX8_someAlike_48 : decode cX8_someAlike 48 = .ok (.goto (-33), 3) := by decide +kernel
theorem dX8_someAlike_51 : decode cX8_someAlike 51 = .ok (.iload_n 3, 1) := by decide +kernel
theorem dX8_someAlike_52 : decode cX8_someAlike 52 = .ok (.invokestatic 230, 3) := by decide +kernel
theorem dX8_someAlike_55 : decode cX8_someAlike 55 = .ok (.iconst 1, 1) := by decide +kernel
theorem dX8_someAlike_56 : decode cX8_someAlike 56 = .ok (.if_icmp .le 5, 3) := by decide +kernel
theorem dX8_someAlike_59 : decode cX8_someAlike 59 = .ok (.iconst 1, 1) := by decide +kernel
theorem dX8_someAlike_60 : decode cX8_someAlike 60 = .ok (.ireturn, 1) := by decide +kernel
theorem dX8_someAlike_61 : decode cX8_someAlike 61 = .ok (.iinc 2 1, 3) := by decide +kernel
theorem dX8_someAlike_64 : decode cX8_someAlike 64 = .ok (.goto (-62), 3) := by decide +kernel
theorem dX8_someAlike_67 : decode cX8_someAlike 67 = .ok (.iconst 0, 1) := by decide +kernel
theorem dX8_someAlike_68 : decode cX8_someAlike 68 = .ok (.ireturn, 1) := by decide +kernel
theorem dX8_firstQuestion_0 : decode cX8_firstQuestion 0 = .ok (.iconst 0, 1) := by decide +kernel
theorem dX8_firstQuestion_1 : decode cX8_firstQuestion 1 = .ok (.istore 4, 2) := by decide +kernel
theorem dX8_firstQuestion_3 : decode cX8_firstQuestion 3 = .ok (.iload 4, 2) := by decide +kernel
theorem dX8_firstQuestion_5 : decode cX8_firstQuestion 5 = .ok (.iconst 4, 1) := by decide +kernel
theorem dX8_firstQuestion_6 : decode cX8_firstQuestion 6 = .ok (.if_icmp .ge 62, 3) := by decide +kernel
theorem dX8_firstQuestion_9 : decode cX8_firstQuestion 9 = .ok (.iconst 0, 1) := by decide +kernel
theorem dX8_firstQuestion_10 : decode cX8_firstQuestion 10 = .ok (.istore 5, 2) := by decide +kernel
theorem dX8_firstQuestion_12 : decode cX8_firstQuestion 12 = .ok (.iload 5, 2) := by decide +kernel
theorem dX8_firstQuestion_14 : decode cX8_firstQuestion 14 = .ok (.bipush 32, 2) := by decide +kernel
theorem dX8_firstQuestion_16 : decode cX8_firstQuestion 16 = .ok (.if_icmp .ge 46, 3) := by decide +kernel
theorem dX8_firstQuestion_19 : decode cX8_firstQuestion 19 = .ok (.aload_n 0, 1) := by decide +kernel
theorem dX8_firstQuestion_20 : decode cX8_firstQuestion 20 = .ok (.getfield 55, 3) := by decide +kernel
theorem dX8_firstQuestion_23 : decode cX8_firstQuestion 23 = .ok (.iload_n 1, 1) := by decide +kernel
theorem dX8_firstQuestion_24 : decode cX8_firstQuestion 24 = .ok (.aload_n 0, 1) := by decide +kernel
theorem dX8_firstQuestion_25 : decode cX8_firstQuestion 25 = .ok (.getfield 11, 3) := by decide +kernel
theorem dX8_firstQuestion_28 : decode cX8_firstQuestion 28 = .ok (.iload 4, 2) := by decide +kernel
theorem dX8_firstQuestion_30 : decode cX8_firstQuestion 30 = .ok (.aaload, 1) := by decide +kernel
theorem dX8_firstQuestion_31 : decode cX8_firstQuestion 31 = .ok (.iload 5, 2) := by decide +kernel
theorem dX8_firstQuestion_33 : decode cX8_firstQuestion 33 = .ok (.invokevirtual 351, 3) := by decide +kernel
theorem dX8_firstQuestion_36 : decode cX8_firstQuestion 36 = .ok (.iload_n 2, 1) := by decide +kernel
theorem dX8_firstQuestion_37 : decode cX8_firstQuestion 37 = .ok (.invokevirtual 375, 3) := by decide +kernel
theorem dX8_firstQuestion_40 : decode cX8_firstQuestion 40 = .ok (.ifCond .eq 16, 3) := by decide +kernel
theorem dX8_firstQuestion_43 : decode cX8_firstQuestion 43 = .ok (.iload_n 3, 1) := by decide +kernel
theorem dX8_firstQuestion_44 : decode cX8_firstQuestion 44 = .ok (.iconst 1, 1) := by decide +kernel
theorem dX8_firstQuestion_45 : decode cX8_firstQuestion 45 = .ok (.if_icmp .ne 8, 3) := by decide +kernel
theorem dX8_firstQuestion_48 : decode cX8_firstQuestion 48 = .ok (.iload 4, 2) := by decide +kernel
theorem dX8_firstQuestion_50 : decode cX8_firstQuestion 50 = .ok (.goto 5, 3) := by decide +kernel
theorem dX8_firstQuestion_53 : decode cX8_firstQuestion 53 = .ok (.iload 5, 2) := by decide +kernel
theorem dX8_firstQuestion_55 : decode cX8_firstQuestion 55 = .ok (.ireturn, 1) := by decide +kernel
theorem dX8_firstQuestion_56 : decode cX8_firstQuestion 56 = .ok (.iinc 5 1, 3) := by decide +kernel
theorem dX8_firstQuestion_59 : decode cX8_firstQuestion 59 = .ok (.goto (-47), 3) := by decide +kernel
theorem dX8_firstQuestion_62 : decode cX8_firstQuestion 62 = .ok (.iinc 4 1, 3) := by decide +kernel
theorem dX8_firstQuestion_65 : decode cX8_firstQuestion 65 = .ok (.goto (-62), 3) := by decide +kernel
theorem dX8_firstQuestion_68 : decode cX8_firstQuestion 68 = .ok (.bipush (-2), 2) := by decide +kernel
theorem dX8_firstQuestion_70 : decode cX8_firstQuestion 70 = .ok (.ireturn, 1) := by decide +kernel
theorem dX8_prepareBlurs_0 : decode cX8_prepareBlurs 0 = .ok (.aload_n 0, 1) := by decide +kernel
theorem dX8_prepareBlurs_1 : decode cX8_prepareBlurs 1 = .ok (.getfield 62, 3) := by decide +kernel
theorem dX8_prepareBlurs_4 : decode cX8_prepareBlurs 4 = .ok (.invokevirtual 378, 3) := by decide +kernel
theorem dX8_prepareBlurs_7 : decode cX8_prepareBlurs 7 = .ok (.iconst 0, 1) := by decide +kernel
theorem dX8_prepareBlurs_8 : decode cX8_prepareBlurs 8 = .ok (.istore_n 2, 1) := by decide +kernel
theorem dX8_prepareBlurs_9 : decode cX8_prepareBlurs 9 = .ok (.iload_n 2, 1) := by decide +kernel
theorem dX8_prepareBlurs_10 : decode cX8_prepareBlurs 10 = .ok (.iconst 4, 1) := by decide +kernel
theorem dX8_prepareBlurs_11 : decode cX8_prepareBlurs 11 = .ok (.if_icmp .ge 45, 3) := by decide +kernel
theorem dX8_prepareBlurs_14 : decode cX8_prepareBlurs 14 = .ok (.iconst 0, 1) := by decide +kernel
theorem dX8_prepareBlurs_15 : decode cX8_prepareBlurs 15 = .ok (.istore_n 3, 1) := by decide +kernel
theorem dX8_prepareBlurs_16 : decode cX8_prepareBlurs 16 = .ok (.iload_n 3, 1) := by decide +kernel
theorem dX8_prepareBlurs_17 : decode cX8_prepareBlurs 17 = .ok (.iload_n 1, 1) := by decide +kernel
theorem dX8_prepareBlurs_18 : decode cX8_prepareBlurs 18 = .ok (.if_icmp .ge 32, 3) := by decide +kernel
theorem dX8_prepareBlurs_21 : decode cX8_prepareBlurs 21 = .ok (.aload_n 0, 1) := by decide +kernel
theorem dX8_prepareBlurs_22 : decode cX8_prepareBlurs 22 = .ok (.iload_n 2, 1) := by decide +kernel
theorem dX8_prepareBlurs_23 : decode cX8_prepareBlurs 23 = .ok (.iload_n 3, 1) := by decide +kernel
theorem dX8_prepareBlurs_24 : decode cX8_prepareBlurs 24 = .ok (.aload_n 0, 1) := by decide +kernel
theorem dX8_prepareBlurs_25 : decode cX8_prepareBlurs 25 = .ok (.getfield 11, 3) := by decide +kernel
theorem dX8_prepareBlurs_28 : decode cX8_prepareBlurs 28 = .ok (.iload_n 2, 1) := by decide +kernel
theorem dX8_prepareBlurs_29 : decode cX8_prepareBlurs 29 = .ok (.aaload, 1) := by decide +kernel
theorem dX8_prepareBlurs_30 : decode cX8_prepareBlurs 30 = .ok (.aload_n 0, 1) := by decide +kernel
theorem dX8_prepareBlurs_31 : decode cX8_prepareBlurs 31 = .ok (.getfield 22, 3) := by decide +kernel
theorem dX8_prepareBlurs_34 : decode cX8_prepareBlurs 34 = .ok (.iload_n 3, 1) := by decide +kernel
theorem dX8_prepareBlurs_35 : decode cX8_prepareBlurs 35 = .ok (.invokevirtual 134, 3) := by decide +kernel
theorem dX8_prepareBlurs_38 : decode cX8_prepareBlurs 38 = .ok (.invokevirtual 328, 3) := by decide +kernel
theorem dX8_prepareBlurs_41 : decode cX8_prepareBlurs 41 = .ok (.invokevirtual 379, 3) := by decide +kernel
theorem dX8_prepareBlurs_44 : decode cX8_prepareBlurs 44 = .ok (.iinc 3 1, 3) := by decide +kernel
theorem dX8_prepareBlurs_47 : decode cX8_prepareBlurs 47 = .ok (.goto (-31), 3) := by decide +kernel
theorem dX8_prepareBlurs_50 : decode cX8_prepareBlurs 50 = .ok (.iinc 2 1, 3) := by decide +kernel
theorem dX8_prepareBlurs_53 : decode cX8_prepareBlurs 53 = .ok (.goto (-44), 3) := by decide +kernel
theorem dX8_prepareBlurs_56 : decode cX8_prepareBlurs 56 = .ok (.return_, 1) := by decide +kernel
theorem dX8_prepareBlursOf_0 : decode cX8_prepareBlursOf 0 = .ok (.iconst (-1), 1) := by decide +kernel
theorem dX8_prepareBlursOf_1 : decode cX8_prepareBlursOf 1 = .ok (.istore 4, 2) := by decide +kernel
theorem dX8_prepareBlursOf_3 : decode cX8_prepareBlursOf 3 = .ok (.iconst 0, 1) := by decide +kernel
theorem dX8_prepareBlursOf_4 : decode cX8_prepareBlursOf 4 = .ok (.istore 5, 2) := by decide +kernel
theorem dX8_prepareBlursOf_6 : decode cX8_prepareBlursOf 6 = .ok (.iload 5, 2) := by decide +kernel
theorem dX8_prepareBlursOf_8 : decode cX8_prepareBlursOf 8 = .ok (.iconst 5, 1) := by decide +kernel
theorem dX8_prepareBlursOf_9 : decode cX8_prepareBlursOf 9 = .ok (.if_icmp .ge 77, 3) := by decide +kernel
theorem dX8_prepareBlursOf_12 : decode cX8_prepareBlursOf 12 = .ok (.aload_n 0, 1) := by decide +kernel
theorem dX8_prepareBlursOf_13 : decode cX8_prepareBlursOf 13 = .ok (.getfield 11, 3) := by decide +kernel
theorem dX8_prepareBlursOf_16 : decode cX8_prepareBlursOf 16 = .ok (.iload_n 1, 1) := by decide +kernel
theorem dX8_prepareBlursOf_17 : decode cX8_prepareBlursOf 17 = .ok (.aaload, 1) := by decide +kernel
theorem dX8_prepareBlursOf_18 : decode cX8_prepareBlursOf 18 = .ok (.iload_n 3, 1) := by decide +kernel
theorem dX8_prepareBlursOf_19 : decode cX8_prepareBlursOf 19 = .ok (.iload 5, 2) := by decide +kernel
theorem dX8_prepareBlursOf_21 : decode cX8_prepareBlursOf 21 = .ok (.invokevirtual 123, 3) := by decide +kernel
theorem dX8_prepareBlursOf_24 : decode cX8_prepareBlursOf 24 = .ok (.istore 6, 2) := by decide +kernel
theorem dX8_prepareBlursOf_26 : decode cX8_prepareBlursOf 26 = .ok (.aload_n 0, 1) := by decide +kernel
theorem dX8_prepareBlursOf_27 : decode cX8_prepareBlursOf 27 = .ok (.getfield 62, 3) := by decide +kernel
theorem dX8_prepareBlursOf_30 : decode cX8_prepareBlursOf 30 = .ok (.iload_n 1, 1) := by decide +kernel
theorem dX8_prepareBlursOf_31 : decode cX8_prepareBlursOf 31 = .ok (.iload 5, 2) := by decide +kernel
theorem dX8_prepareBlursOf_33 : decode cX8_prepareBlursOf 33 = .ok (.iload_n 2, 1) := by decide +kernel
theorem dX8_prepareBlursOf_34 : decode cX8_prepareBlursOf 34 = .ok (.aload_n 0, 1) := by decide +kernel
theorem dX8_prepareBlursOf_35 : decode cX8_prepareBlursOf 35 = .ok (.getfield 11, 3) := by decide +kernel
theorem dX8_prepareBlursOf_38 : decode cX8_prepareBlursOf 38 = .ok (.iload_n 1, 1) := by decide +kernel
theorem dX8_prepareBlursOf_39 : decode cX8_prepareBlursOf 39 = .ok (.aaload, 1) := by decide +kernel
theorem dX8_prepareBlursOf_40 : decode cX8_prepareBlursOf 40 = .ok (.iload 6, 2) := by decide +kernel
theorem dX8_prepareBlursOf_42 : decode cX8_prepareBlursOf 42 = .ok (.invokevirtual 351, 3) := by decide +kernel
theorem dX8_prepareBlursOf_45 : decode cX8_prepareBlursOf 45 = .ok (.aload_n 0, 1) := by decide +kernel
theorem dX8_prepareBlursOf_46 : decode cX8_prepareBlursOf 46 = .ok (.getfield 11, 3) := by decide +kernel
theorem dX8_prepareBlursOf_49 : decode cX8_prepareBlursOf 49 = .ok (.iload_n 1, 1) := by decide +kernel
theorem dX8_prepareBlursOf_50 : decode cX8_prepareBlursOf 50 = .ok (.aaload, 1) := by decide +kernel
theorem dX8_prepareBlursOf_51 : decode cX8_prepareBlursOf 51 = .ok (.iload 6, 2) := by decide +kernel
theorem dX8_prepareBlursOf_53 : decode cX8_prepareBlursOf 53 = .ok (.invokevirtual 369, 3) := by decide +kernel
theorem dX8_prepareBlursOf_56 : decode cX8_prepareBlursOf 56 = .ok (.invokevirtual 382, 3) := by decide +kernel
theorem dX8_prepareBlursOf_59 : decode cX8_prepareBlursOf 59 = .ok (.iload 6, 2) := by decide +kernel
theorem dX8_prepareBlursOf_61 : decode cX8_prepareBlursOf 61 = .ok (.iload 4, 2) := by decide +kernel
theorem dX8_prepareBlursOf_63 : decode cX8_prepareBlursOf 63 = .ok (.if_icmp .eq 13, 3) := by decide +kernel
theorem dX8_prepareBlursOf_66 : decode cX8_prepareBlursOf 66 = .ok (.aload_n 0, 1) := by decide +kernel
theorem dX8_prepareBlursOf_67 : decode cX8_prepareBlursOf 67 = .ok (.getfield 62, 3) := by decide +kernel
theorem dX8_prepareBlursOf_70 : decode cX8_prepareBlursOf 70 = .ok (.iload_n 1, 1) := by decide +kernel
theorem dX8_prepareBlursOf_71 : decode cX8_prepareBlursOf 71 = .ok (.iload 5, 2) := by decide +kernel
theorem dX8_prepareBlursOf_73 : decode cX8_prepareBlursOf 73 = .ok (.invokevirtual 385, 3) := by decide +kernel
theorem dX8_prepareBlursOf_76 : decode cX8_prepareBlursOf 76 = .ok (.iload 6, 2) := by decide +kernel
theorem dX8_prepareBlursOf_78 : decode cX8_prepareBlursOf 78 = .ok (.istore 4, 2) := by decide +kernel
theorem dX8_prepareBlursOf_80 : decode cX8_prepareBlursOf 80 = .ok (.iinc 5 1, 3) := by decide +kernel
theorem dX8_prepareBlursOf_83 : decode cX8_prepareBlursOf 83 = .ok (.goto (-77), 3) := by decide +kernel
theorem dX8_prepareBlursOf_86 : decode cX8_prepareBlursOf 86 = .ok (.return_, 1) := by decide +kernel
theorem dJ6_bitCount_0f7a4_0 : decode cJ6_bitCount_0f7a4 0 = .ok (.iload_n 0, 1) := by decide +kernel
theorem dJ6_bitCount_0f7a4_1 : decode cJ6_bitCount_0f7a4 1 = .ok (.iload_n 0, 1) := by decide +kernel
theorem dJ6_bitCount_0f7a4_2 : decode cJ6_bitCount_0f7a4 2 = .ok (.iconst 1, 1) := by decide +kernel
theorem dJ6_bitCount_0f7a4_3 : decode cJ6_bitCount_0f7a4 3 = .ok (.iushr, 1) := by decide +kernel
theorem dJ6_bitCount_0f7a4_4 : decode cJ6_bitCount_0f7a4 4 = .ok (.ldc_w 265, 3) := by decide +kernel
theorem dJ6_bitCount_0f7a4_7 : decode cJ6_bitCount_0f7a4 7 = .ok (.iand, 1) := by decide +kernel
theorem dJ6_bitCount_0f7a4_8 : decode cJ6_bitCount_0f7a4 8 = .ok (.isub, 1) := by decide +kernel
theorem dJ6_bitCount_0f7a4_9 : decode cJ6_bitCount_0f7a4 9 = .ok (.istore_n 0, 1) := by decide +kernel
theorem dJ6_bitCount_0f7a4_10 : decode cJ6_bitCount_0f7a4 10 = .ok (.iload_n 0, 1) := by decide +kernel
theorem dJ6_bitCount_0f7a4_11 : decode cJ6_bitCount_0f7a4 11 = .ok (.ldc_w 266, 3) := by decide +kernel
theorem dJ6_bitCount_0f7a4_14 : decode cJ6_bitCount_0f7a4 14 = .ok (.iand, 1) := by decide +kernel
theorem dJ6_bitCount_0f7a4_15 : decode cJ6_bitCount_0f7a4 15 = .ok (.iload_n 0, 1) := by decide +kernel
theorem dJ6_bitCount_0f7a4_16 : decode cJ6_bitCount_0f7a4 16 = .ok (.iconst 2, 1) := by decide +kernel
theorem dJ6_bitCount_0f7a4_17 : decode cJ6_bitCount_0f7a4 17 = .ok (.iushr, 1) := by decide +kernel
theorem dJ6_bitCount_0f7a4_18 : decode cJ6_bitCount_0f7a4 18 = .ok (.ldc_w 266, 3) := by decide +kernel
theorem dJ6_bitCount_0f7a4_21 : decode cJ6_bitCount_0f7a4 21 = .ok (.iand, 1) := by decide +kernel
theorem dJ6_bitCount_0f7a4_22 : decode cJ6_bitCount_0f7a4 22 = .ok (.iadd, 1) := by decide +kernel
theorem dJ6_bitCount_0f7a4_23 : decode cJ6_bitCount_0f7a4 23 = .ok (.istore_n 0, 1) := by decide +kernel
theorem dJ6_bitCount_0f7a4_24 : decode cJ6_bitCount_0f7a4 24 = .ok (.iload_n 0, 1) := by decide +kernel
theorem dJ6_bitCount_0f7a4_25 : decode cJ6_bitCount_0f7a4 25 = .ok (.iload_n 0, 1) := by decide +kernel
theorem dJ6_bitCount_0f7a4_26 : decode cJ6_bitCount_0f7a4 26 = .ok (.iconst 4, 1) := by decide +kernel
theorem dJ6_bitCount_0f7a4_27 : decode cJ6_bitCount_0f7a4 27 = .ok (.iushr, 1) := by decide +kernel
theorem dJ6_bitCount_0f7a4_28 : decode cJ6_bitCount_0f7a4 28 = .ok (.iadd, 1) := by decide +kernel
theorem dJ6_bitCount_0f7a4_29 : decode cJ6_bitCount_0f7a4 29 = .ok (.ldc_w 267, 3) := by decide +kernel
theorem dJ6_bitCount_0f7a4_32 : decode cJ6_bitCount_0f7a4 32 = .ok (.iand, 1) := by decide +kernel
theorem dJ6_bitCount_0f7a4_33 : decode cJ6_bitCount_0f7a4 33 = .ok (.istore_n 0, 1) := by decide +kernel
theorem dJ6_bitCount_0f7a4_34 : decode cJ6_bitCount_0f7a4 34 = .ok (.iload_n 0, 1) := by decide +kernel
theorem dJ6_bitCount_0f7a4_35 : decode cJ6_bitCount_0f7a4 35 = .ok (.iload_n 0, 1) := by decide +kernel
theorem dJ6_bitCount_0f7a4_36 : decode cJ6_bitCount_0f7a4 36 = .ok (.bipush 8, 2) := by decide +kernel
theorem dJ6_bitCount_0f7a4_38 : decode cJ6_bitCount_0f7a4 38 = .ok (.iushr, 1) := by decide +kernel
theorem dJ6_bitCount_0f7a4_39 : decode cJ6_bitCount_0f7a4 39 = .ok (.iadd, 1) := by decide +kernel
theorem dJ6_bitCount_0f7a4_40 : decode cJ6_bitCount_0f7a4 40 = .ok (.istore_n 0, 1) := by decide +kernel
theorem dJ6_bitCount_0f7a4_41 : decode cJ6_bitCount_0f7a4 41 = .ok (.iload_n 0, 1) := by decide +kernel
theorem dJ6_bitCount_0f7a4_42 : decode cJ6_bitCount_0f7a4 42 = .ok (.iload_n 0, 1) := by decide +kernel
theorem dJ6_bitCount_0f7a4_43 : decode cJ6_bitCount_0f7a4 43 = .ok (.bipush 16, 2) := by decide +kernel
theorem dJ6_bitCount_0f7a4_45 : decode cJ6_bitCount_0f7a4 45 = .ok (.iushr, 1) := by decide +kernel
theorem dJ6_bitCount_0f7a4_46 : decode cJ6_bitCount_0f7a4 46 = .ok (.iadd, 1) := by decide +kernel
theorem dJ6_bitCount_0f7a4_47 : decode cJ6_bitCount_0f7a4 47 = .ok (.istore_n 0, 1) := by decide +kernel
theorem dJ6_bitCount_0f7a4_48 : decode cJ6_bitCount_0f7a4 48 = .ok (.iload_n 0, 1) := by decide +kernel
theorem dJ6_bitCount_0f7a4_49 : decode cJ6_bitCount_0f7a4 49 = .ok (.bipush 63, 2) := by decide +kernel
theorem dJ6_bitCount_0f7a4_51 : decode cJ6_bitCount_0f7a4 51 = .ok (.iand, 1) := by decide +kernel
theorem dJ6_bitCount_0f7a4_52 : decode cJ6_bitCount_0f7a4 52 = .ok (.ireturn, 1) := by decide +kernel
theorem dJ9_max_7cf53_0 : decode cJ9_max_7cf53 0 = .ok (.iload_n 0, 1) := by decide +kernel
theorem dJ9_max_7cf53_1 : decode cJ9_max_7cf53 1 = .ok (.iload_n 1, 1) := by decide +kernel
theorem dJ9_max_7cf53_2 : decode cJ9_max_7cf53 2 = .ok (.if_icmp .lt 7, 3) := by decide +kernel
theorem dJ9_max_7cf53_5 : decode cJ9_max_7cf53 5 = .ok (.iload_n 0, 1) := by decide +kernel
theorem dJ9_max_7cf53_6 : decode cJ9_max_7cf53 6 = .ok (.goto 4, 3) := by decide +kernel
theorem dJ9_max_7cf53_9 : decode cJ9_max_7cf53 9 = .ok (.iload_n 1, 1) := by decide +kernel
theorem dJ9_max_7cf53_10 : decode cJ9_max_7cf53 10 = .ok (.ireturn, 1) := by decide +kernel
theorem dJ9_min_7cf53_0 : decode cJ9_min_7cf53 0 = .ok (.iload_n 0, 1) := by decide +kernel
theorem dJ9_min_7cf53_1 : decode cJ9_min_7cf53 1 = .ok (.iload_n 1, 1) := by decide +kernel
theorem dJ9_min_7cf53_2 : decode cJ9_min_7cf53 2 = .ok (.if_icmp .gt 7, 3) := by decide +kernel
theorem dJ9_min_7cf53_5 : decode cJ9_min_7cf53 5 = .ok (.iload_n 0, 1) := by decide +kernel
theorem dJ9_min_7cf53_6 : decode cJ9_min_7cf53 6 = .ok (.goto 4, 3) := by decide +kernel
theorem dJ9_min_7cf53_9 : decode cJ9_min_7cf53 9 = .ok (.iload_n 1, 1) := by decide +kernel
theorem dJ9_min_7cf53_10 : decode cJ9_min_7cf53 10 = .ok (.ireturn, 1) := by decide +kernel

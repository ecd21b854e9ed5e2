theorem dX0_init_0 : decode cX0_init 0 = .ok (.aload_n 0, 1) := by decide +kernel
theorem dX0_init_1 : decode cX0_init 1 = .ok (.invokespecial 3, 3) := by decide +kernel
theorem dX0_init_4 : decode cX0_init 4 = .ok (.aload_n 0, 1) := by decide +kernel
theorem dX0_init_5 : decode cX0_init 5 = .ok (.sipush 128, 3) := by decide +kernel
theorem dX0_init_8 : decode cX0_init 8 = .ok (.newarray .int, 2) := by decide +kernel
theorem dX0_init_10 : decode cX0_init 10 = .ok (.putfield 9, 3) := by decide +kernel
theorem dX0_init_13 : decode cX0_init 13 = .ok (.aload_n 0, 1) := by decide +kernel
theorem dX0_init_14 : decode cX0_init 14 = .ok (.iconst 0, 1) := by decide +kernel
theorem dX0_init_15 : decode cX0_init 15 = .ok (.putfield 15, 3) := by decide +kernel
theorem dX0_init_18 : decode cX0_init 18 = .ok (.aload_n 0, 1) := by decide +kernel
theorem dX0_init_19 : decode cX0_init 19 = .ok (.bipush 17, 2) := by decide +kernel
theorem dX0_init_21 : decode cX0_init 21 = .ok (.newarray .int, 2) := by decide +kernel
theorem dX0_init_23 : decode cX0_init 23 = .ok (.putfield 19, 3) := by decide +kernel
theorem dX0_init_26 : decode cX0_init 26 = .ok (.aload_n 0, 1) := by decide +kernel
theorem dX0_init_27 : decode cX0_init 27 = .ok (.iconst 1, 1) := by decide +kernel
theorem dX0_init_28 : decode cX0_init 28 = .ok (.newarray .int, 2) := by decide +kernel
theorem dX0_init_30 : decode cX0_init 30 = .ok (.putfield 22, 3) := by decide +kernel
theorem dX0_init_33 : decode cX0_init 33 = .ok (.aload_n 0, 1) := by decide +kernel
theorem dX0_init_34 : decode cX0_init 34 = .ok (.iconst 1, 1) := by decide +kernel
theorem dX0_init_35 : decode cX0_init 35 = .ok (.putfield 25, 3) := by decide +kernel
theorem dX0_init_38 : decode cX0_init 38 = .ok (.return_, 1) := by decide +kernel
theorem dX0_forget_0 : decode cX0_forget 0 = .ok (.aload_n 0, 1) := by decide +kernel
theorem dX0_forget_1 : decode cX0_forget 1 = .ok (.dup, 1) := by decide +kernel
theorem dX0_forget_2 : decode cX0_forget 2 = .ok (.getfield 25, 3) := by decide +kernel
theorem dX0_forget_5 : decode cX0_forget 5 = .ok (.iconst 1, 1) := by decide +kernel
theorem dX0_forget_6 : decode cX0_forget 6 = .ok (.iadd, 1) := by decide +kernel
theorem dX0_forget_7 : decode cX0_forget 7 = .ok (.putfield 25, 3) := by decide +kernel
theorem dX0_forget_10 : decode cX0_forget 10 = .ok (.return_, 1) := by decide +kernel
theorem dX1_init_0 : decode cX1_init 0 = .ok (.aload_n 0, 1) := by decide +kernel
theorem dX1_init_1 : decode cX1_init 1 = .ok (.invokespecial 3, 3) := by decide +kernel
theorem dX1_init_4 : decode cX1_init 4 = .ok (.aload_n 0, 1) := by decide +kernel
theorem dX1_init_5 : decode cX1_init 5 = .ok (.iconst (-1), 1) := by decide +kernel
theorem dX1_init_6 : decode cX1_init 6 = .ok (.putfield 9, 3) := by decide +kernel
theorem dX1_init_9 : decode cX1_init 9 = .ok (.aload_n 0, 1) := by decide +kernel
theorem dX1_init_10 : decode cX1_init 10 = .ok (.iconst 0, 1) := by decide +kernel
theorem dX1_init_11 : decode cX1_init 11 = .ok (.putfield 15, 3) := by decide +kernel
theorem dX1_init_14 : decode cX1_init 14 = .ok (.aload_n 0, 1) := by decide +kernel
theorem dX1_init_15 : decode cX1_init 15 = .ok (.iconst 0, 1) := by decide +kernel
theorem dX1_init_16 : decode cX1_init 16 = .ok (.putfield 18, 3) := by decide +kernel
theorem dX1_init_19 : decode cX1_init 19 = .ok (.aload_n 0, 1) := by decide +kernel
theorem dX1_init_20 : decode cX1_init 20 = .ok (.iconst 4, 1) := by decide +kernel
theorem dX1_init_21 : decode cX1_init 21 = .ok (.bipush 40, 2) := by decide +kernel
theorem dX1_init_23 : decode cX1_init 23 = .ok (.multianewarray 21 2, 4) := by decide +kernel
theorem dX1_init_27 : decode cX1_init 27 = .ok (.putfield 23, 3) := by decide +kernel
theorem dX1_init_30 : decode cX1_init 30 = .ok (.aload_n 0, 1) := by decide +kernel
theorem dX1_init_31 : decode cX1_init 31 = .ok (.iconst 4, 1) := by decide +kernel
theorem dX1_init_32 : decode cX1_init 32 = .ok (.bipush 40, 2) := by decide +kernel
theorem dX1_init_34 : decode cX1_init 34 = .ok (.multianewarray 21 2, 4) := by decide +kernel
theorem dX1_init_38 : decode cX1_init 38 = .ok (.putfield 26, 3) := by decide +kernel
theorem dX1_init_41 : decode cX1_init 41 = .ok (.aload_n 0, 1) := by decide +kernel
theorem dX1_init_42 : decode cX1_init 42 = .ok (.iconst 4, 1) := by decide +kernel
theorem dX1_init_43 : decode cX1_init 43 = .ok (.newarray .int, 2) := by decide +kernel
theorem dX1_init_45 : decode cX1_init 45 = .ok (.putfield 29, 3) := by decide +kernel
theorem dX1_init_48 : decode cX1_init 48 = .ok (.aload_n 0, 1) := by decide +kernel
theorem dX1_init_49 : decode cX1_init 49 = .ok (.iconst 4, 1) := by decide +kernel
theorem dX1_init_50 : decode cX1_init 50 = .ok (.newarray .int, 2) := by decide +kernel
theorem dX1_init_52 : decode cX1_init 52 = .ok (.putfield 33, 3) := by decide +kernel
theorem dX1_init_55 : decode cX1_init 55 = .ok (.return_, 1) := by decide +kernel
theorem dX2_init_0 : decode cX2_init 0 = .ok (.aload_n 0, 1) := by decide +kernel
theorem dX2_init_1 : decode cX2_init 1 = .ok (.invokespecial 3, 3) := by decide +kernel
theorem dX2_init_4 : decode cX2_init 4 = .ok (.aload_n 0, 1) := by decide +kernel
theorem dX2_init_5 : decode cX2_init 5 = .ok (.iconst 0, 1) := by decide +kernel
theorem dX2_init_6 : decode cX2_init 6 = .ok (.putfield 9, 3) := by decide +kernel
theorem dX2_init_9 : decode cX2_init 9 = .ok (.aload_n 0, 1) := by decide +kernel
theorem dX2_init_10 : decode cX2_init 10 = .ok (.iconst 0, 1) := by decide +kernel
theorem dX2_init_11 : decode cX2_init 11 = .ok (.putfield 15, 3) := by decide +kernel
theorem dX2_init_14 : decode cX2_init 14 = .ok (.aload_n 0, 1) := by decide +kernel
theorem dX2_init_15 : decode cX2_init 15 = .ok (.iconst 1, 1) := by decide +kernel
theorem dX2_init_16 : decode cX2_init 16 = .ok (.putfield 18, 3) := by decide +kernel
theorem dX2_init_19 : decode cX2_init 19 = .ok (.aload_n 0, 1) := by decide +kernel
theorem dX2_init_20 : decode cX2_init 20 = .ok (.bipush 8, 2) := by decide +kernel
theorem dX2_init_22 : decode cX2_init 22 = .ok (.newarray .int, 2) := by decide +kernel
theorem dX2_init_24 : decode cX2_init 24 = .ok (.putfield 22, 3) := by decide +kernel
theorem dX2_init_27 : decode cX2_init 27 = .ok (.aload_n 0, 1) := by decide +kernel
theorem dX2_init_28 : decode cX2_init 28 = .ok (.bipush 8, 2) := by decide +kernel
theorem dX2_init_30 : decode cX2_init 30 = .ok (.iconst 4, 1) := by decide +kernel
theorem dX2_init_31 : decode cX2_init 31 = .ok (.multianewarray 26 2, 4) := by decide +kernel
theorem dX2_init_35 : decode cX2_init 35 = .ok (.putfield 28, 3) := by decide +kernel
theorem dX2_init_38 : decode cX2_init 38 = .ok (.return_, 1) := by decide +kernel
theorem dX3_init_0 : decode cX3_init 0 = .ok (.aload_n 0, 1) := by decide +kernel
theorem dX3_init_1 : decode cX3_init 1 = .ok (.invokespecial 3, 3) := by decide +kernel
theorem dX3_init_4 : decode cX3_init 4 = .ok (.aload_n 0, 1) := by decide +kernel
theorem dX3_init_5 : decode cX3_init 5 = .ok (.iconst 1, 1) := by decide +kernel
theorem dX3_init_6 : decode cX3_init 6 = .ok (.putfield 9, 3) := by decide +kernel
theorem dX3_init_9 : decode cX3_init 9 = .ok (.aload_n 0, 1) := by decide +kernel
theorem dX3_init_10 : decode cX3_init 10 = .ok (.bipush 32, 2) := by decide +kernel
theorem dX3_init_12 : decode cX3_init 12 = .ok (.newarray .int, 2) := by decide +kernel
theorem dX3_init_14 : decode cX3_init 14 = .ok (.putfield 15, 3) := by decide +kernel
theorem dX3_init_17 : decode cX3_init 17 = .ok (.aload_n 0, 1) := by decide +kernel
theorem dX3_init_18 : decode cX3_init 18 = .ok (.bipush 33, 2) := by decide +kernel
theorem dX3_init_20 : decode cX3_init 20 = .ok (.newarray .int, 2) := by decide +kernel
theorem dX3_init_22 : decode cX3_init 22 = .ok (.putfield 19, 3) := by decide +kernel
theorem dX3_init_25 : decode cX3_init 25 = .ok (.aload_n 0, 1) := by decide +kernel
theorem dX3_init_26 : decode cX3_init 26 = .ok (.bipush 33, 2) := by decide +kernel
theorem dX3_init_28 : decode cX3_init 28 = .ok (.newarray .int, 2) := by decide +kernel
theorem dX3_init_30 : decode cX3_init 30 = .ok (.putfield 22, 3) := by decide +kernel
theorem dX3_init_33 : decode cX3_init 33 = .ok (.aload_n 0, 1) := by decide +kernel
theorem dX3_init_34 : decode cX3_init 34 = .ok (.bipush 16, 2) := by decide +kernel
theorem dX3_init_36 : decode cX3_init 36 = .ok (.newarray .int, 2) := by decide +kernel
theorem dX3_init_38 : decode cX3_init 38 = .ok (.putfield 25, 3) := by decide +kernel
theorem dX3_init_41 : decode cX3_init 41 = .ok (.aload_n 0, 1) := by decide +kernel
theorem dX3_init_42 : decode cX3_init 42 = .ok (.iconst 0, 1) := by decide +kernel
theorem dX3_init_43 : decode cX3_init 43 = .ok (.putfield 28, 3) := by decide +kernel
theorem dX3_init_46 : decode cX3_init 46 = .ok (.iconst 0, 1) := by decide +kernel
theorem dX3_init_47 : decode cX3_init 47 = .ok (.istore_n 1, 1) := by decide +kernel
theorem dX3_init_48 : decode cX3_init 48 = .ok (.iload_n 1, 1) := by decide +kernel
theorem dX3_init_49 : decode cX3_init 49 = .ok (.bipush 32, 2) := by decide +kernel
theorem dX3_init_51 : decode cX3_init 51 = .ok (.if_icmp .ge 33, 3) := by decide +kernel
theorem dX3_init_54 : decode cX3_init 54 = .ok (.aload_n 0, 1) := by decide +kernel
theorem dX3_init_55 : decode cX3_init 55 = .ok (.getfield 15, 3) := by decide +kernel
theorem dX3_init_58 : decode cX3_init 58 = .ok (.iload_n 1, 1) := by decide +kernel
theorem dX3_init_59 : decode cX3_init 59 = .ok (.iconst (-1), 1) := by decide +kernel
theorem dX3_init_60 : decode cX3_init 60 = .ok (.iastore, 1) := by decide +kernel
theorem dX3_init_61 : decode cX3_init 61 = .ok (.aload_n 0, 1) := by decide +kernel
theorem dX3_init_62 : decode cX3_init 62 = .ok (.getfield 19, 3) := by decide +kernel
theorem dX3_init_65 : decode cX3_init 65 = .ok (.iload_n 1, 1) := by decide +kernel
theorem dX3_init_66 : decode cX3_init 66 = .ok (.iload_n 1, 1) := by decide +kernel
theorem dX3_init_67 : decode cX3_init 67 = .ok (.bipush 16, 2) := by decide +kernel
theorem dX3_init_69 : decode cX3_init 69 = .ok (.if_icmp .ge 7, 3) := by decide +kernel
theorem dX3_init_72 : decode cX3_init 72 = .ok (.iconst 1, 1) := by decide +kernel
theorem dX3_init_73 : decode cX3_init 73 = .ok (.goto 4, 3) := by decide +kernel
theorem dX3_init_76 : decode cX3_init 76 = .ok (.iconst 0, 1) := by decide +kernel
theorem dX3_init_77 : decode cX3_init 77 = .ok (.iastore, 1) := by decide +kernel
theorem dX3_init_78 : decode cX3_init 78 = .ok (.iinc 1 1, 3) := by decide +kernel
theorem dX3_init_81 : decode cX3_init 81 = .ok (.goto (-33), 3) := by decide +kernel
theorem dX3_init_84 : decode cX3_init 84 = .ok (.aload_n 0, 1) := by decide +kernel
theorem dX3_init_85 : decode cX3_init 85 = .ok (.getfield 19, 3) := by decide +kernel
theorem dX3_init_88 : decode cX3_init 88 = .ok (.bipush 32, 2) := by decide +kernel
theorem dX3_init_90 : decode cX3_init 90 = .ok (.bipush 16, 2) := by decide +kernel
theorem dX3_init_92 : decode cX3_init 92 = .ok (.iastore, 1) := by decide +kernel
theorem dX3_init_93 : decode cX3_init 93 = .ok (.return_, 1) := by decide +kernel
theorem dX3_hang_0 : decode cX3_hang 0 = .ok (.iload_n 1, 1) := by decide +kernel
theorem dX3_hang_1 : decode cX3_hang 1 = .ok (.iconst 0, 1) := by decide +kernel
theorem dX3_hang_2 : decode cX3_hang 2 = .ok (.bipush 31, 2) := by decide +kernel
theorem dX3_hang_4 : decode cX3_hang 4 = .ok (.invokestatic 31, 3) := by decide +kernel
theorem dX3_hang_7 : decode cX3_hang 7 = .ok (.ifCond .ne 4, 3) := by decide +kernel
theorem dX3_hang_10 : decode cX3_hang 10 = .ok (.return_, 1) := by decide +kernel
theorem dX3_hang_11 : decode cX3_hang 11 = .ok (.aload_n 0, 1) := by decide +kernel
theorem dX3_hang_12 : decode cX3_hang 12 = .ok (.getfield 15, 3) := by decide +kernel
theorem dX3_hang_15 : decode cX3_hang 15 = .ok (.iload_n 1, 1) := by decide +kernel
theorem dX3_hang_16 : decode cX3_hang 16 = .ok (.iload_n 2, 1) := by decide +kernel
theorem dX3_hang_17 : decode cX3_hang 17 = .ok (.iastore, 1) := by decide +kernel
theorem dX3_hang_18 : decode cX3_hang 18 = .ok (.iconst 0, 1) := by decide +kernel
theorem dX3_hang_19 : decode cX3_hang 19 = .ok (.istore_n 3, 1) := by decide +kernel
theorem dX3_hang_20 : decode cX3_hang 20 = .ok (.iload_n 3, 1) := by decide +kernel
theorem dX3_hang_21 : decode cX3_hang 21 = .ok (.bipush 32, 2) := by decide +kernel
theorem dX3_hang_23 : decode cX3_hang 23 = .ok (.if_icmp .ge 23, 3) := by decide +kernel
theorem dX3_hang_26 : decode cX3_hang 26 = .ok (.aload_n 0, 1) := by decide +kernel
theorem dX3_hang_27 : decode cX3_hang 27 = .ok (.getfield 19, 3) := by decide +kernel
theorem dX3_hang_30 : decode cX3_hang 30 = .ok (.iload_n 3, 1) := by decide +kernel
theorem dX3_hang_31 : decode cX3_hang 31 = .ok (.iconst 0, 1) := by decide +kernel
theorem dX3_hang_32 : decode cX3_hang 32 = .ok (.iastore, 1) := by decide +kernel
theorem dX3_hang_33 : decode cX3_hang 33 = .ok (.aload_n 0, 1) := by decide +kernel
theorem dX3_hang_34 : decode cX3_hang 34 = .ok (.getfield 22, 3) := by decide +kernel
theorem dX3_hang_37 : decode cX3_hang 37 = .ok (.iload_n 3, 1) := by decide +kernel
theorem dX3_hang_38 : decode cX3_hang 38 = .ok (.iconst 0, 1) := by decide +kernel
theorem dX3_hang_39 : decode cX3_hang 39 = .ok (.iastore, 1) := by decide +kernel
theorem dX3_hang_40 : decode cX3_hang 40 = .ok (.iinc 3 1, 3) := by decide +kernel
theorem dX3_hang_43 : decode cX3_hang 43 = .ok (.goto (-23), 3) := by decide +kernel
theorem dX3_hang_46 : decode cX3_hang 46 = .ok (.iconst 0, 1) := by decide +kernel
theorem dX3_hang_47 : decode cX3_hang 47 = .ok (.istore_n 3, 1) := by decide +kernel
theorem dX3_hang_48 : decode cX3_hang 48 = .ok (.iload_n 3, 1) := by decide +kernel
theorem dX3_hang_49 : decode cX3_hang 49 = .ok (.bipush 16, 2) := by decide +kernel
theorem dX3_hang_51 : decode cX3_hang 51 = .ok (.if_icmp .ge 16, 3) := by decide +kernel
theorem dX3_hang_54 : decode cX3_hang 54 = .ok (.aload_n 0, 1) := by decide +kernel
theorem dX3_hang_55 : decode cX3_hang 55 = .ok (.iload_n 3, 1) := by decide +kernel
theorem dX3_hang_56 : decode cX3_hang 56 = .ok (.iconst 1, 1) := by decide +kernel
theorem dX3_hang_57 : decode cX3_hang 57 = .ok (.iconst 0, 1) := by decide +kernel
theorem dX3_hang_58 : decode cX3_hang 58 = .ok (.invokevirtual 35, 3) := by decide +kernel
theorem dX3_hang_61 : decode cX3_hang 61 = .ok (.iinc 3 1, 3) := by decide +kernel
theorem dX3_hang_64 : decode cX3_hang 64 = .ok (.goto (-16), 3) := by decide +kernel
theorem dX3_hang_67 : decode cX3_hang 67 = .ok (.iconst 0, 1) := by decide +kernel
theorem dX3_hang_68 : decode cX3_hang 68 = .ok (.istore_n 3, 1) := by decide +kernel
theorem dX3_hang_69 : decode cX3_hang 69 = .ok (.iload_n 3, 1) := by decide +kernel
theorem dX3_hang_70 : decode cX3_hang 70 = .ok (.aload_n 0, 1) := by decide +kernel
theorem dX3_hang_71 : decode cX3_hang 71 = .ok (.getfield 28, 3) := by decide +kernel
theorem dX3_hang_74 : decode cX3_hang 74 = .ok (.if_icmp .ge 23, 3) := by decide +kernel
theorem dX3_hang_77 : decode cX3_hang 77 = .ok (.aload_n 0, 1) := by decide +kernel
theorem dX3_hang_78 : decode cX3_hang 78 = .ok (.aload_n 0, 1) := by decide +kernel
theorem dX3_hang_79 : decode cX3_hang 79 = .ok (.getfield 25, 3) := by decide +kernel
theorem dX3_hang_82 : decode cX3_hang 82 = .ok (.iload_n 3, 1) := by decide +kernel
theorem dX3_hang_83 : decode cX3_hang 83 = .ok (.iaload, 1) := by decide +kernel
theorem dX3_hang_84 : decode cX3_hang 84 = .ok (.iconst 0, 1) := by decide +kernel
theorem dX3_hang_85 : decode cX3_hang 85 = .ok (.iconst 1, 1) := by decide +kernel
theorem dX3_hang_86 : decode cX3_hang 86 = .ok (.iload_n 3, 1) := by decide +kernel
theorem dX3_hang_87 : decode cX3_hang 87 = .ok (.ishl, 1) := by decide +kernel
theorem dX3_hang_88 : decode cX3_hang 88 = .ok (.invokevirtual 35, 3) := by decide +kernel
theorem dX3_hang_91 : decode cX3_hang 91 = .ok (.iinc 3 1, 3) := by decide +kernel
theorem dX3_hang_94 : decode cX3_hang 94 = .ok (.goto (-25), 3) := by decide +kernel
theorem dX3_hang_97 : decode cX3_hang 97 = .ok (.return_, 1) := by decide +kernel
theorem dX3_settle_0 : decode cX3_settle 0 = .ok (.iload_n 1, 1) := by decide +kernel
theorem dX3_settle_1 : decode cX3_settle 1 = .ok (.iconst 0, 1) := by decide +kernel
theorem dX3_settle_2 : decode cX3_settle 2 = .ok (.bipush 15, 2) := by decide +kernel
theorem dX3_settle_4 : decode cX3_settle 4 = .ok (.invokestatic 31, 3) := by decide +kernel
theorem dX3_settle_7 : decode cX3_settle 7 = .ok (.ifCond .eq 46, 3) := by decide +kernel
theorem dX3_settle_10 : decode cX3_settle 10 = .ok (.iload_n 2, 1) := by decide +kernel
theorem dX3_settle_11 : decode cX3_settle 11 = .ok (.invokestatic 39, 3) := by decide +kernel
theorem dX3_settle_14 : decode cX3_settle 14 = .ok (.ifCond .eq 39, 3) := by decide +kernel
theorem dX3_settle_17 : decode cX3_settle 17 = .ok (.aload_n 0, 1) := by decide +kernel
theorem dX3_settle_18 : decode cX3_settle 18 = .ok (.getfield 25, 3) := by decide +kernel
theorem dX3_settle_21 : decode cX3_settle 21 = .ok (.iload_n 1, 1) := by decide +kernel
theorem dX3_settle_22 : decode cX3_settle 22 = .ok (.iload_n 2, 1) := by decide +kernel
theorem dX3_settle_23 : decode cX3_settle 23 = .ok (.iastore, 1) := by decide +kernel
theorem dX3_settle_24 : decode cX3_settle 24 = .ok (.aload_n 0, 1) := by decide +kernel
theorem dX3_settle_25 : decode cX3_settle 25 = .ok (.iload_n 1, 1) := by decide +kernel
theorem dX3_settle_26 : decode cX3_settle 26 = .ok (.iconst 1, 1) := by decide +kernel
theorem dX3_settle_27 : decode cX3_settle 27 = .ok (.iadd, 1) := by decide +kernel
theorem dX3_settle_28 : decode cX3_settle 28 = .ok (.putfield 28, 3) := by decide +kernel
theorem dX3_settle_31 : decode cX3_settle 31 = .ok (.aload_n 0, 1) := by decide +kernel
theorem dX3_settle_32 : decode cX3_settle 32 = .ok (.iload_n 2, 1) := by decide +kernel
theorem dX3_settle_33 : decode cX3_settle 33 = .ok (.iconst 0, 1) := by decide +kernel
theorem dX3_settle_34 : decode cX3_settle 34 = .ok (.iconst 1, 1) := by decide +kernel
theorem dX3_settle_35 : decode cX3_settle 35 = .ok (.iload_n 1, 1) := by decide +kernel
theorem dX3_settle_36 : decode cX3_settle 36 = .ok (.ishl, 1) := by decide +kernel
theorem dX3_settle_37 : decode cX3_settle 37 = .ok (.invokevirtual 35, 3) := by decide +kernel
theorem dX3_settle_40 : decode cX3_settle 40 = .ok (.aload_n 0, 1) := by decide +kernel
theorem dX3_settle_41 : decode cX3_settle 41 = .ok (.getfield 22, 3) := by decide +kernel
theorem dX3_settle_44 : decode cX3_settle 44 = .ok (.bipush 32, 2) := by decide +kernel
theorem dX3_settle_46 : decode cX3_settle 46 = .ok (.dup2, 1) := by decide +kernel
theorem dX3_settle_47 : decode cX3_settle 47 = .ok (.iaload, 1) := by decide +kernel
theorem dX3_settle_48 : decode cX3_settle 48 = .ok (.iconst 1, 1) := by decide +kernel
theorem dX3_settle_49 : decode cX3_settle 49 = .ok (.iload_n 1, 1) := by decide +kernel
theorem dX3_settle_50 : decode cX3_settle 50 = .ok (.ishl, 1) := by decide +kernel
theorem dX3_settle_51 : decode cX3_settle 51 = .ok (.ior, 1) := by decide +kernel
theorem dX3_settle_52 : decode cX3_settle 52 = .ok (.iastore, 1) := by decide +kernel
theorem dX3_settle_53 : decode cX3_settle 53 = .ok (.return_, 1) := by decide +kernel
theorem dX3_climb_0 : decode cX3_climb 0 = .ok (.iload_n 1, 1) := by decide +kernel
theorem dX3_climb_1 : decode cX3_climb 1 = .ok (.istore 4, 2) := by decide +kernel
theorem dX3_climb_3 : decode cX3_climb 3 = .ok (.iconst 0, 1) := by decide +kernel
theorem dX3_climb_4 : decode cX3_climb 4 = .ok (.istore 5, 2) := by decide +kernel
theorem dX3_climb_6 : decode cX3_climb 6 = .ok (.iload 5, 2) := by decide +kernel
theorem dX3_climb_8 : decode cX3_climb 8 = .ok (.bipush 32, 2) := by decide +kernel
theorem dX3_climb_10 : decode cX3_climb 10 = .ok (.if_icmp .ge 51, 3) := by decide +kernel
theorem dX3_climb_13 : decode cX3_climb 13 = .ok (.iload 4, 2) := by decide +kernel
theorem dX3_climb_15 : decode cX3_climb 15 = .ok (.iconst 0, 1) := by decide +kernel
theorem dX3_climb_16 : decode cX3_climb 16 = .ok (.bipush 31, 2) := by decide +kernel
theorem dX3_climb_18 : decode cX3_climb 18 = .ok (.invokestatic 31, 3) := by decide +kernel
theorem dX3_climb_21 : decode cX3_climb 21 = .ok (.ifCond .eq 40, 3) := by decide +kernel
theorem dX3_climb_24 : decode cX3_climb 24 = .ok (.aload_n 0, 1) := by decide +kernel
theorem dX3_climb_25 : decode cX3_climb 25 = .ok (.getfield 19, 3) := by decide +kernel
theorem dX3_climb_28 : decode cX3_climb 28 = .ok (.iload 4, 2) := by decide +kernel
theorem dX3_climb_30 : decode cX3_climb 30 = .ok (.dup2, 1) := by decide +kernel
theorem dX3_climb_31 : decode cX3_climb 31 = .ok (.iaload, 1) := by decide +kernel
theorem dX3_climb_32 : decode cX3_climb 32 = .ok (.iload_n 2, 1) := by decide +kernel
theorem dX3_climb_33 : decode cX3_climb 33 = .ok (.iadd, 1) := by decide +kernel
theorem dX3_climb_34 : decode cX3_climb 34 = .ok (.iastore, 1) := by decide +kernel
theorem dX3_climb_35 : decode cX3_climb 35 = .ok (.aload_n 0, 1) := by decide +kernel
theorem dX3_climb_36 : decode cX3_climb 36 = .ok (.getfield 22, 3) := by decide +kernel
theorem dX3_climb_39 : decode cX3_climb 39 = .ok (.iload 4, 2) := by decide +kernel
theorem dX3_climb_41 : decode cX3_climb 41 = .ok (.dup2, 1) := by decide +kernel
theorem dX3_climb_42 : decode cX3_climb 42 = .ok (.iaload, 1) := by decide +kernel
theorem dX3_climb_43 : decode cX3_climb 43 = .ok (.iload_n 3, 1) := by decide +kernel
theorem dX3_climb_44 : decode cX3_climb 44 = .ok (.ior, 1) := by decide +kernel
theorem dX3_climb_45 : decode cX3_climb 45 = .ok (.iastore, 1) := by decide +kernel
theorem dX3_climb_46 : decode cX3_climb 46 = .ok (.aload_n 0, 1) := by decide +kernel
theorem dX3_climb_47 : decode cX3_climb 47 = .ok (.getfield 15, 3) := by decide +kernel
theorem dX3_climb_50 : decode cX3_climb 50 = .ok (.iload 4, 2) := by decide +kernel
theorem dX3_climb_52 : decode cX3_climb 52 = .ok (.iaload, 1) := by decide +kernel
theorem dX3_climb_53 : decode cX3_climb 53 = .ok (.istore 4, 2) := by decide +kernel
theorem dX3_climb_55 : decode cX3_climb 55 = .ok (.iinc 5 1, 3) := by decide +kernel
theorem dX3_climb_58 : decode cX3_climb 58 = .ok (.goto (-52), 3) := by decide +kernel
theorem dX3_climb_61 : decode cX3_climb 61 = .ok (.return_, 1) := by decide +kernel
theorem dX3_raised_0 : decode cX3_raised 0 = .ok (.iload_n 1, 1) := by decide +kernel
theorem dX3_raised_1 : decode cX3_raised 1 = .ok (.istore_n 3, 1) := by decide +kernel
theorem dX3_raised_2 : decode cX3_raised 2 = .ok (.iconst 0, 1) := by decide +kernel
theorem dX3_raised_3 : decode cX3_raised 3 = .ok (.istore 4, 2) := by decide +kernel
theorem dX3_raised_5 : decode cX3_raised 5 = .ok (.iload 4, 2) := by decide +kernel
theorem dX3_raised_7 : decode cX3_raised 7 = .ok (.iload_n 2, 1) := by decide +kernel
theorem dX3_raised_8 : decode cX3_raised 8 = .ok (.if_icmp .ge 41, 3) := by decide +kernel
theorem dX3_raised_11 : decode cX3_raised 11 = .ok (.iload_n 3, 1) := by decide +kernel
theorem dX3_raised_12 : decode cX3_raised 12 = .ok (.iconst 0, 1) := by decide +kernel
theorem dX3_raised_13 : decode cX3_raised 13 = .ok (.bipush 31, 2) := by decide +kernel
theorem dX3_raised_15 : decode cX3_raised 15 = .ok (.invokestatic 31, 3) := by decide +kernel
theorem dX3_raised_18 : decode cX3_raised 18 = .ok (.ifCond .eq 31, 3) := by decide +kernel
theorem dX3_raised_21 : decode cX3_raised 21 = .ok (.aload_n 0, 1) := by decide +kernel
theorem dX3_raised_22 : decode cX3_raised 22 = .ok (.getfield 15, 3) := by decide +kernel
theorem dX3_raised_25 : decode cX3_raised 25 = .ok (.iload_n 3, 1) := by decide +kernel
theorem dX3_raised_26 : decode cX3_raised 26 = .ok (.iaload, 1) := by decide +kernel
theorem dX3_raised_27 : decode cX3_raised 27 = .ok (.iconst (-1), 1) := by decide +kernel
theorem dX3_raised_28 : decode cX3_raised 28 = .ok (.if_icmp .ne 8, 3) := by decide +kernel
theorem dX3_raised_31 : decode cX3_raised 31 = .ok (.bipush 32, 2) := by decide +kernel
theorem dX3_raised_33 : decode cX3_raised 33 = .ok (.goto 9, 3) := by decide +kernel
theorem dX3_raised_42 : decode cX3_raised 42 = .ok (.istore_n 3, 1) := by decide +kernel
theorem dX3_raised_43 : decode cX3_raised 43 = .ok (.iinc 4 1, 3) := by decide +kernel
theorem dX3_raised_46 : decode cX3_raised 46 = .ok (.goto (-41), 3) := by decide +kernel
theorem dX3_raised_49 : decode cX3_raised 49 = .ok (.iload_n 3, 1) := by decide +kernel
theorem dX3_raised_50 : decode cX3_raised 50 = .ok (.ireturn, 1) := by decide +kernel
theorem dX3_valueOf_0 : decode cX3_valueOf 0 = .ok (.iload_n 1, 1) := by decide +kernel
theorem dX3_valueOf_1 : decode cX3_valueOf 1 = .ok (.ifCond .lt 18, 3) := by decide +kernel
theorem dX3_valueOf_4 : decode cX3_valueOf 4 = .ok (.iload_n 1, 1) := by decide +kernel
theorem dX3_valueOf_5 : decode cX3_valueOf 5 = .ok (.bipush 16, 2) := by decide +kernel
theorem dX3_valueOf_7 : decode cX3_valueOf 7 = .ok (.if_icmp .ge 12, 3) := by decide +kernel
theorem dX3_valueOf_10 : decode cX3_valueOf 10 = .ok (.aload_n 0, 1) := by decide +kernel
theorem dX3_valueOf_11 : decode cX3_valueOf 11 = .ok (.getfield 25, 3) := by decide +kernel
theorem dX3_valueOf_14 : decode cX3_valueOf 14 = .ok (.iload_n 1, 1) := by decide +kernel
theorem dX3_valueOf_15 : decode cX3_valueOf 15 = .ok (.iaload, 1) := by decide +kernel
theorem dX3_valueOf_16 : decode cX3_valueOf 16 = .ok (.goto 4, 3) := by decide +kernel
theorem dX3_valueOf_19 : decode cX3_valueOf 19 = .ok (.iconst 0, 1) := by decide +kernel
theorem dX3_valueOf_20 : decode cX3_valueOf 20 = .ok (.ireturn, 1) := by decide +kernel
theorem dX3_valuesBelow_0 : decode cX3_valuesBelow 0 = .ok (.iload_n 1, 1) := by decide +kernel
theorem dX3_valuesBelow_1 : decode cX3_valuesBelow 1 = .ok (.ifCond .lt 18, 3) := by decide +kernel
theorem dX3_valuesBelow_4 : decode cX3_valuesBelow 4 = .ok (.iload_n 1, 1) := by decide +kernel
theorem dX3_valuesBelow_5 : decode cX3_valuesBelow 5 = .ok (.bipush 32, 2) := by decide +kernel
theorem dX3_valuesBelow_7 : decode cX3_valuesBelow 7 = .ok (.if_icmp .gt 12, 3) := by decide +kernel
theorem dX3_valuesBelow_10 : decode cX3_valuesBelow 10 = .ok (.aload_n 0, 1) := by decide +kernel
theorem dX3_valuesBelow_11 : decode cX3_valuesBelow 11 = .ok (.getfield 19, 3) := by decide +kernel
theorem dX3_valuesBelow_14 : decode cX3_valuesBelow 14 = .ok (.iload_n 1, 1) := by decide +kernel
theorem dX3_valuesBelow_15 : decode cX3_valuesBelow 15 = .ok (.iaload, 1) := by decide +kernel
theorem dX3_valuesBelow_16 : decode cX3_valuesBelow 16 = .ok (.goto 4, 3) := by decide +kernel
theorem dX3_valuesBelow_20 : decode cX3_valuesBelow 20 = .ok (.ireturn, 1) := by decide +kernel
theorem dX4_init_0 : decode cX4_init 0 = .ok (.aload_n 0, 1) := by decide +kernel
theorem dX4_init_1 : decode cX4_init 1 = .ok (.invokespecial 3, 3) := by decide +kernel
theorem dX4_init_4 : decode cX4_init 4 = .ok (.aload_n 0, 1) := by decide +kernel
theorem dX4_init_5 : decode cX4_init 5 = .ok (.iconst 0, 1) := by decide +kernel
theorem dX4_init_6 : decode cX4_init 6 = .ok (.putfield 9, 3) := by decide +kernel
theorem dX4_init_9 : decode cX4_init 9 = .ok (.aload_n 0, 1) := by decide +kernel
theorem dX4_init_10 : decode cX4_init 10 = .ok (.iconst (-1), 1) := by decide +kernel
theorem dX4_init_11 : decode cX4_init 11 = .ok (.putfield 15, 3) := by decide +kernel
theorem dX4_init_14 : decode cX4_init 14 = .ok (.aload_n 0, 1) := by decide +kernel
theorem dX4_init_15 : decode cX4_init 15 = .ok (.iconst 0, 1) := by decide +kernel
theorem dX4_init_16 : decode cX4_init 16 = .ok (.putfield 19, 3) := by decide +kernel
theorem dX4_init_19 : decode cX4_init 19 = .ok (.aload_n 0, 1) := by decide +kernel
theorem dX4_init_20 : decode cX4_init 20 = .ok (.iconst 0, 1) := by decide +kernel
theorem dX4_init_21 : decode cX4_init 21 = .ok (.putfield 22, 3) := by decide +kernel
theorem dX4_init_24 : decode cX4_init 24 = .ok (.aload_n 0, 1) := by decide +kernel
theorem dX4_init_25 : decode cX4_init 25 = .ok (.iconst 0, 1) := by decide +kernel
theorem dX4_init_26 : decode cX4_init 26 = .ok (.putfield 25, 3) := by decide +kernel
theorem dX4_init_29 : decode cX4_init 29 = .ok (.aload_n 0, 1) := by decide +kernel
theorem dX4_init_30 : decode cX4_init 30 = .ok (.iconst (-1), 1) := by decide +kernel
theorem dX4_init_31 : decode cX4_init 31 = .ok (.putfield 28, 3) := by decide +kernel
theorem dX4_init_34 : decode cX4_init 34 = .ok (.aload_n 0, 1) := by decide +kernel
theorem dX4_init_35 : decode cX4_init 35 = .ok (.bipush 7, 2) := by decide +kernel
theorem dX4_init_37 : decode cX4_init 37 = .ok (.newarray .int, 2) := by decide +kernel
theorem dX4_init_39 : decode cX4_init 39 = .ok (.putfield 31, 3) := by decide +kernel
theorem dX4_init_42 : decode cX4_init 42 = .ok (.aload_n 0, 1) := by decide +kernel
theorem dX4_init_43 : decode cX4_init 43 = .ok (.bipush 100, 2) := by decide +kernel
theorem dX4_init_45 : decode cX4_init 45 = .ok (.newarray .int, 2) := by decide +kernel
theorem dX4_init_47 : decode cX4_init 47 = .ok (.putfield 35, 3) := by decide +kernel
theorem dX4_init_50 : decode cX4_init 50 = .ok (.aload_n 0, 1) := by decide +kernel
theorem dX4_init_51 : decode cX4_init 51 = .ok (.iconst 0, 1) := by decide +kernel
theorem dX4_init_52 : decode cX4_init 52 = .ok (.putfield 38, 3) := by decide +kernel
theorem dX4_init_55 : decode cX4_init 55 = .ok (.aload_n 0, 1) := by decide +kernel
theorem dX4_init_56 : decode cX4_init 56 = .ok (.iconst 0, 1) := by decide +kernel
theorem dX4_init_57 : decode cX4_init 57 = .ok (.putfield 41, 3) := by decide +kernel
theorem dX4_init_60 : decode cX4_init 60 = .ok (.aload_n 0, 1) := by decide +kernel
theorem dX4_init_61 : decode cX4_init 61 = .ok (.iconst 0, 1) := by decide +kernel
theorem dX4_init_62 : decode cX4_init 62 = .ok (.putfield 44, 3) := by decide +kernel
theorem dX4_init_65 : decode cX4_init 65 = .ok (.return_, 1) := by decide +kernel
theorem dX5_init_0 : decode cX5_init 0 = .ok (.aload_n 0, 1) := by decide +kernel
theorem dX5_init_1 : decode cX5_init 1 = .ok (.invokespecial 3, 3) := by decide +kernel
theorem dX5_init_4 : decode cX5_init 4 = .ok (.aload_n 0, 1) := by decide +kernel
theorem dX5_init_5 : decode cX5_init 5 = .ok (.iconst 0, 1) := by decide +kernel
theorem dX5_init_6 : decode cX5_init 6 = .ok (.putfield 9, 3) := by decide +kernel
theorem dX5_init_9 : decode cX5_init 9 = .ok (.aload_n 0, 1) := by decide +kernel
theorem dX5_init_10 : decode cX5_init 10 = .ok (.bipush 40, 2) := by decide +kernel
theorem dX5_init_12 : decode cX5_init 12 = .ok (.newarray .int, 2) := by decide +kernel
theorem dX5_init_14 : decode cX5_init 14 = .ok (.putfield 15, 3) := by decide +kernel
theorem dX5_init_17 : decode cX5_init 17 = .ok (.aload_n 0, 1) := by decide +kernel
theorem dX5_init_18 : decode cX5_init 18 = .ok (.bipush 40, 2) := by decide +kernel
theorem dX5_init_20 : decode cX5_init 20 = .ok (.newarray .int, 2) := by decide +kernel
theorem dX5_init_22 : decode cX5_init 22 = .ok (.putfield 19, 3) := by decide +kernel
theorem dX5_init_25 : decode cX5_init 25 = .ok (.return_, 1) := by decide +kernel
theorem dX6_init_0 : decode cX6_init 0 = .ok (.aload_n 0, 1) := by decide +kernel
theorem dX6_init_1 : decode cX6_init 1 = .ok (.invokespecial 3, 3) := by decide +kernel
theorem dX6_init_4 : decode cX6_init 4 = .ok (.aload_n 0, 1) := by decide +kernel
theorem dX6_init_5 : decode cX6_init 5 = .ok (.iconst 0, 1) := by decide +kernel
theorem dX6_init_6 : decode cX6_init 6 = .ok (.putfield 9, 3) := by decide +kernel
theorem dX6_init_9 : decode cX6_init 9 = .ok (.aload_n 0, 1) := by decide +kernel
theorem dX6_init_10 : decode cX6_init 10 = .ok (.iconst 0, 1) := by decide +kernel
theorem dX6_init_11 : decode cX6_init 11 = .ok (.putfield 15, 3) := by decide +kernel
theorem dX6_init_14 : decode cX6_init 14 = .ok (.aload_n 0, 1) := by decide +kernel
theorem dX6_init_15 : decode cX6_init 15 = .ok (.iconst 0, 1) := by decide +kernel
theorem dX6_init_16 : decode cX6_init 16 = .ok (.putfield 18, 3) := by decide +kernel
theorem dX6_init_19 : decode cX6_init 19 = .ok (.aload_n 0, 1) := by decide +kernel
theorem dX6_init_20 : decode cX6_init 20 = .ok (.iconst 0, 1) := by decide +kernel
theorem dX6_init_21 : decode cX6_init 21 = .ok (.putfield 21, 3) := by decide +kernel
theorem dX6_init_24 : decode cX6_init 24 = .ok (.aload_n 0, 1) := by decide +kernel
theorem dX6_init_25 : decode cX6_init 25 = .ok (.bipush 8, 2) := by decide +kernel
theorem dX6_init_27 : decode cX6_init 27 = .ok (.newarray .int, 2) := by decide +kernel
theorem dX6_init_29 : decode cX6_init 29 = .ok (.putfield 24, 3) := by decide +kernel
theorem dX6_init_32 : decode cX6_init 32 = .ok (.aload_n 0, 1) := by decide +kernel
theorem dX6_init_33 : decode cX6_init 33 = .ok (.bipush 8, 2) := by decide +kernel
theorem dX6_init_35 : decode cX6_init 35 = .ok (.newarray .int, 2) := by decide +kernel
theorem dX6_init_37 : decode cX6_init 37 = .ok (.putfield 28, 3) := by decide +kernel
theorem dX6_init_40 : decode cX6_init 40 = .ok (.aload_n 0, 1) := by decide +kernel
theorem dX6_init_41 : decode cX6_init 41 = .ok (.bipush 8, 2) := by decide +kernel
theorem dX6_init_43 : decode cX6_init 43 = .ok (.newarray .int, 2) := by decide +kernel
theorem dX6_init_45 : decode cX6_init 45 = .ok (.putfield 31, 3) := by decide +kernel
theorem dX6_init_48 : decode cX6_init 48 = .ok (.aload_n 0, 1) := by decide +kernel
theorem dX6_init_49 : decode cX6_init 49 = .ok (.sipush 256, 3) := by decide +kernel
theorem dX6_init_52 : decode cX6_init 52 = .ok (.newarray .int, 2) := by decide +kernel
theorem dX6_init_54 : decode cX6_init 54 = .ok (.putfield 34, 3) := by decide +kernel
theorem dX6_init_57 : decode cX6_init 57 = .ok (.aload_n 0, 1) := by decide +kernel
theorem dX6_init_58 : decode cX6_init 58 = .ok (.sipush 256, 3) := by decide +kernel
theorem dX6_init_61 : decode cX6_init 61 = .ok (.newarray .long, 2) := by decide +kernel
theorem dX6_init_63 : decode cX6_init 63 = .ok (.putfield 37, 3) := by decide +kernel
theorem dX6_init_66 : decode cX6_init 66 = .ok (.aload_n 0, 1) := by decide +kernel
theorem dX6_init_67 : decode cX6_init 67 = .ok (.bipush 8, 2) := by decide +kernel
theorem dX6_init_69 : decode cX6_init 69 = .ok (.newarray .int, 2) := by decide +kernel
theorem dX6_init_71 : decode cX6_init 71 = .ok (.putfield 41, 3) := by decide +kernel
theorem dX6_init_74 : decode cX6_init 74 = .ok (.return_, 1) := by decide +kernel
theorem dX7_init_0 : decode cX7_init 0 = .ok (.aload_n 0, 1) := by decide +kernel
theorem dX7_init_1 : decode cX7_init 1 = .ok (.invokespecial 3, 3) := by decide +kernel
theorem dX7_init_4 : decode cX7_init 4 = .ok (.aload_n 0, 1) := by decide +kernel
theorem dX7_init_5 : decode cX7_init 5 = .ok (.iconst 0, 1) := by decide +kernel
theorem dX7_init_6 : decode cX7_init 6 = .ok (.putfield 9, 3) := by decide +kernel
theorem dX7_init_9 : decode cX7_init 9 = .ok (.aload_n 0, 1) := by decide +kernel
theorem dX7_init_10 : decode cX7_init 10 = .ok (.sipush 200, 3) := by decide +kernel
theorem dX7_init_13 : decode cX7_init 13 = .ok (.newarray .int, 2) := by decide +kernel
theorem dX7_init_15 : decode cX7_init 15 = .ok (.putfield 15, 3) := by decide +kernel
theorem dX7_init_18 : decode cX7_init 18 = .ok (.return_, 1) := by decide +kernel
theorem dX7_append_0 : decode cX7_append 0 = .ok (.bipush 24, 2) := by decide +kernel
theorem dX7_append_2 : decode cX7_append 2 = .ok (.istore_n 2, 1) := by decide +kernel
theorem dX7_append_3 : decode cX7_append 3 = .ok (.iload_n 2, 1) := by decide +kernel
theorem dX7_append_4 : decode cX7_append 4 = .ok (.ifCond .lt 45, 3) := by decide +kernel
theorem dX7_append_7 : decode cX7_append 7 = .ok (.aload_n 0, 1) := by decide +kernel
theorem dX7_append_8 : decode cX7_append 8 = .ok (.getfield 9, 3) := by decide +kernel
theorem dX7_append_11 : decode cX7_append 11 = .ok (.sipush 200, 3) := by decide +kernel
theorem dX7_append_14 : decode cX7_append 14 = .ok (.if_icmp .ge 35, 3) := by decide +kernel
theorem dX7_append_17 : decode cX7_append 17 = .ok (.aload_n 0, 1) := by decide +kernel
theorem dX7_append_18 : decode cX7_append 18 = .ok (.getfield 15, 3) := by decide +kernel
theorem dX7_append_21 : decode cX7_append 21 = .ok (.aload_n 0, 1) := by decide +kernel
theorem dX7_append_22 : decode cX7_append 22 = .ok (.getfield 9, 3) := by decide +kernel
theorem dX7_append_25 : decode cX7_append 25 = .ok (.iload_n 1, 1) := by decide +kernel
theorem dX7_append_26 : decode cX7_append 26 = .ok (.iload_n 2, 1) := by decide +kernel
theorem dX7_append_27 : decode cX7_append 27 = .ok (.iushr, 1) := by decide +kernel
theorem dX7_append_28 : decode cX7_append 28 = .ok (.sipush 255, 3) := by decide +kernel
theorem dX7_append_31 : decode cX7_append 31 = .ok (.iand, 1) := by decide +kernel
theorem dX7_append_32 : decode cX7_append 32 = .ok (.iastore, 1) := by decide +kernel
theorem dX7_append_33 : decode cX7_append 33 = .ok (.aload_n 0, 1) := by decide +kernel
theorem dX7_append_34 : decode cX7_append 34 = .ok (.dup, 1) := by decide +kernel
theorem dX7_append_35 : decode cX7_append 35 = .ok (.getfield 9, 3) := by decide +kernel
theorem dX7_append_38 : decode cX7_append 38 = .ok (.iconst 1, 1) := by decide +kernel
theorem dX7_append_39 : decode cX7_append 39 = .ok (.iadd, 1) := by decide +kernel
theorem dX7_append_40 : decode cX7_append 40 = .ok (.putfield 9, 3) := by decide +kernel
theorem dX7_append_43 : decode cX7_append 43 = .ok (.iinc 2 (-8), 3) := by decide +kernel
theorem dX7_append_46 : decode cX7_append 46 = .ok (.goto (-43), 3) := by decide +kernel
theorem dX7_append_49 : decode cX7_append 49 = .ok (.return_, 1) := by decide +kernel
theorem dX8_init_0 : decode cX8_init 0 = .ok (.aload_n 0, 1) := by decide +kernel
theorem dX8_init_1 : decode cX8_init 1 = .ok (.invokespecial 1, 3) := by decide +kernel
theorem dX8_init_4 : decode cX8_init 4 = .ok (.aload_n 0, 1) := by decide +kernel
theorem dX8_init_5 : decode cX8_init 5 = .ok (.iconst 4, 1) := by decide +kernel
theorem dX8_init_6 : decode cX8_init 6 = .ok (.anewarray 9, 3) := by decide +kernel
theorem dX8_init_9 : decode cX8_init 9 = .ok (.putfield 11, 3) := by decide +kernel
theorem dX8_init_12 : decode cX8_init 12 = .ok (.aload_n 0, 1) := by decide +kernel
theorem dX8_init_13 : decode cX8_init 13 = .ok (.bipush 16, 2) := by decide +kernel
theorem dX8_init_15 : decode cX8_init 15 = .ok (.newarray .int, 2) := by decide +kernel
theorem dX8_init_17 : decode cX8_init 17 = .ok (.putfield 15, 3) := by decide +kernel
theorem dX8_init_20 : decode cX8_init 20 = .ok (.aload_n 0, 1) := by decide +kernel
theorem dX8_init_21 : decode cX8_init 21 = .ok (.new 19, 3) := by decide +kernel
theorem dX8_init_24 : decode cX8_init 24 = .ok (.dup, 1) := by decide +kernel
theorem dX8_init_25 : decode cX8_init 25 = .ok (.invokespecial 21, 3) := by decide +kernel
theorem dX8_init_28 : decode cX8_init 28 = .ok (.putfield 22, 3) := by decide +kernel
theorem dX8_init_31 : decode cX8_init 31 = .ok (.aload_n 0, 1) := by decide +kernel
theorem dX8_init_32 : decode cX8_init 32 = .ok (.iconst 4, 1) := by decide +kernel
theorem dX8_init_33 : decode cX8_init 33 = .ok (.anewarray 26, 3) := by decide +kernel
theorem dX8_init_36 : decode cX8_init 36 = .ok (.putfield 28, 3) := by decide +kernel
theorem dX8_init_39 : decode cX8_init 39 = .ok (.aload_n 0, 1) := by decide +kernel
theorem dX8_init_40 : decode cX8_init 40 = .ok (.new 32, 3) := by decide +kernel
theorem dX8_init_43 : decode cX8_init 43 = .ok (.dup, 1) := by decide +kernel
theorem dX8_init_44 : decode cX8_init 44 = .ok (.invokespecial 34, 3) := by decide +kernel
theorem dX8_init_47 : decode cX8_init 47 = .ok (.putfield 35, 3) := by decide +kernel
theorem dX8_init_50 : decode cX8_init 50 = .ok (.aload_n 0, 1) := by decide +kernel
theorem dX8_init_51 : decode cX8_init 51 = .ok (.bipush 8, 2) := by decide +kernel
theorem dX8_init_53 : decode cX8_init 53 = .ok (.anewarray 39, 3) := by decide +kernel
theorem dX8_init_56 : decode cX8_init 56 = .ok (.putfield 41, 3) := by decide +kernel
theorem dX8_init_59 : decode cX8_init 59 = .ok (.aload_n 0, 1) := by decide +kernel
theorem dX8_init_60 : decode cX8_init 60 = .ok (.new 45, 3) := by decide +kernel
theorem dX8_init_63 : decode cX8_init 63 = .ok (.dup, 1) := by decide +kernel
theorem dX8_init_64 : decode cX8_init 64 = .ok (.invokespecial 47, 3) := by decide +kernel
theorem dX8_init_67 : decode cX8_init 67 = .ok (.putfield 48, 3) := by decide +kernel
theorem dX8_init_70 : decode cX8_init 70 = .ok (.aload_n 0, 1) := by decide +kernel
theorem dX8_init_71 : decode cX8_init 71 = .ok (.new 52, 3) := by decide +kernel
theorem dX8_init_74 : decode cX8_init 74 = .ok (.dup, 1) := by decide +kernel
theorem dX8_init_75 : decode cX8_init 75 = .ok (.invokespecial 54, 3) := by decide +kernel
theorem dX8_init_78 : decode cX8_init 78 = .ok (.putfield 55, 3) := by decide +kernel
theorem dX8_init_81 : decode cX8_init 81 = .ok (.aload_n 0, 1) := by decide +kernel
theorem dX8_init_82 : decode cX8_init 82 = .ok (.new 59, 3) := by decide +kernel
theorem dX8_init_85 : decode cX8_init 85 = .ok (.dup, 1) := by decide +kernel
theorem dX8_init_86 : decode cX8_init 86 = .ok (.invokespecial 61, 3) := by decide +kernel
theorem dX8_init_89 : decode cX8_init 89 = .ok (.putfield 62, 3) := by decide +kernel
theorem dX8_init_92 : decode cX8_init 92 = .ok (.aload_n 0, 1) := by decide +kernel
theorem dX8_init_93 : decode cX8_init 93 = .ok (.bipush 7, 2) := by decide +kernel
theorem dX8_init_95 : decode cX8_init 95 = .ok (.newarray .int, 2) := by decide +kernel
theorem dX8_init_97 : decode cX8_init 97 = .ok (.putfield 66, 3) := by decide +kernel
theorem dX8_init_100 : decode cX8_init 100 = .ok (.aload_n 0, 1) := by decide +kernel
theorem dX8_init_101 : decode cX8_init 101 = .ok (.new 39, 3) := by decide +kernel
theorem dX8_init_104 : decode cX8_init 104 = .ok (.dup, 1) := by decide +kernel
theorem dX8_init_105 : decode cX8_init 105 = .ok (.invokespecial 69, 3) := by decide +kernel
theorem dX8_init_108 : decode cX8_init 108 = .ok (.putfield 70, 3) := by decide +kernel
theorem dX8_init_111 : decode cX8_init 111 = .ok (.aload_n 0, 1) := by decide +kernel
theorem dX8_init_112 : decode cX8_init 112 = .ok (.iconst 0, 1) := by decide +kernel
theorem dX8_init_113 : decode cX8_init 113 = .ok (.putfield 74, 3) := by decide +kernel
theorem dX8_init_116 : decode cX8_init 116 = .ok (.aload_n 0, 1) := by decide +kernel
theorem dX8_init_117 : decode cX8_init 117 = .ok (.iconst 0, 1) := by decide +kernel
theorem dX8_init_118 : decode cX8_init 118 = .ok (.putfield 78, 3) := by decide +kernel
theorem dX8_init_121 : decode cX8_init 121 = .ok (.iconst 0, 1) := by decide +kernel
theorem dX8_init_122 : decode cX8_init 122 = .ok (.istore_n 1, 1) := by decide +kernel
theorem dX8_init_123 : decode cX8_init 123 = .ok (.iload_n 1, 1) := by decide +kernel
theorem dX8_init_124 : decode cX8_init 124 = .ok (.iconst 4, 1) := by decide +kernel
theorem dX8_init_125 : decode cX8_init 125 = .ok (.if_icmp .ge 22, 3) := by decide +kernel
theorem dX8_init_128 : decode cX8_init 128 = .ok (.aload_n 0, 1) := by decide +kernel
theorem dX8_init_129 : decode cX8_init 129 = .ok (.getfield 11, 3) := by decide +kernel
theorem dX8_init_132 : decode cX8_init 132 = .ok (.iload_n 1, 1) := by decide +kernel
theorem dX8_init_133 : decode cX8_init 133 = .ok (.new 9, 3) := by decide +kernel
theorem dX8_init_136 : decode cX8_init 136 = .ok (.dup, 1) := by decide +kernel
theorem dX8_init_137 : decode cX8_init 137 = .ok (.invokespecial 81, 3) := by decide +kernel
theorem dX8_init_140 : decode cX8_init 140 = .ok (.aastore, 1) := by decide +kernel
theorem dX8_init_141 : decode cX8_init 141 = .ok (.iinc 1 1, 3) := by decide +kernel
theorem dX8_init_144 : decode cX8_init 144 = .ok (.goto (-21), 3) := by decide +kernel
theorem dX8_init_147 : decode cX8_init 147 = .ok (.iconst 0, 1) := by decide +kernel
theorem dX8_init_148 : decode cX8_init 148 = .ok (.istore_n 1, 1) := by decide +kernel
theorem dX8_init_149 : decode cX8_init 149 = .ok (.iload_n 1, 1) := by decide +kernel
theorem dX8_init_150 : decode cX8_init 150 = .ok (.iconst 4, 1) := by decide +kernel
theorem dX8_init_151 : decode cX8_init 151 = .ok (.if_icmp .ge 22, 3) := by decide +kernel
theorem dX8_init_154 : decode cX8_init 154 = .ok (.aload_n 0, 1) := by decide +kernel
theorem dX8_init_155 : decode cX8_init 155 = .ok (.getfield 28, 3) := by decide +kernel
theorem dX8_init_158 : decode cX8_init 158 = .ok (.iload_n 1, 1) := by decide +kernel
theorem dX8_init_159 : decode cX8_init 159 = .ok (.new 26, 3) := by decide +kernel
theorem dX8_init_162 : decode cX8_init 162 = .ok (.dup, 1) := by decide +kernel
theorem dX8_init_163 : decode cX8_init 163 = .ok (.invokespecial 82, 3) := by decide +kernel
theorem dX8_init_166 : decode cX8_init 166 = .ok (.aastore, 1) := by decide +kernel
theorem dX8_init_167 : decode cX8_init 167 = .ok (.iinc 1 1, 3) := by decide +kernel
theorem dX8_init_170 : decode cX8_init 170 = .ok (.goto (-21), 3) := by decide +kernel
theorem dX8_init_173 : decode cX8_init 173 = .ok (.iconst 0, 1) := by decide +kernel
theorem dX8_init_174 : decode cX8_init 174 = .ok (.istore_n 1, 1) := by decide +kernel
theorem dX8_init_175 : decode cX8_init 175 = .ok (.iload_n 1, 1) := by decide +kernel
theorem dX8_init_176 : decode cX8_init 176 = .ok (.bipush 8, 2) := by decide +kernel
theorem dX8_init_178 : decode cX8_init 178 = .ok (.if_icmp .ge 22, 3) := by decide +kernel
theorem dX8_init_181 : decode cX8_init 181 = .ok (.aload_n 0, 1) := by decide +kernel
theorem dX8_init_182 : decode cX8_init 182 = .ok (.getfield 41, 3) := by decide +kernel
theorem dX8_init_185 : decode cX8_init 185 = .ok (.iload_n 1, 1) := by decide +kernel
theorem dX8_init_186 : decode cX8_init 186 = .ok (.new 39, 3) := by decide +kernel
theorem dX8_init_189 : decode cX8_init 189 = .ok (.dup, 1) := by decide +kernel
theorem dX8_init_190 : decode cX8_init 190 = .ok (.invokespecial 69, 3) := by decide +kernel
theorem dX8_init_193 : decode cX8_init 193 = .ok (.aastore, 1) := by decide +kernel
theorem dX8_init_194 : decode cX8_init 194 = .ok (.iinc 1 1, 3) := by decide +kernel
theorem dX8_init_197 : decode cX8_init 197 = .ok (.goto (-22), 3) := by decide +kernel
theorem dX8_init_200 : decode cX8_init 200 = .ok (.return_, 1) := by decide +kernel
theorem dX8_upper_0 : decode cX8_upper 0 = .ok (.iload_n 1, 1) := by decide +kernel
theorem dX8_upper_1 : decode cX8_upper 1 = .ok (.invokestatic 83, 3) := by decide +kernel
theorem dX8_upper_4 : decode cX8_upper 4 = .ok (.ifCond .eq 13, 3) := by decide +kernel
theorem dX8_upper_7 : decode cX8_upper 7 = .ok (.iload_n 2, 1) := by decide +kernel
theorem dX8_upper_8 : decode cX8_upper 8 = .ok (.iconst 0, 1) := by decide +kernel
theorem dX8_upper_9 : decode cX8_upper 9 = .ok (.bipush 31, 2) := by decide +kernel
theorem dX8_upper_11 : decode cX8_upper 11 = .ok (.invokestatic 87, 3) := by decide +kernel
theorem dX8_upper_14 : decode cX8_upper 14 = .ok (.ifCond .ne 5, 3) := by decide +kernel
theorem dX8_upper_17 : decode cX8_upper 17 = .ok (.iconst 0, 1) := by decide +kernel
theorem dX8_upper_18 : decode cX8_upper 18 = .ok (.ireturn, 1) := by decide +kernel
theorem dX8_upper_19 : decode cX8_upper 19 = .ok (.iload_n 3, 1) := by decide +kernel
theorem dX8_upper_20 : decode cX8_upper 20 = .ok (.iconst (-1), 1) := by decide +kernel
theorem dX8_upper_21 : decode cX8_upper 21 = .ok (.if_icmp .eq 21, 3) := by decide +kernel
theorem dX8_upper_24 : decode cX8_upper 24 = .ok (.iload_n 3, 1) := by decide +kernel
theorem dX8_upper_25 : decode cX8_upper 25 = .ok (.bipush 16, 2) := by decide +kernel
theorem dX8_upper_27 : decode cX8_upper 27 = .ok (.bipush 31, 2) := by decide +kernel
theorem dX8_upper_29 : decode cX8_upper 29 = .ok (.invokestatic 87, 3) := by decide +kernel
theorem dX8_upper_32 : decode cX8_upper 32 = .ok (.ifCond .eq 8, 3) := by decide +kernel
theorem dX8_upper_35 : decode cX8_upper 35 = .ok (.iload_n 3, 1) := by decide +kernel
theorem dX8_upper_36 : decode cX8_upper 36 = .ok (.iload_n 2, 1) := by decide +kernel
theorem dX8_upper_37 : decode cX8_upper 37 = .ok (.if_icmp .gt 5, 3) := by decide +kernel
theorem dX8_upper_40 : decode cX8_upper 40 = .ok (.iconst 0, 1) := by decide +kernel
theorem dX8_upper_41 : decode cX8_upper 41 = .ok (.ireturn, 1) := by decide +kernel
theorem dX8_upper_42 : decode cX8_upper 42 = .ok (.aload_n 0, 1) := by decide +kernel
theorem dX8_upper_43 : decode cX8_upper 43 = .ok (.getfield 11, 3) := by decide +kernel
theorem dX8_upper_46 : decode cX8_upper 46 = .ok (.iload_n 1, 1) := by decide +kernel
theorem dX8_upper_47 : decode cX8_upper 47 = .ok (.aaload, 1) := by decide +kernel
theorem dX8_upper_48 : decode cX8_upper 48 = .ok (.iload_n 2, 1) := by decide +kernel
theorem dX8_upper_49 : decode cX8_upper 49 = .ok (.iload_n 3, 1) := by decide +kernel
theorem dX8_upper_50 : decode cX8_upper 50 = .ok (.invokevirtual 91, 3) := by decide +kernel
theorem dX8_upper_53 : decode cX8_upper 53 = .ok (.aload_n 0, 1) := by decide +kernel
theorem dX8_upper_54 : decode cX8_upper 54 = .ok (.getfield 55, 3) := by decide +kernel
theorem dX8_upper_57 : decode cX8_upper 57 = .ok (.invokevirtual 95, 3) := by decide +kernel
theorem dX8_upper_60 : decode cX8_upper 60 = .ok (.iconst 1, 1) := by decide +kernel
theorem dX8_upper_61 : decode cX8_upper 61 = .ok (.ireturn, 1) := by decide +kernel
theorem dX8_weight_0 : decode cX8_weight 0 = .ok (.iload_n 1, 1) := by decide +kernel
theorem dX8_weight_1 : decode cX8_weight 1 = .ok (.invokestatic 83, 3) := by decide +kernel
theorem dX8_weight_4 : decode cX8_weight 4 = .ok (.ifCond .eq 13, 3) := by decide +kernel
theorem dX8_weight_7 : decode cX8_weight 7 = .ok (.iload_n 2, 1) := by decide +kernel
theorem dX8_weight_8 : decode cX8_weight 8 = .ok (.iconst 0, 1) := by decide +kernel
theorem dX8_weight_9 : decode cX8_weight 9 = .ok (.bipush 99, 2) := by decide +kernel
theorem dX8_weight_11 : decode cX8_weight 11 = .ok (.invokestatic 87, 3) := by decide +kernel
theorem dX8_weight_14 : decode cX8_weight 14 = .ok (.ifCond .ne 5, 3) := by decide +kernel
theorem dX8_weight_17 : decode cX8_weight 17 = .ok (.iconst 0, 1) := by decide +kernel
theorem dX8_weight_18 : decode cX8_weight 18 = .ok (.ireturn, 1) := by decide +kernel
theorem dX8_weight_19 : decode cX8_weight 19 = .ok (.aload_n 0, 1) := by decide +kernel
theorem dX8_weight_20 : decode cX8_weight 20 = .ok (.getfield 11, 3) := by decide +kernel
theorem dX8_weight_23 : decode cX8_weight 23 = .ok (.iload_n 1, 1) := by decide +kernel
theorem dX8_weight_24 : decode cX8_weight 24 = .ok (.aaload, 1) := by decide +kernel
theorem dX8_weight_25 : decode cX8_weight 25 = .ok (.iload_n 2, 1) := by decide +kernel
theorem dX8_weight_26 : decode cX8_weight 26 = .ok (.putfield 98, 3) := by decide +kernel
theorem dX8_weight_29 : decode cX8_weight 29 = .ok (.iconst 1, 1) := by decide +kernel
theorem dX8_weight_30 : decode cX8_weight 30 = .ok (.ireturn, 1) := by decide +kernel
theorem dX8_wish_0 : decode cX8_wish 0 = .ok (.aload_n 0, 1) := by decide +kernel
theorem dX8_wish_1 : decode cX8_wish 1 = .ok (.iload_n 1, 1) := by decide +kernel
theorem dX8_wish_2 : decode cX8_wish 2 = .ok (.invokevirtual 111, 3) := by decide +kernel
theorem dX8_wish_5 : decode cX8_wish 5 = .ok (.ifCond .eq 13, 3) := by decide +kernel
theorem dX8_wish_18 : decode cX8_wish 18 = .ok (.iconst 0, 1) := by decide +kernel
theorem dX8_wish_19 : decode cX8_wish 19 = .ok (.ireturn, 1) := by decide +kernel
theorem dX8_feed_0 : decode cX8_feed 0 = .ok (.aload_n 0, 1) := by decide +kernel
theorem dX8_feed_1 : decode cX8_feed 1 = .ok (.getfield 22, 3) := by decide +kernel
theorem dX8_feed_4 : decode cX8_feed 4 = .ok (.getfield 114, 3) := by decide +kernel
theorem dX8_feed_7 : decode cX8_feed 7 = .ok (.bipush 20, 2) := by decide +kernel
theorem dX8_feed_9 : decode cX8_feed 9 = .ok (.iadd, 1) := by decide +kernel
theorem dX8_feed_10 : decode cX8_feed 10 = .ok (.sipush 200, 3) := by decide +kernel
theorem dX8_feed_13 : decode cX8_feed 13 = .ok (.if_icmp .le 5, 3) := by decide +kernel
theorem dX8_feed_18 : decode cX8_feed 18 = .ok (.aload_n 0, 1) := by decide +kernel
theorem dX8_feed_19 : decode cX8_feed 19 = .ok (.getfield 22, 3) := by decide +kernel
theorem dX8_feed_22 : decode cX8_feed 22 = .ok (.iload_n 1, 1) := by decide +kernel
theorem dX8_feed_23 : decode cX8_feed 23 = .ok (.invokevirtual 117, 3) := by decide +kernel
theorem dX8_feed_26 : decode cX8_feed 26 = .ok (.aload_n 0, 1) := by decide +kernel
theorem dX8_feed_27 : decode cX8_feed 27 = .ok (.getfield 22, 3) := by decide +kernel
theorem dX8_feed_30 : decode cX8_feed 30 = .ok (.iload_n 2, 1) := by decide +kernel
theorem dX8_feed_31 : decode cX8_feed 31 = .ok (.invokevirtual 117, 3) := by decide +kernel
theorem dX8_feed_34 : decode cX8_feed 34 = .ok (.aload_n 0, 1) := by decide +kernel
theorem dX8_feed_35 : decode cX8_feed 35 = .ok (.getfield 22, 3) := by decide +kernel
theorem dX8_feed_38 : decode cX8_feed 38 = .ok (.iload_n 3, 1) := by decide +kernel
theorem dX8_feed_39 : decode cX8_feed 39 = .ok (.invokevirtual 117, 3) := by decide +kernel
theorem dX8_feed_42 : decode cX8_feed 42 = .ok (.aload_n 0, 1) := by decide +kernel
theorem dX8_feed_43 : decode cX8_feed 43 = .ok (.getfield 22, 3) := by decide +kernel
theorem dX8_feed_46 : decode cX8_feed 46 = .ok (.iload 4, 2) := by decide +kernel
theorem dX8_feed_48 : decode cX8_feed 48 = .ok (.invokevirtual 117, 3) := by decide +kernel
theorem dX8_feed_51 : decode cX8_feed 51 = .ok (.aload_n 0, 1) := by decide +kernel
theorem dX8_feed_52 : decode cX8_feed 52 = .ok (.getfield 22, 3) := by decide +kernel
theorem dX8_feed_55 : decode cX8_feed 55 = .ok (.iload 5, 2) := by decide +kernel
theorem dX8_feed_57 : decode cX8_feed 57 = .ok (.invokevirtual 117, 3) := by decide +kernel
theorem dX8_feed_60 : decode cX8_feed 60 = .ok (.aload_n 0, 1) := by decide +kernel
theorem dX8_feed_61 : decode cX8_feed 61 = .ok (.getfield 22, 3) := by decide +kernel
theorem dX8_feed_64 : decode cX8_feed 64 = .ok (.getfield 114, 3) := by decide +kernel
theorem dX8_feed_67 : decode cX8_feed 67 = .ok (.ireturn, 1) := by decide +kernel
theorem dX8_blurred_0 : decode cX8_blurred 0 = .ok (.iload_n 1, 1) := by decide +kernel
theorem dX8_blurred_1 : decode cX8_blurred 1 = .ok (.invokestatic 83, 3) := by decide +kernel
theorem dX8_blurred_4 : decode cX8_blurred 4 = .ok (.ifCond .eq 17, 3) := by decide +kernel
theorem dX8_blurred_7 : decode cX8_blurred 7 = .ok (.iload_n 2, 1) := by decide +kernel
theorem dX8_blurred_8 : decode cX8_blurred 8 = .ok (.invokestatic 101, 3) := by decide +kernel
theorem dX8_blurred_11 : decode cX8_blurred 11 = .ok (.ifCond .eq 10, 3) := by decide +kernel
theorem dX8_blurred_14 : decode cX8_blurred 14 = .ok (.iload_n 3, 1) := by decide +kernel
theorem dX8_blurred_15 : decode cX8_blurred 15 = .ok (.invokestatic 120, 3) := by decide +kernel
theorem dX8_blurred_18 : decode cX8_blurred 18 = .ok (.ifCond .ne 5, 3) := by decide +kernel
theorem dX8_blurred_21 : decode cX8_blurred 21 = .ok (.iconst (-1), 1) := by decide +kernel
theorem dX8_blurred_22 : decode cX8_blurred 22 = .ok (.ireturn, 1) := by decide +kernel
theorem dX8_blurred_23 : decode cX8_blurred 23 = .ok (.aload_n 0, 1) := by decide +kernel
theorem dX8_blurred_24 : decode cX8_blurred 24 = .ok (.getfield 11, 3) := by decide +kernel
theorem dX8_blurred_27 : decode cX8_blurred 27 = .ok (.iload_n 1, 1) := by decide +kernel
theorem dX8_blurred_28 : decode cX8_blurred 28 = .ok (.aaload, 1) := by decide +kernel
theorem dX8_blurred_29 : decode cX8_blurred 29 = .ok (.iload_n 2, 1) := by decide +kernel
theorem dX8_blurred_30 : decode cX8_blurred 30 = .ok (.iload_n 3, 1) := by decide +kernel
theorem dX8_blurred_31 : decode cX8_blurred 31 = .ok (.invokevirtual 123, 3) := by decide +kernel
theorem dX8_blurred_34 : decode cX8_blurred 34 = .ok (.ireturn, 1) := by decide +kernel
theorem dX8_size_0 : decode cX8_size 0 = .ok (.iload_n 1, 1) := by decide +kernel
theorem dX8_size_1 : decode cX8_size 1 = .ok (.invokestatic 83, 3) := by decide +kernel
theorem dX8_size_4 : decode cX8_size 4 = .ok (.ifCond .eq 13, 3) := by decide +kernel
theorem dX8_size_7 : decode cX8_size 7 = .ok (.iload_n 2, 1) := by decide +kernel
theorem dX8_size_8 : decode cX8_size 8 = .ok (.iconst 0, 1) := by decide +kernel
theorem dX8_size_9 : decode cX8_size 9 = .ok (.bipush 32, 2) := by decide +kernel
theorem dX8_size_11 : decode cX8_size 11 = .ok (.invokestatic 87, 3) := by decide +kernel
theorem dX8_size_14 : decode cX8_size 14 = .ok (.ifCond .ne 5, 3) := by decide +kernel
theorem dX8_size_17 : decode cX8_size 17 = .ok (.iconst (-1), 1) := by decide +kernel
theorem dX8_size_18 : decode cX8_size 18 = .ok (.ireturn, 1) := by decide +kernel
theorem dX8_size_19 : decode cX8_size 19 = .ok (.aload_n 0, 1) := by decide +kernel
theorem dX8_size_20 : decode cX8_size 20 = .ok (.getfield 11, 3) := by decide +kernel
theorem dX8_size_23 : decode cX8_size 23 = .ok (.iload_n 1, 1) := by decide +kernel
theorem dX8_size_24 : decode cX8_size 24 = .ok (.aaload, 1) := by decide +kernel
theorem dX8_size_25 : decode cX8_size 25 = .ok (.iload_n 2, 1) := by decide +kernel
theorem dX8_size_26 : decode cX8_size 26 = .ok (.invokevirtual 127, 3) := by decide +kernel
theorem dX8_size_29 : decode cX8_size 29 = .ok (.ireturn, 1) := by decide +kernel
theorem dX8_book_0 : decode cX8_book 0 = .ok (.iload_n 1, 1) := by decide +kernel
theorem dX8_book_1 : decode cX8_book 1 = .ok (.iconst 1, 1) := by decide +kernel
theorem dX8_book_2 : decode cX8_book 2 = .ok (.bipush 8, 2) := by decide +kernel
theorem dX8_book_4 : decode cX8_book 4 = .ok (.invokestatic 87, 3) := by decide +kernel
theorem dX8_book_7 : decode cX8_book 7 = .ok (.ifCond .eq 22, 3) := by decide +kernel
theorem dX8_book_10 : decode cX8_book 10 = .ok (.aload_n 0, 1) := by decide +kernel
theorem dX8_book_11 : decode cX8_book 11 = .ok (.getfield 78, 3) := by decide +kernel
theorem dX8_book_14 : decode cX8_book 14 = .ok (.iconst 4, 1) := by decide +kernel
theorem dX8_book_15 : decode cX8_book 15 = .ok (.if_icmp .ge 14, 3) := by decide +kernel
theorem dX8_book_18 : decode cX8_book 18 = .ok (.aload_n 0, 1) := by decide +kernel
theorem dX8_book_19 : decode cX8_book 19 = .ok (.getfield 22, 3) := by decide +kernel
theorem dX8_book_22 : decode cX8_book 22 = .ok (.getfield 114, 3) := by decide +kernel
theorem dX8_book_25 : decode cX8_book 25 = .ok (.iload_n 1, 1) := by decide +kernel
theorem dX8_book_26 : decode cX8_book 26 = .ok (.if_icmp .ge 5, 3) := by decide +kernel
theorem dX8_book_29 : decode cX8_book 29 = .ok (.iconst (-1), 1) := by decide +kernel
theorem dX8_book_30 : decode cX8_book 30 = .ok (.ireturn, 1) := by decide +kernel
theorem dX8_cut_0 : decode cX8_cut 0 = .ok (.aload_n 0, 1) := by decide +kernel
theorem dX8_cut_1 : decode cX8_cut 1 = .ok (.iload_n 1, 1) := by decide +kernel
theorem dX8_cut_2 : decode cX8_cut 2 = .ok (.iload_n 2, 1) := by decide +kernel
theorem dX8_cut_3 : decode cX8_cut 3 = .ok (.invokevirtual 147, 3) := by decide +kernel
theorem dX8_cut_6 : decode cX8_cut 6 = .ok (.ifCond .ne 5, 3) := by decide +kernel
theorem dX8_cut_9 : decode cX8_cut 9 = .ok (.iconst 0, 1) := by decide +kernel
theorem dX8_cut_10 : decode cX8_cut 10 = .ok (.ireturn, 1) := by decide +kernel
theorem dX8_swap_0 : decode cX8_swap 0 = .ok (.aload_n 0, 1) := by decide +kernel
theorem dX8_swap_1 : decode cX8_swap 1 = .ok (.iload_n 1, 1) := by decide +kernel
theorem dX8_swap_2 : decode cX8_swap 2 = .ok (.iload_n 2, 1) := by decide +kernel
theorem dX8_swap_3 : decode cX8_swap 3 = .ok (.invokevirtual 147, 3) := by decide +kernel
theorem dX8_swap_6 : decode cX8_swap 6 = .ok (.ifCond .eq 25, 3) := by decide +kernel
theorem dX8_swap_31 : decode cX8_swap 31 = .ok (.iconst 0, 1) := by decide +kernel
theorem dX8_swap_32 : decode cX8_swap 32 = .ok (.ireturn, 1) := by decide +kernel
theorem dX8_show_0 : decode cX8_show 0 = .ok (.aload_n 0, 1) := by decide +kernel
theorem dX8_show_1 : decode cX8_show 1 = .ok (.iload_n 1, 1) := by decide +kernel
theorem dX8_show_2 : decode cX8_show 2 = .ok (.invokevirtual 161, 3) := by decide +kernel
theorem dX8_show_5 : decode cX8_show 5 = .ok (.ifCond .eq 16, 3) := by decide +kernel
theorem dX8_show_21 : decode cX8_show 21 = .ok (.iconst 0, 1) := by decide +kernel
theorem dX8_show_22 : decode cX8_show 22 = .ok (.ireturn, 1) := by decide +kernel
theorem dX8_link_0 : decode cX8_link 0 = .ok (.aload_n 0, 1) := by decide +kernel
theorem dX8_link_1 : decode cX8_link 1 = .ok (.iload_n 1, 1) := by decide +kernel
theorem dX8_link_2 : decode cX8_link 2 = .ok (.iload_n 2, 1) := by decide +kernel
theorem dX8_link_3 : decode cX8_link 3 = .ok (.invokevirtual 168, 3) := by decide +kernel
theorem dX8_link_6 : decode cX8_link 6 = .ok (.ifCond .eq 30, 3) := by decide +kernel
theorem dX8_link_36 : decode cX8_link 36 = .ok (.iconst (-1), 1) := by decide +kernel
theorem dX8_link_37 : decode cX8_link 37 = .ok (.ireturn, 1) := by decide +kernel
theorem dX8_gossip_0 : decode cX8_gossip 0 = .ok (.iload_n 1, 1) := by decide +kernel
theorem dX8_gossip_1 : decode cX8_gossip 1 = .ok (.iconst 0, 1) := by decide +kernel
theorem dX8_gossip_2 : decode cX8_gossip 2 = .ok (.bipush 7, 2) := by decide +kernel
theorem dX8_gossip_4 : decode cX8_gossip 4 = .ok (.invokestatic 87, 3) := by decide +kernel
theorem dX8_gossip_7 : decode cX8_gossip 7 = .ok (.ifCond .eq 35, 3) := by decide +kernel
theorem dX8_gossip_10 : decode cX8_gossip 10 = .ok (.aload_n 0, 1) := by decide +kernel
theorem dX8_gossip_11 : decode cX8_gossip 11 = .ok (.iload_n 2, 1) := by decide +kernel
theorem dX8_gossip_12 : decode cX8_gossip 12 = .ok (.iload_n 3, 1) := by decide +kernel
theorem dX8_gossip_13 : decode cX8_gossip 13 = .ok (.invokevirtual 147, 3) := by decide +kernel
theorem dX8_gossip_16 : decode cX8_gossip 16 = .ok (.ifCond .eq 26, 3) := by decide +kernel
theorem dX8_gossip_42 : decode cX8_gossip 42 = .ok (.iconst (-1), 1) := by decide +kernel
theorem dX8_gossip_43 : decode cX8_gossip 43 = .ok (.ireturn, 1) := by decide +kernel
theorem dX8_line_0 : decode cX8_line 0 = .ok (.aload_n 0, 1) := by decide +kernel
theorem dX8_line_1 : decode cX8_line 1 = .ok (.iload_n 1, 1) := by decide +kernel
theorem dX8_line_2 : decode cX8_line 2 = .ok (.iload_n 2, 1) := by decide +kernel
theorem dX8_line_3 : decode cX8_line 3 = .ok (.invokevirtual 168, 3) := by decide +kernel
theorem dX8_line_6 : decode cX8_line 6 = .ok (.ifCond .eq 12, 3) := by decide +kernel
theorem dX8_line_18 : decode cX8_line 18 = .ok (.iconst (-1), 1) := by decide +kernel
theorem dX8_line_19 : decode cX8_line 19 = .ok (.ireturn, 1) := by decide +kernel
theorem dX8_fits_0 : decode cX8_fits 0 = .ok (.aload_n 0, 1) := by decide +kernel
theorem dX8_fits_1 : decode cX8_fits 1 = .ok (.iload_n 1, 1) := by decide +kernel
theorem dX8_fits_2 : decode cX8_fits 2 = .ok (.iload_n 2, 1) := by decide +kernel
theorem dX8_fits_3 : decode cX8_fits 3 = .ok (.invokevirtual 168, 3) := by decide +kernel
theorem dX8_fits_6 : decode cX8_fits 6 = .ok (.ifCond .eq 10, 3) := by decide +kernel
theorem dX8_fits_16 : decode cX8_fits 16 = .ok (.iconst (-1), 1) := by decide +kernel
theorem dX8_fits_17 : decode cX8_fits 17 = .ok (.ireturn, 1) := by decide +kernel
theorem dX8_givings_0 : decode cX8_givings 0 = .ok (.aload_n 0, 1) := by decide +kernel
theorem dX8_givings_1 : decode cX8_givings 1 = .ok (.iload_n 1, 1) := by decide +kernel
theorem dX8_givings_2 : decode cX8_givings 2 = .ok (.invokevirtual 161, 3) := by decide +kernel
theorem dX8_givings_5 : decode cX8_givings 5 = .ok (.ifCond .eq 10, 3) := by decide +kernel
theorem dX8_givings_15 : decode cX8_givings 15 = .ok (.ldc2_w 213, 3) := by decide +kernel
theorem dX8_givings_18 : decode cX8_givings 18 = .ok (.lreturn, 1) := by decide +kernel
theorem dX8_odds_0 : decode cX8_odds 0 = .ok (.aload_n 0, 1) := by decide +kernel
theorem dX8_odds_1 : decode cX8_odds 1 = .ok (.iload_n 1, 1) := by decide +kernel
theorem dX8_odds_2 : decode cX8_odds 2 = .ok (.iload_n 2, 1) := by decide +kernel
theorem dX8_odds_3 : decode cX8_odds 3 = .ok (.invokevirtual 168, 3) := by decide +kernel
theorem dX8_odds_6 : decode cX8_odds 6 = .ok (.ifCond .eq 29, 3) := by decide +kernel
theorem dX8_odds_35 : decode cX8_odds 35 = .ok (.ldc2_w 213, 3) := by decide +kernel
theorem dX8_odds_38 : decode cX8_odds 38 = .ok (.lreturn, 1) := by decide +kernel
theorem dX8_mustBe_0 : decode cX8_mustBe 0 = .ok (.aload_n 0, 1) := by decide +kernel
theorem dX8_mustBe_1 : decode cX8_mustBe 1 = .ok (.iload_n 1, 1) := by decide +kernel
theorem dX8_mustBe_2 : decode cX8_mustBe 2 = .ok (.iload_n 2, 1) := by decide +kernel
theorem dX8_mustBe_3 : decode cX8_mustBe 3 = .ok (.invokevirtual 168, 3) := by decide +kernel
theorem dX8_mustBe_6 : decode cX8_mustBe 6 = .ok (.ifCond .eq 19, 3) := by decide +kernel
theorem dX8_mustBe_25 : decode cX8_mustBe 25 = .ok (.iconst (-1), 1) := by decide +kernel
theorem dX8_mustBe_26 : decode cX8_mustBe 26 = .ok (.ireturn, 1) := by decide +kernel
theorem dX8_giving_0 : decode cX8_giving 0 = .ok (.aload_n 0, 1) := by decide +kernel
theorem dX8_giving_1 : decode cX8_giving 1 = .ok (.iload_n 1, 1) := by decide +kernel
theorem dX8_giving_2 : decode cX8_giving 2 = .ok (.iload_n 2, 1) := by decide +kernel
theorem dX8_giving_3 : decode cX8_giving 3 = .ok (.invokevirtual 168, 3) := by decide +kernel
theorem dX8_giving_6 : decode cX8_giving 6 = .ok (.ifCond .eq 10, 3) := by decide +kernel
theorem dX8_giving_16 : decode cX8_giving 16 = .ok (.iconst (-1), 1) := by decide +kernel
theorem dX8_giving_17 : decode cX8_giving 17 = .ok (.ireturn, 1) := by decide +kernel
theorem dX8_tooFew_0 : decode cX8_tooFew 0 = .ok (.aload_n 0, 1) := by decide +kernel
theorem dX8_tooFew_1 : decode cX8_tooFew 1 = .ok (.iload_n 1, 1) := by decide +kernel
theorem dX8_tooFew_2 : decode cX8_tooFew 2 = .ok (.invokevirtual 161, 3) := by decide +kernel
theorem dX8_tooFew_5 : decode cX8_tooFew 5 = .ok (.ifCond .eq 10, 3) := by decide +kernel
theorem dX8_tooFew_15 : decode cX8_tooFew 15 = .ok (.iconst (-1), 1) := by decide +kernel
theorem dX8_tooFew_16 : decode cX8_tooFew 16 = .ok (.ireturn, 1) := by decide +kernel
theorem dX8_steps_0 : decode cX8_steps 0 = .ok (.aload_n 0, 1) := by decide +kernel
theorem dX8_steps_1 : decode cX8_steps 1 = .ok (.iload_n 1, 1) := by decide +kernel
theorem dX8_steps_2 : decode cX8_steps 2 = .ok (.invokevirtual 161, 3) := by decide +kernel
theorem dX8_steps_5 : decode cX8_steps 5 = .ok (.ifCond .eq 10, 3) := by decide +kernel
theorem dX8_steps_15 : decode cX8_steps 15 = .ok (.iconst (-1), 1) := by decide +kernel
theorem dX8_steps_16 : decode cX8_steps 16 = .ok (.ireturn, 1) := by decide +kernel
theorem dX8_safe_0 : decode cX8_safe 0 = .ok (.aload_n 0, 1) := by decide +kernel
theorem dX8_safe_1 : decode cX8_safe 1 = .ok (.iload_n 1, 1) := by decide +kernel
theorem dX8_safe_2 : decode cX8_safe 2 = .ok (.invokevirtual 161, 3) := by decide +kernel
theorem dX8_safe_5 : decode cX8_safe 5 = .ok (.ifCond .eq 17, 3) := by decide +kernel
theorem dX8_safe_22 : decode cX8_safe 22 = .ok (.iconst (-1), 1) := by decide +kernel
theorem dX8_safe_23 : decode cX8_safe 23 = .ok (.ireturn, 1) := by decide +kernel
theorem dX8_fewest_0 : decode cX8_fewest 0 = .ok (.aload_n 0, 1) := by decide +kernel
theorem dX8_fewest_1 : decode cX8_fewest 1 = .ok (.iload_n 1, 1) := by decide +kernel
theorem dX8_fewest_2 : decode cX8_fewest 2 = .ok (.iload_n 2, 1) := by decide +kernel
theorem dX8_fewest_3 : decode cX8_fewest 3 = .ok (.invokevirtual 168, 3) := by decide +kernel
theorem dX8_fewest_6 : decode cX8_fewest 6 = .ok (.ifCond .eq 12, 3) := by decide +kernel
theorem dX8_fewest_18 : decode cX8_fewest 18 = .ok (.iconst (-1), 1) := by decide +kernel
theorem dX8_fewest_19 : decode cX8_fewest 19 = .ok (.ireturn, 1) := by decide +kernel
theorem dX8_questions_0 : decode cX8_questions 0 = .ok (.aload_n 0, 1) := by decide +kernel
theorem dX8_questions_1 : decode cX8_questions 1 = .ok (.iload_n 1, 1) := by decide +kernel
theorem dX8_questions_2 : decode cX8_questions 2 = .ok (.iload_n 2, 1) := by decide +kernel
theorem dX8_questions_3 : decode cX8_questions 3 = .ok (.invokevirtual 168, 3) := by decide +kernel
theorem dX8_questions_6 : decode cX8_questions 6 = .ok (.ifCond .eq 20, 3) := by decide +kernel
theorem dX8_questions_26 : decode cX8_questions 26 = .ok (.iconst (-1), 1) := by decide +kernel
theorem dX8_questions_27 : decode cX8_questions 27 = .ok (.ireturn, 1) := by decide +kernel
theorem dX8_blurring_0 : decode cX8_blurring 0 = .ok (.iload_n 1, 1) := by decide +kernel
theorem dX8_blurring_1 : decode cX8_blurring 1 = .ok (.iconst 1, 1) := by decide +kernel
theorem dX8_blurring_2 : decode cX8_blurring 2 = .ok (.bipush 8, 2) := by decide +kernel
theorem dX8_blurring_4 : decode cX8_blurring 4 = .ok (.invokestatic 87, 3) := by decide +kernel
theorem dX8_blurring_7 : decode cX8_blurring 7 = .ok (.ifCond .eq 21, 3) := by decide +kernel
theorem dX8_blurring_10 : decode cX8_blurring 10 = .ok (.iload_n 2, 1) := by decide +kernel
theorem dX8_blurring_11 : decode cX8_blurring 11 = .ok (.invokestatic 251, 3) := by decide +kernel
theorem dX8_blurring_14 : decode cX8_blurring 14 = .ok (.ifCond .eq 14, 3) := by decide +kernel
theorem dX8_blurring_17 : decode cX8_blurring 17 = .ok (.iload_n 3, 1) := by decide +kernel
theorem dX8_blurring_18 : decode cX8_blurring 18 = .ok (.iconst 0, 1) := by decide +kernel
theorem dX8_blurring_19 : decode cX8_blurring 19 = .ok (.sipush 9999, 3) := by decide +kernel
theorem dX8_blurring_22 : decode cX8_blurring 22 = .ok (.invokestatic 87, 3) := by decide +kernel
theorem dX8_blurring_25 : decode cX8_blurring 25 = .ok (.ifCond .ne 6, 3) := by decide +kernel
theorem dX8_blurring_28 : decode cX8_blurring 28 = .ok (.bipush (-3), 2) := by decide +kernel
theorem dX8_blurring_30 : decode cX8_blurring 30 = .ok (.ireturn, 1) := by decide +kernel
theorem dX8_blurring_31 : decode cX8_blurring 31 = .ok (.iload 4, 2) := by decide +kernel
theorem dX8_blurring_33 : decode cX8_blurring 33 = .ok (.iconst (-1), 1) := by decide +kernel
theorem dX8_blurring_34 : decode cX8_blurring 34 = .ok (.iconst 4, 1) := by decide +kernel
theorem dX8_blurring_35 : decode cX8_blurring 35 = .ok (.invokestatic 87, 3) := by decide +kernel
theorem dX8_blurring_38 : decode cX8_blurring 38 = .ok (.ifCond .eq 14, 3) := by decide +kernel
theorem dX8_blurring_41 : decode cX8_blurring 41 = .ok (.aload_n 0, 1) := by decide +kernel
theorem dX8_blurring_42 : decode cX8_blurring 42 = .ok (.getfield 22, 3) := by decide +kernel
theorem dX8_blurring_45 : decode cX8_blurring 45 = .ok (.getfield 114, 3) := by decide +kernel
theorem dX8_blurring_48 : decode cX8_blurring 48 = .ok (.iload_n 1, 1) := by decide +kernel
theorem dX8_blurring_49 : decode cX8_blurring 49 = .ok (.if_icmp .ge 6, 3) := by decide +kernel
theorem dX8_blurring_52 : decode cX8_blurring 52 = .ok (.bipush (-3), 2) := by decide +kernel
theorem dX8_blurring_54 : decode cX8_blurring 54 = .ok (.ireturn, 1) := by decide +kernel
theorem dX8_bestSwap_0 : decode cX8_bestSwap 0 = .ok (.aload_n 0, 1) := by decide +kernel
theorem dX8_bestSwap_1 : decode cX8_bestSwap 1 = .ok (.iload_n 1, 1) := by decide +kernel
theorem dX8_bestSwap_2 : decode cX8_bestSwap 2 = .ok (.invokevirtual 161, 3) := by decide +kernel
theorem dX8_bestSwap_5 : decode cX8_bestSwap 5 = .ok (.ifCond .eq 19, 3) := by decide +kernel
theorem dX8_bestSwap_24 : decode cX8_bestSwap 24 = .ok (.iconst (-1), 1) := by decide +kernel
theorem dX8_bestSwap_25 : decode cX8_bestSwap 25 = .ok (.ireturn, 1) := by decide +kernel
theorem dX8_together_0 : decode cX8_together 0 = .ok (.iload_n 1, 1) := by decide +kernel
theorem dX8_together_1 : decode cX8_together 1 = .ok (.invokestatic 251, 3) := by decide +kernel
theorem dX8_together_4 : decode cX8_together 4 = .ok (.ifCond .eq 12, 3) := by decide +kernel
theorem dX8_together_7 : decode cX8_together 7 = .ok (.iload_n 2, 1) := by decide +kernel
theorem dX8_together_8 : decode cX8_together 8 = .ok (.iconst 0, 1) := by decide +kernel
theorem dX8_together_9 : decode cX8_together 9 = .ok (.iconst 2, 1) := by decide +kernel
theorem dX8_together_10 : decode cX8_together 10 = .ok (.invokestatic 87, 3) := by decide +kernel
theorem dX8_together_13 : decode cX8_together 13 = .ok (.ifCond .ne 5, 3) := by decide +kernel
theorem dX8_together_16 : decode cX8_together 16 = .ok (.iconst (-1), 1) := by decide +kernel
theorem dX8_together_17 : decode cX8_together 17 = .ok (.ireturn, 1) := by decide +kernel
theorem dX8_together_18 : decode cX8_together 18 = .ok (.iconst 0, 1) := by decide +kernel
theorem dX8_together_19 : decode cX8_together 19 = .ok (.istore_n 3, 1) := by decide +kernel
theorem dX8_together_20 : decode cX8_together 20 = .ok (.iload_n 3, 1) := by decide +kernel
theorem dX8_together_21 : decode cX8_together 21 = .ok (.aload_n 0, 1) := by decide +kernel
theorem dX8_together_22 : decode cX8_together 22 = .ok (.getfield 78, 3) := by decide +kernel
theorem dX8_together_25 : decode cX8_together 25 = .ok (.if_icmp .ge 68, 3) := by decide +kernel
theorem dX8_together_93 : decode cX8_together 93 = .ok (.bipush (-2), 2) := by decide +kernel
theorem dX8_together_95 : decode cX8_together 95 = .ok (.ireturn, 1) := by decide +kernel
theorem dX8_loss_0 : decode cX8_loss 0 = .ok (.aload_n 0, 1) := by decide +kernel
theorem dX8_loss_1 : decode cX8_loss 1 = .ok (.iload_n 1, 1) := by decide +kernel
theorem dX8_loss_2 : decode cX8_loss 2 = .ok (.invokevirtual 161, 3) := by decide +kernel
theorem dX8_loss_5 : decode cX8_loss 5 = .ok (.ifCond .ne 5, 3) := by decide +kernel
theorem dX8_loss_8 : decode cX8_loss 8 = .ok (.iconst (-1), 1) := by decide +kernel
theorem dX8_loss_9 : decode cX8_loss 9 = .ok (.ireturn, 1) := by decide +kernel
theorem dX8_linesOf_0 : decode cX8_linesOf 0 = .ok (.aload_n 0, 1) := by decide +kernel
theorem dX8_linesOf_1 : decode cX8_linesOf 1 = .ok (.iload_n 1, 1) := by decide +kernel
theorem dX8_linesOf_2 : decode cX8_linesOf 2 = .ok (.invokevirtual 161, 3) := by decide +kernel
theorem dX8_linesOf_5 : decode cX8_linesOf 5 = .ok (.ifCond .eq 18, 3) := by decide +kernel
theorem dX8_linesOf_23 : decode cX8_linesOf 23 = .ok (.iconst (-1), 1) := by decide +kernel
theorem dX8_linesOf_24 : decode cX8_linesOf 24 = .ok (.ireturn, 1) := by decide +kernel
theorem dX8_check_0 : decode cX8_check 0 = .ok (.aload_n 0, 1) := by decide +kernel
theorem dX8_check_1 : decode cX8_check 1 = .ok (.iload_n 1, 1) := by decide +kernel
theorem dX8_check_2 : decode cX8_check 2 = .ok (.iload_n 2, 1) := by decide +kernel
theorem dX8_check_3 : decode cX8_check 3 = .ok (.invokevirtual 147, 3) := by decide +kernel
theorem dX8_check_6 : decode cX8_check 6 = .ok (.ifCond .eq 25, 3) := by decide +kernel
theorem dX8_check_31 : decode cX8_check 31 = .ok (.bipush (-2), 2) := by decide +kernel
theorem dX8_check_33 : decode cX8_check 33 = .ok (.ireturn, 1) := by decide +kernel
theorem dX8_count_0 : decode cX8_count 0 = .ok (.iload_n 1, 1) := by decide +kernel
theorem dX8_count_1 : decode cX8_count 1 = .ok (.tableswitch 75 0 5 #[39, 44, 49, 57, 62, 70], 39) := by decide +kernel
theorem dX8_count_40 : decode cX8_count 40 = .ok (.aload_n 0, 1) := by decide +kernel
theorem dX8_count_41 : decode cX8_count 41 = .ok (.getfield 74, 3) := by decide +kernel
theorem dX8_count_44 : decode cX8_count 44 = .ok (.ireturn, 1) := by decide +kernel
theorem dX8_count_45 : decode cX8_count 45 = .ok (.aload_n 0, 1) := by decide +kernel
theorem dX8_count_46 : decode cX8_count 46 = .ok (.getfield 78, 3) := by decide +kernel
theorem dX8_count_49 : decode cX8_count 49 = .ok (.ireturn, 1) := by decide +kernel
theorem dX8_count_50 : decode cX8_count 50 = .ok (.aload_n 0, 1) := by decide +kernel
theorem dX8_count_51 : decode cX8_count 51 = .ok (.getfield 35, 3) := by decide +kernel
theorem dX8_count_54 : decode cX8_count 54 = .ok (.getfield 171, 3) := by decide +kernel
theorem dX8_count_57 : decode cX8_count 57 = .ok (.ireturn, 1) := by decide +kernel
theorem dX8_count_58 : decode cX8_count 58 = .ok (.aload_n 0, 1) := by decide +kernel
theorem dX8_count_59 : decode cX8_count 59 = .ok (.invokevirtual 316, 3) := by decide +kernel
theorem dX8_count_62 : decode cX8_count 62 = .ok (.ireturn, 1) := by decide +kernel
theorem dX8_count_63 : decode cX8_count 63 = .ok (.aload_n 0, 1) := by decide +kernel
theorem dX8_count_64 : decode cX8_count 64 = .ok (.getfield 22, 3) := by decide +kernel
theorem dX8_count_67 : decode cX8_count 67 = .ok (.getfield 114, 3) := by decide +kernel
theorem dX8_count_70 : decode cX8_count 70 = .ok (.ireturn, 1) := by decide +kernel
theorem dX8_count_71 : decode cX8_count 71 = .ok (.aload_n 0, 1) := by decide +kernel
theorem dX8_count_72 : decode cX8_count 72 = .ok (.invokevirtual 319, 3) := by decide +kernel
theorem dX8_count_75 : decode cX8_count 75 = .ok (.ireturn, 1) := by decide +kernel
theorem dX8_count_76 : decode cX8_count 76 = .ok (.aload_n 0, 1) := by decide +kernel
theorem dX8_count_77 : decode cX8_count 77 = .ok (.iload_n 1, 1) := by decide +kernel
theorem dX8_count_78 : decode cX8_count 78 = .ok (.bipush 10, 2) := by decide +kernel
theorem dX8_count_80 : decode cX8_count 80 = .ok (.isub, 1) := by decide +kernel
theorem dX8_count_81 : decode cX8_count 81 = .ok (.invokevirtual 161, 3) := by decide +kernel
theorem dX8_count_84 : decode cX8_count 84 = .ok (.ifCond .eq 16, 3) := by decide +kernel
theorem dX8_count_100 : decode cX8_count 100 = .ok (.iload_n 1, 1) := by decide +kernel
theorem dX8_count_101 : decode cX8_count 101 = .ok (.bipush 20, 2) := by decide +kernel
theorem dX8_count_103 : decode cX8_count 103 = .ok (.isub, 1) := by decide +kernel
theorem dX8_count_104 : decode cX8_count 104 = .ok (.invokestatic 83, 3) := by decide +kernel
theorem dX8_count_107 : decode cX8_count 107 = .ok (.ifCond .eq 16, 3) := by decide +kernel
theorem dX8_count_110 : decode cX8_count 110 = .ok (.aload_n 0, 1) := by decide +kernel
theorem dX8_count_111 : decode cX8_count 111 = .ok (.getfield 11, 3) := by decide +kernel
theorem dX8_count_114 : decode cX8_count 114 = .ok (.iload_n 1, 1) := by decide +kernel
theorem dX8_count_115 : decode cX8_count 115 = .ok (.bipush 20, 2) := by decide +kernel
theorem dX8_count_117 : decode cX8_count 117 = .ok (.isub, 1) := by decide +kernel
theorem dX8_count_118 : decode cX8_count 118 = .ok (.aaload, 1) := by decide +kernel
theorem dX8_count_119 : decode cX8_count 119 = .ok (.getfield 98, 3) := by decide +kernel
theorem dX8_count_122 : decode cX8_count 122 = .ok (.ireturn, 1) := by decide +kernel
theorem dX8_count_123 : decode cX8_count 123 = .ok (.aload_n 0, 1) := by decide +kernel
theorem dX8_count_124 : decode cX8_count 124 = .ok (.iload_n 1, 1) := by decide +kernel
theorem dX8_count_125 : decode cX8_count 125 = .ok (.bipush 30, 2) := by decide +kernel
theorem dX8_count_127 : decode cX8_count 127 = .ok (.isub, 1) := by decide +kernel
theorem dX8_count_128 : decode cX8_count 128 = .ok (.invokevirtual 111, 3) := by decide +kernel
theorem dX8_count_131 : decode cX8_count 131 = .ok (.ifCond .eq 15, 3) := by decide +kernel
theorem dX8_count_146 : decode cX8_count 146 = .ok (.iconst (-1), 1) := by decide +kernel
theorem dX8_count_147 : decode cX8_count 147 = .ok (.ireturn, 1) := by decide +kernel
theorem dX8_within_0 : decode cX8_within 0 = .ok (.iload_n 0, 1) := by decide +kernel
theorem dX8_within_1 : decode cX8_within 1 = .ok (.iload_n 1, 1) := by decide +kernel
theorem dX8_within_2 : decode cX8_within 2 = .ok (.if_icmp .lt 12, 3) := by decide +kernel
theorem dX8_within_5 : decode cX8_within 5 = .ok (.iload_n 0, 1) := by decide +kernel
theorem dX8_within_6 : decode cX8_within 6 = .ok (.iload_n 2, 1) := by decide +kernel
theorem dX8_within_7 : decode cX8_within 7 = .ok (.if_icmp .gt 7, 3) := by decide +kernel
theorem dX8_within_10 : decode cX8_within 10 = .ok (.iconst 1, 1) := by decide +kernel
theorem dX8_within_11 : decode cX8_within 11 = .ok (.goto 4, 3) := by decide +kernel
theorem dX8_within_14 : decode cX8_within 14 = .ok (.iconst 0, 1) := by decide +kernel
theorem dX8_within_15 : decode cX8_within 15 = .ok (.ireturn, 1) := by decide +kernel
theorem dX8_isColumn_0 : decode cX8_isColumn 0 = .ok (.iload_n 0, 1) := by decide +kernel
theorem dX8_isColumn_1 : decode cX8_isColumn 1 = .ok (.ifCond .lt 12, 3) := by decide +kernel
theorem dX8_isColumn_4 : decode cX8_isColumn 4 = .ok (.iload_n 0, 1) := by decide +kernel
theorem dX8_isColumn_5 : decode cX8_isColumn 5 = .ok (.iconst 4, 1) := by decide +kernel
theorem dX8_isColumn_6 : decode cX8_isColumn 6 = .ok (.if_icmp .ge 7, 3) := by decide +kernel
theorem dX8_isColumn_9 : decode cX8_isColumn 9 = .ok (.iconst 1, 1) := by decide +kernel
theorem dX8_isColumn_10 : decode cX8_isColumn 10 = .ok (.goto 4, 3) := by decide +kernel
theorem dX8_isColumn_13 : decode cX8_isColumn 13 = .ok (.iconst 0, 1) := by decide +kernel
theorem dX8_isColumn_14 : decode cX8_isColumn 14 = .ok (.ireturn, 1) := by decide +kernel
theorem dX8_isValue_0 : decode cX8_isValue 0 = .ok (.iload_n 0, 1) := by decide +kernel
theorem dX8_isValue_1 : decode cX8_isValue 1 = .ok (.iconst 0, 1) := by decide +kernel
theorem dX8_isValue_2 : decode cX8_isValue 2 = .ok (.bipush 15, 2) := by decide +kernel
theorem dX8_isValue_4 : decode cX8_isValue 4 = .ok (.invokestatic 87, 3) := by decide +kernel
theorem dX8_isValue_7 : decode cX8_isValue 7 = .ok (.ireturn, 1) := by decide +kernel
theorem dX8_isLevel_0 : decode cX8_isLevel 0 = .ok (.iload_n 0, 1) := by decide +kernel
theorem dX8_isLevel_1 : decode cX8_isLevel 1 = .ok (.iconst 0, 1) := by decide +kernel
theorem dX8_isLevel_2 : decode cX8_isLevel 2 = .ok (.iconst 4, 1) := by decide +kernel
theorem dX8_isLevel_3 : decode cX8_isLevel 3 = .ok (.invokestatic 87, 3) := by decide +kernel
theorem dX8_isLevel_6 : decode cX8_isLevel 6 = .ok (.ireturn, 1) := by decide +kernel
theorem dX8_isBar_0 : decode cX8_isBar 0 = .ok (.iload_n 0, 1) := by decide +kernel
theorem dX8_isBar_1 : decode cX8_isBar 1 = .ok (.iconst 1, 1) := by decide +kernel
theorem dX8_isBar_2 : decode cX8_isBar 2 = .ok (.bipush 16, 2) := by decide +kernel
theorem dX8_isBar_4 : decode cX8_isBar 4 = .ok (.invokestatic 87, 3) := by decide +kernel
theorem dX8_isBar_7 : decode cX8_isBar 7 = .ok (.ireturn, 1) := by decide +kernel
theorem dX8_areGossips_0 : decode cX8_areGossips 0 = .ok (.iload_n 0, 1) := by decide +kernel
theorem dX8_areGossips_1 : decode cX8_areGossips 1 = .ok (.iconst 0, 1) := by decide +kernel
theorem dX8_areGossips_2 : decode cX8_areGossips 2 = .ok (.sipush 255, 3) := by decide +kernel
theorem dX8_areGossips_5 : decode cX8_areGossips 5 = .ok (.invokestatic 87, 3) := by decide +kernel
theorem dX8_areGossips_8 : decode cX8_areGossips 8 = .ok (.ireturn, 1) := by decide +kernel
theorem dX8_isPerson_0 : decode cX8_isPerson 0 = .ok (.iload_n 1, 1) := by decide +kernel
theorem dX8_isPerson_1 : decode cX8_isPerson 1 = .ok (.ifCond .lt 15, 3) := by decide +kernel
theorem dX8_isPerson_4 : decode cX8_isPerson 4 = .ok (.iload_n 1, 1) := by decide +kernel
theorem dX8_isPerson_5 : decode cX8_isPerson 5 = .ok (.aload_n 0, 1) := by decide +kernel
theorem dX8_isPerson_6 : decode cX8_isPerson 6 = .ok (.getfield 74, 3) := by decide +kernel
theorem dX8_isPerson_9 : decode cX8_isPerson 9 = .ok (.if_icmp .ge 7, 3) := by decide +kernel
theorem dX8_isPerson_12 : decode cX8_isPerson 12 = .ok (.iconst 1, 1) := by decide +kernel
theorem dX8_isPerson_13 : decode cX8_isPerson 13 = .ok (.goto 4, 3) := by decide +kernel
theorem dX8_isPerson_16 : decode cX8_isPerson 16 = .ok (.iconst 0, 1) := by decide +kernel
theorem dX8_isPerson_17 : decode cX8_isPerson 17 = .ok (.ireturn, 1) := by decide +kernel
theorem dX8_isBook_0 : decode cX8_isBook 0 = .ok (.iload_n 1, 1) := by decide +kernel
theorem dX8_isBook_1 : decode cX8_isBook 1 = .ok (.ifCond .lt 15, 3) := by decide +kernel
theorem dX8_isBook_4 : decode cX8_isBook 4 = .ok (.iload_n 1, 1) := by decide +kernel
theorem dX8_isBook_5 : decode cX8_isBook 5 = .ok (.aload_n 0, 1) := by decide +kernel
theorem dX8_isBook_6 : decode cX8_isBook 6 = .ok (.getfield 78, 3) := by decide +kernel
theorem dX8_isBook_9 : decode cX8_isBook 9 = .ok (.if_icmp .ge 7, 3) := by decide +kernel
theorem dX8_isBook_16 : decode cX8_isBook 16 = .ok (.iconst 0, 1) := by decide +kernel
theorem dX8_isBook_17 : decode cX8_isBook 17 = .ok (.ireturn, 1) := by decide +kernel
theorem dX8_isLine_0 : decode cX8_isLine 0 = .ok (.aload_n 0, 1) := by decide +kernel
theorem dX8_isLine_1 : decode cX8_isLine 1 = .ok (.iload_n 1, 1) := by decide +kernel
theorem dX8_isLine_2 : decode cX8_isLine 2 = .ok (.invokevirtual 161, 3) := by decide +kernel
theorem dX8_isLine_5 : decode cX8_isLine 5 = .ok (.ifCond .eq 26, 3) := by decide +kernel
theorem dX8_isLine_31 : decode cX8_isLine 31 = .ok (.iconst 0, 1) := by decide +kernel
theorem dX8_isLine_32 : decode cX8_isLine 32 = .ok (.ireturn, 1) := by decide +kernel
theorem dX8_isLive_0 : decode cX8_isLive 0 = .ok (.aload_n 0, 1) := by decide +kernel
theorem dX8_isLive_1 : decode cX8_isLive 1 = .ok (.iload_n 1, 1) := by decide +kernel
theorem dX8_isLive_2 : decode cX8_isLive 2 = .ok (.iload_n 2, 1) := by decide +kernel
theorem dX8_isLive_3 : decode cX8_isLive 3 = .ok (.invokevirtual 168, 3) := by decide +kernel
theorem dX8_isLive_6 : decode cX8_isLive 6 = .ok (.ifCond .eq 24, 3) := by decide +kernel
theorem dX8_isLive_30 : decode cX8_isLive 30 = .ok (.iconst 0, 1) := by decide +kernel
theorem dX8_isLive_31 : decode cX8_isLive 31 = .ok (.ireturn, 1) := by decide +kernel
theorem dX8_shownBooks_0 : decode cX8_shownBooks 0 = .ok (.iconst 0, 1) := by decide +kernel
theorem dX8_shownBooks_1 : decode cX8_shownBooks 1 = .ok (.istore_n 1, 1) := by decide +kernel
theorem dX8_shownBooks_2 : decode cX8_shownBooks 2 = .ok (.iconst 0, 1) := by decide +kernel
theorem dX8_shownBooks_3 : decode cX8_shownBooks 3 = .ok (.istore_n 2, 1) := by decide +kernel
theorem dX8_shownBooks_4 : decode cX8_shownBooks 4 = .ok (.iload_n 2, 1) := by decide +kernel
theorem dX8_shownBooks_5 : decode cX8_shownBooks 5 = .ok (.aload_n 0, 1) := by decide +kernel
theorem dX8_shownBooks_6 : decode cX8_shownBooks 6 = .ok (.getfield 78, 3) := by decide +kernel
theorem dX8_shownBooks_9 : decode cX8_shownBooks 9 = .ok (.if_icmp .ge 27, 3) := by decide +kernel
theorem dX8_shownBooks_36 : decode cX8_shownBooks 36 = .ok (.iload_n 1, 1) := by decide +kernel
theorem dX8_shownBooks_37 : decode cX8_shownBooks 37 = .ok (.ireturn, 1) := by decide +kernel
theorem dX8_toldGossips_0 : decode cX8_toldGossips 0 = .ok (.iconst 0, 1) := by decide +kernel
theorem dX8_toldGossips_1 : decode cX8_toldGossips 1 = .ok (.istore_n 1, 1) := by decide +kernel
theorem dX8_toldGossips_2 : decode cX8_toldGossips 2 = .ok (.iconst 0, 1) := by decide +kernel
theorem dX8_toldGossips_3 : decode cX8_toldGossips 3 = .ok (.istore_n 2, 1) := by decide +kernel
theorem dX8_toldGossips_4 : decode cX8_toldGossips 4 = .ok (.iload_n 2, 1) := by decide +kernel
theorem dX8_toldGossips_5 : decode cX8_toldGossips 5 = .ok (.bipush 8, 2) := by decide +kernel
theorem dX8_toldGossips_7 : decode cX8_toldGossips 7 = .ok (.if_icmp .ge 27, 3) := by decide +kernel
theorem dX8_toldGossips_10 : decode cX8_toldGossips 10 = .ok (.aload_n 0, 1) := by decide +kernel
theorem dX8_toldGossips_11 : decode cX8_toldGossips 11 = .ok (.getfield 41, 3) := by decide +kernel
theorem dX8_toldGossips_14 : decode cX8_toldGossips 14 = .ok (.iload_n 2, 1) := by decide +kernel
theorem dX8_toldGossips_15 : decode cX8_toldGossips 15 = .ok (.aaload, 1) := by decide +kernel
theorem dX8_toldGossips_16 : decode cX8_toldGossips 16 = .ok (.getfield 325, 3) := by decide +kernel
theorem dX8_toldGossips_19 : decode cX8_toldGossips 19 = .ok (.ifCond .eq 9, 3) := by decide +kernel
theorem dX8_toldGossips_28 : decode cX8_toldGossips 28 = .ok (.iinc 2 1, 3) := by decide +kernel
theorem dX8_toldGossips_31 : decode cX8_toldGossips 31 = .ok (.goto (-27), 3) := by decide +kernel
theorem dX8_toldGossips_34 : decode cX8_toldGossips 34 = .ok (.iload_n 1, 1) := by decide +kernel
theorem dX8_toldGossips_35 : decode cX8_toldGossips 35 = .ok (.ireturn, 1) := by decide +kernel
theorem dX9_in_0 : decode cX9_in 0 = .ok (.iload_n 0, 1) := by decide +kernel
theorem dX9_in_1 : decode cX9_in 1 = .ok (.iload_n 1, 1) := by decide +kernel
theorem dX9_in_2 : decode cX9_in 2 = .ok (.if_icmp .lt 12, 3) := by decide +kernel
theorem dX9_in_5 : decode cX9_in 5 = .ok (.iload_n 0, 1) := by decide +kernel
theorem dX9_in_6 : decode cX9_in 6 = .ok (.iload_n 2, 1) := by decide +kernel
theorem dX9_in_7 : decode cX9_in 7 = .ok (.if_icmp .gt 7, 3) := by decide +kernel
theorem dX9_in_10 : decode cX9_in 10 = .ok (.iconst 1, 1) := by decide +kernel
theorem dX9_in_11 : decode cX9_in 11 = .ok (.goto 4, 3) := by decide +kernel
theorem dX9_in_14 : decode cX9_in 14 = .ok (.iconst 0, 1) := by decide +kernel
theorem dX9_in_15 : decode cX9_in 15 = .ok (.ireturn, 1) := by decide +kernel
theorem dX9_isColumn_0 : decode cX9_isColumn 0 = .ok (.iload_n 0, 1) := by decide +kernel
theorem dX9_isColumn_1 : decode cX9_isColumn 1 = .ok (.ifCond .lt 12, 3) := by decide +kernel
theorem dX9_isColumn_4 : decode cX9_isColumn 4 = .ok (.iload_n 0, 1) := by decide +kernel
theorem dX9_isColumn_5 : decode cX9_isColumn 5 = .ok (.iconst 4, 1) := by decide +kernel
theorem dX9_isColumn_6 : decode cX9_isColumn 6 = .ok (.if_icmp .ge 7, 3) := by decide +kernel
theorem dX9_isColumn_9 : decode cX9_isColumn 9 = .ok (.iconst 1, 1) := by decide +kernel
theorem dX9_isColumn_10 : decode cX9_isColumn 10 = .ok (.goto 4, 3) := by decide +kernel
theorem dX9_isColumn_13 : decode cX9_isColumn 13 = .ok (.iconst 0, 1) := by decide +kernel
theorem dX9_isColumn_14 : decode cX9_isColumn 14 = .ok (.ireturn, 1) := by decide +kernel
theorem dX9_isLevel_0 : decode cX9_isLevel 0 = .ok (.iload_n 0, 1) := by decide +kernel
theorem dX9_isLevel_1 : decode cX9_isLevel 1 = .ok (.ifCond .lt 12, 3) := by decide +kernel
theorem dX9_isLevel_4 : decode cX9_isLevel 4 = .ok (.iload_n 0, 1) := by decide +kernel
theorem dX9_isLevel_5 : decode cX9_isLevel 5 = .ok (.iconst 5, 1) := by decide +kernel
theorem dX9_isLevel_6 : decode cX9_isLevel 6 = .ok (.if_icmp .ge 7, 3) := by decide +kernel
theorem dX9_isLevel_9 : decode cX9_isLevel 9 = .ok (.iconst 1, 1) := by decide +kernel
theorem dX9_isLevel_10 : decode cX9_isLevel 10 = .ok (.goto 4, 3) := by decide +kernel
theorem dX9_isLevel_13 : decode cX9_isLevel 13 = .ok (.iconst 0, 1) := by decide +kernel
theorem dX9_isLevel_14 : decode cX9_isLevel 14 = .ok (.ireturn, 1) := by decide +kernel
theorem dX9_isKnown_0 : decode cX9_isKnown 0 = .ok (.iload_n 0, 1) := by decide +kernel
theorem dX9_isKnown_1 : decode cX9_isKnown 1 = .ok (.ifCond .lt 14, 3) := by decide +kernel
theorem dX9_isKnown_4 : decode cX9_isKnown 4 = .ok (.iload_n 0, 1) := by decide +kernel
theorem dX9_isKnown_5 : decode cX9_isKnown 5 = .ok (.sipush 256, 3) := by decide +kernel
theorem dX9_isKnown_8 : decode cX9_isKnown 8 = .ok (.if_icmp .ge 7, 3) := by decide +kernel
theorem dX9_isKnown_11 : decode cX9_isKnown 11 = .ok (.iconst 1, 1) := by decide +kernel
theorem dX9_isKnown_12 : decode cX9_isKnown 12 = .ok (.goto 4, 3) := by decide +kernel
theorem dX9_isKnown_15 : decode cX9_isKnown 15 = .ok (.iconst 0, 1) := by decide +kernel
theorem dX9_isKnown_16 : decode cX9_isKnown 16 = .ok (.ireturn, 1) := by decide +kernel
theorem dX9_isMany_0 : decode cX9_isMany 0 = .ok (.iload_n 0, 1) := by decide +kernel
theorem dX9_isMany_1 : decode cX9_isMany 1 = .ok (.ifCond .le 13, 3) := by decide +kernel
theorem dX9_isMany_4 : decode cX9_isMany 4 = .ok (.iload_n 0, 1) := by decide +kernel
theorem dX9_isMany_5 : decode cX9_isMany 5 = .ok (.bipush 17, 2) := by decide +kernel
theorem dX9_isMany_7 : decode cX9_isMany 7 = .ok (.if_icmp .ge 7, 3) := by decide +kernel
theorem dX9_isMany_10 : decode cX9_isMany 10 = .ok (.iconst 1, 1) := by decide +kernel
theorem dX9_isMany_11 : decode cX9_isMany 11 = .ok (.goto 4, 3) := by decide +kernel
theorem dX9_isMany_14 : decode cX9_isMany 14 = .ok (.iconst 0, 1) := by decide +kernel
theorem dX9_isMany_15 : decode cX9_isMany 15 = .ok (.ireturn, 1) := by decide +kernel

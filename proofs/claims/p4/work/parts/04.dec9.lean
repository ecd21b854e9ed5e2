theorem dX9_in_0 : decode cX9_in 0 = .ok (.iload_n 0, 1) := by decide +kernel
theorem dX9_in_1 : decode cX9_in 1 = .ok (.iload_n 1, 1) := by decide +kernel
theorem dX9_in_2 : decode cX9_in 2 = .ok (.if_icmp .lt 12, 3) := by decide +kernel
theorem dX9_in_5 : decode cX9_in 5 = .ok (.iload_n 0, 1) := by decide +kernel
theorem dX9_in_6 : decode cX9_in 6 = .ok (.iload_n 2, 1) := by decide +kernel
theorem dX9_in_7 : decode cX9_in 7 = .ok (.if_icmp .gt 7, 3) := by decide +kernel
theorem dX9_in_10 : decode cX9_in 10 = .ok (.iconst 1, 1) := by decide +kernel
theorem dX9_in_11 : decode cX9_in 11 = .ok (.goto 4, 3) := by decide +kernel
theorem dX9_in_14 : decode cX9_in 14 = .ok (.iconst 0, 1) := by decide +kernel
theorem dX9_in_15 : decode cX9_in 15 = .ok (.ireturn, 1) := by decide +kernel
theorem dX9_bits_0 : decode cX9_bits 0 = .ok (.iconst 0, 1) := by decide +kernel
theorem dX9_bits_1 : decode cX9_bits 1 = .ok (.istore_n 1, 1) := by decide +kernel
theorem dX9_bits_2 : decode cX9_bits 2 = .ok (.iconst 0, 1) := by decide +kernel
theorem dX9_bits_3 : decode cX9_bits 3 = .ok (.istore_n 2, 1) := by decide +kernel
theorem dX9_bits_4 : decode cX9_bits 4 = .ok (.iload_n 2, 1) := by decide +kernel
theorem dX9_bits_5 : decode cX9_bits 5 = .ok (.bipush 16, 2) := by decide +kernel
theorem dX9_bits_7 : decode cX9_bits 7 = .ok (.if_icmp .ge 17, 3) := by decide +kernel
theorem dX9_bits_10 : decode cX9_bits 10 = .ok (.iload_n 1, 1) := by decide +kernel
theorem dX9_bits_11 : decode cX9_bits 11 = .ok (.iload_n 0, 1) := by decide +kernel
theorem dX9_bits_12 : decode cX9_bits 12 = .ok (.iload_n 2, 1) := by decide +kernel
theorem dX9_bits_13 : decode cX9_bits 13 = .ok (.ishr, 1) := by decide +kernel
theorem dX9_bits_14 : decode cX9_bits 14 = .ok (.iconst 1, 1) := by decide +kernel
theorem dX9_bits_15 : decode cX9_bits 15 = .ok (.iand, 1) := by decide +kernel
theorem dX9_bits_16 : decode cX9_bits 16 = .ok (.iadd, 1) := by decide +kernel
theorem dX9_bits_17 : decode cX9_bits 17 = .ok (.istore_n 1, 1) := by decide +kernel
theorem dX9_bits_18 : decode cX9_bits 18 = .ok (.iinc 2 1, 3) := by decide +kernel
theorem dX9_bits_21 : decode cX9_bits 21 = .ok (.goto (-17), 3) := by decide +kernel
theorem dX9_bits_24 : decode cX9_bits 24 = .ok (.iload_n 1, 1) := by decide +kernel
theorem dX9_bits_25 : decode cX9_bits 25 = .ok (.ireturn, 1) := by decide +kernel
theorem dX9_isColumn_0 : decode cX9_isColumn 0 = .ok (.iload_n 0, 1) := by decide +kernel
theorem dX9_isColumn_1 : decode cX9_isColumn 1 = .ok (.ifCond .lt 12, 3) := by decide +kernel
theorem dX9_isColumn_4 : decode cX9_isColumn 4 = .ok (.iload_n 0, 1) := by decide +kernel
theorem dX9_isColumn_5 : decode cX9_isColumn 5 = .ok (.iconst 4, 1) := by decide +kernel
theorem dX9_isColumn_6 : decode cX9_isColumn 6 = .ok (.if_icmp .ge 7, 3) := by decide +kernel
theorem dX9_isColumn_9 : decode cX9_isColumn 9 = .ok (.iconst 1, 1) := by decide +kernel
theorem dX9_isColumn_10 : decode cX9_isColumn 10 = .ok (.goto 4, 3) := by decide +kernel
theorem dX9_isColumn_13 : decode cX9_isColumn 13 = .ok (.iconst 0, 1) := by decide +kernel
theorem dX9_isColumn_14 : decode cX9_isColumn 14 = .ok (.ireturn, 1) := by decide +kernel
theorem dX9_isPerson_0 : decode cX9_isPerson 0 = .ok (.iload_n 1, 1) := by decide +kernel
theorem dX9_isPerson_1 : decode cX9_isPerson 1 = .ok (.ifCond .lt 15, 3) := by decide +kernel
theorem dX9_isPerson_4 : decode cX9_isPerson 4 = .ok (.iload_n 1, 1) := by decide +kernel
theorem dX9_isPerson_5 : decode cX9_isPerson 5 = .ok (.aload_n 0, 1) := by decide +kernel
theorem dX9_isPerson_6 : decode cX9_isPerson 6 = .ok (.getfield 107, 3) := by decide +kernel
theorem dX9_isPerson_9 : decode cX9_isPerson 9 = .ok (.if_icmp .ge 7, 3) := by decide +kernel
theorem dX9_isPerson_12 : decode cX9_isPerson 12 = .ok (.iconst 1, 1) := by decide +kernel
theorem dX9_isPerson_13 : decode cX9_isPerson 13 = .ok (.goto 4, 3) := by decide +kernel
theorem dX9_isPerson_16 : decode cX9_isPerson 16 = .ok (.iconst 0, 1) := by decide +kernel
theorem dX9_isPerson_17 : decode cX9_isPerson 17 = .ok (.ireturn, 1) := by decide +kernel
theorem dX9_upper_0 : decode cX9_upper 0 = .ok (.iload_n 1, 1) := by decide +kernel
theorem dX9_upper_1 : decode cX9_upper 1 = .ok (.invokestatic 111, 3) := by decide +kernel
theorem dX9_upper_4 : decode cX9_upper 4 = .ok (.ifCond .eq 34, 3) := by decide +kernel
theorem dX9_upper_7 : decode cX9_upper 7 = .ok (.iload_n 2, 1) := by decide +kernel
theorem dX9_upper_8 : decode cX9_upper 8 = .ok (.iconst 0, 1) := by decide +kernel
theorem dX9_upper_9 : decode cX9_upper 9 = .ok (.bipush 31, 2) := by decide +kernel
theorem dX9_upper_11 : decode cX9_upper 11 = .ok (.invokestatic 115, 3) := by decide +kernel
theorem dX9_upper_14 : decode cX9_upper 14 = .ok (.ifCond .eq 24, 3) := by decide +kernel
theorem dX9_upper_17 : decode cX9_upper 17 = .ok (.iload_n 3, 1) := by decide +kernel
theorem dX9_upper_18 : decode cX9_upper 18 = .ok (.iconst (-1), 1) := by decide +kernel
theorem dX9_upper_19 : decode cX9_upper 19 = .ok (.if_icmp .eq 21, 3) := by decide +kernel
theorem dX9_upper_22 : decode cX9_upper 22 = .ok (.iload_n 3, 1) := by decide +kernel
theorem dX9_upper_23 : decode cX9_upper 23 = .ok (.bipush 16, 2) := by decide +kernel
theorem dX9_upper_25 : decode cX9_upper 25 = .ok (.bipush 31, 2) := by decide +kernel
theorem dX9_upper_27 : decode cX9_upper 27 = .ok (.invokestatic 115, 3) := by decide +kernel
theorem dX9_upper_30 : decode cX9_upper 30 = .ok (.ifCond .eq 8, 3) := by decide +kernel
theorem dX9_upper_33 : decode cX9_upper 33 = .ok (.iload_n 3, 1) := by decide +kernel
theorem dX9_upper_34 : decode cX9_upper 34 = .ok (.iload_n 2, 1) := by decide +kernel
theorem dX9_upper_35 : decode cX9_upper 35 = .ok (.if_icmp .gt 5, 3) := by decide +kernel
theorem dX9_upper_38 : decode cX9_upper 38 = .ok (.iconst 0, 1) := by decide +kernel
theorem dX9_upper_39 : decode cX9_upper 39 = .ok (.ireturn, 1) := by decide +kernel
theorem dX9_upper_40 : decode cX9_upper 40 = .ok (.aload_n 0, 1) := by decide +kernel
theorem dX9_upper_41 : decode cX9_upper 41 = .ok (.getfield 7, 3) := by decide +kernel
theorem dX9_upper_44 : decode cX9_upper 44 = .ok (.bipush 32, 2) := by decide +kernel
theorem dX9_upper_46 : decode cX9_upper 46 = .ok (.iload_n 1, 1) := by decide +kernel
theorem dX9_upper_47 : decode cX9_upper 47 = .ok (.imul, 1) := by decide +kernel
theorem dX9_upper_48 : decode cX9_upper 48 = .ok (.iload_n 2, 1) := by decide +kernel
theorem dX9_upper_49 : decode cX9_upper 49 = .ok (.iadd, 1) := by decide +kernel
theorem dX9_upper_50 : decode cX9_upper 50 = .ok (.iload_n 3, 1) := by decide +kernel
theorem dX9_upper_51 : decode cX9_upper 51 = .ok (.iastore, 1) := by decide +kernel
theorem dX9_upper_52 : decode cX9_upper 52 = .ok (.iconst 1, 1) := by decide +kernel
theorem dX9_upper_53 : decode cX9_upper 53 = .ok (.ireturn, 1) := by decide +kernel
theorem dX9_weight_0 : decode cX9_weight 0 = .ok (.iload_n 1, 1) := by decide +kernel
theorem dX9_weight_1 : decode cX9_weight 1 = .ok (.invokestatic 111, 3) := by decide +kernel
theorem dX9_weight_4 : decode cX9_weight 4 = .ok (.ifCond .eq 13, 3) := by decide +kernel
theorem dX9_weight_7 : decode cX9_weight 7 = .ok (.iload_n 2, 1) := by decide +kernel
theorem dX9_weight_8 : decode cX9_weight 8 = .ok (.iconst 0, 1) := by decide +kernel
theorem dX9_weight_9 : decode cX9_weight 9 = .ok (.bipush 99, 2) := by decide +kernel
theorem dX9_weight_11 : decode cX9_weight 11 = .ok (.invokestatic 115, 3) := by decide +kernel
theorem dX9_weight_14 : decode cX9_weight 14 = .ok (.ifCond .ne 5, 3) := by decide +kernel
theorem dX9_weight_17 : decode cX9_weight 17 = .ok (.iconst 0, 1) := by decide +kernel
theorem dX9_weight_18 : decode cX9_weight 18 = .ok (.ireturn, 1) := by decide +kernel
theorem dX9_weight_19 : decode cX9_weight 19 = .ok (.aload_n 0, 1) := by decide +kernel
theorem dX9_weight_20 : decode cX9_weight 20 = .ok (.getfield 13, 3) := by decide +kernel
theorem dX9_weight_23 : decode cX9_weight 23 = .ok (.iload_n 1, 1) := by decide +kernel
theorem dX9_weight_24 : decode cX9_weight 24 = .ok (.iload_n 2, 1) := by decide +kernel
theorem dX9_weight_25 : decode cX9_weight 25 = .ok (.iastore, 1) := by decide +kernel
theorem dX9_weight_26 : decode cX9_weight 26 = .ok (.iconst 1, 1) := by decide +kernel
theorem dX9_weight_27 : decode cX9_weight 27 = .ok (.ireturn, 1) := by decide +kernel
theorem dX9_person_0 : decode cX9_person 0 = .ok (.iload_n 1, 1) := by decide +kernel
theorem dX9_person_1 : decode cX9_person 1 = .ok (.iconst 0, 1) := by decide +kernel
theorem dX9_person_2 : decode cX9_person 2 = .ok (.bipush 15, 2) := by decide +kernel
theorem dX9_person_4 : decode cX9_person 4 = .ok (.invokestatic 115, 3) := by decide +kernel
theorem dX9_person_7 : decode cX9_person 7 = .ok (.ifCond .eq 43, 3) := by decide +kernel
theorem dX9_person_10 : decode cX9_person 10 = .ok (.iload_n 2, 1) := by decide +kernel
theorem dX9_person_11 : decode cX9_person 11 = .ok (.iconst 0, 1) := by decide +kernel
theorem dX9_person_12 : decode cX9_person 12 = .ok (.bipush 15, 2) := by decide +kernel
theorem dX9_person_14 : decode cX9_person 14 = .ok (.invokestatic 115, 3) := by decide +kernel
theorem dX9_person_17 : decode cX9_person 17 = .ok (.ifCond .eq 33, 3) := by decide +kernel
theorem dX9_person_20 : decode cX9_person 20 = .ok (.iload_n 3, 1) := by decide +kernel
theorem dX9_person_21 : decode cX9_person 21 = .ok (.iconst 0, 1) := by decide +kernel
theorem dX9_person_22 : decode cX9_person 22 = .ok (.bipush 15, 2) := by decide +kernel
theorem dX9_person_24 : decode cX9_person 24 = .ok (.invokestatic 115, 3) := by decide +kernel
theorem dX9_person_27 : decode cX9_person 27 = .ok (.ifCond .eq 23, 3) := by decide +kernel
theorem dX9_person_30 : decode cX9_person 30 = .ok (.iload 4, 2) := by decide +kernel
theorem dX9_person_32 : decode cX9_person 32 = .ok (.iconst 0, 1) := by decide +kernel
theorem dX9_person_33 : decode cX9_person 33 = .ok (.bipush 15, 2) := by decide +kernel
theorem dX9_person_35 : decode cX9_person 35 = .ok (.invokestatic 115, 3) := by decide +kernel
theorem dX9_person_38 : decode cX9_person 38 = .ok (.ifCond .eq 12, 3) := by decide +kernel
theorem dX9_person_41 : decode cX9_person 41 = .ok (.aload_n 0, 1) := by decide +kernel
theorem dX9_person_42 : decode cX9_person 42 = .ok (.getfield 107, 3) := by decide +kernel
theorem dX9_person_45 : decode cX9_person 45 = .ok (.bipush 16, 2) := by decide +kernel
theorem dX9_person_47 : decode cX9_person 47 = .ok (.if_icmp .ne 5, 3) := by decide +kernel
theorem dX9_person_50 : decode cX9_person 50 = .ok (.iconst (-1), 1) := by decide +kernel
theorem dX9_person_51 : decode cX9_person 51 = .ok (.ireturn, 1) := by decide +kernel
theorem dX9_person_52 : decode cX9_person 52 = .ok (.aload_n 0, 1) := by decide +kernel
theorem dX9_person_53 : decode cX9_person 53 = .ok (.getfield 16, 3) := by decide +kernel
theorem dX9_person_56 : decode cX9_person 56 = .ok (.iconst 4, 1) := by decide +kernel
theorem dX9_person_57 : decode cX9_person 57 = .ok (.aload_n 0, 1) := by decide +kernel
theorem dX9_person_58 : decode cX9_person 58 = .ok (.getfield 107, 3) := by decide +kernel
theorem dX9_person_61 : decode cX9_person 61 = .ok (.imul, 1) := by decide +kernel
theorem dX9_person_62 : decode cX9_person 62 = .ok (.iload_n 1, 1) := by decide +kernel
theorem dX9_person_63 : decode cX9_person 63 = .ok (.iastore, 1) := by decide +kernel
theorem dX9_person_64 : decode cX9_person 64 = .ok (.aload_n 0, 1) := by decide +kernel
theorem dX9_person_65 : decode cX9_person 65 = .ok (.getfield 16, 3) := by decide +kernel
theorem dX9_person_68 : decode cX9_person 68 = .ok (.iconst 4, 1) := by decide +kernel
theorem dX9_person_69 : decode cX9_person 69 = .ok (.aload_n 0, 1) := by decide +kernel
theorem dX9_person_70 : decode cX9_person 70 = .ok (.getfield 107, 3) := by decide +kernel
theorem dX9_person_73 : decode cX9_person 73 = .ok (.imul, 1) := by decide +kernel
theorem dX9_person_74 : decode cX9_person 74 = .ok (.iconst 1, 1) := by decide +kernel
theorem dX9_person_75 : decode cX9_person 75 = .ok (.iadd, 1) := by decide +kernel
theorem dX9_person_76 : decode cX9_person 76 = .ok (.iload_n 2, 1) := by decide +kernel
theorem dX9_person_77 : decode cX9_person 77 = .ok (.iastore, 1) := by decide +kernel
theorem dX9_person_78 : decode cX9_person 78 = .ok (.aload_n 0, 1) := by decide +kernel
theorem dX9_person_79 : decode cX9_person 79 = .ok (.getfield 16, 3) := by decide +kernel
theorem dX9_person_82 : decode cX9_person 82 = .ok (.iconst 4, 1) := by decide +kernel
theorem dX9_person_83 : decode cX9_person 83 = .ok (.aload_n 0, 1) := by decide +kernel
theorem dX9_person_84 : decode cX9_person 84 = .ok (.getfield 107, 3) := by decide +kernel
theorem dX9_person_87 : decode cX9_person 87 = .ok (.imul, 1) := by decide +kernel
theorem dX9_person_88 : decode cX9_person 88 = .ok (.iconst 2, 1) := by decide +kernel
theorem dX9_person_89 : decode cX9_person 89 = .ok (.iadd, 1) := by decide +kernel
theorem dX9_person_90 : decode cX9_person 90 = .ok (.iload_n 3, 1) := by decide +kernel
theorem dX9_person_91 : decode cX9_person 91 = .ok (.iastore, 1) := by decide +kernel
theorem dX9_person_92 : decode cX9_person 92 = .ok (.aload_n 0, 1) := by decide +kernel
theorem dX9_person_93 : decode cX9_person 93 = .ok (.getfield 16, 3) := by decide +kernel
theorem dX9_person_96 : decode cX9_person 96 = .ok (.iconst 4, 1) := by decide +kernel
theorem dX9_person_97 : decode cX9_person 97 = .ok (.aload_n 0, 1) := by decide +kernel
theorem dX9_person_98 : decode cX9_person 98 = .ok (.getfield 107, 3) := by decide +kernel
theorem dX9_person_101 : decode cX9_person 101 = .ok (.imul, 1) := by decide +kernel
theorem dX9_person_102 : decode cX9_person 102 = .ok (.iconst 3, 1) := by decide +kernel
theorem dX9_person_103 : decode cX9_person 103 = .ok (.iadd, 1) := by decide +kernel
theorem dX9_person_104 : decode cX9_person 104 = .ok (.iload 4, 2) := by decide +kernel
theorem dX9_person_106 : decode cX9_person 106 = .ok (.iastore, 1) := by decide +kernel
theorem dX9_person_107 : decode cX9_person 107 = .ok (.aload_n 0, 1) := by decide +kernel
theorem dX9_person_108 : decode cX9_person 108 = .ok (.aload_n 0, 1) := by decide +kernel
theorem dX9_person_109 : decode cX9_person 109 = .ok (.getfield 107, 3) := by decide +kernel
theorem dX9_person_112 : decode cX9_person 112 = .ok (.iconst 1, 1) := by decide +kernel
theorem dX9_person_113 : decode cX9_person 113 = .ok (.iadd, 1) := by decide +kernel
theorem dX9_person_114 : decode cX9_person 114 = .ok (.putfield 107, 3) := by decide +kernel
theorem dX9_person_117 : decode cX9_person 117 = .ok (.aload_n 0, 1) := by decide +kernel
theorem dX9_person_118 : decode cX9_person 118 = .ok (.getfield 107, 3) := by decide +kernel
theorem dX9_person_121 : decode cX9_person 121 = .ok (.iconst 1, 1) := by decide +kernel
theorem dX9_person_122 : decode cX9_person 122 = .ok (.isub, 1) := by decide +kernel
theorem dX9_person_123 : decode cX9_person 123 = .ok (.ireturn, 1) := by decide +kernel
theorem dX9_wish_0 : decode cX9_wish 0 = .ok (.aload_n 0, 1) := by decide +kernel
theorem dX9_wish_1 : decode cX9_wish 1 = .ok (.iload_n 1, 1) := by decide +kernel
theorem dX9_wish_2 : decode cX9_wish 2 = .ok (.invokevirtual 119, 3) := by decide +kernel
theorem dX9_wish_5 : decode cX9_wish 5 = .ok (.ifCond .eq 13, 3) := by decide +kernel
theorem dX9_wish_8 : decode cX9_wish 8 = .ok (.iload_n 2, 1) := by decide +kernel
theorem dX9_wish_9 : decode cX9_wish 9 = .ok (.iconst 0, 1) := by decide +kernel
theorem dX9_wish_10 : decode cX9_wish 10 = .ok (.bipush 16, 2) := by decide +kernel
theorem dX9_wish_12 : decode cX9_wish 12 = .ok (.invokestatic 115, 3) := by decide +kernel
theorem dX9_wish_15 : decode cX9_wish 15 = .ok (.ifCond .ne 5, 3) := by decide +kernel
theorem dX9_wish_18 : decode cX9_wish 18 = .ok (.iconst 0, 1) := by decide +kernel
theorem dX9_wish_19 : decode cX9_wish 19 = .ok (.ireturn, 1) := by decide +kernel
theorem dX9_wish_20 : decode cX9_wish 20 = .ok (.aload_n 0, 1) := by decide +kernel
theorem dX9_wish_21 : decode cX9_wish 21 = .ok (.getfield 19, 3) := by decide +kernel
theorem dX9_wish_24 : decode cX9_wish 24 = .ok (.iload_n 1, 1) := by decide +kernel
theorem dX9_wish_25 : decode cX9_wish 25 = .ok (.iload_n 2, 1) := by decide +kernel
theorem dX9_wish_26 : decode cX9_wish 26 = .ok (.iastore, 1) := by decide +kernel
theorem dX9_wish_27 : decode cX9_wish 27 = .ok (.iconst 1, 1) := by decide +kernel
theorem dX9_wish_28 : decode cX9_wish 28 = .ok (.ireturn, 1) := by decide +kernel
theorem dX9_blurs_0 : decode cX9_blurs 0 = .ok (.iload_n 2, 1) := by decide +kernel
theorem dX9_blurs_1 : decode cX9_blurs 1 = .ok (.istore 4, 2) := by decide +kernel
theorem dX9_blurs_3 : decode cX9_blurs 3 = .ok (.iconst 0, 1) := by decide +kernel
theorem dX9_blurs_4 : decode cX9_blurs 4 = .ok (.istore 5, 2) := by decide +kernel
theorem dX9_blurs_6 : decode cX9_blurs 6 = .ok (.iload 5, 2) := by decide +kernel
theorem dX9_blurs_8 : decode cX9_blurs 8 = .ok (.iload_n 3, 1) := by decide +kernel
theorem dX9_blurs_9 : decode cX9_blurs 9 = .ok (.if_icmp .ge 51, 3) := by decide +kernel
theorem dX9_blurs_12 : decode cX9_blurs 12 = .ok (.iload 4, 2) := by decide +kernel
theorem dX9_blurs_14 : decode cX9_blurs 14 = .ok (.bipush 32, 2) := by decide +kernel
theorem dX9_blurs_16 : decode cX9_blurs 16 = .ok (.if_icmp .eq 44, 3) := by decide +kernel
theorem dX9_blurs_19 : decode cX9_blurs 19 = .ok (.aload_n 0, 1) := by decide +kernel
theorem dX9_blurs_20 : decode cX9_blurs 20 = .ok (.getfield 7, 3) := by decide +kernel
theorem dX9_blurs_23 : decode cX9_blurs 23 = .ok (.bipush 32, 2) := by decide +kernel
theorem dX9_blurs_25 : decode cX9_blurs 25 = .ok (.iload_n 1, 1) := by decide +kernel
theorem dX9_blurs_26 : decode cX9_blurs 26 = .ok (.imul, 1) := by decide +kernel
theorem dX9_blurs_27 : decode cX9_blurs 27 = .ok (.iload 4, 2) := by decide +kernel
theorem dX9_blurs_29 : decode cX9_blurs 29 = .ok (.iadd, 1) := by decide +kernel
theorem dX9_blurs_30 : decode cX9_blurs 30 = .ok (.iaload, 1) := by decide +kernel
theorem dX9_blurs_31 : decode cX9_blurs 31 = .ok (.iconst (-1), 1) := by decide +kernel
theorem dX9_blurs_32 : decode cX9_blurs 32 = .ok (.if_icmp .ne 8, 3) := by decide +kernel
theorem dX9_blurs_35 : decode cX9_blurs 35 = .ok (.bipush 32, 2) := by decide +kernel
theorem dX9_blurs_37 : decode cX9_blurs 37 = .ok (.goto 15, 3) := by decide +kernel
theorem dX9_blurs_40 : decode cX9_blurs 40 = .ok (.aload_n 0, 1) := by decide +kernel
theorem dX9_blurs_41 : decode cX9_blurs 41 = .ok (.getfield 7, 3) := by decide +kernel
theorem dX9_blurs_44 : decode cX9_blurs 44 = .ok (.bipush 32, 2) := by decide +kernel
theorem dX9_blurs_46 : decode cX9_blurs 46 = .ok (.iload_n 1, 1) := by decide +kernel
theorem dX9_blurs_47 : decode cX9_blurs 47 = .ok (.imul, 1) := by decide +kernel
theorem dX9_blurs_48 : decode cX9_blurs 48 = .ok (.iload 4, 2) := by decide +kernel
theorem dX9_blurs_50 : decode cX9_blurs 50 = .ok (.iadd, 1) := by decide +kernel
theorem dX9_blurs_51 : decode cX9_blurs 51 = .ok (.iaload, 1) := by decide +kernel
theorem dX9_blurs_52 : decode cX9_blurs 52 = .ok (.istore 4, 2) := by decide +kernel
theorem dX9_blurs_54 : decode cX9_blurs 54 = .ok (.iinc 5 1, 3) := by decide +kernel
theorem dX9_blurs_57 : decode cX9_blurs 57 = .ok (.goto (-51), 3) := by decide +kernel
theorem dX9_blurs_60 : decode cX9_blurs 60 = .ok (.iload 4, 2) := by decide +kernel
theorem dX9_blurs_62 : decode cX9_blurs 62 = .ok (.ireturn, 1) := by decide +kernel
theorem dX9_blurred_0 : decode cX9_blurred 0 = .ok (.iload_n 1, 1) := by decide +kernel
theorem dX9_blurred_1 : decode cX9_blurred 1 = .ok (.invokestatic 111, 3) := by decide +kernel
theorem dX9_blurred_4 : decode cX9_blurred 4 = .ok (.ifCond .eq 32, 3) := by decide +kernel
theorem dX9_blurred_7 : decode cX9_blurred 7 = .ok (.iload_n 2, 1) := by decide +kernel
theorem dX9_blurred_8 : decode cX9_blurred 8 = .ok (.iconst 0, 1) := by decide +kernel
theorem dX9_blurred_9 : decode cX9_blurred 9 = .ok (.bipush 15, 2) := by decide +kernel
theorem dX9_blurred_11 : decode cX9_blurred 11 = .ok (.invokestatic 115, 3) := by decide +kernel
theorem dX9_blurred_14 : decode cX9_blurred 14 = .ok (.ifCond .eq 22, 3) := by decide +kernel
theorem dX9_blurred_17 : decode cX9_blurred 17 = .ok (.iload_n 3, 1) := by decide +kernel
theorem dX9_blurred_18 : decode cX9_blurred 18 = .ok (.iconst 0, 1) := by decide +kernel
theorem dX9_blurred_19 : decode cX9_blurred 19 = .ok (.iconst 4, 1) := by decide +kernel
theorem dX9_blurred_20 : decode cX9_blurred 20 = .ok (.invokestatic 115, 3) := by decide +kernel
theorem dX9_blurred_23 : decode cX9_blurred 23 = .ok (.ifCond .eq 13, 3) := by decide +kernel
theorem dX9_blurred_26 : decode cX9_blurred 26 = .ok (.aload_n 0, 1) := by decide +kernel
theorem dX9_blurred_27 : decode cX9_blurred 27 = .ok (.iload_n 1, 1) := by decide +kernel
theorem dX9_blurred_28 : decode cX9_blurred 28 = .ok (.iload_n 2, 1) := by decide +kernel
theorem dX9_blurred_29 : decode cX9_blurred 29 = .ok (.iload_n 3, 1) := by decide +kernel
theorem dX9_blurred_30 : decode cX9_blurred 30 = .ok (.invokevirtual 122, 3) := by decide +kernel
theorem dX9_blurred_33 : decode cX9_blurred 33 = .ok (.goto 4, 3) := by decide +kernel
theorem dX9_blurred_36 : decode cX9_blurred 36 = .ok (.iconst (-1), 1) := by decide +kernel
theorem dX9_blurred_37 : decode cX9_blurred 37 = .ok (.ireturn, 1) := by decide +kernel
theorem dX9_isBelow_0 : decode cX9_isBelow 0 = .ok (.iload_n 3, 1) := by decide +kernel
theorem dX9_isBelow_1 : decode cX9_isBelow 1 = .ok (.bipush 32, 2) := by decide +kernel
theorem dX9_isBelow_3 : decode cX9_isBelow 3 = .ok (.if_icmp .ne 5, 3) := by decide +kernel
theorem dX9_isBelow_6 : decode cX9_isBelow 6 = .ok (.iconst 1, 1) := by decide +kernel
theorem dX9_isBelow_7 : decode cX9_isBelow 7 = .ok (.ireturn, 1) := by decide +kernel
theorem dX9_isBelow_8 : decode cX9_isBelow 8 = .ok (.iload_n 2, 1) := by decide +kernel
theorem dX9_isBelow_9 : decode cX9_isBelow 9 = .ok (.istore 4, 2) := by decide +kernel
theorem dX9_isBelow_11 : decode cX9_isBelow 11 = .ok (.iload 4, 2) := by decide +kernel
theorem dX9_isBelow_13 : decode cX9_isBelow 13 = .ok (.iconst (-1), 1) := by decide +kernel
theorem dX9_isBelow_14 : decode cX9_isBelow 14 = .ok (.if_icmp .eq 26, 3) := by decide +kernel
theorem dX9_isBelow_17 : decode cX9_isBelow 17 = .ok (.iload 4, 2) := by decide +kernel
theorem dX9_isBelow_19 : decode cX9_isBelow 19 = .ok (.iload_n 3, 1) := by decide +kernel
theorem dX9_isBelow_20 : decode cX9_isBelow 20 = .ok (.if_icmp .eq 20, 3) := by decide +kernel
theorem dX9_isBelow_23 : decode cX9_isBelow 23 = .ok (.aload_n 0, 1) := by decide +kernel
theorem dX9_isBelow_24 : decode cX9_isBelow 24 = .ok (.getfield 7, 3) := by decide +kernel
theorem dX9_isBelow_27 : decode cX9_isBelow 27 = .ok (.bipush 32, 2) := by decide +kernel
theorem dX9_isBelow_29 : decode cX9_isBelow 29 = .ok (.iload_n 1, 1) := by decide +kernel
theorem dX9_isBelow_30 : decode cX9_isBelow 30 = .ok (.imul, 1) := by decide +kernel
theorem dX9_isBelow_31 : decode cX9_isBelow 31 = .ok (.iload 4, 2) := by decide +kernel
theorem dX9_isBelow_33 : decode cX9_isBelow 33 = .ok (.iadd, 1) := by decide +kernel
theorem dX9_isBelow_34 : decode cX9_isBelow 34 = .ok (.iaload, 1) := by decide +kernel
theorem dX9_isBelow_35 : decode cX9_isBelow 35 = .ok (.istore 4, 2) := by decide +kernel
theorem dX9_isBelow_37 : decode cX9_isBelow 37 = .ok (.goto (-26), 3) := by decide +kernel
theorem dX9_isBelow_40 : decode cX9_isBelow 40 = .ok (.iload 4, 2) := by decide +kernel
theorem dX9_isBelow_42 : decode cX9_isBelow 42 = .ok (.iload_n 3, 1) := by decide +kernel
theorem dX9_isBelow_43 : decode cX9_isBelow 43 = .ok (.if_icmp .ne 7, 3) := by decide +kernel
theorem dX9_isBelow_46 : decode cX9_isBelow 46 = .ok (.iconst 1, 1) := by decide +kernel
theorem dX9_isBelow_47 : decode cX9_isBelow 47 = .ok (.goto 4, 3) := by decide +kernel
theorem dX9_isBelow_50 : decode cX9_isBelow 50 = .ok (.iconst 0, 1) := by decide +kernel
theorem dX9_isBelow_51 : decode cX9_isBelow 51 = .ok (.ireturn, 1) := by decide +kernel
theorem dX9_sizeOf_0 : decode cX9_sizeOf 0 = .ok (.iconst 0, 1) := by decide +kernel
theorem dX9_sizeOf_1 : decode cX9_sizeOf 1 = .ok (.istore_n 3, 1) := by decide +kernel
theorem dX9_sizeOf_2 : decode cX9_sizeOf 2 = .ok (.iconst 0, 1) := by decide +kernel
theorem dX9_sizeOf_3 : decode cX9_sizeOf 3 = .ok (.istore 4, 2) := by decide +kernel
theorem dX9_sizeOf_5 : decode cX9_sizeOf 5 = .ok (.iload 4, 2) := by decide +kernel
theorem dX9_sizeOf_7 : decode cX9_sizeOf 7 = .ok (.bipush 16, 2) := by decide +kernel
theorem dX9_sizeOf_9 : decode cX9_sizeOf 9 = .ok (.if_icmp .ge 28, 3) := by decide +kernel
theorem dX9_sizeOf_12 : decode cX9_sizeOf 12 = .ok (.iload_n 3, 1) := by decide +kernel
theorem dX9_sizeOf_13 : decode cX9_sizeOf 13 = .ok (.aload_n 0, 1) := by decide +kernel
theorem dX9_sizeOf_14 : decode cX9_sizeOf 14 = .ok (.iload_n 1, 1) := by decide +kernel
theorem dX9_sizeOf_15 : decode cX9_sizeOf 15 = .ok (.iload 4, 2) := by decide +kernel
theorem dX9_sizeOf_17 : decode cX9_sizeOf 17 = .ok (.iload_n 2, 1) := by decide +kernel
theorem dX9_sizeOf_18 : decode cX9_sizeOf 18 = .ok (.invokevirtual 126, 3) := by decide +kernel
theorem dX9_sizeOf_21 : decode cX9_sizeOf 21 = .ok (.ifCond .eq 7, 3) := by decide +kernel
theorem dX9_sizeOf_24 : decode cX9_sizeOf 24 = .ok (.iconst 1, 1) := by decide +kernel
theorem dX9_sizeOf_25 : decode cX9_sizeOf 25 = .ok (.goto 4, 3) := by decide +kernel
theorem dX9_sizeOf_28 : decode cX9_sizeOf 28 = .ok (.iconst 0, 1) := by decide +kernel
theorem dX9_sizeOf_29 : decode cX9_sizeOf 29 = .ok (.iadd, 1) := by decide +kernel
theorem dX9_sizeOf_30 : decode cX9_sizeOf 30 = .ok (.istore_n 3, 1) := by decide +kernel
theorem dX9_sizeOf_31 : decode cX9_sizeOf 31 = .ok (.iinc 4 1, 3) := by decide +kernel
theorem dX9_sizeOf_34 : decode cX9_sizeOf 34 = .ok (.goto (-29), 3) := by decide +kernel
theorem dX9_sizeOf_37 : decode cX9_sizeOf 37 = .ok (.iload_n 3, 1) := by decide +kernel
theorem dX9_sizeOf_38 : decode cX9_sizeOf 38 = .ok (.ireturn, 1) := by decide +kernel
theorem dX9_size_0 : decode cX9_size 0 = .ok (.iload_n 1, 1) := by decide +kernel
theorem dX9_size_1 : decode cX9_size 1 = .ok (.invokestatic 111, 3) := by decide +kernel
theorem dX9_size_4 : decode cX9_size 4 = .ok (.ifCond .eq 22, 3) := by decide +kernel
theorem dX9_size_7 : decode cX9_size 7 = .ok (.iload_n 2, 1) := by decide +kernel
theorem dX9_size_8 : decode cX9_size 8 = .ok (.iconst 0, 1) := by decide +kernel
theorem dX9_size_9 : decode cX9_size 9 = .ok (.bipush 32, 2) := by decide +kernel
theorem dX9_size_11 : decode cX9_size 11 = .ok (.invokestatic 115, 3) := by decide +kernel
theorem dX9_size_14 : decode cX9_size 14 = .ok (.ifCond .eq 12, 3) := by decide +kernel
theorem dX9_size_17 : decode cX9_size 17 = .ok (.aload_n 0, 1) := by decide +kernel
theorem dX9_size_18 : decode cX9_size 18 = .ok (.iload_n 1, 1) := by decide +kernel
theorem dX9_size_19 : decode cX9_size 19 = .ok (.iload_n 2, 1) := by decide +kernel
theorem dX9_size_20 : decode cX9_size 20 = .ok (.invokevirtual 129, 3) := by decide +kernel
theorem dX9_size_23 : decode cX9_size 23 = .ok (.goto 4, 3) := by decide +kernel
theorem dX9_size_26 : decode cX9_size 26 = .ok (.iconst (-1), 1) := by decide +kernel
theorem dX9_size_27 : decode cX9_size 27 = .ok (.ireturn, 1) := by decide +kernel
theorem dX9_isBook_0 : decode cX9_isBook 0 = .ok (.iload_n 1, 1) := by decide +kernel
theorem dX9_isBook_1 : decode cX9_isBook 1 = .ok (.ifCond .lt 15, 3) := by decide +kernel
theorem dX9_isBook_4 : decode cX9_isBook 4 = .ok (.iload_n 1, 1) := by decide +kernel
theorem dX9_isBook_5 : decode cX9_isBook 5 = .ok (.aload_n 0, 1) := by decide +kernel
theorem dX9_isBook_6 : decode cX9_isBook 6 = .ok (.getfield 133, 3) := by decide +kernel
theorem dX9_isBook_9 : decode cX9_isBook 9 = .ok (.if_icmp .ge 7, 3) := by decide +kernel
theorem dX9_isBook_12 : decode cX9_isBook 12 = .ok (.iconst 1, 1) := by decide +kernel
theorem dX9_isBook_13 : decode cX9_isBook 13 = .ok (.goto 4, 3) := by decide +kernel
theorem dX9_isBook_16 : decode cX9_isBook 16 = .ok (.iconst 0, 1) := by decide +kernel
theorem dX9_isBook_17 : decode cX9_isBook 17 = .ok (.ireturn, 1) := by decide +kernel
theorem dX9_isLine_0 : decode cX9_isLine 0 = .ok (.aload_n 0, 1) := by decide +kernel
theorem dX9_isLine_1 : decode cX9_isLine 1 = .ok (.iload_n 1, 1) := by decide +kernel
theorem dX9_isLine_2 : decode cX9_isLine 2 = .ok (.invokevirtual 136, 3) := by decide +kernel
theorem dX9_isLine_5 : decode cX9_isLine 5 = .ok (.ifCond .eq 21, 3) := by decide +kernel
theorem dX9_isLine_8 : decode cX9_isLine 8 = .ok (.iload_n 2, 1) := by decide +kernel
theorem dX9_isLine_9 : decode cX9_isLine 9 = .ok (.ifCond .lt 17, 3) := by decide +kernel
theorem dX9_isLine_12 : decode cX9_isLine 12 = .ok (.iload_n 2, 1) := by decide +kernel
theorem dX9_isLine_13 : decode cX9_isLine 13 = .ok (.aload_n 0, 1) := by decide +kernel
theorem dX9_isLine_14 : decode cX9_isLine 14 = .ok (.getfield 22, 3) := by decide +kernel
theorem dX9_isLine_17 : decode cX9_isLine 17 = .ok (.iload_n 1, 1) := by decide +kernel
theorem dX9_isLine_18 : decode cX9_isLine 18 = .ok (.iaload, 1) := by decide +kernel
theorem dX9_isLine_19 : decode cX9_isLine 19 = .ok (.if_icmp .ge 7, 3) := by decide +kernel
theorem dX9_isLine_22 : decode cX9_isLine 22 = .ok (.iconst 1, 1) := by decide +kernel
theorem dX9_isLine_23 : decode cX9_isLine 23 = .ok (.goto 4, 3) := by decide +kernel
theorem dX9_isLine_26 : decode cX9_isLine 26 = .ok (.iconst 0, 1) := by decide +kernel
theorem dX9_isLine_27 : decode cX9_isLine 27 = .ok (.ireturn, 1) := by decide +kernel
theorem dX9_at_0 : decode cX9_at 0 = .ok (.bipush 8, 2) := by decide +kernel
theorem dX9_at_2 : decode cX9_at 2 = .ok (.iload_n 0, 1) := by decide +kernel
theorem dX9_at_3 : decode cX9_at 3 = .ok (.imul, 1) := by decide +kernel
theorem dX9_at_4 : decode cX9_at 4 = .ok (.iload_n 1, 1) := by decide +kernel
theorem dX9_at_5 : decode cX9_at 5 = .ok (.iadd, 1) := by decide +kernel
theorem dX9_at_6 : decode cX9_at 6 = .ok (.ireturn, 1) := by decide +kernel
theorem dX9_isThere_0 : decode cX9_isThere 0 = .ok (.aload_n 0, 1) := by decide +kernel
theorem dX9_isThere_1 : decode cX9_isThere 1 = .ok (.iload_n 1, 1) := by decide +kernel
theorem dX9_isThere_2 : decode cX9_isThere 2 = .ok (.iload_n 2, 1) := by decide +kernel
theorem dX9_isThere_3 : decode cX9_isThere 3 = .ok (.invokevirtual 139, 3) := by decide +kernel
theorem dX9_isThere_6 : decode cX9_isThere 6 = .ok (.ifCond .eq 20, 3) := by decide +kernel
theorem dX9_isThere_9 : decode cX9_isThere 9 = .ok (.aload_n 0, 1) := by decide +kernel
theorem dX9_isThere_10 : decode cX9_isThere 10 = .ok (.getfield 37, 3) := by decide +kernel
theorem dX9_isThere_13 : decode cX9_isThere 13 = .ok (.iload_n 1, 1) := by decide +kernel
theorem dX9_isThere_14 : decode cX9_isThere 14 = .ok (.iload_n 2, 1) := by decide +kernel
theorem dX9_isThere_15 : decode cX9_isThere 15 = .ok (.invokestatic 143, 3) := by decide +kernel
theorem dX9_isThere_18 : decode cX9_isThere 18 = .ok (.baload, 1) := by decide +kernel
theorem dX9_isThere_19 : decode cX9_isThere 19 = .ok (.ifCond .ne 7, 3) := by decide +kernel
theorem dX9_isThere_22 : decode cX9_isThere 22 = .ok (.iconst 1, 1) := by decide +kernel
theorem dX9_isThere_23 : decode cX9_isThere 23 = .ok (.goto 4, 3) := by decide +kernel
theorem dX9_isThere_26 : decode cX9_isThere 26 = .ok (.iconst 0, 1) := by decide +kernel
theorem dX9_isThere_27 : decode cX9_isThere 27 = .ok (.ireturn, 1) := by decide +kernel
theorem dX9_isLevel_0 : decode cX9_isLevel 0 = .ok (.iload_n 0, 1) := by decide +kernel
theorem dX9_isLevel_1 : decode cX9_isLevel 1 = .ok (.ifCond .lt 12, 3) := by decide +kernel
theorem dX9_isLevel_4 : decode cX9_isLevel 4 = .ok (.iload_n 0, 1) := by decide +kernel
theorem dX9_isLevel_5 : decode cX9_isLevel 5 = .ok (.iconst 5, 1) := by decide +kernel
theorem dX9_isLevel_6 : decode cX9_isLevel 6 = .ok (.if_icmp .ge 7, 3) := by decide +kernel
theorem dX9_isLevel_9 : decode cX9_isLevel 9 = .ok (.iconst 1, 1) := by decide +kernel
theorem dX9_isLevel_10 : decode cX9_isLevel 10 = .ok (.goto 4, 3) := by decide +kernel
theorem dX9_isLevel_13 : decode cX9_isLevel 13 = .ok (.iconst 0, 1) := by decide +kernel
theorem dX9_isLevel_14 : decode cX9_isLevel 14 = .ok (.ireturn, 1) := by decide +kernel
theorem dX9_areTold_0 : decode cX9_areTold 0 = .ok (.iconst 0, 1) := by decide +kernel
theorem dX9_areTold_1 : decode cX9_areTold 1 = .ok (.istore_n 2, 1) := by decide +kernel
theorem dX9_areTold_2 : decode cX9_areTold 2 = .ok (.iconst 0, 1) := by decide +kernel
theorem dX9_areTold_3 : decode cX9_areTold 3 = .ok (.istore_n 3, 1) := by decide +kernel
theorem dX9_areTold_4 : decode cX9_areTold 4 = .ok (.iload_n 3, 1) := by decide +kernel
theorem dX9_areTold_5 : decode cX9_areTold 5 = .ok (.iload_n 1, 1) := by decide +kernel
theorem dX9_areTold_6 : decode cX9_areTold 6 = .ok (.if_icmp .ge 45, 3) := by decide +kernel
theorem dX9_areTold_9 : decode cX9_areTold 9 = .ok (.aload_n 0, 1) := by decide +kernel
theorem dX9_areTold_10 : decode cX9_areTold 10 = .ok (.getfield 41, 3) := by decide +kernel
theorem dX9_areTold_13 : decode cX9_areTold 13 = .ok (.iload_n 3, 1) := by decide +kernel
theorem dX9_areTold_14 : decode cX9_areTold 14 = .ok (.baload, 1) := by decide +kernel
theorem dX9_areTold_15 : decode cX9_areTold 15 = .ok (.istore 4, 2) := by decide +kernel
theorem dX9_areTold_17 : decode cX9_areTold 17 = .ok (.aload_n 0, 1) := by decide +kernel
theorem dX9_areTold_18 : decode cX9_areTold 18 = .ok (.iload 4, 2) := by decide +kernel
theorem dX9_areTold_20 : decode cX9_areTold 20 = .ok (.invokevirtual 119, 3) := by decide +kernel
theorem dX9_areTold_23 : decode cX9_areTold 23 = .ok (.ifCond .eq 13, 3) := by decide +kernel
theorem dX9_areTold_26 : decode cX9_areTold 26 = .ok (.iload_n 2, 1) := by decide +kernel
theorem dX9_areTold_27 : decode cX9_areTold 27 = .ok (.iload 4, 2) := by decide +kernel
theorem dX9_areTold_29 : decode cX9_areTold 29 = .ok (.ishr, 1) := by decide +kernel
theorem dX9_areTold_30 : decode cX9_areTold 30 = .ok (.iconst 1, 1) := by decide +kernel
theorem dX9_areTold_31 : decode cX9_areTold 31 = .ok (.iand, 1) := by decide +kernel
theorem dX9_areTold_32 : decode cX9_areTold 32 = .ok (.iconst 1, 1) := by decide +kernel
theorem dX9_areTold_33 : decode cX9_areTold 33 = .ok (.if_icmp .ne 5, 3) := by decide +kernel
theorem dX9_areTold_36 : decode cX9_areTold 36 = .ok (.iconst 0, 1) := by decide +kernel
theorem dX9_areTold_37 : decode cX9_areTold 37 = .ok (.ireturn, 1) := by decide +kernel
theorem dX9_areTold_38 : decode cX9_areTold 38 = .ok (.iload_n 2, 1) := by decide +kernel
theorem dX9_areTold_39 : decode cX9_areTold 39 = .ok (.iconst 1, 1) := by decide +kernel
theorem dX9_areTold_40 : decode cX9_areTold 40 = .ok (.iload 4, 2) := by decide +kernel
theorem dX9_areTold_42 : decode cX9_areTold 42 = .ok (.ishl, 1) := by decide +kernel
theorem dX9_areTold_43 : decode cX9_areTold 43 = .ok (.ior, 1) := by decide +kernel
theorem dX9_areTold_44 : decode cX9_areTold 44 = .ok (.istore_n 2, 1) := by decide +kernel
theorem dX9_areTold_45 : decode cX9_areTold 45 = .ok (.iinc 3 1, 3) := by decide +kernel
theorem dX9_areTold_48 : decode cX9_areTold 48 = .ok (.goto (-44), 3) := by decide +kernel
theorem dX9_areTold_51 : decode cX9_areTold 51 = .ok (.iconst 1, 1) := by decide +kernel
theorem dX9_areTold_52 : decode cX9_areTold 52 = .ok (.ireturn, 1) := by decide +kernel
theorem dX9_book_0 : decode cX9_book 0 = .ok (.iload_n 1, 1) := by decide +kernel
theorem dX9_book_1 : decode cX9_book 1 = .ok (.iconst 1, 1) := by decide +kernel
theorem dX9_book_2 : decode cX9_book 2 = .ok (.bipush 8, 2) := by decide +kernel
theorem dX9_book_4 : decode cX9_book 4 = .ok (.invokestatic 115, 3) := by decide +kernel
theorem dX9_book_7 : decode cX9_book 7 = .ok (.ifCond .eq 49, 3) := by decide +kernel
theorem dX9_book_10 : decode cX9_book 10 = .ok (.iload_n 2, 1) := by decide +kernel
theorem dX9_book_11 : decode cX9_book 11 = .ok (.invokestatic 146, 3) := by decide +kernel
theorem dX9_book_14 : decode cX9_book 14 = .ok (.ifCond .eq 42, 3) := by decide +kernel
theorem dX9_book_17 : decode cX9_book 17 = .ok (.iload_n 3, 1) := by decide +kernel
theorem dX9_book_18 : decode cX9_book 18 = .ok (.invokestatic 146, 3) := by decide +kernel
theorem dX9_book_21 : decode cX9_book 21 = .ok (.ifCond .eq 35, 3) := by decide +kernel
theorem dX9_book_24 : decode cX9_book 24 = .ok (.iload 4, 2) := by decide +kernel
theorem dX9_book_26 : decode cX9_book 26 = .ok (.invokestatic 146, 3) := by decide +kernel
theorem dX9_book_29 : decode cX9_book 29 = .ok (.ifCond .eq 27, 3) := by decide +kernel
theorem dX9_book_32 : decode cX9_book 32 = .ok (.iload 5, 2) := by decide +kernel
theorem dX9_book_34 : decode cX9_book 34 = .ok (.invokestatic 146, 3) := by decide +kernel
theorem dX9_book_37 : decode cX9_book 37 = .ok (.ifCond .eq 19, 3) := by decide +kernel
theorem dX9_book_40 : decode cX9_book 40 = .ok (.aload_n 0, 1) := by decide +kernel
theorem dX9_book_41 : decode cX9_book 41 = .ok (.getfield 133, 3) := by decide +kernel
theorem dX9_book_44 : decode cX9_book 44 = .ok (.iconst 4, 1) := by decide +kernel
theorem dX9_book_45 : decode cX9_book 45 = .ok (.if_icmp .eq 11, 3) := by decide +kernel
theorem dX9_book_48 : decode cX9_book 48 = .ok (.iload_n 1, 1) := by decide +kernel
theorem dX9_book_49 : decode cX9_book 49 = .ok (.aload_n 0, 1) := by decide +kernel
theorem dX9_book_50 : decode cX9_book 50 = .ok (.getfield 149, 3) := by decide +kernel
theorem dX9_book_53 : decode cX9_book 53 = .ok (.if_icmp .le 5, 3) := by decide +kernel
theorem dX9_book_56 : decode cX9_book 56 = .ok (.iconst (-1), 1) := by decide +kernel
theorem dX9_book_57 : decode cX9_book 57 = .ok (.ireturn, 1) := by decide +kernel
theorem dX9_book_58 : decode cX9_book 58 = .ok (.aload_n 0, 1) := by decide +kernel
theorem dX9_book_59 : decode cX9_book 59 = .ok (.iconst 0, 1) := by decide +kernel
theorem dX9_book_60 : decode cX9_book 60 = .ok (.putfield 149, 3) := by decide +kernel
theorem dX9_book_63 : decode cX9_book 63 = .ok (.aload_n 0, 1) := by decide +kernel
theorem dX9_book_64 : decode cX9_book 64 = .ok (.iload_n 1, 1) := by decide +kernel
theorem dX9_book_65 : decode cX9_book 65 = .ok (.invokevirtual 152, 3) := by decide +kernel
theorem dX9_book_68 : decode cX9_book 68 = .ok (.ifCond .ne 6, 3) := by decide +kernel
theorem dX9_book_71 : decode cX9_book 71 = .ok (.bipush (-2), 2) := by decide +kernel
theorem dX9_book_73 : decode cX9_book 73 = .ok (.ireturn, 1) := by decide +kernel
theorem dX9_book_74 : decode cX9_book 74 = .ok (.iconst 0, 1) := by decide +kernel
theorem dX9_book_75 : decode cX9_book 75 = .ok (.istore 6, 2) := by decide +kernel
theorem dX9_book_77 : decode cX9_book 77 = .ok (.iload 6, 2) := by decide +kernel
theorem dX9_book_79 : decode cX9_book 79 = .ok (.iload_n 1, 1) := by decide +kernel
theorem dX9_book_80 : decode cX9_book 80 = .ok (.if_icmp .ge 187, 3) := by decide +kernel
theorem dX9_book_83 : decode cX9_book 83 = .ok (.aload_n 0, 1) := by decide +kernel
theorem dX9_book_84 : decode cX9_book 84 = .ok (.getfield 41, 3) := by decide +kernel
theorem dX9_book_87 : decode cX9_book 87 = .ok (.iload 6, 2) := by decide +kernel
theorem dX9_book_89 : decode cX9_book 89 = .ok (.baload, 1) := by decide +kernel
theorem dX9_book_90 : decode cX9_book 90 = .ok (.istore 7, 2) := by decide +kernel
theorem dX9_book_92 : decode cX9_book 92 = .ok (.aload_n 0, 1) := by decide +kernel
theorem dX9_book_93 : decode cX9_book 93 = .ok (.getfield 25, 3) := by decide +kernel
theorem dX9_book_96 : decode cX9_book 96 = .ok (.aload_n 0, 1) := by decide +kernel
theorem dX9_book_97 : decode cX9_book 97 = .ok (.getfield 133, 3) := by decide +kernel
theorem dX9_book_100 : decode cX9_book 100 = .ok (.iload 6, 2) := by decide +kernel
theorem dX9_book_102 : decode cX9_book 102 = .ok (.invokestatic 143, 3) := by decide +kernel
theorem dX9_book_105 : decode cX9_book 105 = .ok (.iload 7, 2) := by decide +kernel
theorem dX9_book_107 : decode cX9_book 107 = .ok (.iastore, 1) := by decide +kernel
theorem dX9_book_108 : decode cX9_book 108 = .ok (.aload_n 0, 1) := by decide +kernel
theorem dX9_book_109 : decode cX9_book 109 = .ok (.getfield 37, 3) := by decide +kernel
theorem dX9_book_112 : decode cX9_book 112 = .ok (.aload_n 0, 1) := by decide +kernel
theorem dX9_book_113 : decode cX9_book 113 = .ok (.getfield 133, 3) := by decide +kernel
theorem dX9_book_116 : decode cX9_book 116 = .ok (.iload 6, 2) := by decide +kernel
theorem dX9_book_118 : decode cX9_book 118 = .ok (.invokestatic 143, 3) := by decide +kernel
theorem dX9_book_121 : decode cX9_book 121 = .ok (.iconst 0, 1) := by decide +kernel
theorem dX9_book_122 : decode cX9_book 122 = .ok (.bastore, 1) := by decide +kernel
theorem dX9_book_123 : decode cX9_book 123 = .ok (.aload_n 0, 1) := by decide +kernel
theorem dX9_book_124 : decode cX9_book 124 = .ok (.getfield 28, 3) := by decide +kernel
theorem dX9_book_127 : decode cX9_book 127 = .ok (.iconst 4, 1) := by decide +kernel
theorem dX9_book_128 : decode cX9_book 128 = .ok (.aload_n 0, 1) := by decide +kernel
theorem dX9_book_129 : decode cX9_book 129 = .ok (.getfield 133, 3) := by decide +kernel
theorem dX9_book_132 : decode cX9_book 132 = .ok (.iload 6, 2) := by decide +kernel
theorem dX9_book_134 : decode cX9_book 134 = .ok (.invokestatic 143, 3) := by decide +kernel
theorem dX9_book_137 : decode cX9_book 137 = .ok (.imul, 1) := by decide +kernel
theorem dX9_book_138 : decode cX9_book 138 = .ok (.aload_n 0, 1) := by decide +kernel
theorem dX9_book_139 : decode cX9_book 139 = .ok (.iconst 0, 1) := by decide +kernel
theorem dX9_book_140 : decode cX9_book 140 = .ok (.aload_n 0, 1) := by decide +kernel
theorem dX9_book_141 : decode cX9_book 141 = .ok (.getfield 16, 3) := by decide +kernel
theorem dX9_book_144 : decode cX9_book 144 = .ok (.iconst 4, 1) := by decide +kernel
theorem dX9_book_145 : decode cX9_book 145 = .ok (.iload 7, 2) := by decide +kernel
theorem dX9_book_147 : decode cX9_book 147 = .ok (.imul, 1) := by decide +kernel
theorem dX9_book_148 : decode cX9_book 148 = .ok (.iaload, 1) := by decide +kernel
theorem dX9_book_149 : decode cX9_book 149 = .ok (.iload_n 2, 1) := by decide +kernel
theorem dX9_book_150 : decode cX9_book 150 = .ok (.invokevirtual 122, 3) := by decide +kernel
theorem dX9_book_153 : decode cX9_book 153 = .ok (.iastore, 1) := by decide +kernel
theorem dX9_book_154 : decode cX9_book 154 = .ok (.aload_n 0, 1) := by decide +kernel
theorem dX9_book_155 : decode cX9_book 155 = .ok (.getfield 28, 3) := by decide +kernel
theorem dX9_book_158 : decode cX9_book 158 = .ok (.iconst 4, 1) := by decide +kernel
theorem dX9_book_159 : decode cX9_book 159 = .ok (.aload_n 0, 1) := by decide +kernel
theorem dX9_book_160 : decode cX9_book 160 = .ok (.getfield 133, 3) := by decide +kernel
theorem dX9_book_163 : decode cX9_book 163 = .ok (.iload 6, 2) := by decide +kernel
theorem dX9_book_165 : decode cX9_book 165 = .ok (.invokestatic 143, 3) := by decide +kernel
theorem dX9_book_168 : decode cX9_book 168 = .ok (.imul, 1) := by decide +kernel
theorem dX9_book_169 : decode cX9_book 169 = .ok (.iconst 1, 1) := by decide +kernel
theorem dX9_book_170 : decode cX9_book 170 = .ok (.iadd, 1) := by decide +kernel
theorem dX9_book_171 : decode cX9_book 171 = .ok (.aload_n 0, 1) := by decide +kernel
theorem dX9_book_172 : decode cX9_book 172 = .ok (.iconst 1, 1) := by decide +kernel
theorem dX9_book_173 : decode cX9_book 173 = .ok (.aload_n 0, 1) := by decide +kernel
theorem dX9_book_174 : decode cX9_book 174 = .ok (.getfield 16, 3) := by decide +kernel
theorem dX9_book_177 : decode cX9_book 177 = .ok (.iconst 4, 1) := by decide +kernel
theorem dX9_book_178 : decode cX9_book 178 = .ok (.iload 7, 2) := by decide +kernel
theorem dX9_book_180 : decode cX9_book 180 = .ok (.imul, 1) := by decide +kernel
theorem dX9_book_181 : decode cX9_book 181 = .ok (.iconst 1, 1) := by decide +kernel
theorem dX9_book_182 : decode cX9_book 182 = .ok (.iadd, 1) := by decide +kernel
theorem dX9_book_183 : decode cX9_book 183 = .ok (.iaload, 1) := by decide +kernel
theorem dX9_book_184 : decode cX9_book 184 = .ok (.iload_n 3, 1) := by decide +kernel
theorem dX9_book_185 : decode cX9_book 185 = .ok (.invokevirtual 122, 3) := by decide +kernel
theorem dX9_book_188 : decode cX9_book 188 = .ok (.iastore, 1) := by decide +kernel
theorem dX9_book_189 : decode cX9_book 189 = .ok (.aload_n 0, 1) := by decide +kernel
theorem dX9_book_190 : decode cX9_book 190 = .ok (.getfield 28, 3) := by decide +kernel
theorem dX9_book_193 : decode cX9_book 193 = .ok (.iconst 4, 1) := by decide +kernel
theorem dX9_book_194 : decode cX9_book 194 = .ok (.aload_n 0, 1) := by decide +kernel
theorem dX9_book_195 : decode cX9_book 195 = .ok (.getfield 133, 3) := by decide +kernel
theorem dX9_book_198 : decode cX9_book 198 = .ok (.iload 6, 2) := by decide +kernel
theorem dX9_book_200 : decode cX9_book 200 = .ok (.invokestatic 143, 3) := by decide +kernel
theorem dX9_book_203 : decode cX9_book 203 = .ok (.imul, 1) := by decide +kernel
theorem dX9_book_204 : decode cX9_book 204 = .ok (.iconst 2, 1) := by decide +kernel
theorem dX9_book_205 : decode cX9_book 205 = .ok (.iadd, 1) := by decide +kernel
theorem dX9_book_206 : decode cX9_book 206 = .ok (.aload_n 0, 1) := by decide +kernel
theorem dX9_book_207 : decode cX9_book 207 = .ok (.iconst 2, 1) := by decide +kernel
theorem dX9_book_208 : decode cX9_book 208 = .ok (.aload_n 0, 1) := by decide +kernel
theorem dX9_book_209 : decode cX9_book 209 = .ok (.getfield 16, 3) := by decide +kernel
theorem dX9_book_212 : decode cX9_book 212 = .ok (.iconst 4, 1) := by decide +kernel
theorem dX9_book_213 : decode cX9_book 213 = .ok (.iload 7, 2) := by decide +kernel
theorem dX9_book_215 : decode cX9_book 215 = .ok (.imul, 1) := by decide +kernel
theorem dX9_book_216 : decode cX9_book 216 = .ok (.iconst 2, 1) := by decide +kernel
theorem dX9_book_217 : decode cX9_book 217 = .ok (.iadd, 1) := by decide +kernel
theorem dX9_book_218 : decode cX9_book 218 = .ok (.iaload, 1) := by decide +kernel
theorem dX9_book_219 : decode cX9_book 219 = .ok (.iload 4, 2) := by decide +kernel
theorem dX9_book_221 : decode cX9_book 221 = .ok (.invokevirtual 122, 3) := by decide +kernel
theorem dX9_book_224 : decode cX9_book 224 = .ok (.iastore, 1) := by decide +kernel
theorem dX9_book_225 : decode cX9_book 225 = .ok (.aload_n 0, 1) := by decide +kernel
theorem dX9_book_226 : decode cX9_book 226 = .ok (.getfield 28, 3) := by decide +kernel
theorem dX9_book_229 : decode cX9_book 229 = .ok (.iconst 4, 1) := by decide +kernel
theorem dX9_book_230 : decode cX9_book 230 = .ok (.aload_n 0, 1) := by decide +kernel
theorem dX9_book_231 : decode cX9_book 231 = .ok (.getfield 133, 3) := by decide +kernel
theorem dX9_book_234 : decode cX9_book 234 = .ok (.iload 6, 2) := by decide +kernel
theorem dX9_book_236 : decode cX9_book 236 = .ok (.invokestatic 143, 3) := by decide +kernel
theorem dX9_book_239 : decode cX9_book 239 = .ok (.imul, 1) := by decide +kernel
theorem dX9_book_240 : decode cX9_book 240 = .ok (.iconst 3, 1) := by decide +kernel
theorem dX9_book_241 : decode cX9_book 241 = .ok (.iadd, 1) := by decide +kernel
theorem dX9_book_242 : decode cX9_book 242 = .ok (.aload_n 0, 1) := by decide +kernel
theorem dX9_book_243 : decode cX9_book 243 = .ok (.iconst 3, 1) := by decide +kernel
theorem dX9_book_244 : decode cX9_book 244 = .ok (.aload_n 0, 1) := by decide +kernel
theorem dX9_book_245 : decode cX9_book 245 = .ok (.getfield 16, 3) := by decide +kernel
theorem dX9_book_248 : decode cX9_book 248 = .ok (.iconst 4, 1) := by decide +kernel
theorem dX9_book_249 : decode cX9_book 249 = .ok (.iload 7, 2) := by decide +kernel
theorem dX9_book_251 : decode cX9_book 251 = .ok (.imul, 1) := by decide +kernel
theorem dX9_book_252 : decode cX9_book 252 = .ok (.iconst 3, 1) := by decide +kernel
theorem dX9_book_253 : decode cX9_book 253 = .ok (.iadd, 1) := by decide +kernel
theorem dX9_book_254 : decode cX9_book 254 = .ok (.iaload, 1) := by decide +kernel
theorem dX9_book_255 : decode cX9_book 255 = .ok (.iload 5, 2) := by decide +kernel
theorem dX9_book_257 : decode cX9_book 257 = .ok (.invokevirtual 122, 3) := by decide +kernel
theorem dX9_book_260 : decode cX9_book 260 = .ok (.iastore, 1) := by decide +kernel
theorem dX9_book_261 : decode cX9_book 261 = .ok (.iinc 6 1, 3) := by decide +kernel
theorem dX9_book_264 : decode cX9_book 264 = .ok (.goto (-187), 3) := by decide +kernel
theorem dX9_book_267 : decode cX9_book 267 = .ok (.aload_n 0, 1) := by decide +kernel
theorem dX9_book_268 : decode cX9_book 268 = .ok (.getfield 22, 3) := by decide +kernel
theorem dX9_book_271 : decode cX9_book 271 = .ok (.aload_n 0, 1) := by decide +kernel
theorem dX9_book_272 : decode cX9_book 272 = .ok (.getfield 133, 3) := by decide +kernel
theorem dX9_book_275 : decode cX9_book 275 = .ok (.iload_n 1, 1) := by decide +kernel
theorem dX9_book_276 : decode cX9_book 276 = .ok (.iastore, 1) := by decide +kernel
theorem dX9_book_277 : decode cX9_book 277 = .ok (.aload_n 0, 1) := by decide +kernel
theorem dX9_book_278 : decode cX9_book 278 = .ok (.aload_n 0, 1) := by decide +kernel
theorem dX9_book_279 : decode cX9_book 279 = .ok (.getfield 155, 3) := by decide +kernel
theorem dX9_book_282 : decode cX9_book 282 = .ok (.iconst 1, 1) := by decide +kernel
theorem dX9_book_283 : decode cX9_book 283 = .ok (.aload_n 0, 1) := by decide +kernel
theorem dX9_book_284 : decode cX9_book 284 = .ok (.getfield 133, 3) := by decide +kernel
theorem dX9_book_287 : decode cX9_book 287 = .ok (.ishl, 1) := by decide +kernel
theorem dX9_book_288 : decode cX9_book 288 = .ok (.ior, 1) := by decide +kernel
theorem dX9_book_289 : decode cX9_book 289 = .ok (.putfield 155, 3) := by decide +kernel
theorem dX9_book_292 : decode cX9_book 292 = .ok (.aload_n 0, 1) := by decide +kernel
theorem dX9_book_293 : decode cX9_book 293 = .ok (.aload_n 0, 1) := by decide +kernel
theorem dX9_book_294 : decode cX9_book 294 = .ok (.getfield 133, 3) := by decide +kernel
theorem dX9_book_297 : decode cX9_book 297 = .ok (.iconst 1, 1) := by decide +kernel
theorem dX9_book_298 : decode cX9_book 298 = .ok (.iadd, 1) := by decide +kernel
theorem dX9_book_299 : decode cX9_book 299 = .ok (.putfield 133, 3) := by decide +kernel
theorem dX9_book_302 : decode cX9_book 302 = .ok (.aload_n 0, 1) := by decide +kernel
theorem dX9_book_303 : decode cX9_book 303 = .ok (.getfield 133, 3) := by decide +kernel
theorem dX9_book_306 : decode cX9_book 306 = .ok (.iconst 1, 1) := by decide +kernel
theorem dX9_book_307 : decode cX9_book 307 = .ok (.isub, 1) := by decide +kernel
theorem dX9_book_308 : decode cX9_book 308 = .ok (.ireturn, 1) := by decide +kernel
theorem dX9_cut_0 : decode cX9_cut 0 = .ok (.aload_n 0, 1) := by decide +kernel
theorem dX9_cut_1 : decode cX9_cut 1 = .ok (.iload_n 1, 1) := by decide +kernel
theorem dX9_cut_2 : decode cX9_cut 2 = .ok (.iload_n 2, 1) := by decide +kernel
theorem dX9_cut_3 : decode cX9_cut 3 = .ok (.invokevirtual 158, 3) := by decide +kernel
theorem dX9_cut_6 : decode cX9_cut 6 = .ok (.ifCond .ne 5, 3) := by decide +kernel
theorem dX9_cut_9 : decode cX9_cut 9 = .ok (.iconst 0, 1) := by decide +kernel
theorem dX9_cut_10 : decode cX9_cut 10 = .ok (.ireturn, 1) := by decide +kernel
theorem dX9_cut_11 : decode cX9_cut 11 = .ok (.aload_n 0, 1) := by decide +kernel
theorem dX9_cut_12 : decode cX9_cut 12 = .ok (.getfield 37, 3) := by decide +kernel
theorem dX9_cut_15 : decode cX9_cut 15 = .ok (.iload_n 1, 1) := by decide +kernel
theorem dX9_cut_16 : decode cX9_cut 16 = .ok (.iload_n 2, 1) := by decide +kernel
theorem dX9_cut_17 : decode cX9_cut 17 = .ok (.invokestatic 143, 3) := by decide +kernel
theorem dX9_cut_20 : decode cX9_cut 20 = .ok (.iconst 1, 1) := by decide +kernel
theorem dX9_cut_21 : decode cX9_cut 21 = .ok (.bastore, 1) := by decide +kernel
theorem dX9_cut_22 : decode cX9_cut 22 = .ok (.iconst 1, 1) := by decide +kernel
theorem dX9_cut_23 : decode cX9_cut 23 = .ok (.ireturn, 1) := by decide +kernel
theorem dX9_swaps_0 : decode cX9_swaps 0 = .ok (.aload_n 0, 1) := by decide +kernel
theorem dX9_swaps_1 : decode cX9_swaps 1 = .ok (.getfield 28, 3) := by decide +kernel
theorem dX9_swaps_4 : decode cX9_swaps 4 = .ok (.iconst 4, 1) := by decide +kernel
theorem dX9_swaps_5 : decode cX9_swaps 5 = .ok (.iload_n 1, 1) := by decide +kernel
theorem dX9_swaps_6 : decode cX9_swaps 6 = .ok (.iload_n 2, 1) := by decide +kernel
theorem dX9_swaps_7 : decode cX9_swaps 7 = .ok (.invokestatic 143, 3) := by decide +kernel
theorem dX9_swaps_10 : decode cX9_swaps 10 = .ok (.imul, 1) := by decide +kernel
theorem dX9_swaps_11 : decode cX9_swaps 11 = .ok (.iload 4, 2) := by decide +kernel
theorem dX9_swaps_13 : decode cX9_swaps 13 = .ok (.iadd, 1) := by decide +kernel
theorem dX9_swaps_14 : decode cX9_swaps 14 = .ok (.iaload, 1) := by decide +kernel
theorem dX9_swaps_15 : decode cX9_swaps 15 = .ok (.istore 5, 2) := by decide +kernel
theorem dX9_swaps_17 : decode cX9_swaps 17 = .ok (.aload_n 0, 1) := by decide +kernel
theorem dX9_swaps_18 : decode cX9_swaps 18 = .ok (.getfield 28, 3) := by decide +kernel
theorem dX9_swaps_21 : decode cX9_swaps 21 = .ok (.iconst 4, 1) := by decide +kernel
theorem dX9_swaps_22 : decode cX9_swaps 22 = .ok (.iload_n 1, 1) := by decide +kernel
theorem dX9_swaps_23 : decode cX9_swaps 23 = .ok (.iload_n 2, 1) := by decide +kernel
theorem dX9_swaps_24 : decode cX9_swaps 24 = .ok (.invokestatic 143, 3) := by decide +kernel
theorem dX9_swaps_27 : decode cX9_swaps 27 = .ok (.imul, 1) := by decide +kernel
theorem dX9_swaps_28 : decode cX9_swaps 28 = .ok (.iload 4, 2) := by decide +kernel
theorem dX9_swaps_30 : decode cX9_swaps 30 = .ok (.iadd, 1) := by decide +kernel
theorem dX9_swaps_31 : decode cX9_swaps 31 = .ok (.aload_n 0, 1) := by decide +kernel
theorem dX9_swaps_32 : decode cX9_swaps 32 = .ok (.getfield 28, 3) := by decide +kernel
theorem dX9_swaps_35 : decode cX9_swaps 35 = .ok (.iconst 4, 1) := by decide +kernel
theorem dX9_swaps_36 : decode cX9_swaps 36 = .ok (.iload_n 1, 1) := by decide +kernel
theorem dX9_swaps_37 : decode cX9_swaps 37 = .ok (.iload_n 3, 1) := by decide +kernel
theorem dX9_swaps_38 : decode cX9_swaps 38 = .ok (.invokestatic 143, 3) := by decide +kernel
theorem dX9_swaps_41 : decode cX9_swaps 41 = .ok (.imul, 1) := by decide +kernel
theorem dX9_swaps_42 : decode cX9_swaps 42 = .ok (.iload 4, 2) := by decide +kernel
theorem dX9_swaps_44 : decode cX9_swaps 44 = .ok (.iadd, 1) := by decide +kernel
theorem dX9_swaps_45 : decode cX9_swaps 45 = .ok (.iaload, 1) := by decide +kernel
theorem dX9_swaps_46 : decode cX9_swaps 46 = .ok (.iastore, 1) := by decide +kernel
theorem dX9_swaps_47 : decode cX9_swaps 47 = .ok (.aload_n 0, 1) := by decide +kernel
theorem dX9_swaps_48 : decode cX9_swaps 48 = .ok (.getfield 28, 3) := by decide +kernel
theorem dX9_swaps_51 : decode cX9_swaps 51 = .ok (.iconst 4, 1) := by decide +kernel
theorem dX9_swaps_52 : decode cX9_swaps 52 = .ok (.iload_n 1, 1) := by decide +kernel
theorem dX9_swaps_53 : decode cX9_swaps 53 = .ok (.iload_n 3, 1) := by decide +kernel
theorem dX9_swaps_54 : decode cX9_swaps 54 = .ok (.invokestatic 143, 3) := by decide +kernel
theorem dX9_swaps_57 : decode cX9_swaps 57 = .ok (.imul, 1) := by decide +kernel
theorem dX9_swaps_58 : decode cX9_swaps 58 = .ok (.iload 4, 2) := by decide +kernel
theorem dX9_swaps_60 : decode cX9_swaps 60 = .ok (.iadd, 1) := by decide +kernel
theorem dX9_swaps_61 : decode cX9_swaps 61 = .ok (.iload 5, 2) := by decide +kernel
theorem dX9_swaps_63 : decode cX9_swaps 63 = .ok (.iastore, 1) := by decide +kernel
theorem dX9_swaps_64 : decode cX9_swaps 64 = .ok (.return_, 1) := by decide +kernel
theorem dX9_canSwap_0 : decode cX9_canSwap 0 = .ok (.aload_n 0, 1) := by decide +kernel
theorem dX9_canSwap_1 : decode cX9_canSwap 1 = .ok (.iload_n 1, 1) := by decide +kernel
theorem dX9_canSwap_2 : decode cX9_canSwap 2 = .ok (.iload_n 2, 1) := by decide +kernel
theorem dX9_canSwap_3 : decode cX9_canSwap 3 = .ok (.invokevirtual 158, 3) := by decide +kernel
theorem dX9_canSwap_6 : decode cX9_canSwap 6 = .ok (.ifCond .eq 57, 3) := by decide +kernel
theorem dX9_canSwap_9 : decode cX9_canSwap 9 = .ok (.aload_n 0, 1) := by decide +kernel
theorem dX9_canSwap_10 : decode cX9_canSwap 10 = .ok (.iload_n 1, 1) := by decide +kernel
theorem dX9_canSwap_11 : decode cX9_canSwap 11 = .ok (.iload_n 3, 1) := by decide +kernel
theorem dX9_canSwap_12 : decode cX9_canSwap 12 = .ok (.invokevirtual 158, 3) := by decide +kernel
theorem dX9_canSwap_15 : decode cX9_canSwap 15 = .ok (.ifCond .eq 48, 3) := by decide +kernel
theorem dX9_canSwap_18 : decode cX9_canSwap 18 = .ok (.iload 4, 2) := by decide +kernel
theorem dX9_canSwap_20 : decode cX9_canSwap 20 = .ok (.invokestatic 111, 3) := by decide +kernel
theorem dX9_canSwap_23 : decode cX9_canSwap 23 = .ok (.ifCond .eq 40, 3) := by decide +kernel
theorem dX9_canSwap_26 : decode cX9_canSwap 26 = .ok (.aload_n 0, 1) := by decide +kernel
theorem dX9_canSwap_27 : decode cX9_canSwap 27 = .ok (.getfield 28, 3) := by decide +kernel
theorem dX9_canSwap_30 : decode cX9_canSwap 30 = .ok (.iconst 4, 1) := by decide +kernel
theorem dX9_canSwap_31 : decode cX9_canSwap 31 = .ok (.iload_n 1, 1) := by decide +kernel
theorem dX9_canSwap_32 : decode cX9_canSwap 32 = .ok (.iload_n 2, 1) := by decide +kernel
theorem dX9_canSwap_33 : decode cX9_canSwap 33 = .ok (.invokestatic 143, 3) := by decide +kernel
theorem dX9_canSwap_36 : decode cX9_canSwap 36 = .ok (.imul, 1) := by decide +kernel
theorem dX9_canSwap_37 : decode cX9_canSwap 37 = .ok (.iload 4, 2) := by decide +kernel
theorem dX9_canSwap_39 : decode cX9_canSwap 39 = .ok (.iadd, 1) := by decide +kernel
theorem dX9_canSwap_40 : decode cX9_canSwap 40 = .ok (.iaload, 1) := by decide +kernel
theorem dX9_canSwap_41 : decode cX9_canSwap 41 = .ok (.aload_n 0, 1) := by decide +kernel
theorem dX9_canSwap_42 : decode cX9_canSwap 42 = .ok (.getfield 28, 3) := by decide +kernel
theorem dX9_canSwap_45 : decode cX9_canSwap 45 = .ok (.iconst 4, 1) := by decide +kernel
theorem dX9_canSwap_46 : decode cX9_canSwap 46 = .ok (.iload_n 1, 1) := by decide +kernel
theorem dX9_canSwap_47 : decode cX9_canSwap 47 = .ok (.iload_n 3, 1) := by decide +kernel
theorem dX9_canSwap_48 : decode cX9_canSwap 48 = .ok (.invokestatic 143, 3) := by decide +kernel
theorem dX9_canSwap_51 : decode cX9_canSwap 51 = .ok (.imul, 1) := by decide +kernel
theorem dX9_canSwap_52 : decode cX9_canSwap 52 = .ok (.iload 4, 2) := by decide +kernel
theorem dX9_canSwap_54 : decode cX9_canSwap 54 = .ok (.iadd, 1) := by decide +kernel
theorem dX9_canSwap_55 : decode cX9_canSwap 55 = .ok (.iaload, 1) := by decide +kernel
theorem dX9_canSwap_56 : decode cX9_canSwap 56 = .ok (.if_icmp .eq 7, 3) := by decide +kernel
theorem dX9_canSwap_59 : decode cX9_canSwap 59 = .ok (.iconst 1, 1) := by decide +kernel
theorem dX9_canSwap_60 : decode cX9_canSwap 60 = .ok (.goto 4, 3) := by decide +kernel
theorem dX9_canSwap_63 : decode cX9_canSwap 63 = .ok (.iconst 0, 1) := by decide +kernel
theorem dX9_canSwap_64 : decode cX9_canSwap 64 = .ok (.ireturn, 1) := by decide +kernel
theorem dX9_swap_0 : decode cX9_swap 0 = .ok (.aload_n 0, 1) := by decide +kernel
theorem dX9_swap_1 : decode cX9_swap 1 = .ok (.iload_n 1, 1) := by decide +kernel
theorem dX9_swap_2 : decode cX9_swap 2 = .ok (.iload_n 2, 1) := by decide +kernel
theorem dX9_swap_3 : decode cX9_swap 3 = .ok (.iload_n 3, 1) := by decide +kernel
theorem dX9_swap_4 : decode cX9_swap 4 = .ok (.iload 4, 2) := by decide +kernel
theorem dX9_swap_6 : decode cX9_swap 6 = .ok (.invokevirtual 161, 3) := by decide +kernel
theorem dX9_swap_9 : decode cX9_swap 9 = .ok (.ifCond .ne 5, 3) := by decide +kernel
theorem dX9_swap_12 : decode cX9_swap 12 = .ok (.iconst 0, 1) := by decide +kernel
theorem dX9_swap_13 : decode cX9_swap 13 = .ok (.ireturn, 1) := by decide +kernel
theorem dX9_swap_14 : decode cX9_swap 14 = .ok (.aload_n 0, 1) := by decide +kernel
theorem dX9_swap_15 : decode cX9_swap 15 = .ok (.iload_n 1, 1) := by decide +kernel
theorem dX9_swap_16 : decode cX9_swap 16 = .ok (.iload_n 2, 1) := by decide +kernel
theorem dX9_swap_17 : decode cX9_swap 17 = .ok (.iload_n 3, 1) := by decide +kernel
theorem dX9_swap_18 : decode cX9_swap 18 = .ok (.iload 4, 2) := by decide +kernel
theorem dX9_swap_20 : decode cX9_swap 20 = .ok (.invokevirtual 165, 3) := by decide +kernel
theorem dX9_swap_23 : decode cX9_swap 23 = .ok (.iconst 1, 1) := by decide +kernel
theorem dX9_swap_24 : decode cX9_swap 24 = .ok (.ireturn, 1) := by decide +kernel
theorem dX9_show_0 : decode cX9_show 0 = .ok (.aload_n 0, 1) := by decide +kernel
theorem dX9_show_1 : decode cX9_show 1 = .ok (.iload_n 1, 1) := by decide +kernel
theorem dX9_show_2 : decode cX9_show 2 = .ok (.invokevirtual 136, 3) := by decide +kernel
theorem dX9_show_5 : decode cX9_show 5 = .ok (.ifCond .eq 23, 3) := by decide +kernel
theorem dX9_show_8 : decode cX9_show 8 = .ok (.aload_n 0, 1) := by decide +kernel
theorem dX9_show_9 : decode cX9_show 9 = .ok (.getfield 155, 3) := by decide +kernel
theorem dX9_show_12 : decode cX9_show 12 = .ok (.iload_n 1, 1) := by decide +kernel
theorem dX9_show_13 : decode cX9_show 13 = .ok (.ishr, 1) := by decide +kernel
theorem dX9_show_14 : decode cX9_show 14 = .ok (.iconst 1, 1) := by decide +kernel
theorem dX9_show_15 : decode cX9_show 15 = .ok (.iand, 1) := by decide +kernel
theorem dX9_show_16 : decode cX9_show 16 = .ok (.iload_n 2, 1) := by decide +kernel
theorem dX9_show_17 : decode cX9_show 17 = .ok (.ifCond .eq 7, 3) := by decide +kernel
theorem dX9_show_20 : decode cX9_show 20 = .ok (.iconst 1, 1) := by decide +kernel
theorem dX9_show_21 : decode cX9_show 21 = .ok (.goto 4, 3) := by decide +kernel
theorem dX9_show_24 : decode cX9_show 24 = .ok (.iconst 0, 1) := by decide +kernel
theorem dX9_show_25 : decode cX9_show 25 = .ok (.if_icmp .ne 5, 3) := by decide +kernel
theorem dX9_show_28 : decode cX9_show 28 = .ok (.iconst 0, 1) := by decide +kernel
theorem dX9_show_29 : decode cX9_show 29 = .ok (.ireturn, 1) := by decide +kernel
theorem dX9_show_30 : decode cX9_show 30 = .ok (.aload_n 0, 1) := by decide +kernel
theorem dX9_show_31 : decode cX9_show 31 = .ok (.aload_n 0, 1) := by decide +kernel
theorem dX9_show_32 : decode cX9_show 32 = .ok (.getfield 155, 3) := by decide +kernel
theorem dX9_show_35 : decode cX9_show 35 = .ok (.iconst 1, 1) := by decide +kernel
theorem dX9_show_36 : decode cX9_show 36 = .ok (.iload_n 1, 1) := by decide +kernel
theorem dX9_show_37 : decode cX9_show 37 = .ok (.ishl, 1) := by decide +kernel
theorem dX9_show_38 : decode cX9_show 38 = .ok (.ixor, 1) := by decide +kernel
theorem dX9_show_39 : decode cX9_show 39 = .ok (.putfield 155, 3) := by decide +kernel
theorem dX9_show_42 : decode cX9_show 42 = .ok (.iconst 1, 1) := by decide +kernel
theorem dX9_show_43 : decode cX9_show 43 = .ok (.ireturn, 1) := by decide +kernel
theorem dX9_link_0 : decode cX9_link 0 = .ok (.aload_n 0, 1) := by decide +kernel
theorem dX9_link_1 : decode cX9_link 1 = .ok (.iload_n 1, 1) := by decide +kernel
theorem dX9_link_2 : decode cX9_link 2 = .ok (.iload_n 2, 1) := by decide +kernel
theorem dX9_link_3 : decode cX9_link 3 = .ok (.invokevirtual 139, 3) := by decide +kernel
theorem dX9_link_6 : decode cX9_link 6 = .ok (.ifCond .eq 27, 3) := by decide +kernel
theorem dX9_link_9 : decode cX9_link 9 = .ok (.aload_n 0, 1) := by decide +kernel
theorem dX9_link_10 : decode cX9_link 10 = .ok (.iload_n 3, 1) := by decide +kernel
theorem dX9_link_11 : decode cX9_link 11 = .ok (.iload 4, 2) := by decide +kernel
theorem dX9_link_13 : decode cX9_link 13 = .ok (.invokevirtual 139, 3) := by decide +kernel
theorem dX9_link_16 : decode cX9_link 16 = .ok (.ifCond .eq 17, 3) := by decide +kernel
theorem dX9_link_19 : decode cX9_link 19 = .ok (.iload_n 1, 1) := by decide +kernel
theorem dX9_link_20 : decode cX9_link 20 = .ok (.iload_n 3, 1) := by decide +kernel
theorem dX9_link_21 : decode cX9_link 21 = .ok (.if_icmp .eq 12, 3) := by decide +kernel
theorem dX9_link_24 : decode cX9_link 24 = .ok (.aload_n 0, 1) := by decide +kernel
theorem dX9_link_25 : decode cX9_link 25 = .ok (.getfield 169, 3) := by decide +kernel
theorem dX9_link_28 : decode cX9_link 28 = .ok (.bipush 40, 2) := by decide +kernel
theorem dX9_link_30 : decode cX9_link 30 = .ok (.if_icmp .ne 5, 3) := by decide +kernel
theorem dX9_link_33 : decode cX9_link 33 = .ok (.iconst (-1), 1) := by decide +kernel
theorem dX9_link_34 : decode cX9_link 34 = .ok (.ireturn, 1) := by decide +kernel
theorem dX9_link_35 : decode cX9_link 35 = .ok (.aload_n 0, 1) := by decide +kernel
theorem dX9_link_36 : decode cX9_link 36 = .ok (.getfield 31, 3) := by decide +kernel
theorem dX9_link_39 : decode cX9_link 39 = .ok (.aload_n 0, 1) := by decide +kernel
theorem dX9_link_40 : decode cX9_link 40 = .ok (.getfield 169, 3) := by decide +kernel
theorem dX9_link_43 : decode cX9_link 43 = .ok (.iload_n 1, 1) := by decide +kernel
theorem dX9_link_44 : decode cX9_link 44 = .ok (.iload_n 2, 1) := by decide +kernel
theorem dX9_link_45 : decode cX9_link 45 = .ok (.invokestatic 143, 3) := by decide +kernel
theorem dX9_link_48 : decode cX9_link 48 = .ok (.iastore, 1) := by decide +kernel
theorem dX9_link_49 : decode cX9_link 49 = .ok (.aload_n 0, 1) := by decide +kernel
theorem dX9_link_50 : decode cX9_link 50 = .ok (.getfield 34, 3) := by decide +kernel
theorem dX9_link_53 : decode cX9_link 53 = .ok (.aload_n 0, 1) := by decide +kernel
theorem dX9_link_54 : decode cX9_link 54 = .ok (.getfield 169, 3) := by decide +kernel
theorem dX9_link_57 : decode cX9_link 57 = .ok (.iload_n 3, 1) := by decide +kernel
theorem dX9_link_58 : decode cX9_link 58 = .ok (.iload 4, 2) := by decide +kernel
theorem dX9_link_60 : decode cX9_link 60 = .ok (.invokestatic 143, 3) := by decide +kernel
theorem dX9_link_63 : decode cX9_link 63 = .ok (.iastore, 1) := by decide +kernel
theorem dX9_link_64 : decode cX9_link 64 = .ok (.aload_n 0, 1) := by decide +kernel
theorem dX9_link_65 : decode cX9_link 65 = .ok (.aload_n 0, 1) := by decide +kernel
theorem dX9_link_66 : decode cX9_link 66 = .ok (.getfield 169, 3) := by decide +kernel
theorem dX9_link_69 : decode cX9_link 69 = .ok (.iconst 1, 1) := by decide +kernel
theorem dX9_link_70 : decode cX9_link 70 = .ok (.iadd, 1) := by decide +kernel
theorem dX9_link_71 : decode cX9_link 71 = .ok (.putfield 169, 3) := by decide +kernel
theorem dX9_link_74 : decode cX9_link 74 = .ok (.aload_n 0, 1) := by decide +kernel
theorem dX9_link_75 : decode cX9_link 75 = .ok (.getfield 169, 3) := by decide +kernel
theorem dX9_link_78 : decode cX9_link 78 = .ok (.ireturn, 1) := by decide +kernel
theorem dX9_types_0 : decode cX9_types 0 = .ok (.iconst 3, 1) := by decide +kernel
theorem dX9_types_1 : decode cX9_types 1 = .ok (.istore_n 2, 1) := by decide +kernel
theorem dX9_types_2 : decode cX9_types 2 = .ok (.iload_n 2, 1) := by decide +kernel
theorem dX9_types_3 : decode cX9_types 3 = .ok (.ifCond .lt 35, 3) := by decide +kernel
theorem dX9_types_6 : decode cX9_types 6 = .ok (.aload_n 0, 1) := by decide +kernel
theorem dX9_types_7 : decode cX9_types 7 = .ok (.getfield 41, 3) := by decide +kernel
theorem dX9_types_10 : decode cX9_types 10 = .ok (.aload_n 0, 1) := by decide +kernel
theorem dX9_types_11 : decode cX9_types 11 = .ok (.getfield 149, 3) := by decide +kernel
theorem dX9_types_14 : decode cX9_types 14 = .ok (.iload_n 1, 1) := by decide +kernel
theorem dX9_types_15 : decode cX9_types 15 = .ok (.bipush 8, 2) := by decide +kernel
theorem dX9_types_17 : decode cX9_types 17 = .ok (.iload_n 2, 1) := by decide +kernel
theorem dX9_types_18 : decode cX9_types 18 = .ok (.imul, 1) := by decide +kernel
theorem dX9_types_19 : decode cX9_types 19 = .ok (.ishr, 1) := by decide +kernel
theorem dX9_types_20 : decode cX9_types 20 = .ok (.i2b, 1) := by decide +kernel
theorem dX9_types_21 : decode cX9_types 21 = .ok (.bastore, 1) := by decide +kernel
theorem dX9_types_22 : decode cX9_types 22 = .ok (.aload_n 0, 1) := by decide +kernel
theorem dX9_types_23 : decode cX9_types 23 = .ok (.aload_n 0, 1) := by decide +kernel
theorem dX9_types_24 : decode cX9_types 24 = .ok (.getfield 149, 3) := by decide +kernel
theorem dX9_types_27 : decode cX9_types 27 = .ok (.iconst 1, 1) := by decide +kernel
theorem dX9_types_28 : decode cX9_types 28 = .ok (.iadd, 1) := by decide +kernel
theorem dX9_types_29 : decode cX9_types 29 = .ok (.putfield 149, 3) := by decide +kernel
theorem dX9_types_32 : decode cX9_types 32 = .ok (.iinc 2 (-1), 3) := by decide +kernel
theorem dX9_types_35 : decode cX9_types 35 = .ok (.goto (-33), 3) := by decide +kernel
theorem dX9_types_38 : decode cX9_types 38 = .ok (.return_, 1) := by decide +kernel
theorem dX9_feed_0 : decode cX9_feed 0 = .ok (.aload_n 0, 1) := by decide +kernel
theorem dX9_feed_1 : decode cX9_feed 1 = .ok (.getfield 149, 3) := by decide +kernel
theorem dX9_feed_4 : decode cX9_feed 4 = .ok (.bipush 20, 2) := by decide +kernel
theorem dX9_feed_6 : decode cX9_feed 6 = .ok (.iadd, 1) := by decide +kernel
theorem dX9_feed_7 : decode cX9_feed 7 = .ok (.sipush 200, 3) := by decide +kernel
theorem dX9_feed_10 : decode cX9_feed 10 = .ok (.if_icmp .le 5, 3) := by decide +kernel
theorem dX9_feed_13 : decode cX9_feed 13 = .ok (.iconst (-1), 1) := by decide +kernel
theorem dX9_feed_14 : decode cX9_feed 14 = .ok (.ireturn, 1) := by decide +kernel
theorem dX9_feed_15 : decode cX9_feed 15 = .ok (.aload_n 0, 1) := by decide +kernel
theorem dX9_feed_16 : decode cX9_feed 16 = .ok (.iload_n 1, 1) := by decide +kernel
theorem dX9_feed_17 : decode cX9_feed 17 = .ok (.invokevirtual 172, 3) := by decide +kernel
theorem dX9_feed_20 : decode cX9_feed 20 = .ok (.aload_n 0, 1) := by decide +kernel
theorem dX9_feed_21 : decode cX9_feed 21 = .ok (.iload_n 2, 1) := by decide +kernel
theorem dX9_feed_22 : decode cX9_feed 22 = .ok (.invokevirtual 172, 3) := by decide +kernel
theorem dX9_feed_25 : decode cX9_feed 25 = .ok (.aload_n 0, 1) := by decide +kernel
theorem dX9_feed_26 : decode cX9_feed 26 = .ok (.iload_n 3, 1) := by decide +kernel
theorem dX9_feed_27 : decode cX9_feed 27 = .ok (.invokevirtual 172, 3) := by decide +kernel
theorem dX9_feed_30 : decode cX9_feed 30 = .ok (.aload_n 0, 1) := by decide +kernel
theorem dX9_feed_31 : decode cX9_feed 31 = .ok (.iload 4, 2) := by decide +kernel
theorem dX9_feed_33 : decode cX9_feed 33 = .ok (.invokevirtual 172, 3) := by decide +kernel
theorem dX9_feed_36 : decode cX9_feed 36 = .ok (.aload_n 0, 1) := by decide +kernel
theorem dX9_feed_37 : decode cX9_feed 37 = .ok (.iload 5, 2) := by decide +kernel
theorem dX9_feed_39 : decode cX9_feed 39 = .ok (.invokevirtual 172, 3) := by decide +kernel
theorem dX9_feed_42 : decode cX9_feed 42 = .ok (.aload_n 0, 1) := by decide +kernel
theorem dX9_feed_43 : decode cX9_feed 43 = .ok (.getfield 149, 3) := by decide +kernel
theorem dX9_feed_46 : decode cX9_feed 46 = .ok (.ireturn, 1) := by decide +kernel
theorem dX9_here_0 : decode cX9_here 0 = .ok (.aload_n 0, 1) := by decide +kernel
theorem dX9_here_1 : decode cX9_here 1 = .ok (.getfield 176, 3) := by decide +kernel
theorem dX9_here_4 : decode cX9_here 4 = .ok (.aload_n 0, 1) := by decide +kernel
theorem dX9_here_5 : decode cX9_here 5 = .ok (.getfield 179, 3) := by decide +kernel
theorem dX9_here_8 : decode cX9_here 8 = .ok (.if_icmp .ge 19, 3) := by decide +kernel
theorem dX9_here_11 : decode cX9_here 11 = .ok (.aload_n 0, 1) := by decide +kernel
theorem dX9_here_12 : decode cX9_here 12 = .ok (.getfield 41, 3) := by decide +kernel
theorem dX9_here_15 : decode cX9_here 15 = .ok (.aload_n 0, 1) := by decide +kernel
theorem dX9_here_16 : decode cX9_here 16 = .ok (.getfield 176, 3) := by decide +kernel
theorem dX9_here_19 : decode cX9_here 19 = .ok (.baload, 1) := by decide +kernel
theorem dX9_here_20 : decode cX9_here 20 = .ok (.sipush 255, 3) := by decide +kernel
theorem dX9_here_23 : decode cX9_here 23 = .ok (.iand, 1) := by decide +kernel
theorem dX9_here_24 : decode cX9_here 24 = .ok (.goto 4, 3) := by decide +kernel
theorem dX9_here_27 : decode cX9_here 27 = .ok (.iconst (-1), 1) := by decide +kernel
theorem dX9_here_28 : decode cX9_here 28 = .ok (.ireturn, 1) := by decide +kernel
theorem dX9_isDigit_0 : decode cX9_isDigit 0 = .ok (.aload_n 0, 1) := by decide +kernel
theorem dX9_isDigit_1 : decode cX9_isDigit 1 = .ok (.invokevirtual 182, 3) := by decide +kernel
theorem dX9_isDigit_4 : decode cX9_isDigit 4 = .ok (.bipush 48, 2) := by decide +kernel
theorem dX9_isDigit_6 : decode cX9_isDigit 6 = .ok (.if_icmp .lt 16, 3) := by decide +kernel
theorem dX9_isDigit_9 : decode cX9_isDigit 9 = .ok (.aload_n 0, 1) := by decide +kernel
theorem dX9_isDigit_10 : decode cX9_isDigit 10 = .ok (.invokevirtual 182, 3) := by decide +kernel
theorem dX9_isDigit_13 : decode cX9_isDigit 13 = .ok (.bipush 57, 2) := by decide +kernel
theorem dX9_isDigit_15 : decode cX9_isDigit 15 = .ok (.if_icmp .gt 7, 3) := by decide +kernel
theorem dX9_isDigit_18 : decode cX9_isDigit 18 = .ok (.iconst 1, 1) := by decide +kernel
theorem dX9_isDigit_19 : decode cX9_isDigit 19 = .ok (.goto 4, 3) := by decide +kernel
theorem dX9_isDigit_22 : decode cX9_isDigit 22 = .ok (.iconst 0, 1) := by decide +kernel
theorem dX9_isDigit_23 : decode cX9_isDigit 23 = .ok (.ireturn, 1) := by decide +kernel
theorem dX9_wrongAt_0 : decode cX9_wrongAt 0 = .ok (.aload_n 0, 1) := by decide +kernel
theorem dX9_wrongAt_1 : decode cX9_wrongAt 1 = .ok (.sipush (-1000), 3) := by decide +kernel
theorem dX9_wrongAt_4 : decode cX9_wrongAt 4 = .ok (.iload_n 1, 1) := by decide +kernel
theorem dX9_wrongAt_5 : decode cX9_wrongAt 5 = .ok (.imul, 1) := by decide +kernel
theorem dX9_wrongAt_6 : decode cX9_wrongAt 6 = .ok (.iload_n 2, 1) := by decide +kernel
theorem dX9_wrongAt_7 : decode cX9_wrongAt 7 = .ok (.isub, 1) := by decide +kernel
theorem dX9_wrongAt_8 : decode cX9_wrongAt 8 = .ok (.putfield 186, 3) := by decide +kernel
theorem dX9_wrongAt_11 : decode cX9_wrongAt 11 = .ok (.iconst 0, 1) := by decide +kernel
theorem dX9_wrongAt_12 : decode cX9_wrongAt 12 = .ok (.ireturn, 1) := by decide +kernel
theorem dX9_readsNumber_0 : decode cX9_readsNumber 0 = .ok (.aload_n 0, 1) := by decide +kernel
theorem dX9_readsNumber_1 : decode cX9_readsNumber 1 = .ok (.getfield 176, 3) := by decide +kernel
theorem dX9_readsNumber_4 : decode cX9_readsNumber 4 = .ok (.istore_n 1, 1) := by decide +kernel
theorem dX9_readsNumber_5 : decode cX9_readsNumber 5 = .ok (.aload_n 0, 1) := by decide +kernel
theorem dX9_readsNumber_6 : decode cX9_readsNumber 6 = .ok (.iconst 0, 1) := by decide +kernel
theorem dX9_readsNumber_7 : decode cX9_readsNumber 7 = .ok (.putfield 192, 3) := by decide +kernel
theorem dX9_readsNumber_10 : decode cX9_readsNumber 10 = .ok (.aload_n 0, 1) := by decide +kernel
theorem dX9_readsNumber_11 : decode cX9_readsNumber 11 = .ok (.invokevirtual 195, 3) := by decide +kernel
theorem dX9_readsNumber_14 : decode cX9_readsNumber 14 = .ok (.ifCond .eq 55, 3) := by decide +kernel
theorem dX9_readsNumber_17 : decode cX9_readsNumber 17 = .ok (.aload_n 0, 1) := by decide +kernel
theorem dX9_readsNumber_18 : decode cX9_readsNumber 18 = .ok (.getfield 176, 3) := by decide +kernel
theorem dX9_readsNumber_21 : decode cX9_readsNumber 21 = .ok (.iload_n 1, 1) := by decide +kernel
theorem dX9_readsNumber_22 : decode cX9_readsNumber 22 = .ok (.iconst 5, 1) := by decide +kernel
theorem dX9_readsNumber_23 : decode cX9_readsNumber 23 = .ok (.iadd, 1) := by decide +kernel
theorem dX9_readsNumber_24 : decode cX9_readsNumber 24 = .ok (.if_icmp .ne 13, 3) := by decide +kernel
theorem dX9_readsNumber_27 : decode cX9_readsNumber 27 = .ok (.aload_n 0, 1) := by decide +kernel
theorem dX9_readsNumber_28 : decode cX9_readsNumber 28 = .ok (.iconst 2, 1) := by decide +kernel
theorem dX9_readsNumber_29 : decode cX9_readsNumber 29 = .ok (.aload_n 0, 1) := by decide +kernel
theorem dX9_readsNumber_30 : decode cX9_readsNumber 30 = .ok (.getfield 176, 3) := by decide +kernel
theorem dX9_readsNumber_33 : decode cX9_readsNumber 33 = .ok (.invokevirtual 189, 3) := by decide +kernel
theorem dX9_readsNumber_36 : decode cX9_readsNumber 36 = .ok (.ireturn, 1) := by decide +kernel
theorem dX9_readsNumber_37 : decode cX9_readsNumber 37 = .ok (.aload_n 0, 1) := by decide +kernel
theorem dX9_readsNumber_38 : decode cX9_readsNumber 38 = .ok (.bipush 10, 2) := by decide +kernel
theorem dX9_readsNumber_40 : decode cX9_readsNumber 40 = .ok (.aload_n 0, 1) := by decide +kernel
theorem dX9_readsNumber_41 : decode cX9_readsNumber 41 = .ok (.getfield 192, 3) := by decide +kernel
theorem dX9_readsNumber_44 : decode cX9_readsNumber 44 = .ok (.imul, 1) := by decide +kernel
theorem dX9_readsNumber_45 : decode cX9_readsNumber 45 = .ok (.aload_n 0, 1) := by decide +kernel
theorem dX9_readsNumber_46 : decode cX9_readsNumber 46 = .ok (.invokevirtual 182, 3) := by decide +kernel
theorem dX9_readsNumber_49 : decode cX9_readsNumber 49 = .ok (.iadd, 1) := by decide +kernel
theorem dX9_readsNumber_50 : decode cX9_readsNumber 50 = .ok (.bipush 48, 2) := by decide +kernel
theorem dX9_readsNumber_52 : decode cX9_readsNumber 52 = .ok (.isub, 1) := by decide +kernel
theorem dX9_readsNumber_53 : decode cX9_readsNumber 53 = .ok (.putfield 192, 3) := by decide +kernel
theorem dX9_readsNumber_56 : decode cX9_readsNumber 56 = .ok (.aload_n 0, 1) := by decide +kernel
theorem dX9_readsNumber_57 : decode cX9_readsNumber 57 = .ok (.aload_n 0, 1) := by decide +kernel
theorem dX9_readsNumber_58 : decode cX9_readsNumber 58 = .ok (.getfield 176, 3) := by decide +kernel
theorem dX9_readsNumber_61 : decode cX9_readsNumber 61 = .ok (.iconst 1, 1) := by decide +kernel
theorem dX9_readsNumber_62 : decode cX9_readsNumber 62 = .ok (.iadd, 1) := by decide +kernel
theorem dX9_readsNumber_63 : decode cX9_readsNumber 63 = .ok (.putfield 176, 3) := by decide +kernel
theorem dX9_readsNumber_66 : decode cX9_readsNumber 66 = .ok (.goto (-56), 3) := by decide +kernel
theorem dX9_readsNumber_69 : decode cX9_readsNumber 69 = .ok (.iconst 1, 1) := by decide +kernel
theorem dX9_readsNumber_70 : decode cX9_readsNumber 70 = .ok (.ireturn, 1) := by decide +kernel
theorem dX9_notes_0 : decode cX9_notes 0 = .ok (.aload_n 0, 1) := by decide +kernel
theorem dX9_notes_1 : decode cX9_notes 1 = .ok (.getfield 45, 3) := by decide +kernel
theorem dX9_notes_4 : decode cX9_notes 4 = .ok (.aload_n 0, 1) := by decide +kernel
theorem dX9_notes_5 : decode cX9_notes 5 = .ok (.getfield 199, 3) := by decide +kernel
theorem dX9_notes_8 : decode cX9_notes 8 = .ok (.ldc 202, 2) := by decide +kernel
theorem dX9_notes_10 : decode cX9_notes 10 = .ok (.iload_n 1, 1) := by decide +kernel
theorem dX9_notes_11 : decode cX9_notes 11 = .ok (.imul, 1) := by decide +kernel
theorem dX9_notes_12 : decode cX9_notes 12 = .ok (.iload_n 2, 1) := by decide +kernel
theorem dX9_notes_13 : decode cX9_notes 13 = .ok (.iadd, 1) := by decide +kernel
theorem dX9_notes_14 : decode cX9_notes 14 = .ok (.iastore, 1) := by decide +kernel
theorem dX9_notes_15 : decode cX9_notes 15 = .ok (.aload_n 0, 1) := by decide +kernel
theorem dX9_notes_16 : decode cX9_notes 16 = .ok (.aload_n 0, 1) := by decide +kernel
theorem dX9_notes_17 : decode cX9_notes 17 = .ok (.getfield 199, 3) := by decide +kernel
theorem dX9_notes_20 : decode cX9_notes 20 = .ok (.iconst 1, 1) := by decide +kernel
theorem dX9_notes_21 : decode cX9_notes 21 = .ok (.iadd, 1) := by decide +kernel
theorem dX9_notes_22 : decode cX9_notes 22 = .ok (.putfield 199, 3) := by decide +kernel
theorem dX9_notes_25 : decode cX9_notes 25 = .ok (.return_, 1) := by decide +kernel
theorem dX9_opens_0 : decode cX9_opens 0 = .ok (.aload_n 0, 1) := by decide +kernel
theorem dX9_opens_1 : decode cX9_opens 1 = .ok (.getfield 203, 3) := by decide +kernel
theorem dX9_opens_4 : decode cX9_opens 4 = .ok (.bipush 6, 2) := by decide +kernel
theorem dX9_opens_6 : decode cX9_opens 6 = .ok (.if_icmp .ne 13, 3) := by decide +kernel
theorem dX9_opens_9 : decode cX9_opens 9 = .ok (.aload_n 0, 1) := by decide +kernel
theorem dX9_opens_10 : decode cX9_opens 10 = .ok (.iconst 5, 1) := by decide +kernel
theorem dX9_opens_11 : decode cX9_opens 11 = .ok (.aload_n 0, 1) := by decide +kernel
theorem dX9_opens_12 : decode cX9_opens 12 = .ok (.getfield 176, 3) := by decide +kernel
theorem dX9_opens_15 : decode cX9_opens 15 = .ok (.invokevirtual 189, 3) := by decide +kernel
theorem dX9_opens_18 : decode cX9_opens 18 = .ok (.ireturn, 1) := by decide +kernel
theorem dX9_opens_19 : decode cX9_opens 19 = .ok (.aload_n 0, 1) := by decide +kernel
theorem dX9_opens_20 : decode cX9_opens 20 = .ok (.aload_n 0, 1) := by decide +kernel
theorem dX9_opens_21 : decode cX9_opens 21 = .ok (.getfield 203, 3) := by decide +kernel
theorem dX9_opens_24 : decode cX9_opens 24 = .ok (.iconst 1, 1) := by decide +kernel
theorem dX9_opens_25 : decode cX9_opens 25 = .ok (.iadd, 1) := by decide +kernel
theorem dX9_opens_26 : decode cX9_opens 26 = .ok (.putfield 203, 3) := by decide +kernel
theorem dX9_opens_29 : decode cX9_opens 29 = .ok (.aload_n 0, 1) := by decide +kernel
theorem dX9_opens_30 : decode cX9_opens 30 = .ok (.getfield 48, 3) := by decide +kernel
theorem dX9_opens_33 : decode cX9_opens 33 = .ok (.aload_n 0, 1) := by decide +kernel
theorem dX9_opens_34 : decode cX9_opens 34 = .ok (.getfield 206, 3) := by decide +kernel
theorem dX9_opens_37 : decode cX9_opens 37 = .ok (.ldc 202, 2) := by decide +kernel
theorem dX9_opens_39 : decode cX9_opens 39 = .ok (.iload_n 1, 1) := by decide +kernel
theorem dX9_opens_40 : decode cX9_opens 40 = .ok (.imul, 1) := by decide +kernel
theorem dX9_opens_41 : decode cX9_opens 41 = .ok (.iastore, 1) := by decide +kernel
theorem dX9_opens_42 : decode cX9_opens 42 = .ok (.aload_n 0, 1) := by decide +kernel
theorem dX9_opens_43 : decode cX9_opens 43 = .ok (.aload_n 0, 1) := by decide +kernel
theorem dX9_opens_44 : decode cX9_opens 44 = .ok (.getfield 206, 3) := by decide +kernel
theorem dX9_opens_47 : decode cX9_opens 47 = .ok (.iconst 1, 1) := by decide +kernel
theorem dX9_opens_48 : decode cX9_opens 48 = .ok (.iadd, 1) := by decide +kernel
theorem dX9_opens_49 : decode cX9_opens 49 = .ok (.putfield 206, 3) := by decide +kernel
theorem dX9_opens_52 : decode cX9_opens 52 = .ok (.aload_n 0, 1) := by decide +kernel
theorem dX9_opens_53 : decode cX9_opens 53 = .ok (.aload_n 0, 1) := by decide +kernel
theorem dX9_opens_54 : decode cX9_opens 54 = .ok (.getfield 176, 3) := by decide +kernel
theorem dX9_opens_57 : decode cX9_opens 57 = .ok (.iconst 1, 1) := by decide +kernel
theorem dX9_opens_58 : decode cX9_opens 58 = .ok (.iadd, 1) := by decide +kernel
theorem dX9_opens_59 : decode cX9_opens 59 = .ok (.putfield 176, 3) := by decide +kernel
theorem dX9_opens_62 : decode cX9_opens 62 = .ok (.iconst 1, 1) := by decide +kernel
theorem dX9_opens_63 : decode cX9_opens 63 = .ok (.ireturn, 1) := by decide +kernel
theorem dX9_top_0 : decode cX9_top 0 = .ok (.aload_n 0, 1) := by decide +kernel
theorem dX9_top_1 : decode cX9_top 1 = .ok (.getfield 206, 3) := by decide +kernel
theorem dX9_top_4 : decode cX9_top 4 = .ok (.ifCond .ne 7, 3) := by decide +kernel
theorem dX9_top_7 : decode cX9_top 7 = .ok (.iconst (-1), 1) := by decide +kernel
theorem dX9_top_8 : decode cX9_top 8 = .ok (.goto 17, 3) := by decide +kernel
theorem dX9_top_11 : decode cX9_top 11 = .ok (.aload_n 0, 1) := by decide +kernel
theorem dX9_top_12 : decode cX9_top 12 = .ok (.getfield 48, 3) := by decide +kernel
theorem dX9_top_15 : decode cX9_top 15 = .ok (.aload_n 0, 1) := by decide +kernel
theorem dX9_top_16 : decode cX9_top 16 = .ok (.getfield 206, 3) := by decide +kernel
theorem dX9_top_19 : decode cX9_top 19 = .ok (.iconst 1, 1) := by decide +kernel
theorem dX9_top_20 : decode cX9_top 20 = .ok (.isub, 1) := by decide +kernel
theorem dX9_top_21 : decode cX9_top 21 = .ok (.iaload, 1) := by decide +kernel
theorem dX9_top_22 : decode cX9_top 22 = .ok (.ldc 202, 2) := by decide +kernel
theorem dX9_top_24 : decode cX9_top 24 = .ok (.idiv, 1) := by decide +kernel
theorem dX9_top_25 : decode cX9_top 25 = .ok (.ireturn, 1) := by decide +kernel
theorem dX9_factOf_0 : decode cX9_factOf 0 = .ok (.iload_n 0, 1) := by decide +kernel
theorem dX9_factOf_1 : decode cX9_factOf 1 = .ok (.tableswitch 122 97 119 #[107, 109, 111, 113, 122, 122, 122, 122, 122, 122, 122, 119, 122, 122, 122, 115, 122, 122, 122, 122, 122, 122, 117], 107) := by decide +kernel
theorem dX9_factOf_108 : decode cX9_factOf 108 = .ok (.iconst 0, 1) := by decide +kernel
theorem dX9_factOf_109 : decode cX9_factOf 109 = .ok (.ireturn, 1) := by decide +kernel
theorem dX9_factOf_110 : decode cX9_factOf 110 = .ok (.iconst 1, 1) := by decide +kernel
theorem dX9_factOf_111 : decode cX9_factOf 111 = .ok (.ireturn, 1) := by decide +kernel
theorem dX9_factOf_112 : decode cX9_factOf 112 = .ok (.iconst 2, 1) := by decide +kernel
theorem dX9_factOf_113 : decode cX9_factOf 113 = .ok (.ireturn, 1) := by decide +kernel
theorem dX9_factOf_114 : decode cX9_factOf 114 = .ok (.iconst 3, 1) := by decide +kernel
theorem dX9_factOf_115 : decode cX9_factOf 115 = .ok (.ireturn, 1) := by decide +kernel
theorem dX9_factOf_116 : decode cX9_factOf 116 = .ok (.iconst 4, 1) := by decide +kernel
theorem dX9_factOf_117 : decode cX9_factOf 117 = .ok (.ireturn, 1) := by decide +kernel
theorem dX9_factOf_118 : decode cX9_factOf 118 = .ok (.iconst 5, 1) := by decide +kernel
theorem dX9_factOf_119 : decode cX9_factOf 119 = .ok (.ireturn, 1) := by decide +kernel
theorem dX9_factOf_120 : decode cX9_factOf 120 = .ok (.bipush 6, 2) := by decide +kernel
theorem dX9_factOf_122 : decode cX9_factOf 122 = .ok (.ireturn, 1) := by decide +kernel
theorem dX9_factOf_123 : decode cX9_factOf 123 = .ok (.iconst (-1), 1) := by decide +kernel
theorem dX9_factOf_124 : decode cX9_factOf 124 = .ok (.ireturn, 1) := by decide +kernel
theorem dX9_sumSign_0 : decode cX9_sumSign 0 = .ok (.iload_n 0, 1) := by decide +kernel
theorem dX9_sumSign_1 : decode cX9_sumSign 1 = .ok (.bipush 43, 2) := by decide +kernel
theorem dX9_sumSign_3 : decode cX9_sumSign 3 = .ok (.if_icmp .ne 7, 3) := by decide +kernel
theorem dX9_sumSign_6 : decode cX9_sumSign 6 = .ok (.iconst 2, 1) := by decide +kernel
theorem dX9_sumSign_7 : decode cX9_sumSign 7 = .ok (.goto 45, 3) := by decide +kernel
theorem dX9_sumSign_10 : decode cX9_sumSign 10 = .ok (.iload_n 0, 1) := by decide +kernel
theorem dX9_sumSign_11 : decode cX9_sumSign 11 = .ok (.bipush 45, 2) := by decide +kernel
theorem dX9_sumSign_13 : decode cX9_sumSign 13 = .ok (.if_icmp .ne 7, 3) := by decide +kernel
theorem dX9_sumSign_16 : decode cX9_sumSign 16 = .ok (.iconst 3, 1) := by decide +kernel
theorem dX9_sumSign_17 : decode cX9_sumSign 17 = .ok (.goto 35, 3) := by decide +kernel
theorem dX9_sumSign_20 : decode cX9_sumSign 20 = .ok (.iload_n 0, 1) := by decide +kernel
theorem dX9_sumSign_21 : decode cX9_sumSign 21 = .ok (.bipush 42, 2) := by decide +kernel
theorem dX9_sumSign_23 : decode cX9_sumSign 23 = .ok (.if_icmp .ne 7, 3) := by decide +kernel
theorem dX9_sumSign_26 : decode cX9_sumSign 26 = .ok (.iconst 4, 1) := by decide +kernel
theorem dX9_sumSign_27 : decode cX9_sumSign 27 = .ok (.goto 25, 3) := by decide +kernel
theorem dX9_sumSign_30 : decode cX9_sumSign 30 = .ok (.iload_n 0, 1) := by decide +kernel
theorem dX9_sumSign_31 : decode cX9_sumSign 31 = .ok (.bipush 47, 2) := by decide +kernel
theorem dX9_sumSign_33 : decode cX9_sumSign 33 = .ok (.if_icmp .ne 7, 3) := by decide +kernel
theorem dX9_sumSign_36 : decode cX9_sumSign 36 = .ok (.iconst 5, 1) := by decide +kernel
theorem dX9_sumSign_37 : decode cX9_sumSign 37 = .ok (.goto 15, 3) := by decide +kernel
theorem dX9_sumSign_40 : decode cX9_sumSign 40 = .ok (.iload_n 0, 1) := by decide +kernel
theorem dX9_sumSign_41 : decode cX9_sumSign 41 = .ok (.bipush 37, 2) := by decide +kernel
theorem dX9_sumSign_43 : decode cX9_sumSign 43 = .ok (.if_icmp .ne 8, 3) := by decide +kernel
theorem dX9_sumSign_46 : decode cX9_sumSign 46 = .ok (.bipush 6, 2) := by decide +kernel
theorem dX9_sumSign_48 : decode cX9_sumSign 48 = .ok (.goto 4, 3) := by decide +kernel
theorem dX9_sumSign_51 : decode cX9_sumSign 51 = .ok (.iconst (-1), 1) := by decide +kernel
theorem dX9_sumSign_52 : decode cX9_sumSign 52 = .ok (.ireturn, 1) := by decide +kernel
theorem dX9_closesSums_0 : decode cX9_closesSums 0 = .ok (.aload_n 0, 1) := by decide +kernel
theorem dX9_closesSums_1 : decode cX9_closesSums 1 = .ok (.invokevirtual 209, 3) := by decide +kernel
theorem dX9_closesSums_4 : decode cX9_closesSums 4 = .ok (.iconst 4, 1) := by decide +kernel
theorem dX9_closesSums_5 : decode cX9_closesSums 5 = .ok (.if_icmp .lt 12, 3) := by decide +kernel
theorem dX9_closesSums_8 : decode cX9_closesSums 8 = .ok (.aload_n 0, 1) := by decide +kernel
theorem dX9_closesSums_9 : decode cX9_closesSums 9 = .ok (.invokevirtual 209, 3) := by decide +kernel
theorem dX9_closesSums_12 : decode cX9_closesSums 12 = .ok (.bipush 6, 2) := by decide +kernel
theorem dX9_closesSums_14 : decode cX9_closesSums 14 = .ok (.if_icmp .le 23, 3) := by decide +kernel
theorem dX9_closesSums_17 : decode cX9_closesSums 17 = .ok (.iload_n 1, 1) := by decide +kernel
theorem dX9_closesSums_18 : decode cX9_closesSums 18 = .ok (.ifCond .eq 41, 3) := by decide +kernel
theorem dX9_closesSums_21 : decode cX9_closesSums 21 = .ok (.aload_n 0, 1) := by decide +kernel
theorem dX9_closesSums_22 : decode cX9_closesSums 22 = .ok (.invokevirtual 209, 3) := by decide +kernel
theorem dX9_closesSums_25 : decode cX9_closesSums 25 = .ok (.iconst 2, 1) := by decide +kernel
theorem dX9_closesSums_26 : decode cX9_closesSums 26 = .ok (.if_icmp .eq 11, 3) := by decide +kernel
theorem dX9_closesSums_29 : decode cX9_closesSums 29 = .ok (.aload_n 0, 1) := by decide +kernel
theorem dX9_closesSums_30 : decode cX9_closesSums 30 = .ok (.invokevirtual 209, 3) := by decide +kernel
theorem dX9_closesSums_33 : decode cX9_closesSums 33 = .ok (.iconst 3, 1) := by decide +kernel
theorem dX9_closesSums_34 : decode cX9_closesSums 34 = .ok (.if_icmp .ne 25, 3) := by decide +kernel
theorem dX9_closesSums_37 : decode cX9_closesSums 37 = .ok (.aload_n 0, 1) := by decide +kernel
theorem dX9_closesSums_38 : decode cX9_closesSums 38 = .ok (.aload_n 0, 1) := by decide +kernel
theorem dX9_closesSums_39 : decode cX9_closesSums 39 = .ok (.invokevirtual 209, 3) := by decide +kernel
theorem dX9_closesSums_42 : decode cX9_closesSums 42 = .ok (.iconst 0, 1) := by decide +kernel
theorem dX9_closesSums_43 : decode cX9_closesSums 43 = .ok (.invokevirtual 212, 3) := by decide +kernel
theorem dX9_closesSums_46 : decode cX9_closesSums 46 = .ok (.aload_n 0, 1) := by decide +kernel
theorem dX9_closesSums_47 : decode cX9_closesSums 47 = .ok (.aload_n 0, 1) := by decide +kernel
theorem dX9_closesSums_48 : decode cX9_closesSums 48 = .ok (.getfield 206, 3) := by decide +kernel
theorem dX9_closesSums_51 : decode cX9_closesSums 51 = .ok (.iconst 1, 1) := by decide +kernel
theorem dX9_closesSums_52 : decode cX9_closesSums 52 = .ok (.isub, 1) := by decide +kernel
theorem dX9_closesSums_53 : decode cX9_closesSums 53 = .ok (.putfield 206, 3) := by decide +kernel
theorem dX9_closesSums_56 : decode cX9_closesSums 56 = .ok (.goto (-56), 3) := by decide +kernel
theorem dX9_closesSums_59 : decode cX9_closesSums 59 = .ok (.return_, 1) := by decide +kernel
theorem dX9_readsFactor_0 : decode cX9_readsFactor 0 = .ok (.aload_n 0, 1) := by decide +kernel
theorem dX9_readsFactor_1 : decode cX9_readsFactor 1 = .ok (.invokevirtual 182, 3) := by decide +kernel
theorem dX9_readsFactor_4 : decode cX9_readsFactor 4 = .ok (.bipush 91, 2) := by decide +kernel
theorem dX9_readsFactor_6 : decode cX9_readsFactor 6 = .ok (.if_icmp .ne 14, 3) := by decide +kernel
theorem dX9_readsFactor_9 : decode cX9_readsFactor 9 = .ok (.aload_n 0, 1) := by decide +kernel
theorem dX9_readsFactor_10 : decode cX9_readsFactor 10 = .ok (.bipush 14, 2) := by decide +kernel
theorem dX9_readsFactor_12 : decode cX9_readsFactor 12 = .ok (.invokevirtual 216, 3) := by decide +kernel
theorem dX9_readsFactor_15 : decode cX9_readsFactor 15 = .ok (.ifCond .ne (-15), 3) := by decide +kernel
theorem dX9_readsFactor_18 : decode cX9_readsFactor 18 = .ok (.iconst 0, 1) := by decide +kernel
theorem dX9_readsFactor_19 : decode cX9_readsFactor 19 = .ok (.ireturn, 1) := by decide +kernel
theorem dX9_readsFactor_20 : decode cX9_readsFactor 20 = .ok (.aload_n 0, 1) := by decide +kernel
theorem dX9_readsFactor_21 : decode cX9_readsFactor 21 = .ok (.invokevirtual 195, 3) := by decide +kernel
theorem dX9_readsFactor_24 : decode cX9_readsFactor 24 = .ok (.ifCond .eq 23, 3) := by decide +kernel
theorem dX9_readsFactor_27 : decode cX9_readsFactor 27 = .ok (.aload_n 0, 1) := by decide +kernel
theorem dX9_readsFactor_28 : decode cX9_readsFactor 28 = .ok (.invokevirtual 219, 3) := by decide +kernel
theorem dX9_readsFactor_31 : decode cX9_readsFactor 31 = .ok (.ifCond .ne 5, 3) := by decide +kernel
theorem dX9_readsFactor_34 : decode cX9_readsFactor 34 = .ok (.iconst 0, 1) := by decide +kernel
theorem dX9_readsFactor_35 : decode cX9_readsFactor 35 = .ok (.ireturn, 1) := by decide +kernel
theorem dX9_readsFactor_36 : decode cX9_readsFactor 36 = .ok (.aload_n 0, 1) := by decide +kernel
theorem dX9_readsFactor_37 : decode cX9_readsFactor 37 = .ok (.iconst 0, 1) := by decide +kernel
theorem dX9_readsFactor_38 : decode cX9_readsFactor 38 = .ok (.aload_n 0, 1) := by decide +kernel
theorem dX9_readsFactor_39 : decode cX9_readsFactor 39 = .ok (.getfield 192, 3) := by decide +kernel
theorem dX9_readsFactor_42 : decode cX9_readsFactor 42 = .ok (.invokevirtual 212, 3) := by decide +kernel
theorem dX9_readsFactor_45 : decode cX9_readsFactor 45 = .ok (.iconst 1, 1) := by decide +kernel
theorem dX9_readsFactor_46 : decode cX9_readsFactor 46 = .ok (.ireturn, 1) := by decide +kernel
theorem dX9_readsFactor_47 : decode cX9_readsFactor 47 = .ok (.aload_n 0, 1) := by decide +kernel
theorem dX9_readsFactor_48 : decode cX9_readsFactor 48 = .ok (.invokevirtual 182, 3) := by decide +kernel
theorem dX9_readsFactor_51 : decode cX9_readsFactor 51 = .ok (.invokestatic 222, 3) := by decide +kernel
theorem dX9_readsFactor_54 : decode cX9_readsFactor 54 = .ok (.istore_n 1, 1) := by decide +kernel
theorem dX9_readsFactor_55 : decode cX9_readsFactor 55 = .ok (.iload_n 1, 1) := by decide +kernel
theorem dX9_readsFactor_56 : decode cX9_readsFactor 56 = .ok (.iconst (-1), 1) := by decide +kernel
theorem dX9_readsFactor_57 : decode cX9_readsFactor 57 = .ok (.if_icmp .ne 13, 3) := by decide +kernel
theorem dX9_readsFactor_60 : decode cX9_readsFactor 60 = .ok (.aload_n 0, 1) := by decide +kernel
theorem dX9_readsFactor_61 : decode cX9_readsFactor 61 = .ok (.iconst 1, 1) := by decide +kernel
theorem dX9_readsFactor_62 : decode cX9_readsFactor 62 = .ok (.aload_n 0, 1) := by decide +kernel
theorem dX9_readsFactor_63 : decode cX9_readsFactor 63 = .ok (.getfield 176, 3) := by decide +kernel
theorem dX9_readsFactor_66 : decode cX9_readsFactor 66 = .ok (.invokevirtual 189, 3) := by decide +kernel
theorem dX9_readsFactor_69 : decode cX9_readsFactor 69 = .ok (.ireturn, 1) := by decide +kernel
theorem dX9_readsFactor_70 : decode cX9_readsFactor 70 = .ok (.aload_n 0, 1) := by decide +kernel
theorem dX9_readsFactor_71 : decode cX9_readsFactor 71 = .ok (.iconst 1, 1) := by decide +kernel
theorem dX9_readsFactor_72 : decode cX9_readsFactor 72 = .ok (.iload_n 1, 1) := by decide +kernel
theorem dX9_readsFactor_73 : decode cX9_readsFactor 73 = .ok (.invokevirtual 212, 3) := by decide +kernel
theorem dX9_readsFactor_76 : decode cX9_readsFactor 76 = .ok (.aload_n 0, 1) := by decide +kernel
theorem dX9_readsFactor_77 : decode cX9_readsFactor 77 = .ok (.aload_n 0, 1) := by decide +kernel
theorem dX9_readsFactor_78 : decode cX9_readsFactor 78 = .ok (.getfield 176, 3) := by decide +kernel
theorem dX9_readsFactor_81 : decode cX9_readsFactor 81 = .ok (.iconst 1, 1) := by decide +kernel
theorem dX9_readsFactor_82 : decode cX9_readsFactor 82 = .ok (.iadd, 1) := by decide +kernel
theorem dX9_readsFactor_83 : decode cX9_readsFactor 83 = .ok (.putfield 176, 3) := by decide +kernel
theorem dX9_readsFactor_86 : decode cX9_readsFactor 86 = .ok (.iconst 1, 1) := by decide +kernel
theorem dX9_readsFactor_87 : decode cX9_readsFactor 87 = .ok (.ireturn, 1) := by decide +kernel
theorem dX9_hasOpenSum_0 : decode cX9_hasOpenSum 0 = .ok (.iload_n 1, 1) := by decide +kernel
theorem dX9_hasOpenSum_1 : decode cX9_hasOpenSum 1 = .ok (.istore_n 2, 1) := by decide +kernel
theorem dX9_hasOpenSum_2 : decode cX9_hasOpenSum 2 = .ok (.iload_n 2, 1) := by decide +kernel
theorem dX9_hasOpenSum_3 : decode cX9_hasOpenSum 3 = .ok (.aload_n 0, 1) := by decide +kernel
theorem dX9_hasOpenSum_4 : decode cX9_hasOpenSum 4 = .ok (.getfield 206, 3) := by decide +kernel
theorem dX9_hasOpenSum_7 : decode cX9_hasOpenSum 7 = .ok (.if_icmp .ge 25, 3) := by decide +kernel
theorem dX9_hasOpenSum_10 : decode cX9_hasOpenSum 10 = .ok (.aload_n 0, 1) := by decide +kernel
theorem dX9_hasOpenSum_11 : decode cX9_hasOpenSum 11 = .ok (.getfield 48, 3) := by decide +kernel
theorem dX9_hasOpenSum_14 : decode cX9_hasOpenSum 14 = .ok (.iload_n 2, 1) := by decide +kernel
theorem dX9_hasOpenSum_15 : decode cX9_hasOpenSum 15 = .ok (.iaload, 1) := by decide +kernel
theorem dX9_hasOpenSum_16 : decode cX9_hasOpenSum 16 = .ok (.ldc 202, 2) := by decide +kernel
theorem dX9_hasOpenSum_18 : decode cX9_hasOpenSum 18 = .ok (.idiv, 1) := by decide +kernel
theorem dX9_hasOpenSum_19 : decode cX9_hasOpenSum 19 = .ok (.bipush 14, 2) := by decide +kernel
theorem dX9_hasOpenSum_21 : decode cX9_hasOpenSum 21 = .ok (.if_icmp .ne 5, 3) := by decide +kernel
theorem dX9_hasOpenSum_24 : decode cX9_hasOpenSum 24 = .ok (.iconst 1, 1) := by decide +kernel
theorem dX9_hasOpenSum_25 : decode cX9_hasOpenSum 25 = .ok (.ireturn, 1) := by decide +kernel
theorem dX9_hasOpenSum_26 : decode cX9_hasOpenSum 26 = .ok (.iinc 2 1, 3) := by decide +kernel
theorem dX9_hasOpenSum_29 : decode cX9_hasOpenSum 29 = .ok (.goto (-27), 3) := by decide +kernel
theorem dX9_hasOpenSum_32 : decode cX9_hasOpenSum 32 = .ok (.iconst 0, 1) := by decide +kernel
theorem dX9_hasOpenSum_33 : decode cX9_hasOpenSum 33 = .ok (.ireturn, 1) := by decide +kernel
theorem dX9_readsSum_0 : decode cX9_readsSum 0 = .ok (.aload_n 0, 1) := by decide +kernel
theorem dX9_readsSum_1 : decode cX9_readsSum 1 = .ok (.getfield 206, 3) := by decide +kernel
theorem dX9_readsSum_4 : decode cX9_readsSum 4 = .ok (.istore_n 1, 1) := by decide +kernel
theorem dX9_readsSum_5 : decode cX9_readsSum 5 = .ok (.aload_n 0, 1) := by decide +kernel
theorem dX9_readsSum_6 : decode cX9_readsSum 6 = .ok (.invokevirtual 226, 3) := by decide +kernel
theorem dX9_readsSum_9 : decode cX9_readsSum 9 = .ok (.ifCond .ne 5, 3) := by decide +kernel
theorem dX9_readsSum_12 : decode cX9_readsSum 12 = .ok (.iconst 0, 1) := by decide +kernel
theorem dX9_readsSum_13 : decode cX9_readsSum 13 = .ok (.ireturn, 1) := by decide +kernel
theorem dX9_readsSum_14 : decode cX9_readsSum 14 = .ok (.aload_n 0, 1) := by decide +kernel
theorem dX9_readsSum_15 : decode cX9_readsSum 15 = .ok (.invokevirtual 182, 3) := by decide +kernel
theorem dX9_readsSum_18 : decode cX9_readsSum 18 = .ok (.invokestatic 229, 3) := by decide +kernel
theorem dX9_readsSum_21 : decode cX9_readsSum 21 = .ok (.istore_n 2, 1) := by decide +kernel
theorem dX9_readsSum_22 : decode cX9_readsSum 22 = .ok (.iload_n 2, 1) := by decide +kernel
theorem dX9_readsSum_23 : decode cX9_readsSum 23 = .ok (.iconst (-1), 1) := by decide +kernel
theorem dX9_readsSum_24 : decode cX9_readsSum 24 = .ok (.if_icmp .eq 59, 3) := by decide +kernel
theorem dX9_readsSum_27 : decode cX9_readsSum 27 = .ok (.aload_n 0, 1) := by decide +kernel
theorem dX9_readsSum_28 : decode cX9_readsSum 28 = .ok (.iload_n 2, 1) := by decide +kernel
theorem dX9_readsSum_29 : decode cX9_readsSum 29 = .ok (.iconst 4, 1) := by decide +kernel
theorem dX9_readsSum_30 : decode cX9_readsSum 30 = .ok (.if_icmp .ge 7, 3) := by decide +kernel
theorem dX9_readsSum_33 : decode cX9_readsSum 33 = .ok (.iconst 1, 1) := by decide +kernel
theorem dX9_readsSum_34 : decode cX9_readsSum 34 = .ok (.goto 4, 3) := by decide +kernel
theorem dX9_readsSum_37 : decode cX9_readsSum 37 = .ok (.iconst 0, 1) := by decide +kernel
theorem dX9_readsSum_38 : decode cX9_readsSum 38 = .ok (.invokevirtual 232, 3) := by decide +kernel
theorem dX9_readsSum_41 : decode cX9_readsSum 41 = .ok (.aload_n 0, 1) := by decide +kernel
theorem dX9_readsSum_42 : decode cX9_readsSum 42 = .ok (.getfield 48, 3) := by decide +kernel
theorem dX9_readsSum_45 : decode cX9_readsSum 45 = .ok (.aload_n 0, 1) := by decide +kernel
theorem dX9_readsSum_46 : decode cX9_readsSum 46 = .ok (.getfield 206, 3) := by decide +kernel
theorem dX9_readsSum_49 : decode cX9_readsSum 49 = .ok (.ldc 202, 2) := by decide +kernel
theorem dX9_readsSum_51 : decode cX9_readsSum 51 = .ok (.iload_n 2, 1) := by decide +kernel
theorem dX9_readsSum_52 : decode cX9_readsSum 52 = .ok (.imul, 1) := by decide +kernel
theorem dX9_readsSum_53 : decode cX9_readsSum 53 = .ok (.iastore, 1) := by decide +kernel
theorem dX9_readsSum_54 : decode cX9_readsSum 54 = .ok (.aload_n 0, 1) := by decide +kernel
theorem dX9_readsSum_55 : decode cX9_readsSum 55 = .ok (.aload_n 0, 1) := by decide +kernel
theorem dX9_readsSum_56 : decode cX9_readsSum 56 = .ok (.getfield 206, 3) := by decide +kernel
theorem dX9_readsSum_59 : decode cX9_readsSum 59 = .ok (.iconst 1, 1) := by decide +kernel
theorem dX9_readsSum_60 : decode cX9_readsSum 60 = .ok (.iadd, 1) := by decide +kernel
theorem dX9_readsSum_61 : decode cX9_readsSum 61 = .ok (.putfield 206, 3) := by decide +kernel
theorem dX9_readsSum_64 : decode cX9_readsSum 64 = .ok (.aload_n 0, 1) := by decide +kernel
theorem dX9_readsSum_65 : decode cX9_readsSum 65 = .ok (.aload_n 0, 1) := by decide +kernel
theorem dX9_readsSum_66 : decode cX9_readsSum 66 = .ok (.getfield 176, 3) := by decide +kernel
theorem dX9_readsSum_69 : decode cX9_readsSum 69 = .ok (.iconst 1, 1) := by decide +kernel
theorem dX9_readsSum_70 : decode cX9_readsSum 70 = .ok (.iadd, 1) := by decide +kernel
theorem dX9_readsSum_71 : decode cX9_readsSum 71 = .ok (.putfield 176, 3) := by decide +kernel
theorem dX9_readsSum_74 : decode cX9_readsSum 74 = .ok (.aload_n 0, 1) := by decide +kernel
theorem dX9_readsSum_75 : decode cX9_readsSum 75 = .ok (.invokevirtual 226, 3) := by decide +kernel
theorem dX9_readsSum_78 : decode cX9_readsSum 78 = .ok (.ifCond .ne 85, 3) := by decide +kernel
theorem dX9_readsSum_81 : decode cX9_readsSum 81 = .ok (.iconst 0, 1) := by decide +kernel
theorem dX9_readsSum_82 : decode cX9_readsSum 82 = .ok (.ireturn, 1) := by decide +kernel
theorem dX9_readsSum_83 : decode cX9_readsSum 83 = .ok (.aload_n 0, 1) := by decide +kernel
theorem dX9_readsSum_84 : decode cX9_readsSum 84 = .ok (.invokevirtual 182, 3) := by decide +kernel
theorem dX9_readsSum_87 : decode cX9_readsSum 87 = .ok (.bipush 93, 2) := by decide +kernel
theorem dX9_readsSum_89 : decode cX9_readsSum 89 = .ok (.if_icmp .ne 49, 3) := by decide +kernel
theorem dX9_readsSum_92 : decode cX9_readsSum 92 = .ok (.aload_n 0, 1) := by decide +kernel
theorem dX9_readsSum_93 : decode cX9_readsSum 93 = .ok (.iload_n 1, 1) := by decide +kernel
theorem dX9_readsSum_94 : decode cX9_readsSum 94 = .ok (.invokevirtual 236, 3) := by decide +kernel
theorem dX9_readsSum_97 : decode cX9_readsSum 97 = .ok (.ifCond .eq 41, 3) := by decide +kernel
theorem dX9_readsSum_100 : decode cX9_readsSum 100 = .ok (.aload_n 0, 1) := by decide +kernel
theorem dX9_readsSum_101 : decode cX9_readsSum 101 = .ok (.iconst 1, 1) := by decide +kernel
theorem dX9_readsSum_102 : decode cX9_readsSum 102 = .ok (.invokevirtual 232, 3) := by decide +kernel
theorem dX9_readsSum_105 : decode cX9_readsSum 105 = .ok (.aload_n 0, 1) := by decide +kernel
theorem dX9_readsSum_106 : decode cX9_readsSum 106 = .ok (.aload_n 0, 1) := by decide +kernel
theorem dX9_readsSum_107 : decode cX9_readsSum 107 = .ok (.getfield 206, 3) := by decide +kernel
theorem dX9_readsSum_110 : decode cX9_readsSum 110 = .ok (.iconst 1, 1) := by decide +kernel
theorem dX9_readsSum_111 : decode cX9_readsSum 111 = .ok (.isub, 1) := by decide +kernel
theorem dX9_readsSum_112 : decode cX9_readsSum 112 = .ok (.putfield 206, 3) := by decide +kernel
theorem dX9_readsSum_115 : decode cX9_readsSum 115 = .ok (.aload_n 0, 1) := by decide +kernel
theorem dX9_readsSum_116 : decode cX9_readsSum 116 = .ok (.aload_n 0, 1) := by decide +kernel
theorem dX9_readsSum_117 : decode cX9_readsSum 117 = .ok (.getfield 203, 3) := by decide +kernel
theorem dX9_readsSum_120 : decode cX9_readsSum 120 = .ok (.iconst 1, 1) := by decide +kernel
theorem dX9_readsSum_121 : decode cX9_readsSum 121 = .ok (.isub, 1) := by decide +kernel
theorem dX9_readsSum_122 : decode cX9_readsSum 122 = .ok (.putfield 203, 3) := by decide +kernel
theorem dX9_readsSum_125 : decode cX9_readsSum 125 = .ok (.aload_n 0, 1) := by decide +kernel
theorem dX9_readsSum_126 : decode cX9_readsSum 126 = .ok (.aload_n 0, 1) := by decide +kernel
theorem dX9_readsSum_127 : decode cX9_readsSum 127 = .ok (.getfield 176, 3) := by decide +kernel
theorem dX9_readsSum_130 : decode cX9_readsSum 130 = .ok (.iconst 1, 1) := by decide +kernel
theorem dX9_readsSum_131 : decode cX9_readsSum 131 = .ok (.iadd, 1) := by decide +kernel
theorem dX9_readsSum_132 : decode cX9_readsSum 132 = .ok (.putfield 176, 3) := by decide +kernel
theorem dX9_readsSum_135 : decode cX9_readsSum 135 = .ok (.goto 28, 3) := by decide +kernel
theorem dX9_readsSum_138 : decode cX9_readsSum 138 = .ok (.aload_n 0, 1) := by decide +kernel
theorem dX9_readsSum_139 : decode cX9_readsSum 139 = .ok (.iload_n 1, 1) := by decide +kernel
theorem dX9_readsSum_140 : decode cX9_readsSum 140 = .ok (.invokevirtual 236, 3) := by decide +kernel
theorem dX9_readsSum_143 : decode cX9_readsSum 143 = .ok (.ifCond .eq 13, 3) := by decide +kernel
theorem dX9_readsSum_146 : decode cX9_readsSum 146 = .ok (.aload_n 0, 1) := by decide +kernel
theorem dX9_readsSum_147 : decode cX9_readsSum 147 = .ok (.iconst 1, 1) := by decide +kernel
theorem dX9_readsSum_148 : decode cX9_readsSum 148 = .ok (.aload_n 0, 1) := by decide +kernel
theorem dX9_readsSum_149 : decode cX9_readsSum 149 = .ok (.getfield 176, 3) := by decide +kernel
theorem dX9_readsSum_152 : decode cX9_readsSum 152 = .ok (.invokevirtual 189, 3) := by decide +kernel
theorem dX9_readsSum_155 : decode cX9_readsSum 155 = .ok (.ireturn, 1) := by decide +kernel
theorem dX9_readsSum_156 : decode cX9_readsSum 156 = .ok (.aload_n 0, 1) := by decide +kernel
theorem dX9_readsSum_157 : decode cX9_readsSum 157 = .ok (.iconst 1, 1) := by decide +kernel
theorem dX9_readsSum_158 : decode cX9_readsSum 158 = .ok (.invokevirtual 232, 3) := by decide +kernel
theorem dX9_readsSum_161 : decode cX9_readsSum 161 = .ok (.iconst 1, 1) := by decide +kernel
theorem dX9_readsSum_162 : decode cX9_readsSum 162 = .ok (.ireturn, 1) := by decide +kernel
theorem dX9_readsSum_163 : decode cX9_readsSum 163 = .ok (.goto (-149), 3) := by decide +kernel
theorem dX9_endsPiece_0 : decode cX9_endsPiece 0 = .ok (.aload_n 0, 1) := by decide +kernel
theorem dX9_endsPiece_1 : decode cX9_endsPiece 1 = .ok (.invokevirtual 209, 3) := by decide +kernel
theorem dX9_endsPiece_4 : decode cX9_endsPiece 4 = .ok (.bipush 10, 2) := by decide +kernel
theorem dX9_endsPiece_6 : decode cX9_endsPiece 6 = .ok (.if_icmp .ne 33, 3) := by decide +kernel
theorem dX9_endsPiece_9 : decode cX9_endsPiece 9 = .ok (.aload_n 0, 1) := by decide +kernel
theorem dX9_endsPiece_10 : decode cX9_endsPiece 10 = .ok (.bipush 10, 2) := by decide +kernel
theorem dX9_endsPiece_12 : decode cX9_endsPiece 12 = .ok (.iconst 0, 1) := by decide +kernel
theorem dX9_endsPiece_13 : decode cX9_endsPiece 13 = .ok (.invokevirtual 212, 3) := by decide +kernel
theorem dX9_endsPiece_16 : decode cX9_endsPiece 16 = .ok (.aload_n 0, 1) := by decide +kernel
theorem dX9_endsPiece_17 : decode cX9_endsPiece 17 = .ok (.aload_n 0, 1) := by decide +kernel
theorem dX9_endsPiece_18 : decode cX9_endsPiece 18 = .ok (.getfield 206, 3) := by decide +kernel
theorem dX9_endsPiece_21 : decode cX9_endsPiece 21 = .ok (.iconst 1, 1) := by decide +kernel
theorem dX9_endsPiece_22 : decode cX9_endsPiece 22 = .ok (.isub, 1) := by decide +kernel
theorem dX9_endsPiece_23 : decode cX9_endsPiece 23 = .ok (.putfield 206, 3) := by decide +kernel
theorem dX9_endsPiece_26 : decode cX9_endsPiece 26 = .ok (.aload_n 0, 1) := by decide +kernel
theorem dX9_endsPiece_27 : decode cX9_endsPiece 27 = .ok (.aload_n 0, 1) := by decide +kernel
theorem dX9_endsPiece_28 : decode cX9_endsPiece 28 = .ok (.getfield 203, 3) := by decide +kernel
theorem dX9_endsPiece_31 : decode cX9_endsPiece 31 = .ok (.iconst 1, 1) := by decide +kernel
theorem dX9_endsPiece_32 : decode cX9_endsPiece 32 = .ok (.isub, 1) := by decide +kernel
theorem dX9_endsPiece_33 : decode cX9_endsPiece 33 = .ok (.putfield 203, 3) := by decide +kernel
theorem dX9_endsPiece_36 : decode cX9_endsPiece 36 = .ok (.goto (-36), 3) := by decide +kernel
theorem dX9_endsPiece_39 : decode cX9_endsPiece 39 = .ok (.return_, 1) := by decide +kernel
theorem dX9_lands_0 : decode cX9_lands 0 = .ok (.aload_n 0, 1) := by decide +kernel
theorem dX9_lands_1 : decode cX9_lands 1 = .ok (.invokevirtual 209, 3) := by decide +kernel
theorem dX9_lands_4 : decode cX9_lands 4 = .ok (.bipush 11, 2) := by decide +kernel
theorem dX9_lands_6 : decode cX9_lands 6 = .ok (.if_icmp .eq 16, 3) := by decide +kernel
theorem dX9_lands_9 : decode cX9_lands 9 = .ok (.iload_n 1, 1) := by decide +kernel
theorem dX9_lands_10 : decode cX9_lands 10 = .ok (.ifCond .eq 63, 3) := by decide +kernel
theorem dX9_lands_13 : decode cX9_lands 13 = .ok (.aload_n 0, 1) := by decide +kernel
theorem dX9_lands_14 : decode cX9_lands 14 = .ok (.invokevirtual 209, 3) := by decide +kernel
theorem dX9_lands_17 : decode cX9_lands 17 = .ok (.bipush 12, 2) := by decide +kernel
theorem dX9_lands_19 : decode cX9_lands 19 = .ok (.if_icmp .ne 54, 3) := by decide +kernel
theorem dX9_lands_22 : decode cX9_lands 22 = .ok (.aload_n 0, 1) := by decide +kernel
theorem dX9_lands_23 : decode cX9_lands 23 = .ok (.getfield 48, 3) := by decide +kernel
theorem dX9_lands_26 : decode cX9_lands 26 = .ok (.aload_n 0, 1) := by decide +kernel
theorem dX9_lands_27 : decode cX9_lands 27 = .ok (.getfield 206, 3) := by decide +kernel
theorem dX9_lands_30 : decode cX9_lands 30 = .ok (.iconst 1, 1) := by decide +kernel
theorem dX9_lands_31 : decode cX9_lands 31 = .ok (.isub, 1) := by decide +kernel
theorem dX9_lands_32 : decode cX9_lands 32 = .ok (.iaload, 1) := by decide +kernel
theorem dX9_lands_33 : decode cX9_lands 33 = .ok (.ldc 202, 2) := by decide +kernel
theorem dX9_lands_35 : decode cX9_lands 35 = .ok (.irem, 1) := by decide +kernel
theorem dX9_lands_36 : decode cX9_lands 36 = .ok (.istore_n 2, 1) := by decide +kernel
theorem dX9_lands_37 : decode cX9_lands 37 = .ok (.aload_n 0, 1) := by decide +kernel
theorem dX9_lands_38 : decode cX9_lands 38 = .ok (.getfield 45, 3) := by decide +kernel
theorem dX9_lands_41 : decode cX9_lands 41 = .ok (.iload_n 2, 1) := by decide +kernel
theorem dX9_lands_42 : decode cX9_lands 42 = .ok (.ldc 202, 2) := by decide +kernel
theorem dX9_lands_44 : decode cX9_lands 44 = .ok (.aload_n 0, 1) := by decide +kernel
theorem dX9_lands_45 : decode cX9_lands 45 = .ok (.getfield 45, 3) := by decide +kernel
theorem dX9_lands_48 : decode cX9_lands 48 = .ok (.iload_n 2, 1) := by decide +kernel
theorem dX9_lands_49 : decode cX9_lands 49 = .ok (.iaload, 1) := by decide +kernel
theorem dX9_lands_50 : decode cX9_lands 50 = .ok (.ldc 202, 2) := by decide +kernel
theorem dX9_lands_52 : decode cX9_lands 52 = .ok (.idiv, 1) := by decide +kernel
theorem dX9_lands_53 : decode cX9_lands 53 = .ok (.imul, 1) := by decide +kernel
theorem dX9_lands_54 : decode cX9_lands 54 = .ok (.aload_n 0, 1) := by decide +kernel
theorem dX9_lands_55 : decode cX9_lands 55 = .ok (.getfield 199, 3) := by decide +kernel
theorem dX9_lands_58 : decode cX9_lands 58 = .ok (.iadd, 1) := by decide +kernel
theorem dX9_lands_59 : decode cX9_lands 59 = .ok (.iastore, 1) := by decide +kernel
theorem dX9_lands_60 : decode cX9_lands 60 = .ok (.aload_n 0, 1) := by decide +kernel
theorem dX9_lands_61 : decode cX9_lands 61 = .ok (.aload_n 0, 1) := by decide +kernel
theorem dX9_lands_62 : decode cX9_lands 62 = .ok (.getfield 206, 3) := by decide +kernel
theorem dX9_lands_65 : decode cX9_lands 65 = .ok (.iconst 1, 1) := by decide +kernel
theorem dX9_lands_66 : decode cX9_lands 66 = .ok (.isub, 1) := by decide +kernel
theorem dX9_lands_67 : decode cX9_lands 67 = .ok (.putfield 206, 3) := by decide +kernel
theorem dX9_lands_70 : decode cX9_lands 70 = .ok (.goto (-70), 3) := by decide +kernel
theorem dX9_lands_73 : decode cX9_lands 73 = .ok (.return_, 1) := by decide +kernel
theorem dX9_jumps_0 : decode cX9_jumps 0 = .ok (.aload_n 0, 1) := by decide +kernel
theorem dX9_jumps_1 : decode cX9_jumps 1 = .ok (.getfield 48, 3) := by decide +kernel
theorem dX9_jumps_4 : decode cX9_jumps 4 = .ok (.aload_n 0, 1) := by decide +kernel
theorem dX9_jumps_5 : decode cX9_jumps 5 = .ok (.getfield 206, 3) := by decide +kernel
theorem dX9_jumps_8 : decode cX9_jumps 8 = .ok (.ldc 202, 2) := by decide +kernel
theorem dX9_jumps_10 : decode cX9_jumps 10 = .ok (.iload_n 1, 1) := by decide +kernel
theorem dX9_jumps_11 : decode cX9_jumps 11 = .ok (.imul, 1) := by decide +kernel
theorem dX9_jumps_12 : decode cX9_jumps 12 = .ok (.aload_n 0, 1) := by decide +kernel
theorem dX9_jumps_13 : decode cX9_jumps 13 = .ok (.getfield 199, 3) := by decide +kernel
theorem dX9_jumps_16 : decode cX9_jumps 16 = .ok (.iadd, 1) := by decide +kernel
theorem dX9_jumps_17 : decode cX9_jumps 17 = .ok (.iastore, 1) := by decide +kernel
theorem dX9_jumps_18 : decode cX9_jumps 18 = .ok (.aload_n 0, 1) := by decide +kernel
theorem dX9_jumps_19 : decode cX9_jumps 19 = .ok (.aload_n 0, 1) := by decide +kernel
theorem dX9_jumps_20 : decode cX9_jumps 20 = .ok (.getfield 206, 3) := by decide +kernel
theorem dX9_jumps_23 : decode cX9_jumps 23 = .ok (.iconst 1, 1) := by decide +kernel
theorem dX9_jumps_24 : decode cX9_jumps 24 = .ok (.iadd, 1) := by decide +kernel
theorem dX9_jumps_25 : decode cX9_jumps 25 = .ok (.putfield 206, 3) := by decide +kernel
theorem dX9_jumps_28 : decode cX9_jumps 28 = .ok (.aload_n 0, 1) := by decide +kernel
theorem dX9_jumps_29 : decode cX9_jumps 29 = .ok (.iload_n 1, 1) := by decide +kernel
theorem dX9_jumps_30 : decode cX9_jumps 30 = .ok (.iconst 0, 1) := by decide +kernel
theorem dX9_jumps_31 : decode cX9_jumps 31 = .ok (.invokevirtual 212, 3) := by decide +kernel
theorem dX9_jumps_34 : decode cX9_jumps 34 = .ok (.aload_n 0, 1) := by decide +kernel
theorem dX9_jumps_35 : decode cX9_jumps 35 = .ok (.aload_n 0, 1) := by decide +kernel
theorem dX9_jumps_36 : decode cX9_jumps 36 = .ok (.getfield 176, 3) := by decide +kernel
theorem dX9_jumps_39 : decode cX9_jumps 39 = .ok (.iconst 1, 1) := by decide +kernel
theorem dX9_jumps_40 : decode cX9_jumps 40 = .ok (.iadd, 1) := by decide +kernel
theorem dX9_jumps_41 : decode cX9_jumps 41 = .ok (.putfield 176, 3) := by decide +kernel
theorem dX9_jumps_44 : decode cX9_jumps 44 = .ok (.return_, 1) := by decide +kernel
theorem dX9_readsCompared_0 : decode cX9_readsCompared 0 = .ok (.aload_n 0, 1) := by decide +kernel
theorem dX9_readsCompared_1 : decode cX9_readsCompared 1 = .ok (.invokevirtual 239, 3) := by decide +kernel
theorem dX9_readsCompared_4 : decode cX9_readsCompared 4 = .ok (.ifCond .ne 5, 3) := by decide +kernel
theorem dX9_readsCompared_7 : decode cX9_readsCompared 7 = .ok (.iconst 0, 1) := by decide +kernel
theorem dX9_readsCompared_8 : decode cX9_readsCompared 8 = .ok (.ireturn, 1) := by decide +kernel
theorem dX9_readsCompared_9 : decode cX9_readsCompared 9 = .ok (.aload_n 0, 1) := by decide +kernel
theorem dX9_readsCompared_10 : decode cX9_readsCompared 10 = .ok (.invokevirtual 182, 3) := by decide +kernel
theorem dX9_readsCompared_13 : decode cX9_readsCompared 13 = .ok (.bipush 60, 2) := by decide +kernel
theorem dX9_readsCompared_15 : decode cX9_readsCompared 15 = .ok (.if_icmp .ne 8, 3) := by decide +kernel
theorem dX9_readsCompared_18 : decode cX9_readsCompared 18 = .ok (.bipush 7, 2) := by decide +kernel
theorem dX9_readsCompared_20 : decode cX9_readsCompared 20 = .ok (.goto 32, 3) := by decide +kernel
theorem dX9_readsCompared_23 : decode cX9_readsCompared 23 = .ok (.aload_n 0, 1) := by decide +kernel
theorem dX9_readsCompared_24 : decode cX9_readsCompared 24 = .ok (.invokevirtual 182, 3) := by decide +kernel
theorem dX9_readsCompared_27 : decode cX9_readsCompared 27 = .ok (.bipush 62, 2) := by decide +kernel
theorem dX9_readsCompared_29 : decode cX9_readsCompared 29 = .ok (.if_icmp .ne 8, 3) := by decide +kernel
theorem dX9_readsCompared_32 : decode cX9_readsCompared 32 = .ok (.bipush 8, 2) := by decide +kernel
theorem dX9_readsCompared_34 : decode cX9_readsCompared 34 = .ok (.goto 18, 3) := by decide +kernel
theorem dX9_readsCompared_37 : decode cX9_readsCompared 37 = .ok (.aload_n 0, 1) := by decide +kernel
theorem dX9_readsCompared_38 : decode cX9_readsCompared 38 = .ok (.invokevirtual 182, 3) := by decide +kernel
theorem dX9_readsCompared_41 : decode cX9_readsCompared 41 = .ok (.bipush 61, 2) := by decide +kernel
theorem dX9_readsCompared_43 : decode cX9_readsCompared 43 = .ok (.if_icmp .ne 8, 3) := by decide +kernel
theorem dX9_readsCompared_46 : decode cX9_readsCompared 46 = .ok (.bipush 9, 2) := by decide +kernel
theorem dX9_readsCompared_48 : decode cX9_readsCompared 48 = .ok (.goto 4, 3) := by decide +kernel
theorem dX9_readsCompared_51 : decode cX9_readsCompared 51 = .ok (.iconst (-1), 1) := by decide +kernel
theorem dX9_readsCompared_52 : decode cX9_readsCompared 52 = .ok (.istore_n 1, 1) := by decide +kernel
theorem dX9_readsCompared_53 : decode cX9_readsCompared 53 = .ok (.iload_n 1, 1) := by decide +kernel
theorem dX9_readsCompared_54 : decode cX9_readsCompared 54 = .ok (.iconst (-1), 1) := by decide +kernel
theorem dX9_readsCompared_55 : decode cX9_readsCompared 55 = .ok (.if_icmp .ne 13, 3) := by decide +kernel
theorem dX9_readsCompared_58 : decode cX9_readsCompared 58 = .ok (.aload_n 0, 1) := by decide +kernel
theorem dX9_readsCompared_59 : decode cX9_readsCompared 59 = .ok (.iconst 1, 1) := by decide +kernel
theorem dX9_readsCompared_60 : decode cX9_readsCompared 60 = .ok (.aload_n 0, 1) := by decide +kernel
theorem dX9_readsCompared_61 : decode cX9_readsCompared 61 = .ok (.getfield 176, 3) := by decide +kernel
theorem dX9_readsCompared_64 : decode cX9_readsCompared 64 = .ok (.invokevirtual 189, 3) := by decide +kernel
theorem dX9_readsCompared_67 : decode cX9_readsCompared 67 = .ok (.ireturn, 1) := by decide +kernel
theorem dX9_readsCompared_68 : decode cX9_readsCompared 68 = .ok (.aload_n 0, 1) := by decide +kernel
theorem dX9_readsCompared_69 : decode cX9_readsCompared 69 = .ok (.aload_n 0, 1) := by decide +kernel
theorem dX9_readsCompared_70 : decode cX9_readsCompared 70 = .ok (.getfield 176, 3) := by decide +kernel
theorem dX9_readsCompared_73 : decode cX9_readsCompared 73 = .ok (.iconst 1, 1) := by decide +kernel
theorem dX9_readsCompared_74 : decode cX9_readsCompared 74 = .ok (.iadd, 1) := by decide +kernel
theorem dX9_readsCompared_75 : decode cX9_readsCompared 75 = .ok (.putfield 176, 3) := by decide +kernel
theorem dX9_readsCompared_78 : decode cX9_readsCompared 78 = .ok (.aload_n 0, 1) := by decide +kernel
theorem dX9_readsCompared_79 : decode cX9_readsCompared 79 = .ok (.invokevirtual 239, 3) := by decide +kernel
theorem dX9_readsCompared_82 : decode cX9_readsCompared 82 = .ok (.ifCond .ne 5, 3) := by decide +kernel
theorem dX9_readsCompared_85 : decode cX9_readsCompared 85 = .ok (.iconst 0, 1) := by decide +kernel
theorem dX9_readsCompared_86 : decode cX9_readsCompared 86 = .ok (.ireturn, 1) := by decide +kernel
theorem dX9_readsCompared_87 : decode cX9_readsCompared 87 = .ok (.aload_n 0, 1) := by decide +kernel
theorem dX9_readsCompared_88 : decode cX9_readsCompared 88 = .ok (.iload_n 1, 1) := by decide +kernel
theorem dX9_readsCompared_89 : decode cX9_readsCompared 89 = .ok (.iconst 0, 1) := by decide +kernel
theorem dX9_readsCompared_90 : decode cX9_readsCompared 90 = .ok (.invokevirtual 212, 3) := by decide +kernel
theorem dX9_readsCompared_93 : decode cX9_readsCompared 93 = .ok (.aload_n 0, 1) := by decide +kernel
theorem dX9_readsCompared_94 : decode cX9_readsCompared 94 = .ok (.invokevirtual 242, 3) := by decide +kernel
theorem dX9_readsCompared_97 : decode cX9_readsCompared 97 = .ok (.iconst 1, 1) := by decide +kernel
theorem dX9_readsCompared_98 : decode cX9_readsCompared 98 = .ok (.ireturn, 1) := by decide +kernel
theorem dX9_closes_0 : decode cX9_closes 0 = .ok (.aload_n 0, 1) := by decide +kernel
theorem dX9_closes_1 : decode cX9_closes 1 = .ok (.iconst 1, 1) := by decide +kernel
theorem dX9_closes_2 : decode cX9_closes 2 = .ok (.invokevirtual 245, 3) := by decide +kernel
theorem dX9_closes_5 : decode cX9_closes 5 = .ok (.aload_n 0, 1) := by decide +kernel
theorem dX9_closes_6 : decode cX9_closes 6 = .ok (.getfield 206, 3) := by decide +kernel
theorem dX9_closes_9 : decode cX9_closes 9 = .ok (.iconst 1, 1) := by decide +kernel
theorem dX9_closes_10 : decode cX9_closes 10 = .ok (.if_icmp .ne 13, 3) := by decide +kernel
theorem dX9_closes_13 : decode cX9_closes 13 = .ok (.aload_n 0, 1) := by decide +kernel
theorem dX9_closes_14 : decode cX9_closes 14 = .ok (.iconst 1, 1) := by decide +kernel
theorem dX9_closes_15 : decode cX9_closes 15 = .ok (.aload_n 0, 1) := by decide +kernel
theorem dX9_closes_16 : decode cX9_closes 16 = .ok (.getfield 176, 3) := by decide +kernel
theorem dX9_closes_19 : decode cX9_closes 19 = .ok (.invokevirtual 189, 3) := by decide +kernel
theorem dX9_closes_22 : decode cX9_closes 22 = .ok (.ireturn, 1) := by decide +kernel
theorem dX9_closes_23 : decode cX9_closes 23 = .ok (.aload_n 0, 1) := by decide +kernel
theorem dX9_closes_24 : decode cX9_closes 24 = .ok (.aload_n 0, 1) := by decide +kernel
theorem dX9_closes_25 : decode cX9_closes 25 = .ok (.getfield 206, 3) := by decide +kernel
theorem dX9_closes_28 : decode cX9_closes 28 = .ok (.iconst 1, 1) := by decide +kernel
theorem dX9_closes_29 : decode cX9_closes 29 = .ok (.isub, 1) := by decide +kernel
theorem dX9_closes_30 : decode cX9_closes 30 = .ok (.putfield 206, 3) := by decide +kernel
theorem dX9_closes_33 : decode cX9_closes 33 = .ok (.aload_n 0, 1) := by decide +kernel
theorem dX9_closes_34 : decode cX9_closes 34 = .ok (.aload_n 0, 1) := by decide +kernel
theorem dX9_closes_35 : decode cX9_closes 35 = .ok (.getfield 203, 3) := by decide +kernel
theorem dX9_closes_38 : decode cX9_closes 38 = .ok (.iconst 1, 1) := by decide +kernel
theorem dX9_closes_39 : decode cX9_closes 39 = .ok (.isub, 1) := by decide +kernel
theorem dX9_closes_40 : decode cX9_closes 40 = .ok (.putfield 203, 3) := by decide +kernel
theorem dX9_closes_43 : decode cX9_closes 43 = .ok (.aload_n 0, 1) := by decide +kernel
theorem dX9_closes_44 : decode cX9_closes 44 = .ok (.aload_n 0, 1) := by decide +kernel
theorem dX9_closes_45 : decode cX9_closes 45 = .ok (.getfield 176, 3) := by decide +kernel
theorem dX9_closes_48 : decode cX9_closes 48 = .ok (.iconst 1, 1) := by decide +kernel
theorem dX9_closes_49 : decode cX9_closes 49 = .ok (.iadd, 1) := by decide +kernel
theorem dX9_closes_50 : decode cX9_closes 50 = .ok (.putfield 176, 3) := by decide +kernel
theorem dX9_closes_53 : decode cX9_closes 53 = .ok (.aload_n 0, 1) := by decide +kernel
theorem dX9_closes_54 : decode cX9_closes 54 = .ok (.invokevirtual 242, 3) := by decide +kernel
theorem dX9_closes_57 : decode cX9_closes 57 = .ok (.iconst 1, 1) := by decide +kernel
theorem dX9_closes_58 : decode cX9_closes 58 = .ok (.ireturn, 1) := by decide +kernel
theorem dX9_readsWhole_0 : decode cX9_readsWhole 0 = .ok (.aload_n 0, 1) := by decide +kernel
theorem dX9_readsWhole_1 : decode cX9_readsWhole 1 = .ok (.getfield 48, 3) := by decide +kernel
theorem dX9_readsWhole_4 : decode cX9_readsWhole 4 = .ok (.iconst 0, 1) := by decide +kernel
theorem dX9_readsWhole_5 : decode cX9_readsWhole 5 = .ok (.ldc 248, 2) := by decide +kernel
theorem dX9_readsWhole_7 : decode cX9_readsWhole 7 = .ok (.iastore, 1) := by decide +kernel
theorem dX9_readsWhole_8 : decode cX9_readsWhole 8 = .ok (.aload_n 0, 1) := by decide +kernel
theorem dX9_readsWhole_9 : decode cX9_readsWhole 9 = .ok (.iconst 1, 1) := by decide +kernel
theorem dX9_readsWhole_10 : decode cX9_readsWhole 10 = .ok (.putfield 206, 3) := by decide +kernel
theorem dX9_readsWhole_13 : decode cX9_readsWhole 13 = .ok (.aload_n 0, 1) := by decide +kernel
theorem dX9_readsWhole_14 : decode cX9_readsWhole 14 = .ok (.iconst 0, 1) := by decide +kernel
theorem dX9_readsWhole_15 : decode cX9_readsWhole 15 = .ok (.putfield 203, 3) := by decide +kernel
theorem dX9_readsWhole_18 : decode cX9_readsWhole 18 = .ok (.aload_n 0, 1) := by decide +kernel
theorem dX9_readsWhole_19 : decode cX9_readsWhole 19 = .ok (.invokevirtual 182, 3) := by decide +kernel
theorem dX9_readsWhole_22 : decode cX9_readsWhole 22 = .ok (.bipush 33, 2) := by decide +kernel
theorem dX9_readsWhole_24 : decode cX9_readsWhole 24 = .ok (.if_icmp .eq 12, 3) := by decide +kernel
theorem dX9_readsWhole_27 : decode cX9_readsWhole 27 = .ok (.aload_n 0, 1) := by decide +kernel
theorem dX9_readsWhole_28 : decode cX9_readsWhole 28 = .ok (.invokevirtual 182, 3) := by decide +kernel
theorem dX9_readsWhole_31 : decode cX9_readsWhole 31 = .ok (.bipush 40, 2) := by decide +kernel
theorem dX9_readsWhole_33 : decode cX9_readsWhole 33 = .ok (.if_icmp .ne 28, 3) := by decide +kernel
theorem dX9_readsWhole_36 : decode cX9_readsWhole 36 = .ok (.aload_n 0, 1) := by decide +kernel
theorem dX9_readsWhole_37 : decode cX9_readsWhole 37 = .ok (.aload_n 0, 1) := by decide +kernel
theorem dX9_readsWhole_38 : decode cX9_readsWhole 38 = .ok (.invokevirtual 182, 3) := by decide +kernel
theorem dX9_readsWhole_41 : decode cX9_readsWhole 41 = .ok (.bipush 33, 2) := by decide +kernel
theorem dX9_readsWhole_43 : decode cX9_readsWhole 43 = .ok (.if_icmp .ne 8, 3) := by decide +kernel
theorem dX9_readsWhole_46 : decode cX9_readsWhole 46 = .ok (.bipush 10, 2) := by decide +kernel
theorem dX9_readsWhole_48 : decode cX9_readsWhole 48 = .ok (.goto 5, 3) := by decide +kernel
theorem dX9_readsWhole_51 : decode cX9_readsWhole 51 = .ok (.bipush 13, 2) := by decide +kernel
theorem dX9_readsWhole_53 : decode cX9_readsWhole 53 = .ok (.invokevirtual 216, 3) := by decide +kernel
theorem dX9_readsWhole_56 : decode cX9_readsWhole 56 = .ok (.ifCond .ne (-38), 3) := by decide +kernel
theorem dX9_readsWhole_59 : decode cX9_readsWhole 59 = .ok (.iconst 0, 1) := by decide +kernel
theorem dX9_readsWhole_60 : decode cX9_readsWhole 60 = .ok (.ireturn, 1) := by decide +kernel
theorem dX9_readsWhole_61 : decode cX9_readsWhole 61 = .ok (.aload_n 0, 1) := by decide +kernel
theorem dX9_readsWhole_62 : decode cX9_readsWhole 62 = .ok (.invokevirtual 249, 3) := by decide +kernel
theorem dX9_readsWhole_65 : decode cX9_readsWhole 65 = .ok (.ifCond .ne 5, 3) := by decide +kernel
theorem dX9_readsWhole_68 : decode cX9_readsWhole 68 = .ok (.iconst 0, 1) := by decide +kernel
theorem dX9_readsWhole_69 : decode cX9_readsWhole 69 = .ok (.ireturn, 1) := by decide +kernel
theorem dX9_readsWhole_70 : decode cX9_readsWhole 70 = .ok (.aload_n 0, 1) := by decide +kernel
theorem dX9_readsWhole_71 : decode cX9_readsWhole 71 = .ok (.invokevirtual 182, 3) := by decide +kernel
theorem dX9_readsWhole_74 : decode cX9_readsWhole 74 = .ok (.bipush 41, 2) := by decide +kernel
theorem dX9_readsWhole_76 : decode cX9_readsWhole 76 = .ok (.if_icmp .ne 12, 3) := by decide +kernel
theorem dX9_readsWhole_79 : decode cX9_readsWhole 79 = .ok (.aload_n 0, 1) := by decide +kernel
theorem dX9_readsWhole_80 : decode cX9_readsWhole 80 = .ok (.invokevirtual 252, 3) := by decide +kernel
theorem dX9_readsWhole_83 : decode cX9_readsWhole 83 = .ok (.ifCond .ne (-13), 3) := by decide +kernel
theorem dX9_readsWhole_86 : decode cX9_readsWhole 86 = .ok (.iconst 0, 1) := by decide +kernel
theorem dX9_readsWhole_87 : decode cX9_readsWhole 87 = .ok (.ireturn, 1) := by decide +kernel
theorem dX9_readsWhole_88 : decode cX9_readsWhole 88 = .ok (.aload_n 0, 1) := by decide +kernel
theorem dX9_readsWhole_89 : decode cX9_readsWhole 89 = .ok (.getfield 176, 3) := by decide +kernel
theorem dX9_readsWhole_92 : decode cX9_readsWhole 92 = .ok (.aload_n 0, 1) := by decide +kernel
theorem dX9_readsWhole_93 : decode cX9_readsWhole 93 = .ok (.getfield 179, 3) := by decide +kernel
theorem dX9_readsWhole_96 : decode cX9_readsWhole 96 = .ok (.if_icmp .ne 34, 3) := by decide +kernel
theorem dX9_readsWhole_99 : decode cX9_readsWhole 99 = .ok (.aload_n 0, 1) := by decide +kernel
theorem dX9_readsWhole_100 : decode cX9_readsWhole 100 = .ok (.iconst 1, 1) := by decide +kernel
theorem dX9_readsWhole_101 : decode cX9_readsWhole 101 = .ok (.invokevirtual 245, 3) := by decide +kernel
theorem dX9_readsWhole_104 : decode cX9_readsWhole 104 = .ok (.aload_n 0, 1) := by decide +kernel
theorem dX9_readsWhole_105 : decode cX9_readsWhole 105 = .ok (.getfield 206, 3) := by decide +kernel
theorem dX9_readsWhole_108 : decode cX9_readsWhole 108 = .ok (.iconst 1, 1) := by decide +kernel
theorem dX9_readsWhole_109 : decode cX9_readsWhole 109 = .ok (.if_icmp .eq 15, 3) := by decide +kernel
theorem dX9_readsWhole_112 : decode cX9_readsWhole 112 = .ok (.aload_n 0, 1) := by decide +kernel
theorem dX9_readsWhole_113 : decode cX9_readsWhole 113 = .ok (.iconst 1, 1) := by decide +kernel
theorem dX9_readsWhole_114 : decode cX9_readsWhole 114 = .ok (.aload_n 0, 1) := by decide +kernel
theorem dX9_readsWhole_115 : decode cX9_readsWhole 115 = .ok (.getfield 176, 3) := by decide +kernel
theorem dX9_readsWhole_118 : decode cX9_readsWhole 118 = .ok (.invokevirtual 189, 3) := by decide +kernel
theorem dX9_readsWhole_121 : decode cX9_readsWhole 121 = .ok (.ifCond .eq 7, 3) := by decide +kernel
theorem dX9_readsWhole_124 : decode cX9_readsWhole 124 = .ok (.iconst 1, 1) := by decide +kernel
theorem dX9_readsWhole_125 : decode cX9_readsWhole 125 = .ok (.goto 4, 3) := by decide +kernel
theorem dX9_readsWhole_128 : decode cX9_readsWhole 128 = .ok (.iconst 0, 1) := by decide +kernel
theorem dX9_readsWhole_129 : decode cX9_readsWhole 129 = .ok (.ireturn, 1) := by decide +kernel
theorem dX9_readsWhole_130 : decode cX9_readsWhole 130 = .ok (.aload_n 0, 1) := by decide +kernel
theorem dX9_readsWhole_131 : decode cX9_readsWhole 131 = .ok (.invokevirtual 182, 3) := by decide +kernel
theorem dX9_readsWhole_134 : decode cX9_readsWhole 134 = .ok (.bipush 38, 2) := by decide +kernel
theorem dX9_readsWhole_136 : decode cX9_readsWhole 136 = .ok (.if_icmp .eq 22, 3) := by decide +kernel
theorem dX9_readsWhole_139 : decode cX9_readsWhole 139 = .ok (.aload_n 0, 1) := by decide +kernel
theorem dX9_readsWhole_140 : decode cX9_readsWhole 140 = .ok (.invokevirtual 182, 3) := by decide +kernel
theorem dX9_readsWhole_143 : decode cX9_readsWhole 143 = .ok (.bipush 124, 2) := by decide +kernel
theorem dX9_readsWhole_145 : decode cX9_readsWhole 145 = .ok (.if_icmp .eq 13, 3) := by decide +kernel
theorem dX9_readsWhole_148 : decode cX9_readsWhole 148 = .ok (.aload_n 0, 1) := by decide +kernel
theorem dX9_readsWhole_149 : decode cX9_readsWhole 149 = .ok (.iconst 1, 1) := by decide +kernel
theorem dX9_readsWhole_150 : decode cX9_readsWhole 150 = .ok (.aload_n 0, 1) := by decide +kernel
theorem dX9_readsWhole_151 : decode cX9_readsWhole 151 = .ok (.getfield 176, 3) := by decide +kernel
theorem dX9_readsWhole_154 : decode cX9_readsWhole 154 = .ok (.invokevirtual 189, 3) := by decide +kernel
theorem dX9_readsWhole_157 : decode cX9_readsWhole 157 = .ok (.ireturn, 1) := by decide +kernel
theorem dX9_readsWhole_158 : decode cX9_readsWhole 158 = .ok (.aload_n 0, 1) := by decide +kernel
theorem dX9_readsWhole_159 : decode cX9_readsWhole 159 = .ok (.aload_n 0, 1) := by decide +kernel
theorem dX9_readsWhole_160 : decode cX9_readsWhole 160 = .ok (.invokevirtual 182, 3) := by decide +kernel
theorem dX9_readsWhole_163 : decode cX9_readsWhole 163 = .ok (.bipush 124, 2) := by decide +kernel
theorem dX9_readsWhole_165 : decode cX9_readsWhole 165 = .ok (.if_icmp .ne 7, 3) := by decide +kernel
theorem dX9_readsWhole_168 : decode cX9_readsWhole 168 = .ok (.iconst 1, 1) := by decide +kernel
theorem dX9_readsWhole_169 : decode cX9_readsWhole 169 = .ok (.goto 4, 3) := by decide +kernel
theorem dX9_readsWhole_172 : decode cX9_readsWhole 172 = .ok (.iconst 0, 1) := by decide +kernel
theorem dX9_readsWhole_173 : decode cX9_readsWhole 173 = .ok (.invokevirtual 245, 3) := by decide +kernel
theorem dX9_readsWhole_176 : decode cX9_readsWhole 176 = .ok (.aload_n 0, 1) := by decide +kernel
theorem dX9_readsWhole_177 : decode cX9_readsWhole 177 = .ok (.aload_n 0, 1) := by decide +kernel
theorem dX9_readsWhole_178 : decode cX9_readsWhole 178 = .ok (.invokevirtual 182, 3) := by decide +kernel
theorem dX9_readsWhole_181 : decode cX9_readsWhole 181 = .ok (.bipush 38, 2) := by decide +kernel
theorem dX9_readsWhole_183 : decode cX9_readsWhole 183 = .ok (.if_icmp .ne 8, 3) := by decide +kernel
theorem dX9_readsWhole_186 : decode cX9_readsWhole 186 = .ok (.bipush 11, 2) := by decide +kernel
theorem dX9_readsWhole_188 : decode cX9_readsWhole 188 = .ok (.goto 5, 3) := by decide +kernel
theorem dX9_readsWhole_191 : decode cX9_readsWhole 191 = .ok (.bipush 12, 2) := by decide +kernel
theorem dX9_readsWhole_193 : decode cX9_readsWhole 193 = .ok (.invokevirtual 255, 3) := by decide +kernel
theorem dX9_readsWhole_196 : decode cX9_readsWhole 196 = .ok (.goto (-178), 3) := by decide +kernel
theorem dX9_gossip_0 : decode cX9_gossip 0 = .ok (.iload_n 1, 1) := by decide +kernel
theorem dX9_gossip_1 : decode cX9_gossip 1 = .ok (.iconst 0, 1) := by decide +kernel
theorem dX9_gossip_2 : decode cX9_gossip 2 = .ok (.bipush 7, 2) := by decide +kernel
theorem dX9_gossip_4 : decode cX9_gossip 4 = .ok (.invokestatic 115, 3) := by decide +kernel
theorem dX9_gossip_7 : decode cX9_gossip 7 = .ok (.ifCond .eq 32, 3) := by decide +kernel
theorem dX9_gossip_10 : decode cX9_gossip 10 = .ok (.aload_n 0, 1) := by decide +kernel
theorem dX9_gossip_11 : decode cX9_gossip 11 = .ok (.iload_n 2, 1) := by decide +kernel
theorem dX9_gossip_12 : decode cX9_gossip 12 = .ok (.iload_n 3, 1) := by decide +kernel
theorem dX9_gossip_13 : decode cX9_gossip 13 = .ok (.invokevirtual 139, 3) := by decide +kernel
theorem dX9_gossip_16 : decode cX9_gossip 16 = .ok (.ifCond .eq 23, 3) := by decide +kernel
theorem dX9_gossip_19 : decode cX9_gossip 19 = .ok (.iload 4, 2) := by decide +kernel
theorem dX9_gossip_21 : decode cX9_gossip 21 = .ok (.iconst 1, 1) := by decide +kernel
theorem dX9_gossip_22 : decode cX9_gossip 22 = .ok (.bipush 100, 2) := by decide +kernel
theorem dX9_gossip_24 : decode cX9_gossip 24 = .ok (.invokestatic 115, 3) := by decide +kernel
theorem dX9_gossip_27 : decode cX9_gossip 27 = .ok (.ifCond .eq 12, 3) := by decide +kernel
theorem dX9_gossip_30 : decode cX9_gossip 30 = .ok (.iload 4, 2) := by decide +kernel
theorem dX9_gossip_32 : decode cX9_gossip 32 = .ok (.aload_n 0, 1) := by decide +kernel
theorem dX9_gossip_33 : decode cX9_gossip 33 = .ok (.getfield 149, 3) := by decide +kernel
theorem dX9_gossip_36 : decode cX9_gossip 36 = .ok (.if_icmp .le 5, 3) := by decide +kernel
theorem dX9_gossip_39 : decode cX9_gossip 39 = .ok (.iconst (-1), 1) := by decide +kernel
theorem dX9_gossip_40 : decode cX9_gossip 40 = .ok (.ireturn, 1) := by decide +kernel
theorem dX9_gossip_41 : decode cX9_gossip 41 = .ok (.aload_n 0, 1) := by decide +kernel
theorem dX9_gossip_42 : decode cX9_gossip 42 = .ok (.iconst 0, 1) := by decide +kernel
theorem dX9_gossip_43 : decode cX9_gossip 43 = .ok (.putfield 176, 3) := by decide +kernel
theorem dX9_gossip_46 : decode cX9_gossip 46 = .ok (.aload_n 0, 1) := by decide +kernel
theorem dX9_gossip_47 : decode cX9_gossip 47 = .ok (.iload 4, 2) := by decide +kernel
theorem dX9_gossip_49 : decode cX9_gossip 49 = .ok (.putfield 179, 3) := by decide +kernel
theorem dX9_gossip_52 : decode cX9_gossip 52 = .ok (.aload_n 0, 1) := by decide +kernel
theorem dX9_gossip_53 : decode cX9_gossip 53 = .ok (.iconst 0, 1) := by decide +kernel
theorem dX9_gossip_54 : decode cX9_gossip 54 = .ok (.putfield 199, 3) := by decide +kernel
theorem dX9_gossip_57 : decode cX9_gossip 57 = .ok (.aload_n 0, 1) := by decide +kernel
theorem dX9_gossip_58 : decode cX9_gossip 58 = .ok (.invokevirtual 258, 3) := by decide +kernel
theorem dX9_gossip_61 : decode cX9_gossip 61 = .ok (.istore 5, 2) := by decide +kernel
theorem dX9_gossip_63 : decode cX9_gossip 63 = .ok (.aload_n 0, 1) := by decide +kernel
theorem dX9_gossip_64 : decode cX9_gossip 64 = .ok (.iconst 0, 1) := by decide +kernel
theorem dX9_gossip_65 : decode cX9_gossip 65 = .ok (.putfield 149, 3) := by decide +kernel
theorem dX9_gossip_68 : decode cX9_gossip 68 = .ok (.iload 5, 2) := by decide +kernel
theorem dX9_gossip_70 : decode cX9_gossip 70 = .ok (.ifCond .ne 8, 3) := by decide +kernel
theorem dX9_gossip_73 : decode cX9_gossip 73 = .ok (.aload_n 0, 1) := by decide +kernel
theorem dX9_gossip_74 : decode cX9_gossip 74 = .ok (.getfield 186, 3) := by decide +kernel
theorem dX9_gossip_77 : decode cX9_gossip 77 = .ok (.ireturn, 1) := by decide +kernel
theorem dX9_gossip_78 : decode cX9_gossip 78 = .ok (.iconst 0, 1) := by decide +kernel
theorem dX9_gossip_79 : decode cX9_gossip 79 = .ok (.istore 6, 2) := by decide +kernel
theorem dX9_gossip_81 : decode cX9_gossip 81 = .ok (.iload 6, 2) := by decide +kernel
theorem dX9_gossip_83 : decode cX9_gossip 83 = .ok (.aload_n 0, 1) := by decide +kernel
theorem dX9_gossip_84 : decode cX9_gossip 84 = .ok (.getfield 199, 3) := by decide +kernel
theorem dX9_gossip_87 : decode cX9_gossip 87 = .ok (.if_icmp .ge 28, 3) := by decide +kernel
theorem dX9_gossip_90 : decode cX9_gossip 90 = .ok (.aload_n 0, 1) := by decide +kernel
theorem dX9_gossip_91 : decode cX9_gossip 91 = .ok (.getfield 51, 3) := by decide +kernel
theorem dX9_gossip_94 : decode cX9_gossip 94 = .ok (.bipush 120, 2) := by decide +kernel
theorem dX9_gossip_96 : decode cX9_gossip 96 = .ok (.iload_n 1, 1) := by decide +kernel
theorem dX9_gossip_97 : decode cX9_gossip 97 = .ok (.imul, 1) := by decide +kernel
theorem dX9_gossip_98 : decode cX9_gossip 98 = .ok (.iload 6, 2) := by decide +kernel
theorem dX9_gossip_100 : decode cX9_gossip 100 = .ok (.iadd, 1) := by decide +kernel
theorem dX9_gossip_101 : decode cX9_gossip 101 = .ok (.aload_n 0, 1) := by decide +kernel
theorem dX9_gossip_102 : decode cX9_gossip 102 = .ok (.getfield 45, 3) := by decide +kernel
theorem dX9_gossip_105 : decode cX9_gossip 105 = .ok (.iload 6, 2) := by decide +kernel
theorem dX9_gossip_107 : decode cX9_gossip 107 = .ok (.iaload, 1) := by decide +kernel
theorem dX9_gossip_108 : decode cX9_gossip 108 = .ok (.iastore, 1) := by decide +kernel
theorem dX9_gossip_109 : decode cX9_gossip 109 = .ok (.iinc 6 1, 3) := by decide +kernel
theorem dX9_gossip_112 : decode cX9_gossip 112 = .ok (.goto (-31), 3) := by decide +kernel
theorem dX9_gossip_115 : decode cX9_gossip 115 = .ok (.aload_n 0, 1) := by decide +kernel
theorem dX9_gossip_116 : decode cX9_gossip 116 = .ok (.getfield 54, 3) := by decide +kernel
theorem dX9_gossip_119 : decode cX9_gossip 119 = .ok (.iload_n 1, 1) := by decide +kernel
theorem dX9_gossip_120 : decode cX9_gossip 120 = .ok (.bipush 120, 2) := by decide +kernel
theorem dX9_gossip_122 : decode cX9_gossip 122 = .ok (.iload_n 1, 1) := by decide +kernel
theorem dX9_gossip_123 : decode cX9_gossip 123 = .ok (.imul, 1) := by decide +kernel
theorem dX9_gossip_124 : decode cX9_gossip 124 = .ok (.aload_n 0, 1) := by decide +kernel
theorem dX9_gossip_125 : decode cX9_gossip 125 = .ok (.getfield 199, 3) := by decide +kernel
theorem dX9_gossip_128 : decode cX9_gossip 128 = .ok (.iadd, 1) := by decide +kernel
theorem dX9_gossip_129 : decode cX9_gossip 129 = .ok (.iastore, 1) := by decide +kernel
theorem dX9_gossip_130 : decode cX9_gossip 130 = .ok (.aload_n 0, 1) := by decide +kernel
theorem dX9_gossip_131 : decode cX9_gossip 131 = .ok (.getfield 57, 3) := by decide +kernel
theorem dX9_gossip_134 : decode cX9_gossip 134 = .ok (.iload_n 1, 1) := by decide +kernel
theorem dX9_gossip_135 : decode cX9_gossip 135 = .ok (.iload_n 2, 1) := by decide +kernel
theorem dX9_gossip_136 : decode cX9_gossip 136 = .ok (.iload_n 3, 1) := by decide +kernel
theorem dX9_gossip_137 : decode cX9_gossip 137 = .ok (.invokestatic 143, 3) := by decide +kernel
theorem dX9_gossip_140 : decode cX9_gossip 140 = .ok (.iastore, 1) := by decide +kernel
theorem dX9_gossip_141 : decode cX9_gossip 141 = .ok (.aload_n 0, 1) := by decide +kernel
theorem dX9_gossip_142 : decode cX9_gossip 142 = .ok (.aload_n 0, 1) := by decide +kernel
theorem dX9_gossip_143 : decode cX9_gossip 143 = .ok (.getfield 261, 3) := by decide +kernel
theorem dX9_gossip_146 : decode cX9_gossip 146 = .ok (.iconst 1, 1) := by decide +kernel
theorem dX9_gossip_147 : decode cX9_gossip 147 = .ok (.iload_n 1, 1) := by decide +kernel
theorem dX9_gossip_148 : decode cX9_gossip 148 = .ok (.ishl, 1) := by decide +kernel
theorem dX9_gossip_149 : decode cX9_gossip 149 = .ok (.ior, 1) := by decide +kernel
theorem dX9_gossip_150 : decode cX9_gossip 150 = .ok (.putfield 261, 3) := by decide +kernel
theorem dX9_gossip_153 : decode cX9_gossip 153 = .ok (.iconst 1, 1) := by decide +kernel
theorem dX9_gossip_154 : decode cX9_gossip 154 = .ok (.ireturn, 1) := by decide +kernel
theorem dX9_reckon_0 : decode cX9_reckon 0 = .ok (.iload_n 0, 1) := by decide +kernel
theorem dX9_reckon_1 : decode cX9_reckon 1 = .ok (.tableswitch 85 2 8 #[43, 47, 51, 55, 59, 63, 74], 43) := by decide +kernel
theorem dX9_reckon_44 : decode cX9_reckon 44 = .ok (.iload_n 1, 1) := by decide +kernel
theorem dX9_reckon_45 : decode cX9_reckon 45 = .ok (.iload_n 2, 1) := by decide +kernel
theorem dX9_reckon_46 : decode cX9_reckon 46 = .ok (.iadd, 1) := by decide +kernel
theorem dX9_reckon_47 : decode cX9_reckon 47 = .ok (.ireturn, 1) := by decide +kernel
theorem dX9_reckon_48 : decode cX9_reckon 48 = .ok (.iload_n 1, 1) := by decide +kernel
theorem dX9_reckon_49 : decode cX9_reckon 49 = .ok (.iload_n 2, 1) := by decide +kernel
theorem dX9_reckon_50 : decode cX9_reckon 50 = .ok (.isub, 1) := by decide +kernel
theorem dX9_reckon_51 : decode cX9_reckon 51 = .ok (.ireturn, 1) := by decide +kernel
theorem dX9_reckon_52 : decode cX9_reckon 52 = .ok (.iload_n 1, 1) := by decide +kernel
theorem dX9_reckon_53 : decode cX9_reckon 53 = .ok (.iload_n 2, 1) := by decide +kernel
theorem dX9_reckon_54 : decode cX9_reckon 54 = .ok (.imul, 1) := by decide +kernel
theorem dX9_reckon_55 : decode cX9_reckon 55 = .ok (.ireturn, 1) := by decide +kernel
theorem dX9_reckon_56 : decode cX9_reckon 56 = .ok (.iload_n 1, 1) := by decide +kernel
theorem dX9_reckon_57 : decode cX9_reckon 57 = .ok (.iload_n 2, 1) := by decide +kernel
theorem dX9_reckon_58 : decode cX9_reckon 58 = .ok (.idiv, 1) := by decide +kernel
theorem dX9_reckon_59 : decode cX9_reckon 59 = .ok (.ireturn, 1) := by decide +kernel
theorem dX9_reckon_60 : decode cX9_reckon 60 = .ok (.iload_n 1, 1) := by decide +kernel
theorem dX9_reckon_61 : decode cX9_reckon 61 = .ok (.iload_n 2, 1) := by decide +kernel
theorem dX9_reckon_62 : decode cX9_reckon 62 = .ok (.irem, 1) := by decide +kernel
theorem dX9_reckon_63 : decode cX9_reckon 63 = .ok (.ireturn, 1) := by decide +kernel
theorem dX9_reckon_64 : decode cX9_reckon 64 = .ok (.iload_n 1, 1) := by decide +kernel
theorem dX9_reckon_65 : decode cX9_reckon 65 = .ok (.iload_n 2, 1) := by decide +kernel
theorem dX9_reckon_66 : decode cX9_reckon 66 = .ok (.if_icmp .ge 7, 3) := by decide +kernel
theorem dX9_reckon_69 : decode cX9_reckon 69 = .ok (.iconst 1, 1) := by decide +kernel
theorem dX9_reckon_70 : decode cX9_reckon 70 = .ok (.goto 4, 3) := by decide +kernel
theorem dX9_reckon_73 : decode cX9_reckon 73 = .ok (.iconst 0, 1) := by decide +kernel
theorem dX9_reckon_74 : decode cX9_reckon 74 = .ok (.ireturn, 1) := by decide +kernel
theorem dX9_reckon_75 : decode cX9_reckon 75 = .ok (.iload_n 1, 1) := by decide +kernel
theorem dX9_reckon_76 : decode cX9_reckon 76 = .ok (.iload_n 2, 1) := by decide +kernel
theorem dX9_reckon_77 : decode cX9_reckon 77 = .ok (.if_icmp .le 7, 3) := by decide +kernel
theorem dX9_reckon_80 : decode cX9_reckon 80 = .ok (.iconst 1, 1) := by decide +kernel
theorem dX9_reckon_81 : decode cX9_reckon 81 = .ok (.goto 4, 3) := by decide +kernel
theorem dX9_reckon_84 : decode cX9_reckon 84 = .ok (.iconst 0, 1) := by decide +kernel
theorem dX9_reckon_85 : decode cX9_reckon 85 = .ok (.ireturn, 1) := by decide +kernel
theorem dX9_reckon_86 : decode cX9_reckon 86 = .ok (.iload_n 1, 1) := by decide +kernel
theorem dX9_reckon_87 : decode cX9_reckon 87 = .ok (.iload_n 2, 1) := by decide +kernel
theorem dX9_reckon_88 : decode cX9_reckon 88 = .ok (.if_icmp .ne 7, 3) := by decide +kernel
theorem dX9_reckon_91 : decode cX9_reckon 91 = .ok (.iconst 1, 1) := by decide +kernel
theorem dX9_reckon_92 : decode cX9_reckon 92 = .ok (.goto 4, 3) := by decide +kernel
theorem dX9_reckon_95 : decode cX9_reckon 95 = .ok (.iconst 0, 1) := by decide +kernel
theorem dX9_reckon_96 : decode cX9_reckon 96 = .ok (.ireturn, 1) := by decide +kernel
theorem dX9_comesTo_0 : decode cX9_comesTo 0 = .ok (.iconst 0, 1) := by decide +kernel
theorem dX9_comesTo_1 : decode cX9_comesTo 1 = .ok (.istore_n 3, 1) := by decide +kernel
theorem dX9_comesTo_2 : decode cX9_comesTo 2 = .ok (.bipush 120, 2) := by decide +kernel
theorem dX9_comesTo_4 : decode cX9_comesTo 4 = .ok (.iload_n 1, 1) := by decide +kernel
theorem dX9_comesTo_5 : decode cX9_comesTo 5 = .ok (.bipush 120, 2) := by decide +kernel
theorem dX9_comesTo_7 : decode cX9_comesTo 7 = .ok (.idiv, 1) := by decide +kernel
theorem dX9_comesTo_8 : decode cX9_comesTo 8 = .ok (.imul, 1) := by decide +kernel
theorem dX9_comesTo_9 : decode cX9_comesTo 9 = .ok (.istore 4, 2) := by decide +kernel
theorem dX9_comesTo_11 : decode cX9_comesTo 11 = .ok (.iload_n 1, 1) := by decide +kernel
theorem dX9_comesTo_12 : decode cX9_comesTo 12 = .ok (.istore 5, 2) := by decide +kernel
theorem dX9_comesTo_14 : decode cX9_comesTo 14 = .ok (.iload 5, 2) := by decide +kernel
theorem dX9_comesTo_16 : decode cX9_comesTo 16 = .ok (.iload_n 2, 1) := by decide +kernel
theorem dX9_comesTo_17 : decode cX9_comesTo 17 = .ok (.if_icmp .ge 214, 3) := by decide +kernel
theorem dX9_comesTo_20 : decode cX9_comesTo 20 = .ok (.aload_n 0, 1) := by decide +kernel
theorem dX9_comesTo_21 : decode cX9_comesTo 21 = .ok (.getfield 51, 3) := by decide +kernel
theorem dX9_comesTo_24 : decode cX9_comesTo 24 = .ok (.iload 5, 2) := by decide +kernel
theorem dX9_comesTo_26 : decode cX9_comesTo 26 = .ok (.iaload, 1) := by decide +kernel
theorem dX9_comesTo_27 : decode cX9_comesTo 27 = .ok (.ldc 202, 2) := by decide +kernel
theorem dX9_comesTo_29 : decode cX9_comesTo 29 = .ok (.idiv, 1) := by decide +kernel
theorem dX9_comesTo_30 : decode cX9_comesTo 30 = .ok (.istore 6, 2) := by decide +kernel
theorem dX9_comesTo_32 : decode cX9_comesTo 32 = .ok (.aload_n 0, 1) := by decide +kernel
theorem dX9_comesTo_33 : decode cX9_comesTo 33 = .ok (.getfield 51, 3) := by decide +kernel
theorem dX9_comesTo_36 : decode cX9_comesTo 36 = .ok (.iload 5, 2) := by decide +kernel
theorem dX9_comesTo_38 : decode cX9_comesTo 38 = .ok (.iaload, 1) := by decide +kernel
theorem dX9_comesTo_39 : decode cX9_comesTo 39 = .ok (.ldc 202, 2) := by decide +kernel
theorem dX9_comesTo_41 : decode cX9_comesTo 41 = .ok (.irem, 1) := by decide +kernel
theorem dX9_comesTo_42 : decode cX9_comesTo 42 = .ok (.istore 7, 2) := by decide +kernel
theorem dX9_comesTo_44 : decode cX9_comesTo 44 = .ok (.iload 5, 2) := by decide +kernel
theorem dX9_comesTo_46 : decode cX9_comesTo 46 = .ok (.iconst 1, 1) := by decide +kernel
theorem dX9_comesTo_47 : decode cX9_comesTo 47 = .ok (.iadd, 1) := by decide +kernel
theorem dX9_comesTo_48 : decode cX9_comesTo 48 = .ok (.istore 5, 2) := by decide +kernel
theorem dX9_comesTo_50 : decode cX9_comesTo 50 = .ok (.iload 6, 2) := by decide +kernel
theorem dX9_comesTo_52 : decode cX9_comesTo 52 = .ok (.ifCond .eq 9, 3) := by decide +kernel
theorem dX9_comesTo_55 : decode cX9_comesTo 55 = .ok (.iload 6, 2) := by decide +kernel
theorem dX9_comesTo_57 : decode cX9_comesTo 57 = .ok (.iconst 1, 1) := by decide +kernel
theorem dX9_comesTo_58 : decode cX9_comesTo 58 = .ok (.if_icmp .ne 33, 3) := by decide +kernel
theorem dX9_comesTo_61 : decode cX9_comesTo 61 = .ok (.aload_n 0, 1) := by decide +kernel
theorem dX9_comesTo_62 : decode cX9_comesTo 62 = .ok (.getfield 60, 3) := by decide +kernel
theorem dX9_comesTo_65 : decode cX9_comesTo 65 = .ok (.iload_n 3, 1) := by decide +kernel
theorem dX9_comesTo_66 : decode cX9_comesTo 66 = .ok (.iload 6, 2) := by decide +kernel
theorem dX9_comesTo_68 : decode cX9_comesTo 68 = .ok (.ifCond .ne 8, 3) := by decide +kernel
theorem dX9_comesTo_71 : decode cX9_comesTo 71 = .ok (.iload 7, 2) := by decide +kernel
theorem dX9_comesTo_73 : decode cX9_comesTo 73 = .ok (.goto 10, 3) := by decide +kernel
theorem dX9_comesTo_76 : decode cX9_comesTo 76 = .ok (.aload_n 0, 1) := by decide +kernel
theorem dX9_comesTo_77 : decode cX9_comesTo 77 = .ok (.getfield 63, 3) := by decide +kernel
theorem dX9_comesTo_80 : decode cX9_comesTo 80 = .ok (.iload 7, 2) := by decide +kernel
theorem dX9_comesTo_82 : decode cX9_comesTo 82 = .ok (.iaload, 1) := by decide +kernel
theorem dX9_comesTo_83 : decode cX9_comesTo 83 = .ok (.iastore, 1) := by decide +kernel
theorem dX9_comesTo_84 : decode cX9_comesTo 84 = .ok (.iload_n 3, 1) := by decide +kernel
theorem dX9_comesTo_85 : decode cX9_comesTo 85 = .ok (.iconst 1, 1) := by decide +kernel
theorem dX9_comesTo_86 : decode cX9_comesTo 86 = .ok (.iadd, 1) := by decide +kernel
theorem dX9_comesTo_87 : decode cX9_comesTo 87 = .ok (.istore_n 3, 1) := by decide +kernel
theorem dX9_comesTo_88 : decode cX9_comesTo 88 = .ok (.goto 140, 3) := by decide +kernel
theorem dX9_comesTo_91 : decode cX9_comesTo 91 = .ok (.iload 6, 2) := by decide +kernel
theorem dX9_comesTo_93 : decode cX9_comesTo 93 = .ok (.bipush 10, 2) := by decide +kernel
theorem dX9_comesTo_95 : decode cX9_comesTo 95 = .ok (.if_icmp .ne 24, 3) := by decide +kernel
theorem dX9_comesTo_98 : decode cX9_comesTo 98 = .ok (.aload_n 0, 1) := by decide +kernel
theorem dX9_comesTo_99 : decode cX9_comesTo 99 = .ok (.getfield 60, 3) := by decide +kernel
theorem dX9_comesTo_102 : decode cX9_comesTo 102 = .ok (.iload_n 3, 1) := by decide +kernel
theorem dX9_comesTo_103 : decode cX9_comesTo 103 = .ok (.iconst 1, 1) := by decide +kernel
theorem dX9_comesTo_104 : decode cX9_comesTo 104 = .ok (.isub, 1) := by decide +kernel
theorem dX9_comesTo_105 : decode cX9_comesTo 105 = .ok (.iconst 1, 1) := by decide +kernel
theorem dX9_comesTo_106 : decode cX9_comesTo 106 = .ok (.aload_n 0, 1) := by decide +kernel
theorem dX9_comesTo_107 : decode cX9_comesTo 107 = .ok (.getfield 60, 3) := by decide +kernel
theorem dX9_comesTo_110 : decode cX9_comesTo 110 = .ok (.iload_n 3, 1) := by decide +kernel
theorem dX9_comesTo_111 : decode cX9_comesTo 111 = .ok (.iconst 1, 1) := by decide +kernel
theorem dX9_comesTo_112 : decode cX9_comesTo 112 = .ok (.isub, 1) := by decide +kernel
theorem dX9_comesTo_113 : decode cX9_comesTo 113 = .ok (.iaload, 1) := by decide +kernel
theorem dX9_comesTo_114 : decode cX9_comesTo 114 = .ok (.isub, 1) := by decide +kernel
theorem dX9_comesTo_115 : decode cX9_comesTo 115 = .ok (.iastore, 1) := by decide +kernel
theorem dX9_comesTo_116 : decode cX9_comesTo 116 = .ok (.goto 112, 3) := by decide +kernel
theorem dX9_comesTo_119 : decode cX9_comesTo 119 = .ok (.iload 6, 2) := by decide +kernel
theorem dX9_comesTo_121 : decode cX9_comesTo 121 = .ok (.bipush 11, 2) := by decide +kernel
theorem dX9_comesTo_123 : decode cX9_comesTo 123 = .ok (.if_icmp .eq 10, 3) := by decide +kernel
theorem dX9_comesTo_126 : decode cX9_comesTo 126 = .ok (.iload 6, 2) := by decide +kernel
theorem dX9_comesTo_128 : decode cX9_comesTo 128 = .ok (.bipush 12, 2) := by decide +kernel
theorem dX9_comesTo_130 : decode cX9_comesTo 130 = .ok (.if_icmp .ne 43, 3) := by decide +kernel
theorem dX9_comesTo_133 : decode cX9_comesTo 133 = .ok (.aload_n 0, 1) := by decide +kernel
theorem dX9_comesTo_134 : decode cX9_comesTo 134 = .ok (.getfield 60, 3) := by decide +kernel
theorem dX9_comesTo_137 : decode cX9_comesTo 137 = .ok (.iload_n 3, 1) := by decide +kernel
theorem dX9_comesTo_138 : decode cX9_comesTo 138 = .ok (.iconst 1, 1) := by decide +kernel
theorem dX9_comesTo_139 : decode cX9_comesTo 139 = .ok (.isub, 1) := by decide +kernel
theorem dX9_comesTo_140 : decode cX9_comesTo 140 = .ok (.iaload, 1) := by decide +kernel
theorem dX9_comesTo_141 : decode cX9_comesTo 141 = .ok (.iload 6, 2) := by decide +kernel
theorem dX9_comesTo_143 : decode cX9_comesTo 143 = .ok (.bipush 12, 2) := by decide +kernel
theorem dX9_comesTo_145 : decode cX9_comesTo 145 = .ok (.if_icmp .ne 7, 3) := by decide +kernel
theorem dX9_comesTo_148 : decode cX9_comesTo 148 = .ok (.iconst 1, 1) := by decide +kernel
theorem dX9_comesTo_149 : decode cX9_comesTo 149 = .ok (.goto 4, 3) := by decide +kernel
theorem dX9_comesTo_152 : decode cX9_comesTo 152 = .ok (.iconst 0, 1) := by decide +kernel
theorem dX9_comesTo_153 : decode cX9_comesTo 153 = .ok (.if_icmp .ne 13, 3) := by decide +kernel
theorem dX9_comesTo_156 : decode cX9_comesTo 156 = .ok (.iload 4, 2) := by decide +kernel
theorem dX9_comesTo_158 : decode cX9_comesTo 158 = .ok (.iload 7, 2) := by decide +kernel
theorem dX9_comesTo_160 : decode cX9_comesTo 160 = .ok (.iadd, 1) := by decide +kernel
theorem dX9_comesTo_161 : decode cX9_comesTo 161 = .ok (.istore 5, 2) := by decide +kernel
theorem dX9_comesTo_163 : decode cX9_comesTo 163 = .ok (.goto 65, 3) := by decide +kernel
theorem dX9_comesTo_166 : decode cX9_comesTo 166 = .ok (.iload_n 3, 1) := by decide +kernel
theorem dX9_comesTo_167 : decode cX9_comesTo 167 = .ok (.iconst 1, 1) := by decide +kernel
theorem dX9_comesTo_168 : decode cX9_comesTo 168 = .ok (.isub, 1) := by decide +kernel
theorem dX9_comesTo_169 : decode cX9_comesTo 169 = .ok (.istore_n 3, 1) := by decide +kernel
theorem dX9_comesTo_170 : decode cX9_comesTo 170 = .ok (.goto 58, 3) := by decide +kernel
theorem dX9_comesTo_173 : decode cX9_comesTo 173 = .ok (.iload_n 3, 1) := by decide +kernel
theorem dX9_comesTo_174 : decode cX9_comesTo 174 = .ok (.iconst 1, 1) := by decide +kernel
theorem dX9_comesTo_175 : decode cX9_comesTo 175 = .ok (.isub, 1) := by decide +kernel
theorem dX9_comesTo_176 : decode cX9_comesTo 176 = .ok (.istore_n 3, 1) := by decide +kernel
theorem dX9_comesTo_177 : decode cX9_comesTo 177 = .ok (.iload 6, 2) := by decide +kernel
theorem dX9_comesTo_179 : decode cX9_comesTo 179 = .ok (.iconst 5, 1) := by decide +kernel
theorem dX9_comesTo_180 : decode cX9_comesTo 180 = .ok (.if_icmp .eq 10, 3) := by decide +kernel
theorem dX9_comesTo_183 : decode cX9_comesTo 183 = .ok (.iload 6, 2) := by decide +kernel
theorem dX9_comesTo_185 : decode cX9_comesTo 185 = .ok (.bipush 6, 2) := by decide +kernel
theorem dX9_comesTo_187 : decode cX9_comesTo 187 = .ok (.if_icmp .ne 14, 3) := by decide +kernel
theorem dX9_comesTo_190 : decode cX9_comesTo 190 = .ok (.aload_n 0, 1) := by decide +kernel
theorem dX9_comesTo_191 : decode cX9_comesTo 191 = .ok (.getfield 60, 3) := by decide +kernel
theorem dX9_comesTo_194 : decode cX9_comesTo 194 = .ok (.iload_n 3, 1) := by decide +kernel
theorem dX9_comesTo_195 : decode cX9_comesTo 195 = .ok (.iaload, 1) := by decide +kernel
theorem dX9_comesTo_196 : decode cX9_comesTo 196 = .ok (.ifCond .ne 5, 3) := by decide +kernel
theorem dX9_comesTo_199 : decode cX9_comesTo 199 = .ok (.iconst 0, 1) := by decide +kernel
theorem dX9_comesTo_200 : decode cX9_comesTo 200 = .ok (.ireturn, 1) := by decide +kernel
theorem dX9_comesTo_201 : decode cX9_comesTo 201 = .ok (.aload_n 0, 1) := by decide +kernel
theorem dX9_comesTo_202 : decode cX9_comesTo 202 = .ok (.getfield 60, 3) := by decide +kernel
theorem dX9_comesTo_205 : decode cX9_comesTo 205 = .ok (.iload_n 3, 1) := by decide +kernel
theorem dX9_comesTo_206 : decode cX9_comesTo 206 = .ok (.iconst 1, 1) := by decide +kernel
theorem dX9_comesTo_207 : decode cX9_comesTo 207 = .ok (.isub, 1) := by decide +kernel
theorem dX9_comesTo_208 : decode cX9_comesTo 208 = .ok (.iload 6, 2) := by decide +kernel
theorem dX9_comesTo_210 : decode cX9_comesTo 210 = .ok (.aload_n 0, 1) := by decide +kernel
theorem dX9_comesTo_211 : decode cX9_comesTo 211 = .ok (.getfield 60, 3) := by decide +kernel
theorem dX9_comesTo_214 : decode cX9_comesTo 214 = .ok (.iload_n 3, 1) := by decide +kernel
theorem dX9_comesTo_215 : decode cX9_comesTo 215 = .ok (.iconst 1, 1) := by decide +kernel
theorem dX9_comesTo_216 : decode cX9_comesTo 216 = .ok (.isub, 1) := by decide +kernel
theorem dX9_comesTo_217 : decode cX9_comesTo 217 = .ok (.iaload, 1) := by decide +kernel
theorem dX9_comesTo_218 : decode cX9_comesTo 218 = .ok (.aload_n 0, 1) := by decide +kernel
theorem dX9_comesTo_219 : decode cX9_comesTo 219 = .ok (.getfield 60, 3) := by decide +kernel
theorem dX9_comesTo_222 : decode cX9_comesTo 222 = .ok (.iload_n 3, 1) := by decide +kernel
theorem dX9_comesTo_223 : decode cX9_comesTo 223 = .ok (.iaload, 1) := by decide +kernel
theorem dX9_comesTo_224 : decode cX9_comesTo 224 = .ok (.invokestatic 264, 3) := by decide +kernel
theorem dX9_comesTo_227 : decode cX9_comesTo 227 = .ok (.iastore, 1) := by decide +kernel
theorem dX9_comesTo_228 : decode cX9_comesTo 228 = .ok (.goto (-214), 3) := by decide +kernel
theorem dX9_comesTo_231 : decode cX9_comesTo 231 = .ok (.aload_n 0, 1) := by decide +kernel
theorem dX9_comesTo_232 : decode cX9_comesTo 232 = .ok (.getfield 60, 3) := by decide +kernel
theorem dX9_comesTo_235 : decode cX9_comesTo 235 = .ok (.iconst 0, 1) := by decide +kernel
theorem dX9_comesTo_236 : decode cX9_comesTo 236 = .ok (.iaload, 1) := by decide +kernel
theorem dX9_comesTo_237 : decode cX9_comesTo 237 = .ok (.ireturn, 1) := by decide +kernel
theorem dX9_isSaidOf_0 : decode cX9_isSaidOf 0 = .ok (.iconst 0, 1) := by decide +kernel
theorem dX9_isSaidOf_1 : decode cX9_isSaidOf 1 = .ok (.istore 4, 2) := by decide +kernel
theorem dX9_isSaidOf_3 : decode cX9_isSaidOf 3 = .ok (.iload 4, 2) := by decide +kernel
theorem dX9_isSaidOf_5 : decode cX9_isSaidOf 5 = .ok (.iconst 4, 1) := by decide +kernel
theorem dX9_isSaidOf_6 : decode cX9_isSaidOf 6 = .ok (.if_icmp .ge 27, 3) := by decide +kernel
theorem dX9_isSaidOf_9 : decode cX9_isSaidOf 9 = .ok (.aload_n 0, 1) := by decide +kernel
theorem dX9_isSaidOf_10 : decode cX9_isSaidOf 10 = .ok (.getfield 63, 3) := by decide +kernel
theorem dX9_isSaidOf_13 : decode cX9_isSaidOf 13 = .ok (.iload 4, 2) := by decide +kernel
theorem dX9_isSaidOf_15 : decode cX9_isSaidOf 15 = .ok (.aload_n 0, 1) := by decide +kernel
theorem dX9_isSaidOf_16 : decode cX9_isSaidOf 16 = .ok (.getfield 16, 3) := by decide +kernel
theorem dX9_isSaidOf_19 : decode cX9_isSaidOf 19 = .ok (.iconst 4, 1) := by decide +kernel
theorem dX9_isSaidOf_20 : decode cX9_isSaidOf 20 = .ok (.iload_n 2, 1) := by decide +kernel
theorem dX9_isSaidOf_21 : decode cX9_isSaidOf 21 = .ok (.imul, 1) := by decide +kernel
theorem dX9_isSaidOf_22 : decode cX9_isSaidOf 22 = .ok (.iload 4, 2) := by decide +kernel
theorem dX9_isSaidOf_24 : decode cX9_isSaidOf 24 = .ok (.iadd, 1) := by decide +kernel
theorem dX9_isSaidOf_25 : decode cX9_isSaidOf 25 = .ok (.iaload, 1) := by decide +kernel
theorem dX9_isSaidOf_26 : decode cX9_isSaidOf 26 = .ok (.iastore, 1) := by decide +kernel
theorem dX9_isSaidOf_27 : decode cX9_isSaidOf 27 = .ok (.iinc 4 1, 3) := by decide +kernel
theorem dX9_isSaidOf_30 : decode cX9_isSaidOf 30 = .ok (.goto (-27), 3) := by decide +kernel
theorem dX9_isSaidOf_33 : decode cX9_isSaidOf 33 = .ok (.aload_n 0, 1) := by decide +kernel
theorem dX9_isSaidOf_34 : decode cX9_isSaidOf 34 = .ok (.getfield 63, 3) := by decide +kernel
theorem dX9_isSaidOf_37 : decode cX9_isSaidOf 37 = .ok (.iconst 4, 1) := by decide +kernel
theorem dX9_isSaidOf_38 : decode cX9_isSaidOf 38 = .ok (.iload_n 2, 1) := by decide +kernel
theorem dX9_isSaidOf_39 : decode cX9_isSaidOf 39 = .ok (.iastore, 1) := by decide +kernel
theorem dX9_isSaidOf_40 : decode cX9_isSaidOf 40 = .ok (.aload_n 0, 1) := by decide +kernel
theorem dX9_isSaidOf_41 : decode cX9_isSaidOf 41 = .ok (.getfield 63, 3) := by decide +kernel
theorem dX9_isSaidOf_44 : decode cX9_isSaidOf 44 = .ok (.iconst 5, 1) := by decide +kernel
theorem dX9_isSaidOf_45 : decode cX9_isSaidOf 45 = .ok (.aload_n 0, 1) := by decide +kernel
theorem dX9_isSaidOf_46 : decode cX9_isSaidOf 46 = .ok (.getfield 19, 3) := by decide +kernel
theorem dX9_isSaidOf_49 : decode cX9_isSaidOf 49 = .ok (.iload_n 2, 1) := by decide +kernel
theorem dX9_isSaidOf_50 : decode cX9_isSaidOf 50 = .ok (.iaload, 1) := by decide +kernel
theorem dX9_isSaidOf_51 : decode cX9_isSaidOf 51 = .ok (.iastore, 1) := by decide +kernel
theorem dX9_isSaidOf_52 : decode cX9_isSaidOf 52 = .ok (.aload_n 0, 1) := by decide +kernel
theorem dX9_isSaidOf_53 : decode cX9_isSaidOf 53 = .ok (.getfield 63, 3) := by decide +kernel
theorem dX9_isSaidOf_56 : decode cX9_isSaidOf 56 = .ok (.bipush 6, 2) := by decide +kernel
theorem dX9_isSaidOf_58 : decode cX9_isSaidOf 58 = .ok (.iload_n 3, 1) := by decide +kernel
theorem dX9_isSaidOf_59 : decode cX9_isSaidOf 59 = .ok (.iastore, 1) := by decide +kernel
theorem dX9_isSaidOf_60 : decode cX9_isSaidOf 60 = .ok (.aload_n 0, 1) := by decide +kernel
theorem dX9_isSaidOf_61 : decode cX9_isSaidOf 61 = .ok (.bipush 120, 2) := by decide +kernel
theorem dX9_isSaidOf_63 : decode cX9_isSaidOf 63 = .ok (.iload_n 1, 1) := by decide +kernel
theorem dX9_isSaidOf_64 : decode cX9_isSaidOf 64 = .ok (.imul, 1) := by decide +kernel
theorem dX9_isSaidOf_65 : decode cX9_isSaidOf 65 = .ok (.aload_n 0, 1) := by decide +kernel
theorem dX9_isSaidOf_66 : decode cX9_isSaidOf 66 = .ok (.getfield 54, 3) := by decide +kernel
theorem dX9_isSaidOf_69 : decode cX9_isSaidOf 69 = .ok (.iload_n 1, 1) := by decide +kernel
theorem dX9_isSaidOf_70 : decode cX9_isSaidOf 70 = .ok (.iaload, 1) := by decide +kernel
theorem dX9_isSaidOf_71 : decode cX9_isSaidOf 71 = .ok (.invokevirtual 267, 3) := by decide +kernel
theorem dX9_isSaidOf_74 : decode cX9_isSaidOf 74 = .ok (.iconst 1, 1) := by decide +kernel
theorem dX9_isSaidOf_75 : decode cX9_isSaidOf 75 = .ok (.if_icmp .ne 7, 3) := by decide +kernel
theorem dX9_isSaidOf_78 : decode cX9_isSaidOf 78 = .ok (.iconst 1, 1) := by decide +kernel
theorem dX9_isSaidOf_79 : decode cX9_isSaidOf 79 = .ok (.goto 4, 3) := by decide +kernel
theorem dX9_isSaidOf_82 : decode cX9_isSaidOf 82 = .ok (.iconst 0, 1) := by decide +kernel
theorem dX9_isSaidOf_83 : decode cX9_isSaidOf 83 = .ok (.ireturn, 1) := by decide +kernel
theorem dX9_isAlone_0 : decode cX9_isAlone 0 = .ok (.iconst 0, 1) := by decide +kernel
theorem dX9_isAlone_1 : decode cX9_isAlone 1 = .ok (.istore_n 3, 1) := by decide +kernel
theorem dX9_isAlone_2 : decode cX9_isAlone 2 = .ok (.iload_n 3, 1) := by decide +kernel
theorem dX9_isAlone_3 : decode cX9_isAlone 3 = .ok (.iconst 4, 1) := by decide +kernel
theorem dX9_isAlone_4 : decode cX9_isAlone 4 = .ok (.if_icmp .ge 39, 3) := by decide +kernel
theorem dX9_isAlone_7 : decode cX9_isAlone 7 = .ok (.aload_n 0, 1) := by decide +kernel
theorem dX9_isAlone_8 : decode cX9_isAlone 8 = .ok (.iload_n 3, 1) := by decide +kernel
theorem dX9_isAlone_9 : decode cX9_isAlone 9 = .ok (.aload_n 0, 1) := by decide +kernel
theorem dX9_isAlone_10 : decode cX9_isAlone 10 = .ok (.getfield 16, 3) := by decide +kernel
theorem dX9_isAlone_13 : decode cX9_isAlone 13 = .ok (.iconst 4, 1) := by decide +kernel
theorem dX9_isAlone_14 : decode cX9_isAlone 14 = .ok (.iload_n 2, 1) := by decide +kernel
theorem dX9_isAlone_15 : decode cX9_isAlone 15 = .ok (.imul, 1) := by decide +kernel
theorem dX9_isAlone_16 : decode cX9_isAlone 16 = .ok (.iload_n 3, 1) := by decide +kernel
theorem dX9_isAlone_17 : decode cX9_isAlone 17 = .ok (.iadd, 1) := by decide +kernel
theorem dX9_isAlone_18 : decode cX9_isAlone 18 = .ok (.iaload, 1) := by decide +kernel
theorem dX9_isAlone_19 : decode cX9_isAlone 19 = .ok (.aload_n 0, 1) := by decide +kernel
theorem dX9_isAlone_20 : decode cX9_isAlone 20 = .ok (.getfield 28, 3) := by decide +kernel
theorem dX9_isAlone_23 : decode cX9_isAlone 23 = .ok (.iconst 4, 1) := by decide +kernel
theorem dX9_isAlone_24 : decode cX9_isAlone 24 = .ok (.iload_n 1, 1) := by decide +kernel
theorem dX9_isAlone_25 : decode cX9_isAlone 25 = .ok (.imul, 1) := by decide +kernel
theorem dX9_isAlone_26 : decode cX9_isAlone 26 = .ok (.iload_n 3, 1) := by decide +kernel
theorem dX9_isAlone_27 : decode cX9_isAlone 27 = .ok (.iadd, 1) := by decide +kernel
theorem dX9_isAlone_28 : decode cX9_isAlone 28 = .ok (.iaload, 1) := by decide +kernel
theorem dX9_isAlone_29 : decode cX9_isAlone 29 = .ok (.invokevirtual 126, 3) := by decide +kernel
theorem dX9_isAlone_32 : decode cX9_isAlone 32 = .ok (.ifCond .ne 5, 3) := by decide +kernel
theorem dX9_isAlone_35 : decode cX9_isAlone 35 = .ok (.iconst 0, 1) := by decide +kernel
theorem dX9_isAlone_36 : decode cX9_isAlone 36 = .ok (.ireturn, 1) := by decide +kernel
theorem dX9_isAlone_37 : decode cX9_isAlone 37 = .ok (.iinc 3 1, 3) := by decide +kernel
theorem dX9_isAlone_40 : decode cX9_isAlone 40 = .ok (.goto (-38), 3) := by decide +kernel
theorem dX9_isAlone_43 : decode cX9_isAlone 43 = .ok (.iconst 1, 1) := by decide +kernel
theorem dX9_isAlone_44 : decode cX9_isAlone 44 = .ok (.ireturn, 1) := by decide +kernel
theorem dX9_fitsAlone_0 : decode cX9_fitsAlone 0 = .ok (.iconst 0, 1) := by decide +kernel
theorem dX9_fitsAlone_1 : decode cX9_fitsAlone 1 = .ok (.istore_n 3, 1) := by decide +kernel
theorem dX9_fitsAlone_2 : decode cX9_fitsAlone 2 = .ok (.iconst 0, 1) := by decide +kernel
theorem dX9_fitsAlone_3 : decode cX9_fitsAlone 3 = .ok (.istore 4, 2) := by decide +kernel
theorem dX9_fitsAlone_5 : decode cX9_fitsAlone 5 = .ok (.iload 4, 2) := by decide +kernel
theorem dX9_fitsAlone_7 : decode cX9_fitsAlone 7 = .ok (.aload_n 0, 1) := by decide +kernel
theorem dX9_fitsAlone_8 : decode cX9_fitsAlone 8 = .ok (.getfield 107, 3) := by decide +kernel
theorem dX9_fitsAlone_11 : decode cX9_fitsAlone 11 = .ok (.if_icmp .ge 95, 3) := by decide +kernel
theorem dX9_fitsAlone_14 : decode cX9_fitsAlone 14 = .ok (.aload_n 0, 1) := by decide +kernel
theorem dX9_fitsAlone_15 : decode cX9_fitsAlone 15 = .ok (.iload_n 1, 1) := by decide +kernel
theorem dX9_fitsAlone_16 : decode cX9_fitsAlone 16 = .ok (.iload 4, 2) := by decide +kernel
theorem dX9_fitsAlone_18 : decode cX9_fitsAlone 18 = .ok (.invokevirtual 270, 3) := by decide +kernel
theorem dX9_fitsAlone_21 : decode cX9_fitsAlone 21 = .ok (.istore 5, 2) := by decide +kernel
theorem dX9_fitsAlone_23 : decode cX9_fitsAlone 23 = .ok (.iconst 0, 1) := by decide +kernel
theorem dX9_fitsAlone_24 : decode cX9_fitsAlone 24 = .ok (.istore 6, 2) := by decide +kernel
theorem dX9_fitsAlone_26 : decode cX9_fitsAlone 26 = .ok (.iload 6, 2) := by decide +kernel
theorem dX9_fitsAlone_28 : decode cX9_fitsAlone 28 = .ok (.bipush 8, 2) := by decide +kernel
theorem dX9_fitsAlone_30 : decode cX9_fitsAlone 30 = .ok (.if_icmp .ge 54, 3) := by decide +kernel
theorem dX9_fitsAlone_33 : decode cX9_fitsAlone 33 = .ok (.iload 5, 2) := by decide +kernel
theorem dX9_fitsAlone_35 : decode cX9_fitsAlone 35 = .ok (.ifCond .eq 49, 3) := by decide +kernel
theorem dX9_fitsAlone_38 : decode cX9_fitsAlone 38 = .ok (.iload_n 2, 1) := by decide +kernel
theorem dX9_fitsAlone_39 : decode cX9_fitsAlone 39 = .ok (.aload_n 0, 1) := by decide +kernel
theorem dX9_fitsAlone_40 : decode cX9_fitsAlone 40 = .ok (.getfield 261, 3) := by decide +kernel
theorem dX9_fitsAlone_43 : decode cX9_fitsAlone 43 = .ok (.iand, 1) := by decide +kernel
theorem dX9_fitsAlone_44 : decode cX9_fitsAlone 44 = .ok (.iload 6, 2) := by decide +kernel
theorem dX9_fitsAlone_46 : decode cX9_fitsAlone 46 = .ok (.ishr, 1) := by decide +kernel
theorem dX9_fitsAlone_47 : decode cX9_fitsAlone 47 = .ok (.iconst 1, 1) := by decide +kernel
theorem dX9_fitsAlone_48 : decode cX9_fitsAlone 48 = .ok (.iand, 1) := by decide +kernel
theorem dX9_fitsAlone_49 : decode cX9_fitsAlone 49 = .ok (.iconst 1, 1) := by decide +kernel
theorem dX9_fitsAlone_50 : decode cX9_fitsAlone 50 = .ok (.if_icmp .ne 28, 3) := by decide +kernel
theorem dX9_fitsAlone_53 : decode cX9_fitsAlone 53 = .ok (.aload_n 0, 1) := by decide +kernel
theorem dX9_fitsAlone_54 : decode cX9_fitsAlone 54 = .ok (.getfield 57, 3) := by decide +kernel
theorem dX9_fitsAlone_57 : decode cX9_fitsAlone 57 = .ok (.iload 6, 2) := by decide +kernel
theorem dX9_fitsAlone_59 : decode cX9_fitsAlone 59 = .ok (.iaload, 1) := by decide +kernel
theorem dX9_fitsAlone_60 : decode cX9_fitsAlone 60 = .ok (.iload_n 1, 1) := by decide +kernel
theorem dX9_fitsAlone_61 : decode cX9_fitsAlone 61 = .ok (.if_icmp .ne 17, 3) := by decide +kernel
theorem dX9_fitsAlone_64 : decode cX9_fitsAlone 64 = .ok (.aload_n 0, 1) := by decide +kernel
theorem dX9_fitsAlone_65 : decode cX9_fitsAlone 65 = .ok (.iload 6, 2) := by decide +kernel
theorem dX9_fitsAlone_67 : decode cX9_fitsAlone 67 = .ok (.iload 4, 2) := by decide +kernel
theorem dX9_fitsAlone_69 : decode cX9_fitsAlone 69 = .ok (.iload_n 1, 1) := by decide +kernel
theorem dX9_fitsAlone_70 : decode cX9_fitsAlone 70 = .ok (.bipush 8, 2) := by decide +kernel
theorem dX9_fitsAlone_72 : decode cX9_fitsAlone 72 = .ok (.irem, 1) := by decide +kernel
theorem dX9_fitsAlone_73 : decode cX9_fitsAlone 73 = .ok (.invokevirtual 273, 3) := by decide +kernel
theorem dX9_fitsAlone_76 : decode cX9_fitsAlone 76 = .ok (.istore 5, 2) := by decide +kernel
theorem dX9_fitsAlone_78 : decode cX9_fitsAlone 78 = .ok (.iinc 6 1, 3) := by decide +kernel
theorem dX9_fitsAlone_81 : decode cX9_fitsAlone 81 = .ok (.goto (-55), 3) := by decide +kernel
theorem dX9_fitsAlone_84 : decode cX9_fitsAlone 84 = .ok (.iload 5, 2) := by decide +kernel
theorem dX9_fitsAlone_86 : decode cX9_fitsAlone 86 = .ok (.ifCond .eq 12, 3) := by decide +kernel
theorem dX9_fitsAlone_89 : decode cX9_fitsAlone 89 = .ok (.iload_n 3, 1) := by decide +kernel
theorem dX9_fitsAlone_90 : decode cX9_fitsAlone 90 = .ok (.iconst 1, 1) := by decide +kernel
theorem dX9_fitsAlone_91 : decode cX9_fitsAlone 91 = .ok (.iload 4, 2) := by decide +kernel
theorem dX9_fitsAlone_93 : decode cX9_fitsAlone 93 = .ok (.ishl, 1) := by decide +kernel
theorem dX9_fitsAlone_94 : decode cX9_fitsAlone 94 = .ok (.ior, 1) := by decide +kernel
theorem dX9_fitsAlone_95 : decode cX9_fitsAlone 95 = .ok (.goto 4, 3) := by decide +kernel
theorem dX9_fitsAlone_98 : decode cX9_fitsAlone 98 = .ok (.iload_n 3, 1) := by decide +kernel
theorem dX9_fitsAlone_99 : decode cX9_fitsAlone 99 = .ok (.istore_n 3, 1) := by decide +kernel
theorem dX9_fitsAlone_100 : decode cX9_fitsAlone 100 = .ok (.iinc 4 1, 3) := by decide +kernel
theorem dX9_fitsAlone_103 : decode cX9_fitsAlone 103 = .ok (.goto (-98), 3) := by decide +kernel
theorem dX9_fitsAlone_106 : decode cX9_fitsAlone 106 = .ok (.iload_n 3, 1) := by decide +kernel
theorem dX9_fitsAlone_107 : decode cX9_fitsAlone 107 = .ok (.ireturn, 1) := by decide +kernel
theorem dX9_mayLead_0 : decode cX9_mayLead 0 = .ok (.aload_n 0, 1) := by decide +kernel
theorem dX9_mayLead_1 : decode cX9_mayLead 1 = .ok (.getfield 37, 3) := by decide +kernel
theorem dX9_mayLead_4 : decode cX9_mayLead 4 = .ok (.iload_n 1, 1) := by decide +kernel
theorem dX9_mayLead_5 : decode cX9_mayLead 5 = .ok (.baload, 1) := by decide +kernel
theorem dX9_mayLead_6 : decode cX9_mayLead 6 = .ok (.ifCond .ne 30, 3) := by decide +kernel
theorem dX9_mayLead_9 : decode cX9_mayLead 9 = .ok (.iload_n 1, 1) := by decide +kernel
theorem dX9_mayLead_10 : decode cX9_mayLead 10 = .ok (.bipush 8, 2) := by decide +kernel
theorem dX9_mayLead_12 : decode cX9_mayLead 12 = .ok (.idiv, 1) := by decide +kernel
theorem dX9_mayLead_13 : decode cX9_mayLead 13 = .ok (.iload_n 2, 1) := by decide +kernel
theorem dX9_mayLead_14 : decode cX9_mayLead 14 = .ok (.if_icmp .eq 18, 3) := by decide +kernel
theorem dX9_mayLead_17 : decode cX9_mayLead 17 = .ok (.aload_n 0, 1) := by decide +kernel
theorem dX9_mayLead_18 : decode cX9_mayLead 18 = .ok (.getfield 155, 3) := by decide +kernel
theorem dX9_mayLead_21 : decode cX9_mayLead 21 = .ok (.iload_n 1, 1) := by decide +kernel
theorem dX9_mayLead_22 : decode cX9_mayLead 22 = .ok (.bipush 8, 2) := by decide +kernel
theorem dX9_mayLead_24 : decode cX9_mayLead 24 = .ok (.idiv, 1) := by decide +kernel
theorem dX9_mayLead_25 : decode cX9_mayLead 25 = .ok (.ishr, 1) := by decide +kernel
theorem dX9_mayLead_26 : decode cX9_mayLead 26 = .ok (.iconst 1, 1) := by decide +kernel
theorem dX9_mayLead_27 : decode cX9_mayLead 27 = .ok (.iand, 1) := by decide +kernel
theorem dX9_mayLead_28 : decode cX9_mayLead 28 = .ok (.iconst 1, 1) := by decide +kernel
theorem dX9_mayLead_29 : decode cX9_mayLead 29 = .ok (.if_icmp .ne 7, 3) := by decide +kernel
theorem dX9_mayLead_32 : decode cX9_mayLead 32 = .ok (.iconst 1, 1) := by decide +kernel
theorem dX9_mayLead_33 : decode cX9_mayLead 33 = .ok (.goto 4, 3) := by decide +kernel
theorem dX9_mayLead_36 : decode cX9_mayLead 36 = .ok (.iconst 0, 1) := by decide +kernel
theorem dX9_mayLead_37 : decode cX9_mayLead 37 = .ok (.ireturn, 1) := by decide +kernel
theorem dX9_fitsOf_0 : decode cX9_fitsOf 0 = .ok (.iload_n 1, 1) := by decide +kernel
theorem dX9_fitsOf_1 : decode cX9_fitsOf 1 = .ok (.bipush 8, 2) := by decide +kernel
theorem dX9_fitsOf_3 : decode cX9_fitsOf 3 = .ok (.idiv, 1) := by decide +kernel
theorem dX9_fitsOf_4 : decode cX9_fitsOf 4 = .ok (.istore_n 3, 1) := by decide +kernel
theorem dX9_fitsOf_5 : decode cX9_fitsOf 5 = .ok (.iconst 0, 1) := by decide +kernel
theorem dX9_fitsOf_6 : decode cX9_fitsOf 6 = .ok (.istore 4, 2) := by decide +kernel
theorem dX9_fitsOf_8 : decode cX9_fitsOf 8 = .ok (.iload 4, 2) := by decide +kernel
theorem dX9_fitsOf_10 : decode cX9_fitsOf 10 = .ok (.bipush 32, 2) := by decide +kernel
theorem dX9_fitsOf_12 : decode cX9_fitsOf 12 = .ok (.if_icmp .ge 27, 3) := by decide +kernel
theorem dX9_fitsOf_15 : decode cX9_fitsOf 15 = .ok (.aload_n 0, 1) := by decide +kernel
theorem dX9_fitsOf_16 : decode cX9_fitsOf 16 = .ok (.getfield 66, 3) := by decide +kernel
theorem dX9_fitsOf_19 : decode cX9_fitsOf 19 = .ok (.iload 4, 2) := by decide +kernel
theorem dX9_fitsOf_21 : decode cX9_fitsOf 21 = .ok (.iload 4, 2) := by decide +kernel
theorem dX9_fitsOf_23 : decode cX9_fitsOf 23 = .ok (.iload_n 1, 1) := by decide +kernel
theorem dX9_fitsOf_24 : decode cX9_fitsOf 24 = .ok (.if_icmp .ne 7, 3) := by decide +kernel
theorem dX9_fitsOf_27 : decode cX9_fitsOf 27 = .ok (.iconst 1, 1) := by decide +kernel
theorem dX9_fitsOf_28 : decode cX9_fitsOf 28 = .ok (.goto 4, 3) := by decide +kernel
theorem dX9_fitsOf_31 : decode cX9_fitsOf 31 = .ok (.iconst 0, 1) := by decide +kernel
theorem dX9_fitsOf_32 : decode cX9_fitsOf 32 = .ok (.bastore, 1) := by decide +kernel
theorem dX9_fitsOf_33 : decode cX9_fitsOf 33 = .ok (.iinc 4 1, 3) := by decide +kernel
theorem dX9_fitsOf_36 : decode cX9_fitsOf 36 = .ok (.goto (-28), 3) := by decide +kernel
theorem dX9_fitsOf_39 : decode cX9_fitsOf 39 = .ok (.iconst 1, 1) := by decide +kernel
theorem dX9_fitsOf_40 : decode cX9_fitsOf 40 = .ok (.istore 4, 2) := by decide +kernel
theorem dX9_fitsOf_42 : decode cX9_fitsOf 42 = .ok (.iload 4, 2) := by decide +kernel
theorem dX9_fitsOf_44 : decode cX9_fitsOf 44 = .ok (.ifCond .eq 116, 3) := by decide +kernel
theorem dX9_fitsOf_47 : decode cX9_fitsOf 47 = .ok (.iconst 0, 1) := by decide +kernel
theorem dX9_fitsOf_48 : decode cX9_fitsOf 48 = .ok (.istore 4, 2) := by decide +kernel
theorem dX9_fitsOf_50 : decode cX9_fitsOf 50 = .ok (.iconst 0, 1) := by decide +kernel
theorem dX9_fitsOf_51 : decode cX9_fitsOf 51 = .ok (.istore 5, 2) := by decide +kernel
theorem dX9_fitsOf_53 : decode cX9_fitsOf 53 = .ok (.iload 5, 2) := by decide +kernel
theorem dX9_fitsOf_55 : decode cX9_fitsOf 55 = .ok (.aload_n 0, 1) := by decide +kernel
theorem dX9_fitsOf_56 : decode cX9_fitsOf 56 = .ok (.getfield 169, 3) := by decide +kernel
theorem dX9_fitsOf_59 : decode cX9_fitsOf 59 = .ok (.if_icmp .ge 98, 3) := by decide +kernel
theorem dX9_fitsOf_62 : decode cX9_fitsOf 62 = .ok (.aload_n 0, 1) := by decide +kernel
theorem dX9_fitsOf_63 : decode cX9_fitsOf 63 = .ok (.aload_n 0, 1) := by decide +kernel
theorem dX9_fitsOf_64 : decode cX9_fitsOf 64 = .ok (.getfield 31, 3) := by decide +kernel
theorem dX9_fitsOf_67 : decode cX9_fitsOf 67 = .ok (.iload 5, 2) := by decide +kernel
theorem dX9_fitsOf_69 : decode cX9_fitsOf 69 = .ok (.iaload, 1) := by decide +kernel
theorem dX9_fitsOf_70 : decode cX9_fitsOf 70 = .ok (.iload_n 3, 1) := by decide +kernel
theorem dX9_fitsOf_71 : decode cX9_fitsOf 71 = .ok (.invokevirtual 276, 3) := by decide +kernel
theorem dX9_fitsOf_74 : decode cX9_fitsOf 74 = .ok (.ifCond .eq 77, 3) := by decide +kernel
theorem dX9_fitsOf_77 : decode cX9_fitsOf 77 = .ok (.aload_n 0, 1) := by decide +kernel
theorem dX9_fitsOf_78 : decode cX9_fitsOf 78 = .ok (.aload_n 0, 1) := by decide +kernel
theorem dX9_fitsOf_79 : decode cX9_fitsOf 79 = .ok (.getfield 34, 3) := by decide +kernel
theorem dX9_fitsOf_82 : decode cX9_fitsOf 82 = .ok (.iload 5, 2) := by decide +kernel
theorem dX9_fitsOf_84 : decode cX9_fitsOf 84 = .ok (.iaload, 1) := by decide +kernel
theorem dX9_fitsOf_85 : decode cX9_fitsOf 85 = .ok (.iload_n 3, 1) := by decide +kernel
theorem dX9_fitsOf_86 : decode cX9_fitsOf 86 = .ok (.invokevirtual 276, 3) := by decide +kernel
theorem dX9_fitsOf_89 : decode cX9_fitsOf 89 = .ok (.ifCond .eq 62, 3) := by decide +kernel
theorem dX9_fitsOf_92 : decode cX9_fitsOf 92 = .ok (.aload_n 0, 1) := by decide +kernel
theorem dX9_fitsOf_93 : decode cX9_fitsOf 93 = .ok (.getfield 66, 3) := by decide +kernel
theorem dX9_fitsOf_96 : decode cX9_fitsOf 96 = .ok (.aload_n 0, 1) := by decide +kernel
theorem dX9_fitsOf_97 : decode cX9_fitsOf 97 = .ok (.getfield 31, 3) := by decide +kernel
theorem dX9_fitsOf_100 : decode cX9_fitsOf 100 = .ok (.iload 5, 2) := by decide +kernel
theorem dX9_fitsOf_102 : decode cX9_fitsOf 102 = .ok (.iaload, 1) := by decide +kernel
theorem dX9_fitsOf_103 : decode cX9_fitsOf 103 = .ok (.baload, 1) := by decide +kernel
theorem dX9_fitsOf_104 : decode cX9_fitsOf 104 = .ok (.aload_n 0, 1) := by decide +kernel
theorem dX9_fitsOf_105 : decode cX9_fitsOf 105 = .ok (.getfield 66, 3) := by decide +kernel
theorem dX9_fitsOf_108 : decode cX9_fitsOf 108 = .ok (.aload_n 0, 1) := by decide +kernel
theorem dX9_fitsOf_109 : decode cX9_fitsOf 109 = .ok (.getfield 34, 3) := by decide +kernel
theorem dX9_fitsOf_112 : decode cX9_fitsOf 112 = .ok (.iload 5, 2) := by decide +kernel
theorem dX9_fitsOf_114 : decode cX9_fitsOf 114 = .ok (.iaload, 1) := by decide +kernel
theorem dX9_fitsOf_115 : decode cX9_fitsOf 115 = .ok (.baload, 1) := by decide +kernel
theorem dX9_fitsOf_116 : decode cX9_fitsOf 116 = .ok (.if_icmp .ne 6, 3) := by decide +kernel
theorem dX9_fitsOf_119 : decode cX9_fitsOf 119 = .ok (.goto 32, 3) := by decide +kernel
theorem dX9_fitsOf_122 : decode cX9_fitsOf 122 = .ok (.aload_n 0, 1) := by decide +kernel
theorem dX9_fitsOf_123 : decode cX9_fitsOf 123 = .ok (.getfield 66, 3) := by decide +kernel
theorem dX9_fitsOf_126 : decode cX9_fitsOf 126 = .ok (.aload_n 0, 1) := by decide +kernel
theorem dX9_fitsOf_127 : decode cX9_fitsOf 127 = .ok (.getfield 31, 3) := by decide +kernel
theorem dX9_fitsOf_130 : decode cX9_fitsOf 130 = .ok (.iload 5, 2) := by decide +kernel
theorem dX9_fitsOf_132 : decode cX9_fitsOf 132 = .ok (.iaload, 1) := by decide +kernel
theorem dX9_fitsOf_133 : decode cX9_fitsOf 133 = .ok (.iconst 1, 1) := by decide +kernel
theorem dX9_fitsOf_134 : decode cX9_fitsOf 134 = .ok (.bastore, 1) := by decide +kernel
theorem dX9_fitsOf_135 : decode cX9_fitsOf 135 = .ok (.aload_n 0, 1) := by decide +kernel
theorem dX9_fitsOf_136 : decode cX9_fitsOf 136 = .ok (.getfield 66, 3) := by decide +kernel
theorem dX9_fitsOf_139 : decode cX9_fitsOf 139 = .ok (.aload_n 0, 1) := by decide +kernel
theorem dX9_fitsOf_140 : decode cX9_fitsOf 140 = .ok (.getfield 34, 3) := by decide +kernel
theorem dX9_fitsOf_143 : decode cX9_fitsOf 143 = .ok (.iload 5, 2) := by decide +kernel
theorem dX9_fitsOf_145 : decode cX9_fitsOf 145 = .ok (.iaload, 1) := by decide +kernel
theorem dX9_fitsOf_146 : decode cX9_fitsOf 146 = .ok (.iconst 1, 1) := by decide +kernel
theorem dX9_fitsOf_147 : decode cX9_fitsOf 147 = .ok (.bastore, 1) := by decide +kernel
theorem dX9_fitsOf_148 : decode cX9_fitsOf 148 = .ok (.iconst 1, 1) := by decide +kernel
theorem dX9_fitsOf_149 : decode cX9_fitsOf 149 = .ok (.istore 4, 2) := by decide +kernel
theorem dX9_fitsOf_151 : decode cX9_fitsOf 151 = .ok (.iinc 5 1, 3) := by decide +kernel
theorem dX9_fitsOf_154 : decode cX9_fitsOf 154 = .ok (.goto (-101), 3) := by decide +kernel
theorem dX9_fitsOf_157 : decode cX9_fitsOf 157 = .ok (.goto (-115), 3) := by decide +kernel
theorem dX9_fitsOf_160 : decode cX9_fitsOf 160 = .ok (.iconst 1, 1) := by decide +kernel
theorem dX9_fitsOf_161 : decode cX9_fitsOf 161 = .ok (.aload_n 0, 1) := by decide +kernel
theorem dX9_fitsOf_162 : decode cX9_fitsOf 162 = .ok (.getfield 107, 3) := by decide +kernel
theorem dX9_fitsOf_165 : decode cX9_fitsOf 165 = .ok (.ishl, 1) := by decide +kernel
theorem dX9_fitsOf_166 : decode cX9_fitsOf 166 = .ok (.iconst 1, 1) := by decide +kernel
theorem dX9_fitsOf_167 : decode cX9_fitsOf 167 = .ok (.isub, 1) := by decide +kernel
theorem dX9_fitsOf_168 : decode cX9_fitsOf 168 = .ok (.istore 5, 2) := by decide +kernel
theorem dX9_fitsOf_170 : decode cX9_fitsOf 170 = .ok (.iconst 0, 1) := by decide +kernel
theorem dX9_fitsOf_171 : decode cX9_fitsOf 171 = .ok (.istore 6, 2) := by decide +kernel
theorem dX9_fitsOf_173 : decode cX9_fitsOf 173 = .ok (.iload 6, 2) := by decide +kernel
theorem dX9_fitsOf_175 : decode cX9_fitsOf 175 = .ok (.bipush 32, 2) := by decide +kernel
theorem dX9_fitsOf_177 : decode cX9_fitsOf 177 = .ok (.if_icmp .ge 31, 3) := by decide +kernel
theorem dX9_fitsOf_180 : decode cX9_fitsOf 180 = .ok (.aload_n 0, 1) := by decide +kernel
theorem dX9_fitsOf_181 : decode cX9_fitsOf 181 = .ok (.getfield 66, 3) := by decide +kernel
theorem dX9_fitsOf_184 : decode cX9_fitsOf 184 = .ok (.iload 6, 2) := by decide +kernel
theorem dX9_fitsOf_186 : decode cX9_fitsOf 186 = .ok (.baload, 1) := by decide +kernel
theorem dX9_fitsOf_187 : decode cX9_fitsOf 187 = .ok (.ifCond .eq 15, 3) := by decide +kernel
theorem dX9_fitsOf_190 : decode cX9_fitsOf 190 = .ok (.iload 5, 2) := by decide +kernel
theorem dX9_fitsOf_192 : decode cX9_fitsOf 192 = .ok (.aload_n 0, 1) := by decide +kernel
theorem dX9_fitsOf_193 : decode cX9_fitsOf 193 = .ok (.iload 6, 2) := by decide +kernel
theorem dX9_fitsOf_195 : decode cX9_fitsOf 195 = .ok (.iload_n 2, 1) := by decide +kernel
theorem dX9_fitsOf_196 : decode cX9_fitsOf 196 = .ok (.invokevirtual 279, 3) := by decide +kernel
theorem dX9_fitsOf_199 : decode cX9_fitsOf 199 = .ok (.iand, 1) := by decide +kernel
theorem dX9_fitsOf_200 : decode cX9_fitsOf 200 = .ok (.istore 5, 2) := by decide +kernel
theorem dX9_fitsOf_202 : decode cX9_fitsOf 202 = .ok (.iinc 6 1, 3) := by decide +kernel
theorem dX9_fitsOf_205 : decode cX9_fitsOf 205 = .ok (.goto (-32), 3) := by decide +kernel
theorem dX9_fitsOf_208 : decode cX9_fitsOf 208 = .ok (.iload 5, 2) := by decide +kernel
theorem dX9_fitsOf_210 : decode cX9_fitsOf 210 = .ok (.ireturn, 1) := by decide +kernel
theorem dX9_isKnown_0 : decode cX9_isKnown 0 = .ok (.iload_n 0, 1) := by decide +kernel
theorem dX9_isKnown_1 : decode cX9_isKnown 1 = .ok (.ifCond .lt 14, 3) := by decide +kernel
theorem dX9_isKnown_4 : decode cX9_isKnown 4 = .ok (.iload_n 0, 1) := by decide +kernel
theorem dX9_isKnown_5 : decode cX9_isKnown 5 = .ok (.sipush 256, 3) := by decide +kernel
theorem dX9_isKnown_8 : decode cX9_isKnown 8 = .ok (.if_icmp .ge 7, 3) := by decide +kernel
theorem dX9_isKnown_11 : decode cX9_isKnown 11 = .ok (.iconst 1, 1) := by decide +kernel
theorem dX9_isKnown_12 : decode cX9_isKnown 12 = .ok (.goto 4, 3) := by decide +kernel
theorem dX9_isKnown_15 : decode cX9_isKnown 15 = .ok (.iconst 0, 1) := by decide +kernel
theorem dX9_isKnown_16 : decode cX9_isKnown 16 = .ok (.ireturn, 1) := by decide +kernel
theorem dX9_line_0 : decode cX9_line 0 = .ok (.aload_n 0, 1) := by decide +kernel
theorem dX9_line_1 : decode cX9_line 1 = .ok (.iload_n 1, 1) := by decide +kernel
theorem dX9_line_2 : decode cX9_line 2 = .ok (.iload_n 2, 1) := by decide +kernel
theorem dX9_line_3 : decode cX9_line 3 = .ok (.invokevirtual 139, 3) := by decide +kernel
theorem dX9_line_6 : decode cX9_line 6 = .ok (.ifCond .eq 12, 3) := by decide +kernel
theorem dX9_line_9 : decode cX9_line 9 = .ok (.iload_n 3, 1) := by decide +kernel
theorem dX9_line_10 : decode cX9_line 10 = .ok (.iconst 0, 1) := by decide +kernel
theorem dX9_line_11 : decode cX9_line 11 = .ok (.iconst 4, 1) := by decide +kernel
theorem dX9_line_12 : decode cX9_line 12 = .ok (.invokestatic 115, 3) := by decide +kernel
theorem dX9_line_15 : decode cX9_line 15 = .ok (.ifCond .ne 5, 3) := by decide +kernel
theorem dX9_line_18 : decode cX9_line 18 = .ok (.iconst (-1), 1) := by decide +kernel
theorem dX9_line_19 : decode cX9_line 19 = .ok (.ireturn, 1) := by decide +kernel
theorem dX9_line_20 : decode cX9_line 20 = .ok (.iload_n 3, 1) := by decide +kernel
theorem dX9_line_21 : decode cX9_line 21 = .ok (.iconst 4, 1) := by decide +kernel
theorem dX9_line_22 : decode cX9_line 22 = .ok (.if_icmp .ne 14, 3) := by decide +kernel
theorem dX9_line_25 : decode cX9_line 25 = .ok (.aload_n 0, 1) := by decide +kernel
theorem dX9_line_26 : decode cX9_line 26 = .ok (.getfield 25, 3) := by decide +kernel
theorem dX9_line_29 : decode cX9_line 29 = .ok (.iload_n 1, 1) := by decide +kernel
theorem dX9_line_30 : decode cX9_line 30 = .ok (.iload_n 2, 1) := by decide +kernel
theorem dX9_line_31 : decode cX9_line 31 = .ok (.invokestatic 143, 3) := by decide +kernel
theorem dX9_line_34 : decode cX9_line 34 = .ok (.iaload, 1) := by decide +kernel
theorem dX9_line_35 : decode cX9_line 35 = .ok (.ireturn, 1) := by decide +kernel
theorem dX9_line_36 : decode cX9_line 36 = .ok (.aload_n 0, 1) := by decide +kernel
theorem dX9_line_37 : decode cX9_line 37 = .ok (.getfield 37, 3) := by decide +kernel
theorem dX9_line_40 : decode cX9_line 40 = .ok (.iload_n 1, 1) := by decide +kernel
theorem dX9_line_41 : decode cX9_line 41 = .ok (.iload_n 2, 1) := by decide +kernel
theorem dX9_line_42 : decode cX9_line 42 = .ok (.invokestatic 143, 3) := by decide +kernel
theorem dX9_line_45 : decode cX9_line 45 = .ok (.baload, 1) := by decide +kernel
theorem dX9_line_46 : decode cX9_line 46 = .ok (.ifCond .eq 8, 3) := by decide +kernel
theorem dX9_line_49 : decode cX9_line 49 = .ok (.bipush (-2), 2) := by decide +kernel
theorem dX9_line_51 : decode cX9_line 51 = .ok (.goto 17, 3) := by decide +kernel
theorem dX9_line_54 : decode cX9_line 54 = .ok (.aload_n 0, 1) := by decide +kernel
theorem dX9_line_55 : decode cX9_line 55 = .ok (.getfield 28, 3) := by decide +kernel
theorem dX9_line_58 : decode cX9_line 58 = .ok (.iconst 4, 1) := by decide +kernel
theorem dX9_line_59 : decode cX9_line 59 = .ok (.iload_n 1, 1) := by decide +kernel
theorem dX9_line_60 : decode cX9_line 60 = .ok (.iload_n 2, 1) := by decide +kernel
theorem dX9_line_61 : decode cX9_line 61 = .ok (.invokestatic 143, 3) := by decide +kernel
theorem dX9_line_64 : decode cX9_line 64 = .ok (.imul, 1) := by decide +kernel
theorem dX9_line_65 : decode cX9_line 65 = .ok (.iload_n 3, 1) := by decide +kernel
theorem dX9_line_66 : decode cX9_line 66 = .ok (.iadd, 1) := by decide +kernel
theorem dX9_line_67 : decode cX9_line 67 = .ok (.iaload, 1) := by decide +kernel
theorem dX9_line_68 : decode cX9_line 68 = .ok (.ireturn, 1) := by decide +kernel
theorem dX9_fits_0 : decode cX9_fits 0 = .ok (.aload_n 0, 1) := by decide +kernel
theorem dX9_fits_1 : decode cX9_fits 1 = .ok (.iload_n 1, 1) := by decide +kernel
theorem dX9_fits_2 : decode cX9_fits 2 = .ok (.iload_n 2, 1) := by decide +kernel
theorem dX9_fits_3 : decode cX9_fits 3 = .ok (.invokevirtual 139, 3) := by decide +kernel
theorem dX9_fits_6 : decode cX9_fits 6 = .ok (.ifCond .eq 10, 3) := by decide +kernel
theorem dX9_fits_9 : decode cX9_fits 9 = .ok (.iload_n 3, 1) := by decide +kernel
theorem dX9_fits_10 : decode cX9_fits 10 = .ok (.invokestatic 282, 3) := by decide +kernel
theorem dX9_fits_13 : decode cX9_fits 13 = .ok (.ifCond .ne 5, 3) := by decide +kernel
theorem dX9_fits_16 : decode cX9_fits 16 = .ok (.iconst (-1), 1) := by decide +kernel
theorem dX9_fits_17 : decode cX9_fits 17 = .ok (.ireturn, 1) := by decide +kernel
theorem dX9_fits_18 : decode cX9_fits 18 = .ok (.aload_n 0, 1) := by decide +kernel
theorem dX9_fits_19 : decode cX9_fits 19 = .ok (.getfield 37, 3) := by decide +kernel
theorem dX9_fits_22 : decode cX9_fits 22 = .ok (.iload_n 1, 1) := by decide +kernel
theorem dX9_fits_23 : decode cX9_fits 23 = .ok (.iload_n 2, 1) := by decide +kernel
theorem dX9_fits_24 : decode cX9_fits 24 = .ok (.invokestatic 143, 3) := by decide +kernel
theorem dX9_fits_27 : decode cX9_fits 27 = .ok (.baload, 1) := by decide +kernel
theorem dX9_fits_28 : decode cX9_fits 28 = .ok (.ifCond .eq 8, 3) := by decide +kernel
theorem dX9_fits_31 : decode cX9_fits 31 = .ok (.bipush (-2), 2) := by decide +kernel
theorem dX9_fits_33 : decode cX9_fits 33 = .ok (.goto 13, 3) := by decide +kernel
theorem dX9_fits_36 : decode cX9_fits 36 = .ok (.aload_n 0, 1) := by decide +kernel
theorem dX9_fits_37 : decode cX9_fits 37 = .ok (.iload_n 1, 1) := by decide +kernel
theorem dX9_fits_38 : decode cX9_fits 38 = .ok (.iload_n 2, 1) := by decide +kernel
theorem dX9_fits_39 : decode cX9_fits 39 = .ok (.invokestatic 143, 3) := by decide +kernel
theorem dX9_fits_42 : decode cX9_fits 42 = .ok (.iload_n 3, 1) := by decide +kernel
theorem dX9_fits_43 : decode cX9_fits 43 = .ok (.invokevirtual 285, 3) := by decide +kernel
theorem dX9_fits_46 : decode cX9_fits 46 = .ok (.ireturn, 1) := by decide +kernel
theorem dX9_laysFitting_0 : decode cX9_laysFitting 0 = .ok (.iconst 0, 1) := by decide +kernel
theorem dX9_laysFitting_1 : decode cX9_laysFitting 1 = .ok (.istore_n 3, 1) := by decide +kernel
theorem dX9_laysFitting_2 : decode cX9_laysFitting 2 = .ok (.iload_n 3, 1) := by decide +kernel
theorem dX9_laysFitting_3 : decode cX9_laysFitting 3 = .ok (.aload_n 0, 1) := by decide +kernel
theorem dX9_laysFitting_4 : decode cX9_laysFitting 4 = .ok (.getfield 22, 3) := by decide +kernel
theorem dX9_laysFitting_7 : decode cX9_laysFitting 7 = .ok (.iload_n 1, 1) := by decide +kernel
theorem dX9_laysFitting_8 : decode cX9_laysFitting 8 = .ok (.iaload, 1) := by decide +kernel
theorem dX9_laysFitting_9 : decode cX9_laysFitting 9 = .ok (.if_icmp .ge 42, 3) := by decide +kernel
theorem dX9_laysFitting_12 : decode cX9_laysFitting 12 = .ok (.aload_n 0, 1) := by decide +kernel
theorem dX9_laysFitting_13 : decode cX9_laysFitting 13 = .ok (.getfield 69, 3) := by decide +kernel
theorem dX9_laysFitting_16 : decode cX9_laysFitting 16 = .ok (.iload_n 3, 1) := by decide +kernel
theorem dX9_laysFitting_17 : decode cX9_laysFitting 17 = .ok (.aload_n 0, 1) := by decide +kernel
theorem dX9_laysFitting_18 : decode cX9_laysFitting 18 = .ok (.getfield 37, 3) := by decide +kernel
theorem dX9_laysFitting_21 : decode cX9_laysFitting 21 = .ok (.iload_n 1, 1) := by decide +kernel
theorem dX9_laysFitting_22 : decode cX9_laysFitting 22 = .ok (.iload_n 3, 1) := by decide +kernel
theorem dX9_laysFitting_23 : decode cX9_laysFitting 23 = .ok (.invokestatic 143, 3) := by decide +kernel
theorem dX9_laysFitting_26 : decode cX9_laysFitting 26 = .ok (.baload, 1) := by decide +kernel
theorem dX9_laysFitting_27 : decode cX9_laysFitting 27 = .ok (.ifCond .eq 7, 3) := by decide +kernel
theorem dX9_laysFitting_30 : decode cX9_laysFitting 30 = .ok (.iconst 0, 1) := by decide +kernel
theorem dX9_laysFitting_31 : decode cX9_laysFitting 31 = .ok (.goto 13, 3) := by decide +kernel
theorem dX9_laysFitting_34 : decode cX9_laysFitting 34 = .ok (.aload_n 0, 1) := by decide +kernel
theorem dX9_laysFitting_35 : decode cX9_laysFitting 35 = .ok (.iload_n 1, 1) := by decide +kernel
theorem dX9_laysFitting_36 : decode cX9_laysFitting 36 = .ok (.iload_n 3, 1) := by decide +kernel
theorem dX9_laysFitting_37 : decode cX9_laysFitting 37 = .ok (.invokestatic 143, 3) := by decide +kernel
theorem dX9_laysFitting_40 : decode cX9_laysFitting 40 = .ok (.iload_n 2, 1) := by decide +kernel
theorem dX9_laysFitting_41 : decode cX9_laysFitting 41 = .ok (.invokevirtual 285, 3) := by decide +kernel
theorem dX9_laysFitting_44 : decode cX9_laysFitting 44 = .ok (.iastore, 1) := by decide +kernel
theorem dX9_laysFitting_45 : decode cX9_laysFitting 45 = .ok (.iinc 3 1, 3) := by decide +kernel
theorem dX9_laysFitting_48 : decode cX9_laysFitting 48 = .ok (.goto (-46), 3) := by decide +kernel
theorem dX9_laysFitting_51 : decode cX9_laysFitting 51 = .ok (.return_, 1) := by decide +kernel
theorem dX9_counts_0 : decode cX9_counts 0 = .ok (.iconst 1, 1) := by decide +kernel
theorem dX9_counts_1 : decode cX9_counts 1 = .ok (.aload_n 0, 1) := by decide +kernel
theorem dX9_counts_2 : decode cX9_counts 2 = .ok (.getfield 107, 3) := by decide +kernel
theorem dX9_counts_5 : decode cX9_counts 5 = .ok (.ishl, 1) := by decide +kernel
theorem dX9_counts_6 : decode cX9_counts 6 = .ok (.istore 4, 2) := by decide +kernel
theorem dX9_counts_8 : decode cX9_counts 8 = .ok (.iconst 0, 1) := by decide +kernel
theorem dX9_counts_9 : decode cX9_counts 9 = .ok (.istore 5, 2) := by decide +kernel
theorem dX9_counts_11 : decode cX9_counts 11 = .ok (.iload 5, 2) := by decide +kernel
theorem dX9_counts_13 : decode cX9_counts 13 = .ok (.iload 4, 2) := by decide +kernel
theorem dX9_counts_15 : decode cX9_counts 15 = .ok (.if_icmp .ge 17, 3) := by decide +kernel
theorem dX9_counts_18 : decode cX9_counts 18 = .ok (.aload_n 0, 1) := by decide +kernel
theorem dX9_counts_19 : decode cX9_counts 19 = .ok (.getfield 73, 3) := by decide +kernel
theorem dX9_counts_22 : decode cX9_counts 22 = .ok (.iload 5, 2) := by decide +kernel
theorem dX9_counts_24 : decode cX9_counts 24 = .ok (.lconst 0, 1) := by decide +kernel
theorem dX9_counts_25 : decode cX9_counts 25 = .ok (.lastore, 1) := by decide +kernel
theorem dX9_counts_26 : decode cX9_counts 26 = .ok (.iinc 5 1, 3) := by decide +kernel
theorem dX9_counts_29 : decode cX9_counts 29 = .ok (.goto (-18), 3) := by decide +kernel
theorem dX9_counts_32 : decode cX9_counts 32 = .ok (.aload_n 0, 1) := by decide +kernel
theorem dX9_counts_33 : decode cX9_counts 33 = .ok (.getfield 73, 3) := by decide +kernel
theorem dX9_counts_36 : decode cX9_counts 36 = .ok (.iconst 0, 1) := by decide +kernel
theorem dX9_counts_37 : decode cX9_counts 37 = .ok (.lconst 1, 1) := by decide +kernel
theorem dX9_counts_38 : decode cX9_counts 38 = .ok (.lastore, 1) := by decide +kernel
theorem dX9_counts_39 : decode cX9_counts 39 = .ok (.iconst 0, 1) := by decide +kernel
theorem dX9_counts_40 : decode cX9_counts 40 = .ok (.istore 5, 2) := by decide +kernel
theorem dX9_counts_42 : decode cX9_counts 42 = .ok (.iconst 0, 1) := by decide +kernel
theorem dX9_counts_43 : decode cX9_counts 43 = .ok (.istore 6, 2) := by decide +kernel
theorem dX9_counts_45 : decode cX9_counts 45 = .ok (.iload 6, 2) := by decide +kernel
theorem dX9_counts_47 : decode cX9_counts 47 = .ok (.aload_n 0, 1) := by decide +kernel
theorem dX9_counts_48 : decode cX9_counts 48 = .ok (.getfield 22, 3) := by decide +kernel
theorem dX9_counts_51 : decode cX9_counts 51 = .ok (.iload_n 1, 1) := by decide +kernel
theorem dX9_counts_52 : decode cX9_counts 52 = .ok (.iaload, 1) := by decide +kernel
theorem dX9_counts_53 : decode cX9_counts 53 = .ok (.if_icmp .ge 110, 3) := by decide +kernel
theorem dX9_counts_56 : decode cX9_counts 56 = .ok (.aload_n 0, 1) := by decide +kernel
theorem dX9_counts_57 : decode cX9_counts 57 = .ok (.getfield 37, 3) := by decide +kernel
theorem dX9_counts_60 : decode cX9_counts 60 = .ok (.iload_n 1, 1) := by decide +kernel
theorem dX9_counts_61 : decode cX9_counts 61 = .ok (.iload 6, 2) := by decide +kernel
theorem dX9_counts_63 : decode cX9_counts 63 = .ok (.invokestatic 143, 3) := by decide +kernel
theorem dX9_counts_66 : decode cX9_counts 66 = .ok (.baload, 1) := by decide +kernel
theorem dX9_counts_67 : decode cX9_counts 67 = .ok (.ifCond .eq 6, 3) := by decide +kernel
theorem dX9_counts_70 : decode cX9_counts 70 = .ok (.goto 87, 3) := by decide +kernel
theorem dX9_counts_73 : decode cX9_counts 73 = .ok (.iload 6, 2) := by decide +kernel
theorem dX9_counts_75 : decode cX9_counts 75 = .ok (.iload_n 2, 1) := by decide +kernel
theorem dX9_counts_76 : decode cX9_counts 76 = .ok (.if_icmp .ne 17, 3) := by decide +kernel
theorem dX9_counts_79 : decode cX9_counts 79 = .ok (.aload_n 0, 1) := by decide +kernel
theorem dX9_counts_80 : decode cX9_counts 80 = .ok (.getfield 69, 3) := by decide +kernel
theorem dX9_counts_83 : decode cX9_counts 83 = .ok (.iload 6, 2) := by decide +kernel
theorem dX9_counts_85 : decode cX9_counts 85 = .ok (.iaload, 1) := by decide +kernel
theorem dX9_counts_86 : decode cX9_counts 86 = .ok (.iconst 1, 1) := by decide +kernel
theorem dX9_counts_87 : decode cX9_counts 87 = .ok (.iload_n 3, 1) := by decide +kernel
theorem dX9_counts_88 : decode cX9_counts 88 = .ok (.ishl, 1) := by decide +kernel
theorem dX9_counts_89 : decode cX9_counts 89 = .ok (.iand, 1) := by decide +kernel
theorem dX9_counts_90 : decode cX9_counts 90 = .ok (.goto 10, 3) := by decide +kernel
theorem dX9_counts_93 : decode cX9_counts 93 = .ok (.aload_n 0, 1) := by decide +kernel
theorem dX9_counts_94 : decode cX9_counts 94 = .ok (.getfield 69, 3) := by decide +kernel
theorem dX9_counts_97 : decode cX9_counts 97 = .ok (.iload 6, 2) := by decide +kernel
theorem dX9_counts_99 : decode cX9_counts 99 = .ok (.iaload, 1) := by decide +kernel
theorem dX9_counts_100 : decode cX9_counts 100 = .ok (.istore 7, 2) := by decide +kernel
theorem dX9_counts_102 : decode cX9_counts 102 = .ok (.iload 4, 2) := by decide +kernel
theorem dX9_counts_104 : decode cX9_counts 104 = .ok (.iconst 1, 1) := by decide +kernel
theorem dX9_counts_105 : decode cX9_counts 105 = .ok (.isub, 1) := by decide +kernel
theorem dX9_counts_106 : decode cX9_counts 106 = .ok (.istore 8, 2) := by decide +kernel
theorem dX9_counts_108 : decode cX9_counts 108 = .ok (.iload 8, 2) := by decide +kernel
theorem dX9_counts_110 : decode cX9_counts 110 = .ok (.ifCond .lt 41, 3) := by decide +kernel
theorem dX9_counts_113 : decode cX9_counts 113 = .ok (.aload_n 0, 1) := by decide +kernel
theorem dX9_counts_114 : decode cX9_counts 114 = .ok (.getfield 73, 3) := by decide +kernel
theorem dX9_counts_117 : decode cX9_counts 117 = .ok (.iload 8, 2) := by decide +kernel
theorem dX9_counts_119 : decode cX9_counts 119 = .ok (.laload, 1) := by decide +kernel
theorem dX9_counts_120 : decode cX9_counts 120 = .ok (.lconst 0, 1) := by decide +kernel
theorem dX9_counts_121 : decode cX9_counts 121 = .ok (.lcmp, 1) := by decide +kernel
theorem dX9_counts_122 : decode cX9_counts 122 = .ok (.ifCond .le 23, 3) := by decide +kernel
theorem dX9_counts_125 : decode cX9_counts 125 = .ok (.aload_n 0, 1) := by decide +kernel
theorem dX9_counts_126 : decode cX9_counts 126 = .ok (.getfield 77, 3) := by decide +kernel
theorem dX9_counts_129 : decode cX9_counts 129 = .ok (.iload 8, 2) := by decide +kernel
theorem dX9_counts_131 : decode cX9_counts 131 = .ok (.iaload, 1) := by decide +kernel
theorem dX9_counts_132 : decode cX9_counts 132 = .ok (.iload 5, 2) := by decide +kernel
theorem dX9_counts_134 : decode cX9_counts 134 = .ok (.if_icmp .ne 11, 3) := by decide +kernel
theorem dX9_counts_137 : decode cX9_counts 137 = .ok (.aload_n 0, 1) := by decide +kernel
theorem dX9_counts_138 : decode cX9_counts 138 = .ok (.iload 8, 2) := by decide +kernel
theorem dX9_counts_140 : decode cX9_counts 140 = .ok (.iload 7, 2) := by decide +kernel
theorem dX9_counts_142 : decode cX9_counts 142 = .ok (.invokevirtual 288, 3) := by decide +kernel
theorem dX9_counts_145 : decode cX9_counts 145 = .ok (.iinc 8 (-1), 3) := by decide +kernel
theorem dX9_counts_148 : decode cX9_counts 148 = .ok (.goto (-40), 3) := by decide +kernel
theorem dX9_counts_151 : decode cX9_counts 151 = .ok (.iload 5, 2) := by decide +kernel
theorem dX9_counts_153 : decode cX9_counts 153 = .ok (.iconst 1, 1) := by decide +kernel
theorem dX9_counts_154 : decode cX9_counts 154 = .ok (.iadd, 1) := by decide +kernel
theorem dX9_counts_155 : decode cX9_counts 155 = .ok (.istore 5, 2) := by decide +kernel
theorem dX9_counts_157 : decode cX9_counts 157 = .ok (.iinc 6 1, 3) := by decide +kernel
theorem dX9_counts_160 : decode cX9_counts 160 = .ok (.goto (-115), 3) := by decide +kernel
theorem dX9_counts_163 : decode cX9_counts 163 = .ok (.lconst 0, 1) := by decide +kernel
theorem dX9_counts_164 : decode cX9_counts 164 = .ok (.lstore 6, 2) := by decide +kernel
theorem dX9_counts_166 : decode cX9_counts 166 = .ok (.iconst 0, 1) := by decide +kernel
theorem dX9_counts_167 : decode cX9_counts 167 = .ok (.istore 8, 2) := by decide +kernel
theorem dX9_counts_169 : decode cX9_counts 169 = .ok (.iload 8, 2) := by decide +kernel
theorem dX9_counts_171 : decode cX9_counts 171 = .ok (.iload 4, 2) := by decide +kernel
theorem dX9_counts_173 : decode cX9_counts 173 = .ok (.if_icmp .ge 37, 3) := by decide +kernel
theorem dX9_counts_176 : decode cX9_counts 176 = .ok (.lload 6, 2) := by decide +kernel
theorem dX9_counts_178 : decode cX9_counts 178 = .ok (.aload_n 0, 1) := by decide +kernel
theorem dX9_counts_179 : decode cX9_counts 179 = .ok (.getfield 77, 3) := by decide +kernel
theorem dX9_counts_182 : decode cX9_counts 182 = .ok (.iload 8, 2) := by decide +kernel
theorem dX9_counts_184 : decode cX9_counts 184 = .ok (.iaload, 1) := by decide +kernel
theorem dX9_counts_185 : decode cX9_counts 185 = .ok (.iload 5, 2) := by decide +kernel
theorem dX9_counts_187 : decode cX9_counts 187 = .ok (.if_icmp .ne 13, 3) := by decide +kernel
theorem dX9_counts_190 : decode cX9_counts 190 = .ok (.aload_n 0, 1) := by decide +kernel
theorem dX9_counts_191 : decode cX9_counts 191 = .ok (.getfield 73, 3) := by decide +kernel
theorem dX9_counts_194 : decode cX9_counts 194 = .ok (.iload 8, 2) := by decide +kernel
theorem dX9_counts_196 : decode cX9_counts 196 = .ok (.laload, 1) := by decide +kernel
theorem dX9_counts_197 : decode cX9_counts 197 = .ok (.goto 4, 3) := by decide +kernel
theorem dX9_counts_200 : decode cX9_counts 200 = .ok (.lconst 0, 1) := by decide +kernel
theorem dX9_counts_201 : decode cX9_counts 201 = .ok (.ladd, 1) := by decide +kernel
theorem dX9_counts_202 : decode cX9_counts 202 = .ok (.lstore 6, 2) := by decide +kernel
theorem dX9_counts_204 : decode cX9_counts 204 = .ok (.iinc 8 1, 3) := by decide +kernel
theorem dX9_counts_207 : decode cX9_counts 207 = .ok (.goto (-38), 3) := by decide +kernel
theorem dX9_counts_210 : decode cX9_counts 210 = .ok (.lload 6, 2) := by decide +kernel
theorem dX9_counts_212 : decode cX9_counts 212 = .ok (.lreturn, 1) := by decide +kernel
theorem dX9_spreads_0 : decode cX9_spreads 0 = .ok (.iconst 0, 1) := by decide +kernel
theorem dX9_spreads_1 : decode cX9_spreads 1 = .ok (.istore_n 3, 1) := by decide +kernel
theorem dX9_spreads_2 : decode cX9_spreads 2 = .ok (.iload_n 3, 1) := by decide +kernel
theorem dX9_spreads_3 : decode cX9_spreads 3 = .ok (.aload_n 0, 1) := by decide +kernel
theorem dX9_spreads_4 : decode cX9_spreads 4 = .ok (.getfield 107, 3) := by decide +kernel
theorem dX9_spreads_7 : decode cX9_spreads 7 = .ok (.if_icmp .ge 49, 3) := by decide +kernel
theorem dX9_spreads_10 : decode cX9_spreads 10 = .ok (.iload_n 2, 1) := by decide +kernel
theorem dX9_spreads_11 : decode cX9_spreads 11 = .ok (.iload_n 1, 1) := by decide +kernel
theorem dX9_spreads_12 : decode cX9_spreads 12 = .ok (.iconst (-1), 1) := by decide +kernel
theorem dX9_spreads_13 : decode cX9_spreads 13 = .ok (.ixor, 1) := by decide +kernel
theorem dX9_spreads_14 : decode cX9_spreads 14 = .ok (.iand, 1) := by decide +kernel
theorem dX9_spreads_15 : decode cX9_spreads 15 = .ok (.iload_n 3, 1) := by decide +kernel
theorem dX9_spreads_16 : decode cX9_spreads 16 = .ok (.ishr, 1) := by decide +kernel
theorem dX9_spreads_17 : decode cX9_spreads 17 = .ok (.iconst 1, 1) := by decide +kernel
theorem dX9_spreads_18 : decode cX9_spreads 18 = .ok (.iand, 1) := by decide +kernel
theorem dX9_spreads_19 : decode cX9_spreads 19 = .ok (.iconst 1, 1) := by decide +kernel
theorem dX9_spreads_20 : decode cX9_spreads 20 = .ok (.if_icmp .ne 30, 3) := by decide +kernel
theorem dX9_spreads_23 : decode cX9_spreads 23 = .ok (.aload_n 0, 1) := by decide +kernel
theorem dX9_spreads_24 : decode cX9_spreads 24 = .ok (.getfield 73, 3) := by decide +kernel
theorem dX9_spreads_27 : decode cX9_spreads 27 = .ok (.iload_n 1, 1) := by decide +kernel
theorem dX9_spreads_28 : decode cX9_spreads 28 = .ok (.iconst 1, 1) := by decide +kernel
theorem dX9_spreads_29 : decode cX9_spreads 29 = .ok (.iload_n 3, 1) := by decide +kernel
theorem dX9_spreads_30 : decode cX9_spreads 30 = .ok (.ishl, 1) := by decide +kernel
theorem dX9_spreads_31 : decode cX9_spreads 31 = .ok (.ior, 1) := by decide +kernel
theorem dX9_spreads_32 : decode cX9_spreads 32 = .ok (.aload_n 0, 1) := by decide +kernel
theorem dX9_spreads_33 : decode cX9_spreads 33 = .ok (.getfield 73, 3) := by decide +kernel
theorem dX9_spreads_36 : decode cX9_spreads 36 = .ok (.iload_n 1, 1) := by decide +kernel
theorem dX9_spreads_37 : decode cX9_spreads 37 = .ok (.iconst 1, 1) := by decide +kernel
theorem dX9_spreads_38 : decode cX9_spreads 38 = .ok (.iload_n 3, 1) := by decide +kernel
theorem dX9_spreads_39 : decode cX9_spreads 39 = .ok (.ishl, 1) := by decide +kernel
theorem dX9_spreads_40 : decode cX9_spreads 40 = .ok (.ior, 1) := by decide +kernel
theorem dX9_spreads_41 : decode cX9_spreads 41 = .ok (.laload, 1) := by decide +kernel
theorem dX9_spreads_42 : decode cX9_spreads 42 = .ok (.aload_n 0, 1) := by decide +kernel
theorem dX9_spreads_43 : decode cX9_spreads 43 = .ok (.getfield 73, 3) := by decide +kernel
theorem dX9_spreads_46 : decode cX9_spreads 46 = .ok (.iload_n 1, 1) := by decide +kernel
theorem dX9_spreads_47 : decode cX9_spreads 47 = .ok (.laload, 1) := by decide +kernel
theorem dX9_spreads_48 : decode cX9_spreads 48 = .ok (.ladd, 1) := by decide +kernel
theorem dX9_spreads_49 : decode cX9_spreads 49 = .ok (.lastore, 1) := by decide +kernel
theorem dX9_spreads_50 : decode cX9_spreads 50 = .ok (.iinc 3 1, 3) := by decide +kernel
theorem dX9_spreads_53 : decode cX9_spreads 53 = .ok (.goto (-51), 3) := by decide +kernel
theorem dX9_spreads_56 : decode cX9_spreads 56 = .ok (.return_, 1) := by decide +kernel
theorem dX9_findsOne_0 : decode cX9_findsOne 0 = .ok (.iload_n 2, 1) := by decide +kernel
theorem dX9_findsOne_1 : decode cX9_findsOne 1 = .ok (.istore_n 3, 1) := by decide +kernel
theorem dX9_findsOne_2 : decode cX9_findsOne 2 = .ok (.iconst 1, 1) := by decide +kernel
theorem dX9_findsOne_3 : decode cX9_findsOne 3 = .ok (.istore 4, 2) := by decide +kernel
theorem dX9_findsOne_5 : decode cX9_findsOne 5 = .ok (.aload_n 0, 1) := by decide +kernel
theorem dX9_findsOne_6 : decode cX9_findsOne 6 = .ok (.getfield 89, 3) := by decide +kernel
theorem dX9_findsOne_9 : decode cX9_findsOne 9 = .ok (.iconst 0, 1) := by decide +kernel
theorem dX9_findsOne_10 : decode cX9_findsOne 10 = .ok (.iload_n 1, 1) := by decide +kernel
theorem dX9_findsOne_11 : decode cX9_findsOne 11 = .ok (.iastore, 1) := by decide +kernel
theorem dX9_findsOne_12 : decode cX9_findsOne 12 = .ok (.iconst 0, 1) := by decide +kernel
theorem dX9_findsOne_13 : decode cX9_findsOne 13 = .ok (.istore 5, 2) := by decide +kernel
theorem dX9_findsOne_15 : decode cX9_findsOne 15 = .ok (.iload 5, 2) := by decide +kernel
theorem dX9_findsOne_17 : decode cX9_findsOne 17 = .ok (.iload 4, 2) := by decide +kernel
theorem dX9_findsOne_19 : decode cX9_findsOne 19 = .ok (.if_icmp .ge 115, 3) := by decide +kernel
theorem dX9_findsOne_22 : decode cX9_findsOne 22 = .ok (.iconst 0, 1) := by decide +kernel
theorem dX9_findsOne_23 : decode cX9_findsOne 23 = .ok (.istore 6, 2) := by decide +kernel
theorem dX9_findsOne_25 : decode cX9_findsOne 25 = .ok (.iload 6, 2) := by decide +kernel
theorem dX9_findsOne_27 : decode cX9_findsOne 27 = .ok (.aload_n 0, 1) := by decide +kernel
theorem dX9_findsOne_28 : decode cX9_findsOne 28 = .ok (.getfield 107, 3) := by decide +kernel
theorem dX9_findsOne_31 : decode cX9_findsOne 31 = .ok (.if_icmp .ge 97, 3) := by decide +kernel
theorem dX9_findsOne_34 : decode cX9_findsOne 34 = .ok (.aload_n 0, 1) := by decide +kernel
theorem dX9_findsOne_35 : decode cX9_findsOne 35 = .ok (.getfield 69, 3) := by decide +kernel
theorem dX9_findsOne_38 : decode cX9_findsOne 38 = .ok (.aload_n 0, 1) := by decide +kernel
theorem dX9_findsOne_39 : decode cX9_findsOne 39 = .ok (.getfield 89, 3) := by decide +kernel
theorem dX9_findsOne_42 : decode cX9_findsOne 42 = .ok (.iload 5, 2) := by decide +kernel
theorem dX9_findsOne_44 : decode cX9_findsOne 44 = .ok (.iaload, 1) := by decide +kernel
theorem dX9_findsOne_45 : decode cX9_findsOne 45 = .ok (.iaload, 1) := by decide +kernel
theorem dX9_findsOne_46 : decode cX9_findsOne 46 = .ok (.iload_n 3, 1) := by decide +kernel
theorem dX9_findsOne_47 : decode cX9_findsOne 47 = .ok (.iconst (-1), 1) := by decide +kernel
theorem dX9_findsOne_48 : decode cX9_findsOne 48 = .ok (.ixor, 1) := by decide +kernel
theorem dX9_findsOne_49 : decode cX9_findsOne 49 = .ok (.iand, 1) := by decide +kernel
theorem dX9_findsOne_50 : decode cX9_findsOne 50 = .ok (.iload 6, 2) := by decide +kernel
theorem dX9_findsOne_52 : decode cX9_findsOne 52 = .ok (.ishr, 1) := by decide +kernel
theorem dX9_findsOne_53 : decode cX9_findsOne 53 = .ok (.iconst 1, 1) := by decide +kernel
theorem dX9_findsOne_54 : decode cX9_findsOne 54 = .ok (.iand, 1) := by decide +kernel
theorem dX9_findsOne_55 : decode cX9_findsOne 55 = .ok (.ifCond .ne 6, 3) := by decide +kernel
theorem dX9_findsOne_58 : decode cX9_findsOne 58 = .ok (.goto 64, 3) := by decide +kernel
theorem dX9_findsOne_61 : decode cX9_findsOne 61 = .ok (.iload_n 3, 1) := by decide +kernel
theorem dX9_findsOne_62 : decode cX9_findsOne 62 = .ok (.iconst 1, 1) := by decide +kernel
theorem dX9_findsOne_63 : decode cX9_findsOne 63 = .ok (.iload 6, 2) := by decide +kernel
theorem dX9_findsOne_65 : decode cX9_findsOne 65 = .ok (.ishl, 1) := by decide +kernel
theorem dX9_findsOne_66 : decode cX9_findsOne 66 = .ok (.ior, 1) := by decide +kernel
theorem dX9_findsOne_67 : decode cX9_findsOne 67 = .ok (.istore_n 3, 1) := by decide +kernel
theorem dX9_findsOne_68 : decode cX9_findsOne 68 = .ok (.aload_n 0, 1) := by decide +kernel
theorem dX9_findsOne_69 : decode cX9_findsOne 69 = .ok (.getfield 86, 3) := by decide +kernel
theorem dX9_findsOne_72 : decode cX9_findsOne 72 = .ok (.iload 6, 2) := by decide +kernel
theorem dX9_findsOne_74 : decode cX9_findsOne 74 = .ok (.aload_n 0, 1) := by decide +kernel
theorem dX9_findsOne_75 : decode cX9_findsOne 75 = .ok (.getfield 89, 3) := by decide +kernel
theorem dX9_findsOne_78 : decode cX9_findsOne 78 = .ok (.iload 5, 2) := by decide +kernel
theorem dX9_findsOne_80 : decode cX9_findsOne 80 = .ok (.iaload, 1) := by decide +kernel
theorem dX9_findsOne_81 : decode cX9_findsOne 81 = .ok (.iastore, 1) := by decide +kernel
theorem dX9_findsOne_82 : decode cX9_findsOne 82 = .ok (.aload_n 0, 1) := by decide +kernel
theorem dX9_findsOne_83 : decode cX9_findsOne 83 = .ok (.getfield 83, 3) := by decide +kernel
theorem dX9_findsOne_86 : decode cX9_findsOne 86 = .ok (.iload 6, 2) := by decide +kernel
theorem dX9_findsOne_88 : decode cX9_findsOne 88 = .ok (.iaload, 1) := by decide +kernel
theorem dX9_findsOne_89 : decode cX9_findsOne 89 = .ok (.iconst (-1), 1) := by decide +kernel
theorem dX9_findsOne_90 : decode cX9_findsOne 90 = .ok (.if_icmp .ne 12, 3) := by decide +kernel
theorem dX9_findsOne_93 : decode cX9_findsOne 93 = .ok (.aload_n 0, 1) := by decide +kernel
theorem dX9_findsOne_94 : decode cX9_findsOne 94 = .ok (.iload_n 1, 1) := by decide +kernel
theorem dX9_findsOne_95 : decode cX9_findsOne 95 = .ok (.iload 6, 2) := by decide +kernel
theorem dX9_findsOne_97 : decode cX9_findsOne 97 = .ok (.invokevirtual 291, 3) := by decide +kernel
theorem dX9_findsOne_100 : decode cX9_findsOne 100 = .ok (.iconst 1, 1) := by decide +kernel
theorem dX9_findsOne_101 : decode cX9_findsOne 101 = .ok (.ireturn, 1) := by decide +kernel
theorem dX9_findsOne_102 : decode cX9_findsOne 102 = .ok (.aload_n 0, 1) := by decide +kernel
theorem dX9_findsOne_103 : decode cX9_findsOne 103 = .ok (.getfield 89, 3) := by decide +kernel
theorem dX9_findsOne_106 : decode cX9_findsOne 106 = .ok (.iload 4, 2) := by decide +kernel
theorem dX9_findsOne_108 : decode cX9_findsOne 108 = .ok (.aload_n 0, 1) := by decide +kernel
theorem dX9_findsOne_109 : decode cX9_findsOne 109 = .ok (.getfield 83, 3) := by decide +kernel
theorem dX9_findsOne_112 : decode cX9_findsOne 112 = .ok (.iload 6, 2) := by decide +kernel
theorem dX9_findsOne_114 : decode cX9_findsOne 114 = .ok (.iaload, 1) := by decide +kernel
theorem dX9_findsOne_115 : decode cX9_findsOne 115 = .ok (.iastore, 1) := by decide +kernel
theorem dX9_findsOne_116 : decode cX9_findsOne 116 = .ok (.iload 4, 2) := by decide +kernel
theorem dX9_findsOne_118 : decode cX9_findsOne 118 = .ok (.iconst 1, 1) := by decide +kernel
theorem dX9_findsOne_119 : decode cX9_findsOne 119 = .ok (.iadd, 1) := by decide +kernel
theorem dX9_findsOne_120 : decode cX9_findsOne 120 = .ok (.istore 4, 2) := by decide +kernel
theorem dX9_findsOne_122 : decode cX9_findsOne 122 = .ok (.iinc 6 1, 3) := by decide +kernel
theorem dX9_findsOne_125 : decode cX9_findsOne 125 = .ok (.goto (-100), 3) := by decide +kernel
theorem dX9_findsOne_128 : decode cX9_findsOne 128 = .ok (.iinc 5 1, 3) := by decide +kernel
theorem dX9_findsOne_131 : decode cX9_findsOne 131 = .ok (.goto (-116), 3) := by decide +kernel
theorem dX9_findsOne_134 : decode cX9_findsOne 134 = .ok (.iconst 0, 1) := by decide +kernel
theorem dX9_findsOne_135 : decode cX9_findsOne 135 = .ok (.ireturn, 1) := by decide +kernel
theorem dX9_changesBack_0 : decode cX9_changesBack 0 = .ok (.iload_n 2, 1) := by decide +kernel
theorem dX9_changesBack_1 : decode cX9_changesBack 1 = .ok (.istore_n 3, 1) := by decide +kernel
theorem dX9_changesBack_2 : decode cX9_changesBack 2 = .ok (.iconst 1, 1) := by decide +kernel
theorem dX9_changesBack_3 : decode cX9_changesBack 3 = .ok (.istore 4, 2) := by decide +kernel
theorem dX9_changesBack_5 : decode cX9_changesBack 5 = .ok (.iload 4, 2) := by decide +kernel
theorem dX9_changesBack_7 : decode cX9_changesBack 7 = .ok (.ifCond .eq 55, 3) := by decide +kernel
theorem dX9_changesBack_10 : decode cX9_changesBack 10 = .ok (.aload_n 0, 1) := by decide +kernel
theorem dX9_changesBack_11 : decode cX9_changesBack 11 = .ok (.getfield 86, 3) := by decide +kernel
theorem dX9_changesBack_14 : decode cX9_changesBack 14 = .ok (.iload_n 3, 1) := by decide +kernel
theorem dX9_changesBack_15 : decode cX9_changesBack 15 = .ok (.iaload, 1) := by decide +kernel
theorem dX9_changesBack_16 : decode cX9_changesBack 16 = .ok (.istore 5, 2) := by decide +kernel
theorem dX9_changesBack_18 : decode cX9_changesBack 18 = .ok (.aload_n 0, 1) := by decide +kernel
theorem dX9_changesBack_19 : decode cX9_changesBack 19 = .ok (.getfield 80, 3) := by decide +kernel
theorem dX9_changesBack_22 : decode cX9_changesBack 22 = .ok (.iload 5, 2) := by decide +kernel
theorem dX9_changesBack_24 : decode cX9_changesBack 24 = .ok (.iaload, 1) := by decide +kernel
theorem dX9_changesBack_25 : decode cX9_changesBack 25 = .ok (.istore 6, 2) := by decide +kernel
theorem dX9_changesBack_27 : decode cX9_changesBack 27 = .ok (.aload_n 0, 1) := by decide +kernel
theorem dX9_changesBack_28 : decode cX9_changesBack 28 = .ok (.getfield 83, 3) := by decide +kernel
theorem dX9_changesBack_31 : decode cX9_changesBack 31 = .ok (.iload_n 3, 1) := by decide +kernel
theorem dX9_changesBack_32 : decode cX9_changesBack 32 = .ok (.iload 5, 2) := by decide +kernel
theorem dX9_changesBack_34 : decode cX9_changesBack 34 = .ok (.iastore, 1) := by decide +kernel
theorem dX9_changesBack_35 : decode cX9_changesBack 35 = .ok (.aload_n 0, 1) := by decide +kernel
theorem dX9_changesBack_36 : decode cX9_changesBack 36 = .ok (.getfield 80, 3) := by decide +kernel
theorem dX9_changesBack_39 : decode cX9_changesBack 39 = .ok (.iload 5, 2) := by decide +kernel
theorem dX9_changesBack_41 : decode cX9_changesBack 41 = .ok (.iload_n 3, 1) := by decide +kernel
theorem dX9_changesBack_42 : decode cX9_changesBack 42 = .ok (.iastore, 1) := by decide +kernel
theorem dX9_changesBack_43 : decode cX9_changesBack 43 = .ok (.iload 5, 2) := by decide +kernel
theorem dX9_changesBack_45 : decode cX9_changesBack 45 = .ok (.iload_n 1, 1) := by decide +kernel
theorem dX9_changesBack_46 : decode cX9_changesBack 46 = .ok (.if_icmp .eq 7, 3) := by decide +kernel
theorem dX9_changesBack_49 : decode cX9_changesBack 49 = .ok (.iconst 1, 1) := by decide +kernel
theorem dX9_changesBack_50 : decode cX9_changesBack 50 = .ok (.goto 4, 3) := by decide +kernel
theorem dX9_changesBack_53 : decode cX9_changesBack 53 = .ok (.iconst 0, 1) := by decide +kernel
theorem dX9_changesBack_54 : decode cX9_changesBack 54 = .ok (.istore 4, 2) := by decide +kernel
theorem dX9_changesBack_56 : decode cX9_changesBack 56 = .ok (.iload 6, 2) := by decide +kernel
theorem dX9_changesBack_58 : decode cX9_changesBack 58 = .ok (.istore_n 3, 1) := by decide +kernel
theorem dX9_changesBack_59 : decode cX9_changesBack 59 = .ok (.goto (-54), 3) := by decide +kernel
theorem dX9_changesBack_62 : decode cX9_changesBack 62 = .ok (.return_, 1) := by decide +kernel
theorem dX9_canAll_0 : decode cX9_canAll 0 = .ok (.iload_n 2, 1) := by decide +kernel
theorem dX9_canAll_1 : decode cX9_canAll 1 = .ok (.iconst (-1), 1) := by decide +kernel
theorem dX9_canAll_2 : decode cX9_canAll 2 = .ok (.if_icmp .eq 18, 3) := by decide +kernel
theorem dX9_canAll_5 : decode cX9_canAll 5 = .ok (.aload_n 0, 1) := by decide +kernel
theorem dX9_canAll_6 : decode cX9_canAll 6 = .ok (.getfield 69, 3) := by decide +kernel
theorem dX9_canAll_9 : decode cX9_canAll 9 = .ok (.iload_n 2, 1) := by decide +kernel
theorem dX9_canAll_10 : decode cX9_canAll 10 = .ok (.iaload, 1) := by decide +kernel
theorem dX9_canAll_11 : decode cX9_canAll 11 = .ok (.iload_n 3, 1) := by decide +kernel
theorem dX9_canAll_12 : decode cX9_canAll 12 = .ok (.ishr, 1) := by decide +kernel
theorem dX9_canAll_13 : decode cX9_canAll 13 = .ok (.iconst 1, 1) := by decide +kernel
theorem dX9_canAll_14 : decode cX9_canAll 14 = .ok (.iand, 1) := by decide +kernel
theorem dX9_canAll_15 : decode cX9_canAll 15 = .ok (.ifCond .ne 5, 3) := by decide +kernel
theorem dX9_canAll_18 : decode cX9_canAll 18 = .ok (.iconst 0, 1) := by decide +kernel
theorem dX9_canAll_19 : decode cX9_canAll 19 = .ok (.ireturn, 1) := by decide +kernel
theorem dX9_canAll_20 : decode cX9_canAll 20 = .ok (.iconst 0, 1) := by decide +kernel
theorem dX9_canAll_21 : decode cX9_canAll 21 = .ok (.istore 4, 2) := by decide +kernel
theorem dX9_canAll_23 : decode cX9_canAll 23 = .ok (.iload 4, 2) := by decide +kernel
theorem dX9_canAll_25 : decode cX9_canAll 25 = .ok (.bipush 16, 2) := by decide +kernel
theorem dX9_canAll_27 : decode cX9_canAll 27 = .ok (.if_icmp .ge 17, 3) := by decide +kernel
theorem dX9_canAll_30 : decode cX9_canAll 30 = .ok (.aload_n 0, 1) := by decide +kernel
theorem dX9_canAll_31 : decode cX9_canAll 31 = .ok (.getfield 83, 3) := by decide +kernel
theorem dX9_canAll_34 : decode cX9_canAll 34 = .ok (.iload 4, 2) := by decide +kernel
theorem dX9_canAll_36 : decode cX9_canAll 36 = .ok (.iconst (-1), 1) := by decide +kernel
theorem dX9_canAll_37 : decode cX9_canAll 37 = .ok (.iastore, 1) := by decide +kernel
theorem dX9_canAll_38 : decode cX9_canAll 38 = .ok (.iinc 4 1, 3) := by decide +kernel
theorem dX9_canAll_41 : decode cX9_canAll 41 = .ok (.goto (-18), 3) := by decide +kernel
theorem dX9_canAll_44 : decode cX9_canAll 44 = .ok (.iconst 0, 1) := by decide +kernel
theorem dX9_canAll_45 : decode cX9_canAll 45 = .ok (.istore 4, 2) := by decide +kernel
theorem dX9_canAll_47 : decode cX9_canAll 47 = .ok (.iload 4, 2) := by decide +kernel
theorem dX9_canAll_49 : decode cX9_canAll 49 = .ok (.bipush 8, 2) := by decide +kernel
theorem dX9_canAll_51 : decode cX9_canAll 51 = .ok (.if_icmp .ge 17, 3) := by decide +kernel
theorem dX9_canAll_54 : decode cX9_canAll 54 = .ok (.aload_n 0, 1) := by decide +kernel
theorem dX9_canAll_55 : decode cX9_canAll 55 = .ok (.getfield 80, 3) := by decide +kernel
theorem dX9_canAll_58 : decode cX9_canAll 58 = .ok (.iload 4, 2) := by decide +kernel
theorem dX9_canAll_60 : decode cX9_canAll 60 = .ok (.iconst (-1), 1) := by decide +kernel
theorem dX9_canAll_61 : decode cX9_canAll 61 = .ok (.iastore, 1) := by decide +kernel
theorem dX9_canAll_62 : decode cX9_canAll 62 = .ok (.iinc 4 1, 3) := by decide +kernel
theorem dX9_canAll_65 : decode cX9_canAll 65 = .ok (.goto (-18), 3) := by decide +kernel
theorem dX9_canAll_68 : decode cX9_canAll 68 = .ok (.iconst 0, 1) := by decide +kernel
theorem dX9_canAll_69 : decode cX9_canAll 69 = .ok (.istore 4, 2) := by decide +kernel
theorem dX9_canAll_71 : decode cX9_canAll 71 = .ok (.iload 4, 2) := by decide +kernel
theorem dX9_canAll_73 : decode cX9_canAll 73 = .ok (.aload_n 0, 1) := by decide +kernel
theorem dX9_canAll_74 : decode cX9_canAll 74 = .ok (.getfield 22, 3) := by decide +kernel
theorem dX9_canAll_77 : decode cX9_canAll 77 = .ok (.iload_n 1, 1) := by decide +kernel
theorem dX9_canAll_78 : decode cX9_canAll 78 = .ok (.iaload, 1) := by decide +kernel
theorem dX9_canAll_79 : decode cX9_canAll 79 = .ok (.if_icmp .ge 52, 3) := by decide +kernel
theorem dX9_canAll_82 : decode cX9_canAll 82 = .ok (.aload_n 0, 1) := by decide +kernel
theorem dX9_canAll_83 : decode cX9_canAll 83 = .ok (.getfield 37, 3) := by decide +kernel
theorem dX9_canAll_86 : decode cX9_canAll 86 = .ok (.iload_n 1, 1) := by decide +kernel
theorem dX9_canAll_87 : decode cX9_canAll 87 = .ok (.iload 4, 2) := by decide +kernel
theorem dX9_canAll_89 : decode cX9_canAll 89 = .ok (.invokestatic 143, 3) := by decide +kernel
theorem dX9_canAll_92 : decode cX9_canAll 92 = .ok (.baload, 1) := by decide +kernel
theorem dX9_canAll_93 : decode cX9_canAll 93 = .ok (.ifCond .ne 32, 3) := by decide +kernel
theorem dX9_canAll_96 : decode cX9_canAll 96 = .ok (.iload 4, 2) := by decide +kernel
theorem dX9_canAll_98 : decode cX9_canAll 98 = .ok (.iload_n 2, 1) := by decide +kernel
theorem dX9_canAll_99 : decode cX9_canAll 99 = .ok (.if_icmp .eq 26, 3) := by decide +kernel
theorem dX9_canAll_102 : decode cX9_canAll 102 = .ok (.aload_n 0, 1) := by decide +kernel
theorem dX9_canAll_103 : decode cX9_canAll 103 = .ok (.iload 4, 2) := by decide +kernel
theorem dX9_canAll_105 : decode cX9_canAll 105 = .ok (.iload_n 2, 1) := by decide +kernel
theorem dX9_canAll_106 : decode cX9_canAll 106 = .ok (.iconst (-1), 1) := by decide +kernel
theorem dX9_canAll_107 : decode cX9_canAll 107 = .ok (.if_icmp .ne 7, 3) := by decide +kernel
theorem dX9_canAll_110 : decode cX9_canAll 110 = .ok (.iconst 0, 1) := by decide +kernel
theorem dX9_canAll_111 : decode cX9_canAll 111 = .ok (.goto 6, 3) := by decide +kernel
theorem dX9_canAll_114 : decode cX9_canAll 114 = .ok (.iconst 1, 1) := by decide +kernel
theorem dX9_canAll_115 : decode cX9_canAll 115 = .ok (.iload_n 3, 1) := by decide +kernel
theorem dX9_canAll_116 : decode cX9_canAll 116 = .ok (.ishl, 1) := by decide +kernel
theorem dX9_canAll_117 : decode cX9_canAll 117 = .ok (.invokevirtual 294, 3) := by decide +kernel
theorem dX9_canAll_120 : decode cX9_canAll 120 = .ok (.ifCond .ne 5, 3) := by decide +kernel
theorem dX9_canAll_123 : decode cX9_canAll 123 = .ok (.iconst 0, 1) := by decide +kernel
theorem dX9_canAll_124 : decode cX9_canAll 124 = .ok (.ireturn, 1) := by decide +kernel
theorem dX9_canAll_125 : decode cX9_canAll 125 = .ok (.iinc 4 1, 3) := by decide +kernel
theorem dX9_canAll_128 : decode cX9_canAll 128 = .ok (.goto (-57), 3) := by decide +kernel
theorem dX9_canAll_131 : decode cX9_canAll 131 = .ok (.iconst 1, 1) := by decide +kernel
theorem dX9_canAll_132 : decode cX9_canAll 132 = .ok (.ireturn, 1) := by decide +kernel
theorem dX9_givings_0 : decode cX9_givings 0 = .ok (.aload_n 0, 1) := by decide +kernel
theorem dX9_givings_1 : decode cX9_givings 1 = .ok (.iload_n 1, 1) := by decide +kernel
theorem dX9_givings_2 : decode cX9_givings 2 = .ok (.invokevirtual 136, 3) := by decide +kernel
theorem dX9_givings_5 : decode cX9_givings 5 = .ok (.ifCond .eq 10, 3) := by decide +kernel
theorem dX9_givings_8 : decode cX9_givings 8 = .ok (.iload_n 2, 1) := by decide +kernel
theorem dX9_givings_9 : decode cX9_givings 9 = .ok (.invokestatic 282, 3) := by decide +kernel
theorem dX9_givings_12 : decode cX9_givings 12 = .ok (.ifCond .ne 7, 3) := by decide +kernel
theorem dX9_givings_15 : decode cX9_givings 15 = .ok (.ldc2_w 297, 3) := by decide +kernel
theorem dX9_givings_18 : decode cX9_givings 18 = .ok (.lreturn, 1) := by decide +kernel
theorem dX9_givings_19 : decode cX9_givings 19 = .ok (.aload_n 0, 1) := by decide +kernel
theorem dX9_givings_20 : decode cX9_givings 20 = .ok (.iload_n 1, 1) := by decide +kernel
theorem dX9_givings_21 : decode cX9_givings 21 = .ok (.iload_n 2, 1) := by decide +kernel
theorem dX9_givings_22 : decode cX9_givings 22 = .ok (.invokevirtual 299, 3) := by decide +kernel
theorem dX9_givings_25 : decode cX9_givings 25 = .ok (.aload_n 0, 1) := by decide +kernel
theorem dX9_givings_26 : decode cX9_givings 26 = .ok (.iload_n 1, 1) := by decide +kernel
theorem dX9_givings_27 : decode cX9_givings 27 = .ok (.iconst (-1), 1) := by decide +kernel
theorem dX9_givings_28 : decode cX9_givings 28 = .ok (.iconst 0, 1) := by decide +kernel
theorem dX9_givings_29 : decode cX9_givings 29 = .ok (.invokevirtual 302, 3) := by decide +kernel
theorem dX9_givings_32 : decode cX9_givings 32 = .ok (.lreturn, 1) := by decide +kernel
theorem dX9_gcd_0 : decode cX9_gcd 0 = .ok (.lload_n 0, 1) := by decide +kernel
theorem dX9_gcd_1 : decode cX9_gcd 1 = .ok (.lstore 4, 2) := by decide +kernel
theorem dX9_gcd_3 : decode cX9_gcd 3 = .ok (.lload_n 2, 1) := by decide +kernel
theorem dX9_gcd_4 : decode cX9_gcd 4 = .ok (.lstore 6, 2) := by decide +kernel
theorem dX9_gcd_6 : decode cX9_gcd 6 = .ok (.lload 6, 2) := by decide +kernel
theorem dX9_gcd_8 : decode cX9_gcd 8 = .ok (.lconst 0, 1) := by decide +kernel
theorem dX9_gcd_9 : decode cX9_gcd 9 = .ok (.lcmp, 1) := by decide +kernel
theorem dX9_gcd_10 : decode cX9_gcd 10 = .ok (.ifCond .eq 21, 3) := by decide +kernel
theorem dX9_gcd_13 : decode cX9_gcd 13 = .ok (.lload 4, 2) := by decide +kernel
theorem dX9_gcd_15 : decode cX9_gcd 15 = .ok (.lload 6, 2) := by decide +kernel
theorem dX9_gcd_17 : decode cX9_gcd 17 = .ok (.lrem, 1) := by decide +kernel
theorem dX9_gcd_18 : decode cX9_gcd 18 = .ok (.lstore 8, 2) := by decide +kernel
theorem dX9_gcd_20 : decode cX9_gcd 20 = .ok (.lload 6, 2) := by decide +kernel
theorem dX9_gcd_22 : decode cX9_gcd 22 = .ok (.lstore 4, 2) := by decide +kernel
theorem dX9_gcd_24 : decode cX9_gcd 24 = .ok (.lload 8, 2) := by decide +kernel
theorem dX9_gcd_26 : decode cX9_gcd 26 = .ok (.lstore 6, 2) := by decide +kernel
theorem dX9_gcd_28 : decode cX9_gcd 28 = .ok (.goto (-22), 3) := by decide +kernel
theorem dX9_gcd_31 : decode cX9_gcd 31 = .ok (.lload 4, 2) := by decide +kernel
theorem dX9_gcd_33 : decode cX9_gcd 33 = .ok (.lreturn, 1) := by decide +kernel
theorem dX9_isAsked_0 : decode cX9_isAsked 0 = .ok (.aload_n 0, 1) := by decide +kernel
theorem dX9_isAsked_1 : decode cX9_isAsked 1 = .ok (.iload_n 1, 1) := by decide +kernel
theorem dX9_isAsked_2 : decode cX9_isAsked 2 = .ok (.iload_n 2, 1) := by decide +kernel
theorem dX9_isAsked_3 : decode cX9_isAsked 3 = .ok (.invokevirtual 139, 3) := by decide +kernel
theorem dX9_isAsked_6 : decode cX9_isAsked 6 = .ok (.ifCond .eq 23, 3) := by decide +kernel
theorem dX9_isAsked_9 : decode cX9_isAsked 9 = .ok (.aload_n 0, 1) := by decide +kernel
theorem dX9_isAsked_10 : decode cX9_isAsked 10 = .ok (.iload_n 3, 1) := by decide +kernel
theorem dX9_isAsked_11 : decode cX9_isAsked 11 = .ok (.invokevirtual 119, 3) := by decide +kernel
theorem dX9_isAsked_14 : decode cX9_isAsked 14 = .ok (.ifCond .eq 15, 3) := by decide +kernel
theorem dX9_isAsked_17 : decode cX9_isAsked 17 = .ok (.iload 4, 2) := by decide +kernel
theorem dX9_isAsked_19 : decode cX9_isAsked 19 = .ok (.invokestatic 282, 3) := by decide +kernel
theorem dX9_isAsked_22 : decode cX9_isAsked 22 = .ok (.ifCond .eq 7, 3) := by decide +kernel
theorem dX9_isAsked_25 : decode cX9_isAsked 25 = .ok (.iconst 1, 1) := by decide +kernel
theorem dX9_isAsked_26 : decode cX9_isAsked 26 = .ok (.goto 4, 3) := by decide +kernel
theorem dX9_isAsked_29 : decode cX9_isAsked 29 = .ok (.iconst 0, 1) := by decide +kernel
theorem dX9_isAsked_30 : decode cX9_isAsked 30 = .ok (.ireturn, 1) := by decide +kernel
theorem dX9_odds_0 : decode cX9_odds 0 = .ok (.aload_n 0, 1) := by decide +kernel
theorem dX9_odds_1 : decode cX9_odds 1 = .ok (.iload_n 1, 1) := by decide +kernel
theorem dX9_odds_2 : decode cX9_odds 2 = .ok (.iload_n 2, 1) := by decide +kernel
theorem dX9_odds_3 : decode cX9_odds 3 = .ok (.iload_n 3, 1) := by decide +kernel
theorem dX9_odds_4 : decode cX9_odds 4 = .ok (.iload 4, 2) := by decide +kernel
theorem dX9_odds_6 : decode cX9_odds 6 = .ok (.invokevirtual 306, 3) := by decide +kernel
theorem dX9_odds_9 : decode cX9_odds 9 = .ok (.ifCond .eq 13, 3) := by decide +kernel
theorem dX9_odds_12 : decode cX9_odds 12 = .ok (.iload 5, 2) := by decide +kernel
theorem dX9_odds_14 : decode cX9_odds 14 = .ok (.iconst 0, 1) := by decide +kernel
theorem dX9_odds_15 : decode cX9_odds 15 = .ok (.iconst 1, 1) := by decide +kernel
theorem dX9_odds_16 : decode cX9_odds 16 = .ok (.invokestatic 115, 3) := by decide +kernel
theorem dX9_odds_19 : decode cX9_odds 19 = .ok (.ifCond .ne 7, 3) := by decide +kernel
theorem dX9_odds_22 : decode cX9_odds 22 = .ok (.ldc2_w 297, 3) := by decide +kernel
theorem dX9_odds_25 : decode cX9_odds 25 = .ok (.lreturn, 1) := by decide +kernel
theorem dX9_odds_26 : decode cX9_odds 26 = .ok (.aload_n 0, 1) := by decide +kernel
theorem dX9_odds_27 : decode cX9_odds 27 = .ok (.getfield 37, 3) := by decide +kernel
theorem dX9_odds_30 : decode cX9_odds 30 = .ok (.iload_n 1, 1) := by decide +kernel
theorem dX9_odds_31 : decode cX9_odds 31 = .ok (.iload_n 2, 1) := by decide +kernel
theorem dX9_odds_32 : decode cX9_odds 32 = .ok (.invokestatic 143, 3) := by decide +kernel
theorem dX9_odds_35 : decode cX9_odds 35 = .ok (.baload, 1) := by decide +kernel
theorem dX9_odds_36 : decode cX9_odds 36 = .ok (.ifCond .eq 7, 3) := by decide +kernel
theorem dX9_odds_39 : decode cX9_odds 39 = .ok (.ldc2_w 309, 3) := by decide +kernel
theorem dX9_odds_42 : decode cX9_odds 42 = .ok (.lreturn, 1) := by decide +kernel
theorem dX9_odds_43 : decode cX9_odds 43 = .ok (.aload_n 0, 1) := by decide +kernel
theorem dX9_odds_44 : decode cX9_odds 44 = .ok (.iload_n 1, 1) := by decide +kernel
theorem dX9_odds_45 : decode cX9_odds 45 = .ok (.iload 4, 2) := by decide +kernel
theorem dX9_odds_47 : decode cX9_odds 47 = .ok (.invokevirtual 299, 3) := by decide +kernel
theorem dX9_odds_50 : decode cX9_odds 50 = .ok (.aload_n 0, 1) := by decide +kernel
theorem dX9_odds_51 : decode cX9_odds 51 = .ok (.iload_n 1, 1) := by decide +kernel
theorem dX9_odds_52 : decode cX9_odds 52 = .ok (.iconst (-1), 1) := by decide +kernel
theorem dX9_odds_53 : decode cX9_odds 53 = .ok (.iconst 0, 1) := by decide +kernel
theorem dX9_odds_54 : decode cX9_odds 54 = .ok (.invokevirtual 302, 3) := by decide +kernel
theorem dX9_odds_57 : decode cX9_odds 57 = .ok (.lstore 6, 2) := by decide +kernel
theorem dX9_odds_59 : decode cX9_odds 59 = .ok (.lload 6, 2) := by decide +kernel
theorem dX9_odds_61 : decode cX9_odds 61 = .ok (.lconst 0, 1) := by decide +kernel
theorem dX9_odds_62 : decode cX9_odds 62 = .ok (.lcmp, 1) := by decide +kernel
theorem dX9_odds_63 : decode cX9_odds 63 = .ok (.ifCond .ne 7, 3) := by decide +kernel
theorem dX9_odds_66 : decode cX9_odds 66 = .ok (.ldc2_w 309, 3) := by decide +kernel
theorem dX9_odds_69 : decode cX9_odds 69 = .ok (.lreturn, 1) := by decide +kernel
theorem dX9_odds_70 : decode cX9_odds 70 = .ok (.aload_n 0, 1) := by decide +kernel
theorem dX9_odds_71 : decode cX9_odds 71 = .ok (.iload_n 1, 1) := by decide +kernel
theorem dX9_odds_72 : decode cX9_odds 72 = .ok (.iload_n 2, 1) := by decide +kernel
theorem dX9_odds_73 : decode cX9_odds 73 = .ok (.iload_n 3, 1) := by decide +kernel
theorem dX9_odds_74 : decode cX9_odds 74 = .ok (.invokevirtual 302, 3) := by decide +kernel
theorem dX9_odds_77 : decode cX9_odds 77 = .ok (.lstore 8, 2) := by decide +kernel
theorem dX9_odds_79 : decode cX9_odds 79 = .ok (.lload 8, 2) := by decide +kernel
theorem dX9_odds_81 : decode cX9_odds 81 = .ok (.lload 6, 2) := by decide +kernel
theorem dX9_odds_83 : decode cX9_odds 83 = .ok (.invokestatic 311, 3) := by decide +kernel
theorem dX9_odds_86 : decode cX9_odds 86 = .ok (.lstore 10, 2) := by decide +kernel
theorem dX9_odds_88 : decode cX9_odds 88 = .ok (.iload 5, 2) := by decide +kernel
theorem dX9_odds_90 : decode cX9_odds 90 = .ok (.ifCond .ne 11, 3) := by decide +kernel
theorem dX9_odds_93 : decode cX9_odds 93 = .ok (.lload 8, 2) := by decide +kernel
theorem dX9_odds_95 : decode cX9_odds 95 = .ok (.lload 10, 2) := by decide +kernel
theorem dX9_odds_97 : decode cX9_odds 97 = .ok (.ldiv, 1) := by decide +kernel
theorem dX9_odds_98 : decode cX9_odds 98 = .ok (.goto 8, 3) := by decide +kernel
theorem dX9_odds_101 : decode cX9_odds 101 = .ok (.lload 6, 2) := by decide +kernel
theorem dX9_odds_103 : decode cX9_odds 103 = .ok (.lload 10, 2) := by decide +kernel
theorem dX9_odds_105 : decode cX9_odds 105 = .ok (.ldiv, 1) := by decide +kernel
theorem dX9_odds_106 : decode cX9_odds 106 = .ok (.lreturn, 1) := by decide +kernel
theorem dX9_mustBe_0 : decode cX9_mustBe 0 = .ok (.aload_n 0, 1) := by decide +kernel
theorem dX9_mustBe_1 : decode cX9_mustBe 1 = .ok (.iload_n 1, 1) := by decide +kernel
theorem dX9_mustBe_2 : decode cX9_mustBe 2 = .ok (.iload_n 2, 1) := by decide +kernel
theorem dX9_mustBe_3 : decode cX9_mustBe 3 = .ok (.iload_n 3, 1) := by decide +kernel
theorem dX9_mustBe_4 : decode cX9_mustBe 4 = .ok (.iload 4, 2) := by decide +kernel
theorem dX9_mustBe_6 : decode cX9_mustBe 6 = .ok (.invokevirtual 306, 3) := by decide +kernel
theorem dX9_mustBe_9 : decode cX9_mustBe 9 = .ok (.ifCond .ne 5, 3) := by decide +kernel
theorem dX9_mustBe_12 : decode cX9_mustBe 12 = .ok (.iconst (-1), 1) := by decide +kernel
theorem dX9_mustBe_13 : decode cX9_mustBe 13 = .ok (.ireturn, 1) := by decide +kernel
theorem dX9_mustBe_14 : decode cX9_mustBe 14 = .ok (.aload_n 0, 1) := by decide +kernel
theorem dX9_mustBe_15 : decode cX9_mustBe 15 = .ok (.getfield 37, 3) := by decide +kernel
theorem dX9_mustBe_18 : decode cX9_mustBe 18 = .ok (.iload_n 1, 1) := by decide +kernel
theorem dX9_mustBe_19 : decode cX9_mustBe 19 = .ok (.iload_n 2, 1) := by decide +kernel
theorem dX9_mustBe_20 : decode cX9_mustBe 20 = .ok (.invokestatic 143, 3) := by decide +kernel
theorem dX9_mustBe_23 : decode cX9_mustBe 23 = .ok (.baload, 1) := by decide +kernel
theorem dX9_mustBe_24 : decode cX9_mustBe 24 = .ok (.ifCond .eq 6, 3) := by decide +kernel
theorem dX9_mustBe_27 : decode cX9_mustBe 27 = .ok (.bipush (-2), 2) := by decide +kernel
theorem dX9_mustBe_29 : decode cX9_mustBe 29 = .ok (.ireturn, 1) := by decide +kernel
theorem dX9_mustBe_30 : decode cX9_mustBe 30 = .ok (.aload_n 0, 1) := by decide +kernel
theorem dX9_mustBe_31 : decode cX9_mustBe 31 = .ok (.iload_n 1, 1) := by decide +kernel
theorem dX9_mustBe_32 : decode cX9_mustBe 32 = .ok (.iload 4, 2) := by decide +kernel
theorem dX9_mustBe_34 : decode cX9_mustBe 34 = .ok (.invokevirtual 299, 3) := by decide +kernel
theorem dX9_mustBe_37 : decode cX9_mustBe 37 = .ok (.aload_n 0, 1) := by decide +kernel
theorem dX9_mustBe_38 : decode cX9_mustBe 38 = .ok (.iload_n 1, 1) := by decide +kernel
theorem dX9_mustBe_39 : decode cX9_mustBe 39 = .ok (.iload_n 2, 1) := by decide +kernel
theorem dX9_mustBe_40 : decode cX9_mustBe 40 = .ok (.iload_n 3, 1) := by decide +kernel
theorem dX9_mustBe_41 : decode cX9_mustBe 41 = .ok (.invokevirtual 315, 3) := by decide +kernel
theorem dX9_mustBe_44 : decode cX9_mustBe 44 = .ok (.ifCond .ne 5, 3) := by decide +kernel
theorem dX9_mustBe_47 : decode cX9_mustBe 47 = .ok (.iconst 0, 1) := by decide +kernel
theorem dX9_mustBe_48 : decode cX9_mustBe 48 = .ok (.ireturn, 1) := by decide +kernel
theorem dX9_mustBe_49 : decode cX9_mustBe 49 = .ok (.aload_n 0, 1) := by decide +kernel
theorem dX9_mustBe_50 : decode cX9_mustBe 50 = .ok (.iload_n 1, 1) := by decide +kernel
theorem dX9_mustBe_51 : decode cX9_mustBe 51 = .ok (.iload_n 2, 1) := by decide +kernel
theorem dX9_mustBe_52 : decode cX9_mustBe 52 = .ok (.invokevirtual 318, 3) := by decide +kernel
theorem dX9_mustBe_55 : decode cX9_mustBe 55 = .ok (.invokestatic 321, 3) := by decide +kernel
theorem dX9_mustBe_58 : decode cX9_mustBe 58 = .ok (.iconst 1, 1) := by decide +kernel
theorem dX9_mustBe_59 : decode cX9_mustBe 59 = .ok (.if_icmp .ne 7, 3) := by decide +kernel
theorem dX9_mustBe_62 : decode cX9_mustBe 62 = .ok (.iconst 2, 1) := by decide +kernel
theorem dX9_mustBe_63 : decode cX9_mustBe 63 = .ok (.goto 4, 3) := by decide +kernel
theorem dX9_mustBe_66 : decode cX9_mustBe 66 = .ok (.iconst 1, 1) := by decide +kernel
theorem dX9_mustBe_67 : decode cX9_mustBe 67 = .ok (.ireturn, 1) := by decide +kernel
theorem dX9_giving_0 : decode cX9_giving 0 = .ok (.aload_n 0, 1) := by decide +kernel
theorem dX9_giving_1 : decode cX9_giving 1 = .ok (.iload_n 1, 1) := by decide +kernel
theorem dX9_giving_2 : decode cX9_giving 2 = .ok (.iload_n 2, 1) := by decide +kernel
theorem dX9_giving_3 : decode cX9_giving 3 = .ok (.invokevirtual 139, 3) := by decide +kernel
theorem dX9_giving_6 : decode cX9_giving 6 = .ok (.ifCond .eq 10, 3) := by decide +kernel
theorem dX9_giving_9 : decode cX9_giving 9 = .ok (.iload_n 3, 1) := by decide +kernel
theorem dX9_giving_10 : decode cX9_giving 10 = .ok (.invokestatic 282, 3) := by decide +kernel
theorem dX9_giving_13 : decode cX9_giving 13 = .ok (.ifCond .ne 5, 3) := by decide +kernel
theorem dX9_giving_16 : decode cX9_giving 16 = .ok (.iconst (-1), 1) := by decide +kernel
theorem dX9_giving_17 : decode cX9_giving 17 = .ok (.ireturn, 1) := by decide +kernel
theorem dX9_giving_18 : decode cX9_giving 18 = .ok (.aload_n 0, 1) := by decide +kernel
theorem dX9_giving_19 : decode cX9_giving 19 = .ok (.getfield 37, 3) := by decide +kernel
theorem dX9_giving_22 : decode cX9_giving 22 = .ok (.iload_n 1, 1) := by decide +kernel
theorem dX9_giving_23 : decode cX9_giving 23 = .ok (.iload_n 2, 1) := by decide +kernel
theorem dX9_giving_24 : decode cX9_giving 24 = .ok (.invokestatic 143, 3) := by decide +kernel
theorem dX9_giving_27 : decode cX9_giving 27 = .ok (.baload, 1) := by decide +kernel
theorem dX9_giving_28 : decode cX9_giving 28 = .ok (.ifCond .eq 6, 3) := by decide +kernel
theorem dX9_giving_31 : decode cX9_giving 31 = .ok (.bipush (-2), 2) := by decide +kernel
theorem dX9_giving_33 : decode cX9_giving 33 = .ok (.ireturn, 1) := by decide +kernel
theorem dX9_giving_34 : decode cX9_giving 34 = .ok (.aload_n 0, 1) := by decide +kernel
theorem dX9_giving_35 : decode cX9_giving 35 = .ok (.iload_n 1, 1) := by decide +kernel
theorem dX9_giving_36 : decode cX9_giving 36 = .ok (.iload_n 3, 1) := by decide +kernel
theorem dX9_giving_37 : decode cX9_giving 37 = .ok (.invokevirtual 299, 3) := by decide +kernel
theorem dX9_giving_40 : decode cX9_giving 40 = .ok (.aload_n 0, 1) := by decide +kernel
theorem dX9_giving_41 : decode cX9_giving 41 = .ok (.iload_n 1, 1) := by decide +kernel
theorem dX9_giving_42 : decode cX9_giving 42 = .ok (.iconst (-1), 1) := by decide +kernel
theorem dX9_giving_43 : decode cX9_giving 43 = .ok (.iconst 0, 1) := by decide +kernel
theorem dX9_giving_44 : decode cX9_giving 44 = .ok (.invokevirtual 315, 3) := by decide +kernel
theorem dX9_giving_47 : decode cX9_giving 47 = .ok (.ifCond .ne 6, 3) := by decide +kernel
theorem dX9_giving_50 : decode cX9_giving 50 = .ok (.bipush (-2), 2) := by decide +kernel
theorem dX9_giving_52 : decode cX9_giving 52 = .ok (.ireturn, 1) := by decide +kernel
theorem dX9_giving_53 : decode cX9_giving 53 = .ok (.iconst 0, 1) := by decide +kernel
theorem dX9_giving_54 : decode cX9_giving 54 = .ok (.istore 4, 2) := by decide +kernel
theorem dX9_giving_56 : decode cX9_giving 56 = .ok (.iload 4, 2) := by decide +kernel
theorem dX9_giving_58 : decode cX9_giving 58 = .ok (.iload_n 2, 1) := by decide +kernel
theorem dX9_giving_59 : decode cX9_giving 59 = .ok (.if_icmp .gt 70, 3) := by decide +kernel
theorem dX9_giving_62 : decode cX9_giving 62 = .ok (.aload_n 0, 1) := by decide +kernel
theorem dX9_giving_63 : decode cX9_giving 63 = .ok (.getfield 37, 3) := by decide +kernel
theorem dX9_giving_66 : decode cX9_giving 66 = .ok (.iload_n 1, 1) := by decide +kernel
theorem dX9_giving_67 : decode cX9_giving 67 = .ok (.iload 4, 2) := by decide +kernel
theorem dX9_giving_69 : decode cX9_giving 69 = .ok (.invokestatic 143, 3) := by decide +kernel
theorem dX9_giving_72 : decode cX9_giving 72 = .ok (.baload, 1) := by decide +kernel
theorem dX9_giving_73 : decode cX9_giving 73 = .ok (.ifCond .eq 6, 3) := by decide +kernel
theorem dX9_giving_76 : decode cX9_giving 76 = .ok (.goto 47, 3) := by decide +kernel
theorem dX9_giving_79 : decode cX9_giving 79 = .ok (.iconst 0, 1) := by decide +kernel
theorem dX9_giving_80 : decode cX9_giving 80 = .ok (.istore 5, 2) := by decide +kernel
theorem dX9_giving_82 : decode cX9_giving 82 = .ok (.aload_n 0, 1) := by decide +kernel
theorem dX9_giving_83 : decode cX9_giving 83 = .ok (.iload_n 1, 1) := by decide +kernel
theorem dX9_giving_84 : decode cX9_giving 84 = .ok (.iload 4, 2) := by decide +kernel
theorem dX9_giving_86 : decode cX9_giving 86 = .ok (.iload 5, 2) := by decide +kernel
theorem dX9_giving_88 : decode cX9_giving 88 = .ok (.invokevirtual 315, 3) := by decide +kernel
theorem dX9_giving_91 : decode cX9_giving 91 = .ok (.ifCond .ne 12, 3) := by decide +kernel
theorem dX9_giving_94 : decode cX9_giving 94 = .ok (.iload 5, 2) := by decide +kernel
theorem dX9_giving_96 : decode cX9_giving 96 = .ok (.iconst 1, 1) := by decide +kernel
theorem dX9_giving_97 : decode cX9_giving 97 = .ok (.iadd, 1) := by decide +kernel
theorem dX9_giving_98 : decode cX9_giving 98 = .ok (.istore 5, 2) := by decide +kernel
theorem dX9_giving_100 : decode cX9_giving 100 = .ok (.goto (-18), 3) := by decide +kernel
theorem dX9_giving_103 : decode cX9_giving 103 = .ok (.aload_n 0, 1) := by decide +kernel
theorem dX9_giving_104 : decode cX9_giving 104 = .ok (.getfield 69, 3) := by decide +kernel
theorem dX9_giving_107 : decode cX9_giving 107 = .ok (.iload 4, 2) := by decide +kernel
theorem dX9_giving_109 : decode cX9_giving 109 = .ok (.iconst 1, 1) := by decide +kernel
theorem dX9_giving_110 : decode cX9_giving 110 = .ok (.iload 5, 2) := by decide +kernel
theorem dX9_giving_112 : decode cX9_giving 112 = .ok (.ishl, 1) := by decide +kernel
theorem dX9_giving_113 : decode cX9_giving 113 = .ok (.iastore, 1) := by decide +kernel
theorem dX9_giving_114 : decode cX9_giving 114 = .ok (.iload 4, 2) := by decide +kernel
theorem dX9_giving_116 : decode cX9_giving 116 = .ok (.iload_n 2, 1) := by decide +kernel
theorem dX9_giving_117 : decode cX9_giving 117 = .ok (.if_icmp .ne 6, 3) := by decide +kernel
theorem dX9_giving_120 : decode cX9_giving 120 = .ok (.iload 5, 2) := by decide +kernel
theorem dX9_giving_122 : decode cX9_giving 122 = .ok (.ireturn, 1) := by decide +kernel
theorem dX9_giving_123 : decode cX9_giving 123 = .ok (.iinc 4 1, 3) := by decide +kernel
theorem dX9_giving_126 : decode cX9_giving 126 = .ok (.goto (-70), 3) := by decide +kernel
theorem dX9_giving_129 : decode cX9_giving 129 = .ok (.iconst (-1), 1) := by decide +kernel
theorem dX9_giving_130 : decode cX9_giving 130 = .ok (.ireturn, 1) := by decide +kernel
theorem dX9_tooFew_0 : decode cX9_tooFew 0 = .ok (.aload_n 0, 1) := by decide +kernel
theorem dX9_tooFew_1 : decode cX9_tooFew 1 = .ok (.iload_n 1, 1) := by decide +kernel
theorem dX9_tooFew_2 : decode cX9_tooFew 2 = .ok (.invokevirtual 136, 3) := by decide +kernel
theorem dX9_tooFew_5 : decode cX9_tooFew 5 = .ok (.ifCond .eq 10, 3) := by decide +kernel
theorem dX9_tooFew_8 : decode cX9_tooFew 8 = .ok (.iload_n 2, 1) := by decide +kernel
theorem dX9_tooFew_9 : decode cX9_tooFew 9 = .ok (.invokestatic 282, 3) := by decide +kernel
theorem dX9_tooFew_12 : decode cX9_tooFew 12 = .ok (.ifCond .ne 5, 3) := by decide +kernel
theorem dX9_tooFew_15 : decode cX9_tooFew 15 = .ok (.iconst (-1), 1) := by decide +kernel
theorem dX9_tooFew_16 : decode cX9_tooFew 16 = .ok (.ireturn, 1) := by decide +kernel
theorem dX9_tooFew_17 : decode cX9_tooFew 17 = .ok (.aload_n 0, 1) := by decide +kernel
theorem dX9_tooFew_18 : decode cX9_tooFew 18 = .ok (.iload_n 1, 1) := by decide +kernel
theorem dX9_tooFew_19 : decode cX9_tooFew 19 = .ok (.iload_n 2, 1) := by decide +kernel
theorem dX9_tooFew_20 : decode cX9_tooFew 20 = .ok (.invokevirtual 299, 3) := by decide +kernel
theorem dX9_tooFew_23 : decode cX9_tooFew 23 = .ok (.iconst 0, 1) := by decide +kernel
theorem dX9_tooFew_24 : decode cX9_tooFew 24 = .ok (.istore_n 3, 1) := by decide +kernel
theorem dX9_tooFew_25 : decode cX9_tooFew 25 = .ok (.iconst 1, 1) := by decide +kernel
theorem dX9_tooFew_26 : decode cX9_tooFew 26 = .ok (.istore 4, 2) := by decide +kernel
theorem dX9_tooFew_28 : decode cX9_tooFew 28 = .ok (.iload 4, 2) := by decide +kernel
theorem dX9_tooFew_30 : decode cX9_tooFew 30 = .ok (.iconst 1, 1) := by decide +kernel
theorem dX9_tooFew_31 : decode cX9_tooFew 31 = .ok (.aload_n 0, 1) := by decide +kernel
theorem dX9_tooFew_32 : decode cX9_tooFew 32 = .ok (.getfield 22, 3) := by decide +kernel
theorem dX9_tooFew_35 : decode cX9_tooFew 35 = .ok (.iload_n 1, 1) := by decide +kernel
theorem dX9_tooFew_36 : decode cX9_tooFew 36 = .ok (.iaload, 1) := by decide +kernel
theorem dX9_tooFew_37 : decode cX9_tooFew 37 = .ok (.ishl, 1) := by decide +kernel
theorem dX9_tooFew_38 : decode cX9_tooFew 38 = .ok (.if_icmp .ge 123, 3) := by decide +kernel
theorem dX9_tooFew_41 : decode cX9_tooFew 41 = .ok (.iconst 0, 1) := by decide +kernel
theorem dX9_tooFew_42 : decode cX9_tooFew 42 = .ok (.istore 5, 2) := by decide +kernel
theorem dX9_tooFew_44 : decode cX9_tooFew 44 = .ok (.iconst 0, 1) := by decide +kernel
theorem dX9_tooFew_45 : decode cX9_tooFew 45 = .ok (.istore 6, 2) := by decide +kernel
theorem dX9_tooFew_47 : decode cX9_tooFew 47 = .ok (.iconst 0, 1) := by decide +kernel
theorem dX9_tooFew_48 : decode cX9_tooFew 48 = .ok (.istore 7, 2) := by decide +kernel
theorem dX9_tooFew_50 : decode cX9_tooFew 50 = .ok (.iload 7, 2) := by decide +kernel
theorem dX9_tooFew_52 : decode cX9_tooFew 52 = .ok (.aload_n 0, 1) := by decide +kernel
theorem dX9_tooFew_53 : decode cX9_tooFew 53 = .ok (.getfield 22, 3) := by decide +kernel
theorem dX9_tooFew_56 : decode cX9_tooFew 56 = .ok (.iload_n 1, 1) := by decide +kernel
theorem dX9_tooFew_57 : decode cX9_tooFew 57 = .ok (.iaload, 1) := by decide +kernel
theorem dX9_tooFew_58 : decode cX9_tooFew 58 = .ok (.if_icmp .ge 60, 3) := by decide +kernel
theorem dX9_tooFew_61 : decode cX9_tooFew 61 = .ok (.iload 4, 2) := by decide +kernel
theorem dX9_tooFew_63 : decode cX9_tooFew 63 = .ok (.iload 7, 2) := by decide +kernel
theorem dX9_tooFew_65 : decode cX9_tooFew 65 = .ok (.ishr, 1) := by decide +kernel
theorem dX9_tooFew_66 : decode cX9_tooFew 66 = .ok (.iconst 1, 1) := by decide +kernel
theorem dX9_tooFew_67 : decode cX9_tooFew 67 = .ok (.iand, 1) := by decide +kernel
theorem dX9_tooFew_68 : decode cX9_tooFew 68 = .ok (.ifCond .ne 6, 3) := by decide +kernel
theorem dX9_tooFew_71 : decode cX9_tooFew 71 = .ok (.goto 41, 3) := by decide +kernel
theorem dX9_tooFew_74 : decode cX9_tooFew 74 = .ok (.iload 6, 2) := by decide +kernel
theorem dX9_tooFew_76 : decode cX9_tooFew 76 = .ok (.ifCond .ne 17, 3) := by decide +kernel
theorem dX9_tooFew_79 : decode cX9_tooFew 79 = .ok (.aload_n 0, 1) := by decide +kernel
theorem dX9_tooFew_80 : decode cX9_tooFew 80 = .ok (.getfield 37, 3) := by decide +kernel
theorem dX9_tooFew_83 : decode cX9_tooFew 83 = .ok (.iload_n 1, 1) := by decide +kernel
theorem dX9_tooFew_84 : decode cX9_tooFew 84 = .ok (.iload 7, 2) := by decide +kernel
theorem dX9_tooFew_86 : decode cX9_tooFew 86 = .ok (.invokestatic 143, 3) := by decide +kernel
theorem dX9_tooFew_89 : decode cX9_tooFew 89 = .ok (.baload, 1) := by decide +kernel
theorem dX9_tooFew_90 : decode cX9_tooFew 90 = .ok (.ifCond .eq 7, 3) := by decide +kernel
theorem dX9_tooFew_93 : decode cX9_tooFew 93 = .ok (.iconst 1, 1) := by decide +kernel
theorem dX9_tooFew_94 : decode cX9_tooFew 94 = .ok (.goto 4, 3) := by decide +kernel
theorem dX9_tooFew_97 : decode cX9_tooFew 97 = .ok (.iconst 0, 1) := by decide +kernel
theorem dX9_tooFew_98 : decode cX9_tooFew 98 = .ok (.istore 6, 2) := by decide +kernel
theorem dX9_tooFew_100 : decode cX9_tooFew 100 = .ok (.iload 5, 2) := by decide +kernel
theorem dX9_tooFew_102 : decode cX9_tooFew 102 = .ok (.aload_n 0, 1) := by decide +kernel
theorem dX9_tooFew_103 : decode cX9_tooFew 103 = .ok (.getfield 69, 3) := by decide +kernel
theorem dX9_tooFew_106 : decode cX9_tooFew 106 = .ok (.iload 7, 2) := by decide +kernel
theorem dX9_tooFew_108 : decode cX9_tooFew 108 = .ok (.iaload, 1) := by decide +kernel
theorem dX9_tooFew_109 : decode cX9_tooFew 109 = .ok (.ior, 1) := by decide +kernel
theorem dX9_tooFew_110 : decode cX9_tooFew 110 = .ok (.istore 5, 2) := by decide +kernel
theorem dX9_tooFew_112 : decode cX9_tooFew 112 = .ok (.iinc 7 1, 3) := by decide +kernel
theorem dX9_tooFew_115 : decode cX9_tooFew 115 = .ok (.goto (-65), 3) := by decide +kernel
theorem dX9_tooFew_118 : decode cX9_tooFew 118 = .ok (.iload 6, 2) := by decide +kernel
theorem dX9_tooFew_120 : decode cX9_tooFew 120 = .ok (.ifCond .ne 35, 3) := by decide +kernel
theorem dX9_tooFew_123 : decode cX9_tooFew 123 = .ok (.iload 5, 2) := by decide +kernel
theorem dX9_tooFew_125 : decode cX9_tooFew 125 = .ok (.invokestatic 321, 3) := by decide +kernel
theorem dX9_tooFew_128 : decode cX9_tooFew 128 = .ok (.iload 4, 2) := by decide +kernel
theorem dX9_tooFew_130 : decode cX9_tooFew 130 = .ok (.invokestatic 321, 3) := by decide +kernel
theorem dX9_tooFew_133 : decode cX9_tooFew 133 = .ok (.if_icmp .ge 22, 3) := by decide +kernel
theorem dX9_tooFew_136 : decode cX9_tooFew 136 = .ok (.iload_n 3, 1) := by decide +kernel
theorem dX9_tooFew_137 : decode cX9_tooFew 137 = .ok (.ifCond .eq 15, 3) := by decide +kernel
theorem dX9_tooFew_140 : decode cX9_tooFew 140 = .ok (.iload 4, 2) := by decide +kernel
theorem dX9_tooFew_142 : decode cX9_tooFew 142 = .ok (.invokestatic 321, 3) := by decide +kernel
theorem dX9_tooFew_145 : decode cX9_tooFew 145 = .ok (.iload_n 3, 1) := by decide +kernel
theorem dX9_tooFew_146 : decode cX9_tooFew 146 = .ok (.invokestatic 321, 3) := by decide +kernel
theorem dX9_tooFew_149 : decode cX9_tooFew 149 = .ok (.if_icmp .ge 6, 3) := by decide +kernel
theorem dX9_tooFew_152 : decode cX9_tooFew 152 = .ok (.iload 4, 2) := by decide +kernel
theorem dX9_tooFew_154 : decode cX9_tooFew 154 = .ok (.istore_n 3, 1) := by decide +kernel
theorem dX9_tooFew_155 : decode cX9_tooFew 155 = .ok (.iinc 4 1, 3) := by decide +kernel
theorem dX9_tooFew_158 : decode cX9_tooFew 158 = .ok (.goto (-130), 3) := by decide +kernel
theorem dX9_tooFew_161 : decode cX9_tooFew 161 = .ok (.iload_n 3, 1) := by decide +kernel
theorem dX9_tooFew_162 : decode cX9_tooFew 162 = .ok (.ireturn, 1) := by decide +kernel
theorem dX9_isFound_0 : decode cX9_isFound 0 = .ok (.aload_n 0, 1) := by decide +kernel
theorem dX9_isFound_1 : decode cX9_isFound 1 = .ok (.getfield 37, 3) := by decide +kernel
theorem dX9_isFound_4 : decode cX9_isFound 4 = .ok (.iload_n 1, 1) := by decide +kernel
theorem dX9_isFound_5 : decode cX9_isFound 5 = .ok (.iload_n 2, 1) := by decide +kernel
theorem dX9_isFound_6 : decode cX9_isFound 6 = .ok (.invokestatic 143, 3) := by decide +kernel
theorem dX9_isFound_9 : decode cX9_isFound 9 = .ok (.baload, 1) := by decide +kernel
theorem dX9_isFound_10 : decode cX9_isFound 10 = .ok (.ifCond .ne 20, 3) := by decide +kernel
theorem dX9_isFound_13 : decode cX9_isFound 13 = .ok (.aload_n 0, 1) := by decide +kernel
theorem dX9_isFound_14 : decode cX9_isFound 14 = .ok (.getfield 92, 3) := by decide +kernel
theorem dX9_isFound_17 : decode cX9_isFound 17 = .ok (.iload_n 2, 1) := by decide +kernel
theorem dX9_isFound_18 : decode cX9_isFound 18 = .ok (.iaload, 1) := by decide +kernel
theorem dX9_isFound_19 : decode cX9_isFound 19 = .ok (.invokestatic 321, 3) := by decide +kernel
theorem dX9_isFound_22 : decode cX9_isFound 22 = .ok (.iconst 1, 1) := by decide +kernel
theorem dX9_isFound_23 : decode cX9_isFound 23 = .ok (.if_icmp .ne 7, 3) := by decide +kernel
theorem dX9_isFound_26 : decode cX9_isFound 26 = .ok (.iconst 1, 1) := by decide +kernel
theorem dX9_isFound_27 : decode cX9_isFound 27 = .ok (.goto 4, 3) := by decide +kernel
theorem dX9_isFound_30 : decode cX9_isFound 30 = .ok (.iconst 0, 1) := by decide +kernel
theorem dX9_isFound_31 : decode cX9_isFound 31 = .ok (.ireturn, 1) := by decide +kernel
theorem dX9_foundNow_0 : decode cX9_foundNow 0 = .ok (.iconst 0, 1) := by decide +kernel
theorem dX9_foundNow_1 : decode cX9_foundNow 1 = .ok (.istore_n 2, 1) := by decide +kernel
theorem dX9_foundNow_2 : decode cX9_foundNow 2 = .ok (.iconst 0, 1) := by decide +kernel
theorem dX9_foundNow_3 : decode cX9_foundNow 3 = .ok (.istore_n 3, 1) := by decide +kernel
theorem dX9_foundNow_4 : decode cX9_foundNow 4 = .ok (.iload_n 3, 1) := by decide +kernel
theorem dX9_foundNow_5 : decode cX9_foundNow 5 = .ok (.aload_n 0, 1) := by decide +kernel
theorem dX9_foundNow_6 : decode cX9_foundNow 6 = .ok (.getfield 22, 3) := by decide +kernel
theorem dX9_foundNow_9 : decode cX9_foundNow 9 = .ok (.iload_n 1, 1) := by decide +kernel
theorem dX9_foundNow_10 : decode cX9_foundNow 10 = .ok (.iaload, 1) := by decide +kernel
theorem dX9_foundNow_11 : decode cX9_foundNow 11 = .ok (.if_icmp .ge 28, 3) := by decide +kernel
theorem dX9_foundNow_14 : decode cX9_foundNow 14 = .ok (.aload_n 0, 1) := by decide +kernel
theorem dX9_foundNow_15 : decode cX9_foundNow 15 = .ok (.iload_n 1, 1) := by decide +kernel
theorem dX9_foundNow_16 : decode cX9_foundNow 16 = .ok (.iload_n 3, 1) := by decide +kernel
theorem dX9_foundNow_17 : decode cX9_foundNow 17 = .ok (.invokevirtual 324, 3) := by decide +kernel
theorem dX9_foundNow_20 : decode cX9_foundNow 20 = .ok (.ifCond .eq 11, 3) := by decide +kernel
theorem dX9_foundNow_23 : decode cX9_foundNow 23 = .ok (.iload_n 2, 1) := by decide +kernel
theorem dX9_foundNow_24 : decode cX9_foundNow 24 = .ok (.iconst 1, 1) := by decide +kernel
theorem dX9_foundNow_25 : decode cX9_foundNow 25 = .ok (.iload_n 3, 1) := by decide +kernel
theorem dX9_foundNow_26 : decode cX9_foundNow 26 = .ok (.ishl, 1) := by decide +kernel
theorem dX9_foundNow_27 : decode cX9_foundNow 27 = .ok (.ior, 1) := by decide +kernel
theorem dX9_foundNow_28 : decode cX9_foundNow 28 = .ok (.goto 4, 3) := by decide +kernel
theorem dX9_foundNow_31 : decode cX9_foundNow 31 = .ok (.iload_n 2, 1) := by decide +kernel
theorem dX9_foundNow_32 : decode cX9_foundNow 32 = .ok (.istore_n 2, 1) := by decide +kernel
theorem dX9_foundNow_33 : decode cX9_foundNow 33 = .ok (.iinc 3 1, 3) := by decide +kernel
theorem dX9_foundNow_36 : decode cX9_foundNow 36 = .ok (.goto (-32), 3) := by decide +kernel
theorem dX9_foundNow_39 : decode cX9_foundNow 39 = .ok (.iload_n 2, 1) := by decide +kernel
theorem dX9_foundNow_40 : decode cX9_foundNow 40 = .ok (.ireturn, 1) := by decide +kernel
theorem dX9_rounds_0 : decode cX9_rounds 0 = .ok (.iconst 0, 1) := by decide +kernel
theorem dX9_rounds_1 : decode cX9_rounds 1 = .ok (.istore_n 2, 1) := by decide +kernel
theorem dX9_rounds_2 : decode cX9_rounds 2 = .ok (.iload_n 2, 1) := by decide +kernel
theorem dX9_rounds_3 : decode cX9_rounds 3 = .ok (.aload_n 0, 1) := by decide +kernel
theorem dX9_rounds_4 : decode cX9_rounds 4 = .ok (.getfield 22, 3) := by decide +kernel
theorem dX9_rounds_7 : decode cX9_rounds 7 = .ok (.iload_n 1, 1) := by decide +kernel
theorem dX9_rounds_8 : decode cX9_rounds 8 = .ok (.iaload, 1) := by decide +kernel
theorem dX9_rounds_9 : decode cX9_rounds 9 = .ok (.if_icmp .ge 21, 3) := by decide +kernel
theorem dX9_rounds_12 : decode cX9_rounds 12 = .ok (.aload_n 0, 1) := by decide +kernel
theorem dX9_rounds_13 : decode cX9_rounds 13 = .ok (.getfield 92, 3) := by decide +kernel
theorem dX9_rounds_16 : decode cX9_rounds 16 = .ok (.iload_n 2, 1) := by decide +kernel
theorem dX9_rounds_17 : decode cX9_rounds 17 = .ok (.aload_n 0, 1) := by decide +kernel
theorem dX9_rounds_18 : decode cX9_rounds 18 = .ok (.getfield 69, 3) := by decide +kernel
theorem dX9_rounds_21 : decode cX9_rounds 21 = .ok (.iload_n 2, 1) := by decide +kernel
theorem dX9_rounds_22 : decode cX9_rounds 22 = .ok (.iaload, 1) := by decide +kernel
theorem dX9_rounds_23 : decode cX9_rounds 23 = .ok (.iastore, 1) := by decide +kernel
theorem dX9_rounds_24 : decode cX9_rounds 24 = .ok (.iinc 2 1, 3) := by decide +kernel
theorem dX9_rounds_27 : decode cX9_rounds 27 = .ok (.goto (-25), 3) := by decide +kernel
theorem dX9_rounds_30 : decode cX9_rounds 30 = .ok (.iconst 0, 1) := by decide +kernel
theorem dX9_rounds_31 : decode cX9_rounds 31 = .ok (.istore_n 2, 1) := by decide +kernel
theorem dX9_rounds_32 : decode cX9_rounds 32 = .ok (.iconst 0, 1) := by decide +kernel
theorem dX9_rounds_33 : decode cX9_rounds 33 = .ok (.istore_n 3, 1) := by decide +kernel
theorem dX9_rounds_34 : decode cX9_rounds 34 = .ok (.iload_n 3, 1) := by decide +kernel
theorem dX9_rounds_35 : decode cX9_rounds 35 = .ok (.aload_n 0, 1) := by decide +kernel
theorem dX9_rounds_36 : decode cX9_rounds 36 = .ok (.getfield 22, 3) := by decide +kernel
theorem dX9_rounds_39 : decode cX9_rounds 39 = .ok (.iload_n 1, 1) := by decide +kernel
theorem dX9_rounds_40 : decode cX9_rounds 40 = .ok (.iaload, 1) := by decide +kernel
theorem dX9_rounds_41 : decode cX9_rounds 41 = .ok (.if_icmp .ge 92, 3) := by decide +kernel
theorem dX9_rounds_44 : decode cX9_rounds 44 = .ok (.iconst 0, 1) := by decide +kernel
theorem dX9_rounds_45 : decode cX9_rounds 45 = .ok (.istore 4, 2) := by decide +kernel
theorem dX9_rounds_47 : decode cX9_rounds 47 = .ok (.iload 4, 2) := by decide +kernel
theorem dX9_rounds_49 : decode cX9_rounds 49 = .ok (.aload_n 0, 1) := by decide +kernel
theorem dX9_rounds_50 : decode cX9_rounds 50 = .ok (.getfield 22, 3) := by decide +kernel
theorem dX9_rounds_53 : decode cX9_rounds 53 = .ok (.iload_n 1, 1) := by decide +kernel
theorem dX9_rounds_54 : decode cX9_rounds 54 = .ok (.iaload, 1) := by decide +kernel
theorem dX9_rounds_55 : decode cX9_rounds 55 = .ok (.if_icmp .ge 47, 3) := by decide +kernel
theorem dX9_rounds_58 : decode cX9_rounds 58 = .ok (.iload 4, 2) := by decide +kernel
theorem dX9_rounds_60 : decode cX9_rounds 60 = .ok (.iload_n 3, 1) := by decide +kernel
theorem dX9_rounds_61 : decode cX9_rounds 61 = .ok (.if_icmp .eq 35, 3) := by decide +kernel
theorem dX9_rounds_64 : decode cX9_rounds 64 = .ok (.aload_n 0, 1) := by decide +kernel
theorem dX9_rounds_65 : decode cX9_rounds 65 = .ok (.iload_n 1, 1) := by decide +kernel
theorem dX9_rounds_66 : decode cX9_rounds 66 = .ok (.iload 4, 2) := by decide +kernel
theorem dX9_rounds_68 : decode cX9_rounds 68 = .ok (.invokevirtual 324, 3) := by decide +kernel
theorem dX9_rounds_71 : decode cX9_rounds 71 = .ok (.ifCond .eq 25, 3) := by decide +kernel
theorem dX9_rounds_74 : decode cX9_rounds 74 = .ok (.aload_n 0, 1) := by decide +kernel
theorem dX9_rounds_75 : decode cX9_rounds 75 = .ok (.getfield 69, 3) := by decide +kernel
theorem dX9_rounds_78 : decode cX9_rounds 78 = .ok (.iload_n 3, 1) := by decide +kernel
theorem dX9_rounds_79 : decode cX9_rounds 79 = .ok (.aload_n 0, 1) := by decide +kernel
theorem dX9_rounds_80 : decode cX9_rounds 80 = .ok (.getfield 69, 3) := by decide +kernel
theorem dX9_rounds_83 : decode cX9_rounds 83 = .ok (.iload_n 3, 1) := by decide +kernel
theorem dX9_rounds_84 : decode cX9_rounds 84 = .ok (.iaload, 1) := by decide +kernel
theorem dX9_rounds_85 : decode cX9_rounds 85 = .ok (.aload_n 0, 1) := by decide +kernel
theorem dX9_rounds_86 : decode cX9_rounds 86 = .ok (.getfield 92, 3) := by decide +kernel
theorem dX9_rounds_89 : decode cX9_rounds 89 = .ok (.iload 4, 2) := by decide +kernel
theorem dX9_rounds_91 : decode cX9_rounds 91 = .ok (.iaload, 1) := by decide +kernel
theorem dX9_rounds_92 : decode cX9_rounds 92 = .ok (.iconst (-1), 1) := by decide +kernel
theorem dX9_rounds_93 : decode cX9_rounds 93 = .ok (.ixor, 1) := by decide +kernel
theorem dX9_rounds_94 : decode cX9_rounds 94 = .ok (.iand, 1) := by decide +kernel
theorem dX9_rounds_95 : decode cX9_rounds 95 = .ok (.iastore, 1) := by decide +kernel
theorem dX9_rounds_96 : decode cX9_rounds 96 = .ok (.iinc 4 1, 3) := by decide +kernel
theorem dX9_rounds_99 : decode cX9_rounds 99 = .ok (.goto (-52), 3) := by decide +kernel
theorem dX9_rounds_102 : decode cX9_rounds 102 = .ok (.iload_n 2, 1) := by decide +kernel
theorem dX9_rounds_103 : decode cX9_rounds 103 = .ok (.ifCond .ne 18, 3) := by decide +kernel
theorem dX9_rounds_106 : decode cX9_rounds 106 = .ok (.aload_n 0, 1) := by decide +kernel
theorem dX9_rounds_107 : decode cX9_rounds 107 = .ok (.getfield 69, 3) := by decide +kernel
theorem dX9_rounds_110 : decode cX9_rounds 110 = .ok (.iload_n 3, 1) := by decide +kernel
theorem dX9_rounds_111 : decode cX9_rounds 111 = .ok (.iaload, 1) := by decide +kernel
theorem dX9_rounds_112 : decode cX9_rounds 112 = .ok (.aload_n 0, 1) := by decide +kernel
theorem dX9_rounds_113 : decode cX9_rounds 113 = .ok (.getfield 92, 3) := by decide +kernel
theorem dX9_rounds_116 : decode cX9_rounds 116 = .ok (.iload_n 3, 1) := by decide +kernel
theorem dX9_rounds_117 : decode cX9_rounds 117 = .ok (.iaload, 1) := by decide +kernel
theorem dX9_rounds_118 : decode cX9_rounds 118 = .ok (.if_icmp .eq 7, 3) := by decide +kernel
theorem dX9_rounds_121 : decode cX9_rounds 121 = .ok (.iconst 1, 1) := by decide +kernel
theorem dX9_rounds_122 : decode cX9_rounds 122 = .ok (.goto 4, 3) := by decide +kernel
theorem dX9_rounds_125 : decode cX9_rounds 125 = .ok (.iconst 0, 1) := by decide +kernel
theorem dX9_rounds_126 : decode cX9_rounds 126 = .ok (.istore_n 2, 1) := by decide +kernel
theorem dX9_rounds_127 : decode cX9_rounds 127 = .ok (.iinc 3 1, 3) := by decide +kernel
theorem dX9_rounds_130 : decode cX9_rounds 130 = .ok (.goto (-96), 3) := by decide +kernel
theorem dX9_rounds_133 : decode cX9_rounds 133 = .ok (.iload_n 2, 1) := by decide +kernel
theorem dX9_rounds_134 : decode cX9_rounds 134 = .ok (.ireturn, 1) := by decide +kernel
theorem dX9_steps_0 : decode cX9_steps 0 = .ok (.aload_n 0, 1) := by decide +kernel
theorem dX9_steps_1 : decode cX9_steps 1 = .ok (.iload_n 1, 1) := by decide +kernel
theorem dX9_steps_2 : decode cX9_steps 2 = .ok (.invokevirtual 136, 3) := by decide +kernel
theorem dX9_steps_5 : decode cX9_steps 5 = .ok (.ifCond .eq 30, 3) := by decide +kernel
theorem dX9_steps_8 : decode cX9_steps 8 = .ok (.iload_n 2, 1) := by decide +kernel
theorem dX9_steps_9 : decode cX9_steps 9 = .ok (.invokestatic 282, 3) := by decide +kernel
theorem dX9_steps_12 : decode cX9_steps 12 = .ok (.ifCond .eq 23, 3) := by decide +kernel
theorem dX9_steps_15 : decode cX9_steps 15 = .ok (.iload_n 3, 1) := by decide +kernel
theorem dX9_steps_16 : decode cX9_steps 16 = .ok (.iconst (-1), 1) := by decide +kernel
theorem dX9_steps_17 : decode cX9_steps 17 = .ok (.if_icmp .eq 20, 3) := by decide +kernel
theorem dX9_steps_20 : decode cX9_steps 20 = .ok (.iload_n 3, 1) := by decide +kernel
theorem dX9_steps_21 : decode cX9_steps 21 = .ok (.bipush 8, 2) := by decide +kernel
theorem dX9_steps_23 : decode cX9_steps 23 = .ok (.if_icmp .eq 14, 3) := by decide +kernel
theorem dX9_steps_26 : decode cX9_steps 26 = .ok (.aload_n 0, 1) := by decide +kernel
theorem dX9_steps_27 : decode cX9_steps 27 = .ok (.iload_n 1, 1) := by decide +kernel
theorem dX9_steps_28 : decode cX9_steps 28 = .ok (.iload_n 3, 1) := by decide +kernel
theorem dX9_steps_29 : decode cX9_steps 29 = .ok (.invokevirtual 139, 3) := by decide +kernel
theorem dX9_steps_32 : decode cX9_steps 32 = .ok (.ifCond .ne 5, 3) := by decide +kernel
theorem dX9_steps_35 : decode cX9_steps 35 = .ok (.iconst (-1), 1) := by decide +kernel
theorem dX9_steps_36 : decode cX9_steps 36 = .ok (.ireturn, 1) := by decide +kernel
theorem dX9_steps_37 : decode cX9_steps 37 = .ok (.aload_n 0, 1) := by decide +kernel
theorem dX9_steps_38 : decode cX9_steps 38 = .ok (.iload_n 1, 1) := by decide +kernel
theorem dX9_steps_39 : decode cX9_steps 39 = .ok (.iload_n 2, 1) := by decide +kernel
theorem dX9_steps_40 : decode cX9_steps 40 = .ok (.invokevirtual 299, 3) := by decide +kernel
theorem dX9_steps_43 : decode cX9_steps 43 = .ok (.iconst 0, 1) := by decide +kernel
theorem dX9_steps_44 : decode cX9_steps 44 = .ok (.istore 4, 2) := by decide +kernel
theorem dX9_steps_46 : decode cX9_steps 46 = .ok (.iconst 0, 1) := by decide +kernel
theorem dX9_steps_47 : decode cX9_steps 47 = .ok (.istore 5, 2) := by decide +kernel
theorem dX9_steps_49 : decode cX9_steps 49 = .ok (.iconst 1, 1) := by decide +kernel
theorem dX9_steps_50 : decode cX9_steps 50 = .ok (.istore 6, 2) := by decide +kernel
theorem dX9_steps_52 : decode cX9_steps 52 = .ok (.iload 6, 2) := by decide +kernel
theorem dX9_steps_54 : decode cX9_steps 54 = .ok (.ifCond .eq 60, 3) := by decide +kernel
theorem dX9_steps_57 : decode cX9_steps 57 = .ok (.aload_n 0, 1) := by decide +kernel
theorem dX9_steps_58 : decode cX9_steps 58 = .ok (.iload_n 1, 1) := by decide +kernel
theorem dX9_steps_59 : decode cX9_steps 59 = .ok (.invokevirtual 327, 3) := by decide +kernel
theorem dX9_steps_62 : decode cX9_steps 62 = .ok (.ifCond .ne 16, 3) := by decide +kernel
theorem dX9_steps_65 : decode cX9_steps 65 = .ok (.aload_n 0, 1) := by decide +kernel
theorem dX9_steps_66 : decode cX9_steps 66 = .ok (.iload_n 1, 1) := by decide +kernel
theorem dX9_steps_67 : decode cX9_steps 67 = .ok (.invokevirtual 330, 3) := by decide +kernel
theorem dX9_steps_70 : decode cX9_steps 70 = .ok (.iload 5, 2) := by decide +kernel
theorem dX9_steps_72 : decode cX9_steps 72 = .ok (.iconst (-1), 1) := by decide +kernel
theorem dX9_steps_73 : decode cX9_steps 73 = .ok (.ixor, 1) := by decide +kernel
theorem dX9_steps_74 : decode cX9_steps 74 = .ok (.iand, 1) := by decide +kernel
theorem dX9_steps_75 : decode cX9_steps 75 = .ok (.ifCond .eq 7, 3) := by decide +kernel
theorem dX9_steps_78 : decode cX9_steps 78 = .ok (.iconst 1, 1) := by decide +kernel
theorem dX9_steps_79 : decode cX9_steps 79 = .ok (.goto 4, 3) := by decide +kernel
theorem dX9_steps_82 : decode cX9_steps 82 = .ok (.iconst 0, 1) := by decide +kernel
theorem dX9_steps_83 : decode cX9_steps 83 = .ok (.istore 6, 2) := by decide +kernel
theorem dX9_steps_85 : decode cX9_steps 85 = .ok (.iload 5, 2) := by decide +kernel
theorem dX9_steps_87 : decode cX9_steps 87 = .ok (.aload_n 0, 1) := by decide +kernel
theorem dX9_steps_88 : decode cX9_steps 88 = .ok (.iload_n 1, 1) := by decide +kernel
theorem dX9_steps_89 : decode cX9_steps 89 = .ok (.invokevirtual 330, 3) := by decide +kernel
theorem dX9_steps_92 : decode cX9_steps 92 = .ok (.ior, 1) := by decide +kernel
theorem dX9_steps_93 : decode cX9_steps 93 = .ok (.istore 5, 2) := by decide +kernel
theorem dX9_steps_95 : decode cX9_steps 95 = .ok (.iload 6, 2) := by decide +kernel
theorem dX9_steps_97 : decode cX9_steps 97 = .ok (.ifCond .eq 10, 3) := by decide +kernel
theorem dX9_steps_100 : decode cX9_steps 100 = .ok (.iload 4, 2) := by decide +kernel
theorem dX9_steps_102 : decode cX9_steps 102 = .ok (.iconst 1, 1) := by decide +kernel
theorem dX9_steps_103 : decode cX9_steps 103 = .ok (.iadd, 1) := by decide +kernel
theorem dX9_steps_104 : decode cX9_steps 104 = .ok (.goto 5, 3) := by decide +kernel
theorem dX9_steps_107 : decode cX9_steps 107 = .ok (.iload 4, 2) := by decide +kernel
theorem dX9_steps_109 : decode cX9_steps 109 = .ok (.istore 4, 2) := by decide +kernel
theorem dX9_steps_111 : decode cX9_steps 111 = .ok (.goto (-59), 3) := by decide +kernel
theorem dX9_steps_114 : decode cX9_steps 114 = .ok (.iload_n 3, 1) := by decide +kernel
theorem dX9_steps_115 : decode cX9_steps 115 = .ok (.iconst (-1), 1) := by decide +kernel
theorem dX9_steps_116 : decode cX9_steps 116 = .ok (.if_icmp .ne 6, 3) := by decide +kernel
theorem dX9_steps_119 : decode cX9_steps 119 = .ok (.iload 4, 2) := by decide +kernel
theorem dX9_steps_121 : decode cX9_steps 121 = .ok (.ireturn, 1) := by decide +kernel
theorem dX9_steps_122 : decode cX9_steps 122 = .ok (.iload_n 3, 1) := by decide +kernel
theorem dX9_steps_123 : decode cX9_steps 123 = .ok (.bipush 8, 2) := by decide +kernel
theorem dX9_steps_125 : decode cX9_steps 125 = .ok (.if_icmp .ge 28, 3) := by decide +kernel
theorem dX9_steps_128 : decode cX9_steps 128 = .ok (.aload_n 0, 1) := by decide +kernel
theorem dX9_steps_129 : decode cX9_steps 129 = .ok (.getfield 37, 3) := by decide +kernel
theorem dX9_steps_132 : decode cX9_steps 132 = .ok (.iload_n 1, 1) := by decide +kernel
theorem dX9_steps_133 : decode cX9_steps 133 = .ok (.iload_n 3, 1) := by decide +kernel
theorem dX9_steps_134 : decode cX9_steps 134 = .ok (.invokestatic 143, 3) := by decide +kernel
theorem dX9_steps_137 : decode cX9_steps 137 = .ok (.baload, 1) := by decide +kernel
theorem dX9_steps_138 : decode cX9_steps 138 = .ok (.ifCond .eq 8, 3) := by decide +kernel
theorem dX9_steps_141 : decode cX9_steps 141 = .ok (.bipush (-2), 2) := by decide +kernel
theorem dX9_steps_143 : decode cX9_steps 143 = .ok (.goto 9, 3) := by decide +kernel
theorem dX9_steps_146 : decode cX9_steps 146 = .ok (.aload_n 0, 1) := by decide +kernel
theorem dX9_steps_147 : decode cX9_steps 147 = .ok (.getfield 69, 3) := by decide +kernel
theorem dX9_steps_150 : decode cX9_steps 150 = .ok (.iload_n 3, 1) := by decide +kernel
theorem dX9_steps_151 : decode cX9_steps 151 = .ok (.iaload, 1) := by decide +kernel
theorem dX9_steps_152 : decode cX9_steps 152 = .ok (.ireturn, 1) := by decide +kernel
theorem dX9_steps_153 : decode cX9_steps 153 = .ok (.iload 5, 2) := by decide +kernel
theorem dX9_steps_155 : decode cX9_steps 155 = .ok (.ireturn, 1) := by decide +kernel
theorem dX9_maybe_0 : decode cX9_maybe 0 = .ok (.iconst 0, 1) := by decide +kernel
theorem dX9_maybe_1 : decode cX9_maybe 1 = .ok (.istore_n 3, 1) := by decide +kernel
theorem dX9_maybe_2 : decode cX9_maybe 2 = .ok (.iconst 0, 1) := by decide +kernel
theorem dX9_maybe_3 : decode cX9_maybe 3 = .ok (.istore 4, 2) := by decide +kernel
theorem dX9_maybe_5 : decode cX9_maybe 5 = .ok (.iload 4, 2) := by decide +kernel
theorem dX9_maybe_7 : decode cX9_maybe 7 = .ok (.aload_n 0, 1) := by decide +kernel
theorem dX9_maybe_8 : decode cX9_maybe 8 = .ok (.getfield 107, 3) := by decide +kernel
theorem dX9_maybe_11 : decode cX9_maybe 11 = .ok (.if_icmp .ge 27, 3) := by decide +kernel
theorem dX9_maybe_14 : decode cX9_maybe 14 = .ok (.aload_n 0, 1) := by decide +kernel
theorem dX9_maybe_15 : decode cX9_maybe 15 = .ok (.iload_n 1, 1) := by decide +kernel
theorem dX9_maybe_16 : decode cX9_maybe 16 = .ok (.iload_n 2, 1) := by decide +kernel
theorem dX9_maybe_17 : decode cX9_maybe 17 = .ok (.iload 4, 2) := by decide +kernel
theorem dX9_maybe_19 : decode cX9_maybe 19 = .ok (.invokevirtual 315, 3) := by decide +kernel
theorem dX9_maybe_22 : decode cX9_maybe 22 = .ok (.ifCond .eq 10, 3) := by decide +kernel
theorem dX9_maybe_25 : decode cX9_maybe 25 = .ok (.iload_n 3, 1) := by decide +kernel
theorem dX9_maybe_26 : decode cX9_maybe 26 = .ok (.iconst 1, 1) := by decide +kernel
theorem dX9_maybe_27 : decode cX9_maybe 27 = .ok (.iload 4, 2) := by decide +kernel
theorem dX9_maybe_29 : decode cX9_maybe 29 = .ok (.ishl, 1) := by decide +kernel
theorem dX9_maybe_30 : decode cX9_maybe 30 = .ok (.ior, 1) := by decide +kernel
theorem dX9_maybe_31 : decode cX9_maybe 31 = .ok (.istore_n 3, 1) := by decide +kernel
theorem dX9_maybe_32 : decode cX9_maybe 32 = .ok (.iinc 4 1, 3) := by decide +kernel
theorem dX9_maybe_35 : decode cX9_maybe 35 = .ok (.goto (-30), 3) := by decide +kernel
theorem dX9_maybe_38 : decode cX9_maybe 38 = .ok (.iload_n 3, 1) := by decide +kernel
theorem dX9_maybe_39 : decode cX9_maybe 39 = .ok (.ireturn, 1) := by decide +kernel
theorem dX9_safeOf_0 : decode cX9_safeOf 0 = .ok (.aload_n 0, 1) := by decide +kernel
theorem dX9_safeOf_1 : decode cX9_safeOf 1 = .ok (.iload_n 1, 1) := by decide +kernel
theorem dX9_safeOf_2 : decode cX9_safeOf 2 = .ok (.iload_n 3, 1) := by decide +kernel
theorem dX9_safeOf_3 : decode cX9_safeOf 3 = .ok (.invokevirtual 299, 3) := by decide +kernel
theorem dX9_safeOf_6 : decode cX9_safeOf 6 = .ok (.iconst 0, 1) := by decide +kernel
theorem dX9_safeOf_7 : decode cX9_safeOf 7 = .ok (.istore 4, 2) := by decide +kernel
theorem dX9_safeOf_9 : decode cX9_safeOf 9 = .ok (.iconst 0, 1) := by decide +kernel
theorem dX9_safeOf_10 : decode cX9_safeOf 10 = .ok (.istore 5, 2) := by decide +kernel
theorem dX9_safeOf_12 : decode cX9_safeOf 12 = .ok (.iload 5, 2) := by decide +kernel
theorem dX9_safeOf_14 : decode cX9_safeOf 14 = .ok (.aload_n 0, 1) := by decide +kernel
theorem dX9_safeOf_15 : decode cX9_safeOf 15 = .ok (.getfield 22, 3) := by decide +kernel
theorem dX9_safeOf_18 : decode cX9_safeOf 18 = .ok (.iload_n 1, 1) := by decide +kernel
theorem dX9_safeOf_19 : decode cX9_safeOf 19 = .ok (.iaload, 1) := by decide +kernel
theorem dX9_safeOf_20 : decode cX9_safeOf 20 = .ok (.if_icmp .ge 74, 3) := by decide +kernel
theorem dX9_safeOf_23 : decode cX9_safeOf 23 = .ok (.aload_n 0, 1) := by decide +kernel
theorem dX9_safeOf_24 : decode cX9_safeOf 24 = .ok (.getfield 37, 3) := by decide +kernel
theorem dX9_safeOf_27 : decode cX9_safeOf 27 = .ok (.iload_n 1, 1) := by decide +kernel
theorem dX9_safeOf_28 : decode cX9_safeOf 28 = .ok (.iload 5, 2) := by decide +kernel
theorem dX9_safeOf_30 : decode cX9_safeOf 30 = .ok (.invokestatic 143, 3) := by decide +kernel
theorem dX9_safeOf_33 : decode cX9_safeOf 33 = .ok (.baload, 1) := by decide +kernel
theorem dX9_safeOf_34 : decode cX9_safeOf 34 = .ok (.ifCond .eq 6, 3) := by decide +kernel
theorem dX9_safeOf_37 : decode cX9_safeOf 37 = .ok (.goto 51, 3) := by decide +kernel
theorem dX9_safeOf_40 : decode cX9_safeOf 40 = .ok (.aload_n 0, 1) := by decide +kernel
theorem dX9_safeOf_41 : decode cX9_safeOf 41 = .ok (.iload_n 1, 1) := by decide +kernel
theorem dX9_safeOf_42 : decode cX9_safeOf 42 = .ok (.iload 5, 2) := by decide +kernel
theorem dX9_safeOf_44 : decode cX9_safeOf 44 = .ok (.invokevirtual 318, 3) := by decide +kernel
theorem dX9_safeOf_47 : decode cX9_safeOf 47 = .ok (.invokestatic 321, 3) := by decide +kernel
theorem dX9_safeOf_50 : decode cX9_safeOf 50 = .ok (.istore 6, 2) := by decide +kernel
theorem dX9_safeOf_52 : decode cX9_safeOf 52 = .ok (.iload 6, 2) := by decide +kernel
theorem dX9_safeOf_54 : decode cX9_safeOf 54 = .ok (.iload_n 2, 1) := by decide +kernel
theorem dX9_safeOf_55 : decode cX9_safeOf 55 = .ok (.if_icmp .lt 33, 3) := by decide +kernel
theorem dX9_safeOf_58 : decode cX9_safeOf 58 = .ok (.iload 6, 2) := by decide +kernel
theorem dX9_safeOf_60 : decode cX9_safeOf 60 = .ok (.aload_n 0, 1) := by decide +kernel
theorem dX9_safeOf_61 : decode cX9_safeOf 61 = .ok (.getfield 19, 3) := by decide +kernel
theorem dX9_safeOf_64 : decode cX9_safeOf 64 = .ok (.aload_n 0, 1) := by decide +kernel
theorem dX9_safeOf_65 : decode cX9_safeOf 65 = .ok (.getfield 25, 3) := by decide +kernel
theorem dX9_safeOf_68 : decode cX9_safeOf 68 = .ok (.iload_n 1, 1) := by decide +kernel
theorem dX9_safeOf_69 : decode cX9_safeOf 69 = .ok (.iload 5, 2) := by decide +kernel
theorem dX9_safeOf_71 : decode cX9_safeOf 71 = .ok (.invokestatic 143, 3) := by decide +kernel
theorem dX9_safeOf_74 : decode cX9_safeOf 74 = .ok (.iaload, 1) := by decide +kernel
theorem dX9_safeOf_75 : decode cX9_safeOf 75 = .ok (.iaload, 1) := by decide +kernel
theorem dX9_safeOf_76 : decode cX9_safeOf 76 = .ok (.if_icmp .lt 12, 3) := by decide +kernel
theorem dX9_safeOf_79 : decode cX9_safeOf 79 = .ok (.iload 4, 2) := by decide +kernel
theorem dX9_safeOf_81 : decode cX9_safeOf 81 = .ok (.iconst 1, 1) := by decide +kernel
theorem dX9_safeOf_82 : decode cX9_safeOf 82 = .ok (.iload 5, 2) := by decide +kernel
theorem dX9_safeOf_84 : decode cX9_safeOf 84 = .ok (.ishl, 1) := by decide +kernel
theorem dX9_safeOf_85 : decode cX9_safeOf 85 = .ok (.ior, 1) := by decide +kernel
theorem dX9_safeOf_86 : decode cX9_safeOf 86 = .ok (.istore 4, 2) := by decide +kernel
theorem dX9_safeOf_88 : decode cX9_safeOf 88 = .ok (.iinc 5 1, 3) := by decide +kernel
theorem dX9_safeOf_91 : decode cX9_safeOf 91 = .ok (.goto (-79), 3) := by decide +kernel
theorem dX9_safeOf_94 : decode cX9_safeOf 94 = .ok (.iload 4, 2) := by decide +kernel
theorem dX9_safeOf_96 : decode cX9_safeOf 96 = .ok (.ireturn, 1) := by decide +kernel
theorem dX9_isMany_0 : decode cX9_isMany 0 = .ok (.iload_n 0, 1) := by decide +kernel
theorem dX9_isMany_1 : decode cX9_isMany 1 = .ok (.ifCond .le 13, 3) := by decide +kernel
theorem dX9_isMany_4 : decode cX9_isMany 4 = .ok (.iload_n 0, 1) := by decide +kernel
theorem dX9_isMany_5 : decode cX9_isMany 5 = .ok (.bipush 17, 2) := by decide +kernel
theorem dX9_isMany_7 : decode cX9_isMany 7 = .ok (.if_icmp .ge 7, 3) := by decide +kernel
theorem dX9_isMany_10 : decode cX9_isMany 10 = .ok (.iconst 1, 1) := by decide +kernel
theorem dX9_isMany_11 : decode cX9_isMany 11 = .ok (.goto 4, 3) := by decide +kernel
theorem dX9_isMany_14 : decode cX9_isMany 14 = .ok (.iconst 0, 1) := by decide +kernel
theorem dX9_isMany_15 : decode cX9_isMany 15 = .ok (.ireturn, 1) := by decide +kernel
theorem dX9_safe_0 : decode cX9_safe 0 = .ok (.aload_n 0, 1) := by decide +kernel
theorem dX9_safe_1 : decode cX9_safe 1 = .ok (.iload_n 1, 1) := by decide +kernel
theorem dX9_safe_2 : decode cX9_safe 2 = .ok (.invokevirtual 136, 3) := by decide +kernel
theorem dX9_safe_5 : decode cX9_safe 5 = .ok (.ifCond .eq 27, 3) := by decide +kernel
theorem dX9_safe_8 : decode cX9_safe 8 = .ok (.iload_n 2, 1) := by decide +kernel
theorem dX9_safe_9 : decode cX9_safe 9 = .ok (.invokestatic 333, 3) := by decide +kernel
theorem dX9_safe_12 : decode cX9_safe 12 = .ok (.ifCond .eq 20, 3) := by decide +kernel
theorem dX9_safe_15 : decode cX9_safe 15 = .ok (.iload_n 3, 1) := by decide +kernel
theorem dX9_safe_16 : decode cX9_safe 16 = .ok (.invokestatic 282, 3) := by decide +kernel
theorem dX9_safe_19 : decode cX9_safe 19 = .ok (.ifCond .eq 13, 3) := by decide +kernel
theorem dX9_safe_22 : decode cX9_safe 22 = .ok (.aload_n 0, 1) := by decide +kernel
theorem dX9_safe_23 : decode cX9_safe 23 = .ok (.iload_n 1, 1) := by decide +kernel
theorem dX9_safe_24 : decode cX9_safe 24 = .ok (.iload_n 2, 1) := by decide +kernel
theorem dX9_safe_25 : decode cX9_safe 25 = .ok (.iload_n 3, 1) := by decide +kernel
theorem dX9_safe_26 : decode cX9_safe 26 = .ok (.invokevirtual 336, 3) := by decide +kernel
theorem dX9_safe_29 : decode cX9_safe 29 = .ok (.goto 4, 3) := by decide +kernel
theorem dX9_safe_32 : decode cX9_safe 32 = .ok (.iconst (-1), 1) := by decide +kernel
theorem dX9_safe_33 : decode cX9_safe 33 = .ok (.ireturn, 1) := by decide +kernel
theorem dX9_linesOf_0 : decode cX9_linesOf 0 = .ok (.aload_n 0, 1) := by decide +kernel
theorem dX9_linesOf_1 : decode cX9_linesOf 1 = .ok (.iload_n 1, 1) := by decide +kernel
theorem dX9_linesOf_2 : decode cX9_linesOf 2 = .ok (.invokevirtual 136, 3) := by decide +kernel
theorem dX9_linesOf_5 : decode cX9_linesOf 5 = .ok (.ifCond .eq 18, 3) := by decide +kernel
theorem dX9_linesOf_8 : decode cX9_linesOf 8 = .ok (.aload_n 0, 1) := by decide +kernel
theorem dX9_linesOf_9 : decode cX9_linesOf 9 = .ok (.iload_n 2, 1) := by decide +kernel
theorem dX9_linesOf_10 : decode cX9_linesOf 10 = .ok (.invokevirtual 119, 3) := by decide +kernel
theorem dX9_linesOf_13 : decode cX9_linesOf 13 = .ok (.ifCond .eq 10, 3) := by decide +kernel
theorem dX9_linesOf_16 : decode cX9_linesOf 16 = .ok (.iload_n 3, 1) := by decide +kernel
theorem dX9_linesOf_17 : decode cX9_linesOf 17 = .ok (.invokestatic 282, 3) := by decide +kernel
theorem dX9_linesOf_20 : decode cX9_linesOf 20 = .ok (.ifCond .ne 5, 3) := by decide +kernel
theorem dX9_linesOf_23 : decode cX9_linesOf 23 = .ok (.iconst (-1), 1) := by decide +kernel
theorem dX9_linesOf_24 : decode cX9_linesOf 24 = .ok (.ireturn, 1) := by decide +kernel
theorem dX9_linesOf_25 : decode cX9_linesOf 25 = .ok (.aload_n 0, 1) := by decide +kernel
theorem dX9_linesOf_26 : decode cX9_linesOf 26 = .ok (.iload_n 1, 1) := by decide +kernel
theorem dX9_linesOf_27 : decode cX9_linesOf 27 = .ok (.iload_n 3, 1) := by decide +kernel
theorem dX9_linesOf_28 : decode cX9_linesOf 28 = .ok (.invokevirtual 299, 3) := by decide +kernel
theorem dX9_linesOf_31 : decode cX9_linesOf 31 = .ok (.iconst 0, 1) := by decide +kernel
theorem dX9_linesOf_32 : decode cX9_linesOf 32 = .ok (.istore 4, 2) := by decide +kernel
theorem dX9_linesOf_34 : decode cX9_linesOf 34 = .ok (.iconst 0, 1) := by decide +kernel
theorem dX9_linesOf_35 : decode cX9_linesOf 35 = .ok (.istore 5, 2) := by decide +kernel
theorem dX9_linesOf_37 : decode cX9_linesOf 37 = .ok (.iload 5, 2) := by decide +kernel
theorem dX9_linesOf_39 : decode cX9_linesOf 39 = .ok (.aload_n 0, 1) := by decide +kernel
theorem dX9_linesOf_40 : decode cX9_linesOf 40 = .ok (.getfield 22, 3) := by decide +kernel
theorem dX9_linesOf_43 : decode cX9_linesOf 43 = .ok (.iload_n 1, 1) := by decide +kernel
theorem dX9_linesOf_44 : decode cX9_linesOf 44 = .ok (.iaload, 1) := by decide +kernel
theorem dX9_linesOf_45 : decode cX9_linesOf 45 = .ok (.if_icmp .ge 43, 3) := by decide +kernel
theorem dX9_linesOf_48 : decode cX9_linesOf 48 = .ok (.aload_n 0, 1) := by decide +kernel
theorem dX9_linesOf_49 : decode cX9_linesOf 49 = .ok (.getfield 37, 3) := by decide +kernel
theorem dX9_linesOf_52 : decode cX9_linesOf 52 = .ok (.iload_n 1, 1) := by decide +kernel
theorem dX9_linesOf_53 : decode cX9_linesOf 53 = .ok (.iload 5, 2) := by decide +kernel
theorem dX9_linesOf_55 : decode cX9_linesOf 55 = .ok (.invokestatic 143, 3) := by decide +kernel
theorem dX9_linesOf_58 : decode cX9_linesOf 58 = .ok (.baload, 1) := by decide +kernel
theorem dX9_linesOf_59 : decode cX9_linesOf 59 = .ok (.ifCond .ne 23, 3) := by decide +kernel
theorem dX9_linesOf_62 : decode cX9_linesOf 62 = .ok (.aload_n 0, 1) := by decide +kernel
theorem dX9_linesOf_63 : decode cX9_linesOf 63 = .ok (.iload_n 1, 1) := by decide +kernel
theorem dX9_linesOf_64 : decode cX9_linesOf 64 = .ok (.iload 5, 2) := by decide +kernel
theorem dX9_linesOf_66 : decode cX9_linesOf 66 = .ok (.iload_n 2, 1) := by decide +kernel
theorem dX9_linesOf_67 : decode cX9_linesOf 67 = .ok (.invokevirtual 315, 3) := by decide +kernel
theorem dX9_linesOf_70 : decode cX9_linesOf 70 = .ok (.ifCond .eq 12, 3) := by decide +kernel
theorem dX9_linesOf_73 : decode cX9_linesOf 73 = .ok (.iload 4, 2) := by decide +kernel
theorem dX9_linesOf_75 : decode cX9_linesOf 75 = .ok (.iconst 1, 1) := by decide +kernel
theorem dX9_linesOf_76 : decode cX9_linesOf 76 = .ok (.iload 5, 2) := by decide +kernel
theorem dX9_linesOf_78 : decode cX9_linesOf 78 = .ok (.ishl, 1) := by decide +kernel
theorem dX9_linesOf_79 : decode cX9_linesOf 79 = .ok (.ior, 1) := by decide +kernel
theorem dX9_linesOf_80 : decode cX9_linesOf 80 = .ok (.istore 4, 2) := by decide +kernel
theorem dX9_linesOf_82 : decode cX9_linesOf 82 = .ok (.iinc 5 1, 3) := by decide +kernel
theorem dX9_linesOf_85 : decode cX9_linesOf 85 = .ok (.goto (-48), 3) := by decide +kernel
theorem dX9_linesOf_88 : decode cX9_linesOf 88 = .ok (.iload 4, 2) := by decide +kernel
theorem dX9_linesOf_90 : decode cX9_linesOf 90 = .ok (.ireturn, 1) := by decide +kernel
theorem dX9_isSure_0 : decode cX9_isSure 0 = .ok (.aload_n 0, 1) := by decide +kernel
theorem dX9_isSure_1 : decode cX9_isSure 1 = .ok (.iload_n 1, 1) := by decide +kernel
theorem dX9_isSure_2 : decode cX9_isSure 2 = .ok (.iload_n 3, 1) := by decide +kernel
theorem dX9_isSure_3 : decode cX9_isSure 3 = .ok (.invokevirtual 299, 3) := by decide +kernel
theorem dX9_isSure_6 : decode cX9_isSure 6 = .ok (.aload_n 0, 1) := by decide +kernel
theorem dX9_isSure_7 : decode cX9_isSure 7 = .ok (.iload_n 1, 1) := by decide +kernel
theorem dX9_isSure_8 : decode cX9_isSure 8 = .ok (.iload_n 2, 1) := by decide +kernel
theorem dX9_isSure_9 : decode cX9_isSure 9 = .ok (.invokevirtual 318, 3) := by decide +kernel
theorem dX9_isSure_12 : decode cX9_isSure 12 = .ok (.istore 4, 2) := by decide +kernel
theorem dX9_isSure_14 : decode cX9_isSure 14 = .ok (.aload_n 0, 1) := by decide +kernel
theorem dX9_isSure_15 : decode cX9_isSure 15 = .ok (.iconst 0, 1) := by decide +kernel
theorem dX9_isSure_16 : decode cX9_isSure 16 = .ok (.putfield 339, 3) := by decide +kernel
theorem dX9_isSure_19 : decode cX9_isSure 19 = .ok (.aload_n 0, 1) := by decide +kernel
theorem dX9_isSure_20 : decode cX9_isSure 20 = .ok (.getfield 339, 3) := by decide +kernel
theorem dX9_isSure_23 : decode cX9_isSure 23 = .ok (.aload_n 0, 1) := by decide +kernel
theorem dX9_isSure_24 : decode cX9_isSure 24 = .ok (.getfield 107, 3) := by decide +kernel
theorem dX9_isSure_27 : decode cX9_isSure 27 = .ok (.if_icmp .ge 27, 3) := by decide +kernel
theorem dX9_isSure_30 : decode cX9_isSure 30 = .ok (.iload 4, 2) := by decide +kernel
theorem dX9_isSure_32 : decode cX9_isSure 32 = .ok (.iconst 1, 1) := by decide +kernel
theorem dX9_isSure_33 : decode cX9_isSure 33 = .ok (.aload_n 0, 1) := by decide +kernel
theorem dX9_isSure_34 : decode cX9_isSure 34 = .ok (.getfield 339, 3) := by decide +kernel
theorem dX9_isSure_37 : decode cX9_isSure 37 = .ok (.ishl, 1) := by decide +kernel
theorem dX9_isSure_38 : decode cX9_isSure 38 = .ok (.if_icmp .eq 16, 3) := by decide +kernel
theorem dX9_isSure_41 : decode cX9_isSure 41 = .ok (.aload_n 0, 1) := by decide +kernel
theorem dX9_isSure_42 : decode cX9_isSure 42 = .ok (.aload_n 0, 1) := by decide +kernel
theorem dX9_isSure_43 : decode cX9_isSure 43 = .ok (.getfield 339, 3) := by decide +kernel
theorem dX9_isSure_46 : decode cX9_isSure 46 = .ok (.iconst 1, 1) := by decide +kernel
theorem dX9_isSure_47 : decode cX9_isSure 47 = .ok (.iadd, 1) := by decide +kernel
theorem dX9_isSure_48 : decode cX9_isSure 48 = .ok (.putfield 339, 3) := by decide +kernel
theorem dX9_isSure_51 : decode cX9_isSure 51 = .ok (.goto (-32), 3) := by decide +kernel
theorem dX9_isSure_54 : decode cX9_isSure 54 = .ok (.iload 4, 2) := by decide +kernel
theorem dX9_isSure_56 : decode cX9_isSure 56 = .ok (.invokestatic 321, 3) := by decide +kernel
theorem dX9_isSure_59 : decode cX9_isSure 59 = .ok (.iconst 1, 1) := by decide +kernel
theorem dX9_isSure_60 : decode cX9_isSure 60 = .ok (.if_icmp .ne 7, 3) := by decide +kernel
theorem dX9_isSure_63 : decode cX9_isSure 63 = .ok (.iconst 1, 1) := by decide +kernel
theorem dX9_isSure_64 : decode cX9_isSure 64 = .ok (.goto 4, 3) := by decide +kernel
theorem dX9_isSure_67 : decode cX9_isSure 67 = .ok (.iconst 0, 1) := by decide +kernel
theorem dX9_isSure_68 : decode cX9_isSure 68 = .ok (.ireturn, 1) := by decide +kernel
theorem dX9_fewest_0 : decode cX9_fewest 0 = .ok (.aload_n 0, 1) := by decide +kernel
theorem dX9_fewest_1 : decode cX9_fewest 1 = .ok (.iload_n 1, 1) := by decide +kernel
theorem dX9_fewest_2 : decode cX9_fewest 2 = .ok (.iload_n 2, 1) := by decide +kernel
theorem dX9_fewest_3 : decode cX9_fewest 3 = .ok (.invokevirtual 139, 3) := by decide +kernel
theorem dX9_fewest_6 : decode cX9_fewest 6 = .ok (.ifCond .eq 12, 3) := by decide +kernel
theorem dX9_fewest_9 : decode cX9_fewest 9 = .ok (.iload_n 3, 1) := by decide +kernel
theorem dX9_fewest_10 : decode cX9_fewest 10 = .ok (.iconst 0, 1) := by decide +kernel
theorem dX9_fewest_11 : decode cX9_fewest 11 = .ok (.iconst 2, 1) := by decide +kernel
theorem dX9_fewest_12 : decode cX9_fewest 12 = .ok (.invokestatic 115, 3) := by decide +kernel
theorem dX9_fewest_15 : decode cX9_fewest 15 = .ok (.ifCond .ne 5, 3) := by decide +kernel
theorem dX9_fewest_18 : decode cX9_fewest 18 = .ok (.iconst (-1), 1) := by decide +kernel
theorem dX9_fewest_19 : decode cX9_fewest 19 = .ok (.ireturn, 1) := by decide +kernel
theorem dX9_fewest_20 : decode cX9_fewest 20 = .ok (.aload_n 0, 1) := by decide +kernel
theorem dX9_fewest_21 : decode cX9_fewest 21 = .ok (.getfield 37, 3) := by decide +kernel
theorem dX9_fewest_24 : decode cX9_fewest 24 = .ok (.iload_n 1, 1) := by decide +kernel
theorem dX9_fewest_25 : decode cX9_fewest 25 = .ok (.iload_n 2, 1) := by decide +kernel
theorem dX9_fewest_26 : decode cX9_fewest 26 = .ok (.invokestatic 143, 3) := by decide +kernel
theorem dX9_fewest_29 : decode cX9_fewest 29 = .ok (.baload, 1) := by decide +kernel
theorem dX9_fewest_30 : decode cX9_fewest 30 = .ok (.ifCond .eq 6, 3) := by decide +kernel
theorem dX9_fewest_33 : decode cX9_fewest 33 = .ok (.bipush (-2), 2) := by decide +kernel
theorem dX9_fewest_35 : decode cX9_fewest 35 = .ok (.ireturn, 1) := by decide +kernel
theorem dX9_fewest_36 : decode cX9_fewest 36 = .ok (.iconst (-1), 1) := by decide +kernel
theorem dX9_fewest_37 : decode cX9_fewest 37 = .ok (.istore 4, 2) := by decide +kernel
theorem dX9_fewest_39 : decode cX9_fewest 39 = .ok (.iconst (-1), 1) := by decide +kernel
theorem dX9_fewest_40 : decode cX9_fewest 40 = .ok (.istore 5, 2) := by decide +kernel
theorem dX9_fewest_42 : decode cX9_fewest 42 = .ok (.iconst 0, 1) := by decide +kernel
theorem dX9_fewest_43 : decode cX9_fewest 43 = .ok (.istore 6, 2) := by decide +kernel
theorem dX9_fewest_45 : decode cX9_fewest 45 = .ok (.iload 6, 2) := by decide +kernel
theorem dX9_fewest_47 : decode cX9_fewest 47 = .ok (.sipush 256, 3) := by decide +kernel
theorem dX9_fewest_50 : decode cX9_fewest 50 = .ok (.if_icmp .ge 62, 3) := by decide +kernel
theorem dX9_fewest_53 : decode cX9_fewest 53 = .ok (.aload_n 0, 1) := by decide +kernel
theorem dX9_fewest_54 : decode cX9_fewest 54 = .ok (.iload 6, 2) := by decide +kernel
theorem dX9_fewest_56 : decode cX9_fewest 56 = .ok (.iload_n 1, 1) := by decide +kernel
theorem dX9_fewest_57 : decode cX9_fewest 57 = .ok (.invokevirtual 342, 3) := by decide +kernel
theorem dX9_fewest_60 : decode cX9_fewest 60 = .ok (.ifCond .eq 46, 3) := by decide +kernel
theorem dX9_fewest_63 : decode cX9_fewest 63 = .ok (.iload 4, 2) := by decide +kernel
theorem dX9_fewest_65 : decode cX9_fewest 65 = .ok (.iconst (-1), 1) := by decide +kernel
theorem dX9_fewest_66 : decode cX9_fewest 66 = .ok (.if_icmp .eq 16, 3) := by decide +kernel
theorem dX9_fewest_69 : decode cX9_fewest 69 = .ok (.iload 6, 2) := by decide +kernel
theorem dX9_fewest_71 : decode cX9_fewest 71 = .ok (.invokestatic 321, 3) := by decide +kernel
theorem dX9_fewest_74 : decode cX9_fewest 74 = .ok (.iload 4, 2) := by decide +kernel
theorem dX9_fewest_76 : decode cX9_fewest 76 = .ok (.invokestatic 321, 3) := by decide +kernel
theorem dX9_fewest_79 : decode cX9_fewest 79 = .ok (.if_icmp .ge 27, 3) := by decide +kernel
theorem dX9_fewest_82 : decode cX9_fewest 82 = .ok (.aload_n 0, 1) := by decide +kernel
theorem dX9_fewest_83 : decode cX9_fewest 83 = .ok (.iload_n 1, 1) := by decide +kernel
theorem dX9_fewest_84 : decode cX9_fewest 84 = .ok (.iload_n 2, 1) := by decide +kernel
theorem dX9_fewest_85 : decode cX9_fewest 85 = .ok (.iload 6, 2) := by decide +kernel
theorem dX9_fewest_87 : decode cX9_fewest 87 = .ok (.invokevirtual 345, 3) := by decide +kernel
theorem dX9_fewest_90 : decode cX9_fewest 90 = .ok (.ifCond .ne 6, 3) := by decide +kernel
theorem dX9_fewest_93 : decode cX9_fewest 93 = .ok (.goto 13, 3) := by decide +kernel
theorem dX9_fewest_96 : decode cX9_fewest 96 = .ok (.iload 6, 2) := by decide +kernel
theorem dX9_fewest_98 : decode cX9_fewest 98 = .ok (.istore 4, 2) := by decide +kernel
theorem dX9_fewest_100 : decode cX9_fewest 100 = .ok (.aload_n 0, 1) := by decide +kernel
theorem dX9_fewest_101 : decode cX9_fewest 101 = .ok (.getfield 339, 3) := by decide +kernel
theorem dX9_fewest_104 : decode cX9_fewest 104 = .ok (.istore 5, 2) := by decide +kernel
theorem dX9_fewest_106 : decode cX9_fewest 106 = .ok (.iinc 6 1, 3) := by decide +kernel
theorem dX9_fewest_109 : decode cX9_fewest 109 = .ok (.goto (-64), 3) := by decide +kernel
theorem dX9_fewest_112 : decode cX9_fewest 112 = .ok (.iload 4, 2) := by decide +kernel
theorem dX9_fewest_114 : decode cX9_fewest 114 = .ok (.iconst (-1), 1) := by decide +kernel
theorem dX9_fewest_115 : decode cX9_fewest 115 = .ok (.if_icmp .ne 8, 3) := by decide +kernel
theorem dX9_fewest_118 : decode cX9_fewest 118 = .ok (.bipush (-2), 2) := by decide +kernel
theorem dX9_fewest_120 : decode cX9_fewest 120 = .ok (.goto 27, 3) := by decide +kernel
theorem dX9_fewest_123 : decode cX9_fewest 123 = .ok (.iload_n 3, 1) := by decide +kernel
theorem dX9_fewest_124 : decode cX9_fewest 124 = .ok (.ifCond .ne 11, 3) := by decide +kernel
theorem dX9_fewest_127 : decode cX9_fewest 127 = .ok (.iload 4, 2) := by decide +kernel
theorem dX9_fewest_129 : decode cX9_fewest 129 = .ok (.invokestatic 321, 3) := by decide +kernel
theorem dX9_fewest_132 : decode cX9_fewest 132 = .ok (.goto 15, 3) := by decide +kernel
theorem dX9_fewest_135 : decode cX9_fewest 135 = .ok (.iload_n 3, 1) := by decide +kernel
theorem dX9_fewest_136 : decode cX9_fewest 136 = .ok (.iconst 1, 1) := by decide +kernel
theorem dX9_fewest_137 : decode cX9_fewest 137 = .ok (.if_icmp .ne 8, 3) := by decide +kernel
theorem dX9_fewest_140 : decode cX9_fewest 140 = .ok (.iload 4, 2) := by decide +kernel
theorem dX9_fewest_142 : decode cX9_fewest 142 = .ok (.goto 5, 3) := by decide +kernel
theorem dX9_fewest_145 : decode cX9_fewest 145 = .ok (.iload 5, 2) := by decide +kernel
theorem dX9_fewest_147 : decode cX9_fewest 147 = .ok (.ireturn, 1) := by decide +kernel
theorem dX9_areOfBook_0 : decode cX9_areOfBook 0 = .ok (.iconst 0, 1) := by decide +kernel
theorem dX9_areOfBook_1 : decode cX9_areOfBook 1 = .ok (.istore_n 3, 1) := by decide +kernel
theorem dX9_areOfBook_2 : decode cX9_areOfBook 2 = .ok (.iload_n 3, 1) := by decide +kernel
theorem dX9_areOfBook_3 : decode cX9_areOfBook 3 = .ok (.bipush 8, 2) := by decide +kernel
theorem dX9_areOfBook_5 : decode cX9_areOfBook 5 = .ok (.if_icmp .ge 44, 3) := by decide +kernel
theorem dX9_areOfBook_8 : decode cX9_areOfBook 8 = .ok (.iload_n 1, 1) := by decide +kernel
theorem dX9_areOfBook_9 : decode cX9_areOfBook 9 = .ok (.iload_n 3, 1) := by decide +kernel
theorem dX9_areOfBook_10 : decode cX9_areOfBook 10 = .ok (.ishr, 1) := by decide +kernel
theorem dX9_areOfBook_11 : decode cX9_areOfBook 11 = .ok (.iconst 1, 1) := by decide +kernel
theorem dX9_areOfBook_12 : decode cX9_areOfBook 12 = .ok (.iand, 1) := by decide +kernel
theorem dX9_areOfBook_13 : decode cX9_areOfBook 13 = .ok (.iconst 1, 1) := by decide +kernel
theorem dX9_areOfBook_14 : decode cX9_areOfBook 14 = .ok (.if_icmp .ne 29, 3) := by decide +kernel
theorem dX9_areOfBook_17 : decode cX9_areOfBook 17 = .ok (.aload_n 0, 1) := by decide +kernel
theorem dX9_areOfBook_18 : decode cX9_areOfBook 18 = .ok (.getfield 261, 3) := by decide +kernel
theorem dX9_areOfBook_21 : decode cX9_areOfBook 21 = .ok (.iload_n 3, 1) := by decide +kernel
theorem dX9_areOfBook_22 : decode cX9_areOfBook 22 = .ok (.ishr, 1) := by decide +kernel
theorem dX9_areOfBook_23 : decode cX9_areOfBook 23 = .ok (.iconst 1, 1) := by decide +kernel
theorem dX9_areOfBook_24 : decode cX9_areOfBook 24 = .ok (.iand, 1) := by decide +kernel
theorem dX9_areOfBook_25 : decode cX9_areOfBook 25 = .ok (.ifCond .eq 16, 3) := by decide +kernel
theorem dX9_areOfBook_28 : decode cX9_areOfBook 28 = .ok (.aload_n 0, 1) := by decide +kernel
theorem dX9_areOfBook_29 : decode cX9_areOfBook 29 = .ok (.getfield 57, 3) := by decide +kernel
theorem dX9_areOfBook_32 : decode cX9_areOfBook 32 = .ok (.iload_n 3, 1) := by decide +kernel
theorem dX9_areOfBook_33 : decode cX9_areOfBook 33 = .ok (.iaload, 1) := by decide +kernel
theorem dX9_areOfBook_34 : decode cX9_areOfBook 34 = .ok (.bipush 8, 2) := by decide +kernel
theorem dX9_areOfBook_36 : decode cX9_areOfBook 36 = .ok (.idiv, 1) := by decide +kernel
theorem dX9_areOfBook_37 : decode cX9_areOfBook 37 = .ok (.iload_n 2, 1) := by decide +kernel
theorem dX9_areOfBook_38 : decode cX9_areOfBook 38 = .ok (.if_icmp .eq 5, 3) := by decide +kernel
theorem dX9_areOfBook_41 : decode cX9_areOfBook 41 = .ok (.iconst 0, 1) := by decide +kernel
theorem dX9_areOfBook_42 : decode cX9_areOfBook 42 = .ok (.ireturn, 1) := by decide +kernel
theorem dX9_areOfBook_43 : decode cX9_areOfBook 43 = .ok (.iinc 3 1, 3) := by decide +kernel
theorem dX9_areOfBook_46 : decode cX9_areOfBook 46 = .ok (.goto (-44), 3) := by decide +kernel
theorem dX9_areOfBook_49 : decode cX9_areOfBook 49 = .ok (.iconst 1, 1) := by decide +kernel
theorem dX9_areOfBook_50 : decode cX9_areOfBook 50 = .ok (.ireturn, 1) := by decide +kernel
theorem dX9_laysParts_0 : decode cX9_laysParts 0 = .ok (.aload_n 0, 1) := by decide +kernel
theorem dX9_laysParts_1 : decode cX9_laysParts 1 = .ok (.iconst 0, 1) := by decide +kernel
theorem dX9_laysParts_2 : decode cX9_laysParts 2 = .ok (.putfield 348, 3) := by decide +kernel
theorem dX9_laysParts_5 : decode cX9_laysParts 5 = .ok (.iconst 0, 1) := by decide +kernel
theorem dX9_laysParts_6 : decode cX9_laysParts 6 = .ok (.istore_n 2, 1) := by decide +kernel
theorem dX9_laysParts_7 : decode cX9_laysParts 7 = .ok (.iload_n 2, 1) := by decide +kernel
theorem dX9_laysParts_8 : decode cX9_laysParts 8 = .ok (.aload_n 0, 1) := by decide +kernel
theorem dX9_laysParts_9 : decode cX9_laysParts 9 = .ok (.getfield 107, 3) := by decide +kernel
theorem dX9_laysParts_12 : decode cX9_laysParts 12 = .ok (.if_icmp .ge 40, 3) := by decide +kernel
theorem dX9_laysParts_15 : decode cX9_laysParts 15 = .ok (.iload_n 1, 1) := by decide +kernel
theorem dX9_laysParts_16 : decode cX9_laysParts 16 = .ok (.iload_n 2, 1) := by decide +kernel
theorem dX9_laysParts_17 : decode cX9_laysParts 17 = .ok (.ishr, 1) := by decide +kernel
theorem dX9_laysParts_18 : decode cX9_laysParts 18 = .ok (.iconst 1, 1) := by decide +kernel
theorem dX9_laysParts_19 : decode cX9_laysParts 19 = .ok (.iand, 1) := by decide +kernel
theorem dX9_laysParts_20 : decode cX9_laysParts 20 = .ok (.ifCond .ne 6, 3) := by decide +kernel
theorem dX9_laysParts_23 : decode cX9_laysParts 23 = .ok (.goto 23, 3) := by decide +kernel
theorem dX9_laysParts_26 : decode cX9_laysParts 26 = .ok (.aload_n 0, 1) := by decide +kernel
theorem dX9_laysParts_27 : decode cX9_laysParts 27 = .ok (.getfield 95, 3) := by decide +kernel
theorem dX9_laysParts_30 : decode cX9_laysParts 30 = .ok (.aload_n 0, 1) := by decide +kernel
theorem dX9_laysParts_31 : decode cX9_laysParts 31 = .ok (.getfield 348, 3) := by decide +kernel
theorem dX9_laysParts_34 : decode cX9_laysParts 34 = .ok (.iload_n 2, 1) := by decide +kernel
theorem dX9_laysParts_35 : decode cX9_laysParts 35 = .ok (.iastore, 1) := by decide +kernel
theorem dX9_laysParts_36 : decode cX9_laysParts 36 = .ok (.aload_n 0, 1) := by decide +kernel
theorem dX9_laysParts_37 : decode cX9_laysParts 37 = .ok (.aload_n 0, 1) := by decide +kernel
theorem dX9_laysParts_38 : decode cX9_laysParts 38 = .ok (.getfield 348, 3) := by decide +kernel
theorem dX9_laysParts_41 : decode cX9_laysParts 41 = .ok (.iconst 1, 1) := by decide +kernel
theorem dX9_laysParts_42 : decode cX9_laysParts 42 = .ok (.iadd, 1) := by decide +kernel
theorem dX9_laysParts_43 : decode cX9_laysParts 43 = .ok (.putfield 348, 3) := by decide +kernel
theorem dX9_laysParts_46 : decode cX9_laysParts 46 = .ok (.iinc 2 1, 3) := by decide +kernel
theorem dX9_laysParts_49 : decode cX9_laysParts 49 = .ok (.goto (-42), 3) := by decide +kernel
theorem dX9_laysParts_52 : decode cX9_laysParts 52 = .ok (.iconst 0, 1) := by decide +kernel
theorem dX9_laysParts_53 : decode cX9_laysParts 53 = .ok (.istore_n 2, 1) := by decide +kernel
theorem dX9_laysParts_54 : decode cX9_laysParts 54 = .ok (.iload_n 2, 1) := by decide +kernel
theorem dX9_laysParts_55 : decode cX9_laysParts 55 = .ok (.sipush 128, 3) := by decide +kernel
theorem dX9_laysParts_58 : decode cX9_laysParts 58 = .ok (.if_icmp .ge 81, 3) := by decide +kernel
theorem dX9_laysParts_61 : decode cX9_laysParts 61 = .ok (.aload_n 0, 1) := by decide +kernel
theorem dX9_laysParts_62 : decode cX9_laysParts 62 = .ok (.getfield 98, 3) := by decide +kernel
theorem dX9_laysParts_65 : decode cX9_laysParts 65 = .ok (.iload_n 2, 1) := by decide +kernel
theorem dX9_laysParts_66 : decode cX9_laysParts 66 = .ok (.iconst 0, 1) := by decide +kernel
theorem dX9_laysParts_67 : decode cX9_laysParts 67 = .ok (.iastore, 1) := by decide +kernel
theorem dX9_laysParts_68 : decode cX9_laysParts 68 = .ok (.iconst 0, 1) := by decide +kernel
theorem dX9_laysParts_69 : decode cX9_laysParts 69 = .ok (.istore_n 3, 1) := by decide +kernel
theorem dX9_laysParts_70 : decode cX9_laysParts 70 = .ok (.iload_n 3, 1) := by decide +kernel
theorem dX9_laysParts_71 : decode cX9_laysParts 71 = .ok (.aload_n 0, 1) := by decide +kernel
theorem dX9_laysParts_72 : decode cX9_laysParts 72 = .ok (.getfield 348, 3) := by decide +kernel
theorem dX9_laysParts_75 : decode cX9_laysParts 75 = .ok (.if_icmp .ge 58, 3) := by decide +kernel
theorem dX9_laysParts_78 : decode cX9_laysParts 78 = .ok (.aload_n 0, 1) := by decide +kernel
theorem dX9_laysParts_79 : decode cX9_laysParts 79 = .ok (.iload_n 2, 1) := by decide +kernel
theorem dX9_laysParts_80 : decode cX9_laysParts 80 = .ok (.bipush 32, 2) := by decide +kernel
theorem dX9_laysParts_82 : decode cX9_laysParts 82 = .ok (.idiv, 1) := by decide +kernel
theorem dX9_laysParts_83 : decode cX9_laysParts 83 = .ok (.aload_n 0, 1) := by decide +kernel
theorem dX9_laysParts_84 : decode cX9_laysParts 84 = .ok (.getfield 16, 3) := by decide +kernel
theorem dX9_laysParts_87 : decode cX9_laysParts 87 = .ok (.iconst 4, 1) := by decide +kernel
theorem dX9_laysParts_88 : decode cX9_laysParts 88 = .ok (.aload_n 0, 1) := by decide +kernel
theorem dX9_laysParts_89 : decode cX9_laysParts 89 = .ok (.getfield 95, 3) := by decide +kernel
theorem dX9_laysParts_92 : decode cX9_laysParts 92 = .ok (.iload_n 3, 1) := by decide +kernel
theorem dX9_laysParts_93 : decode cX9_laysParts 93 = .ok (.iaload, 1) := by decide +kernel
theorem dX9_laysParts_94 : decode cX9_laysParts 94 = .ok (.imul, 1) := by decide +kernel
theorem dX9_laysParts_95 : decode cX9_laysParts 95 = .ok (.iload_n 2, 1) := by decide +kernel
theorem dX9_laysParts_96 : decode cX9_laysParts 96 = .ok (.bipush 32, 2) := by decide +kernel
theorem dX9_laysParts_98 : decode cX9_laysParts 98 = .ok (.idiv, 1) := by decide +kernel
theorem dX9_laysParts_99 : decode cX9_laysParts 99 = .ok (.iadd, 1) := by decide +kernel
theorem dX9_laysParts_100 : decode cX9_laysParts 100 = .ok (.iaload, 1) := by decide +kernel
theorem dX9_laysParts_101 : decode cX9_laysParts 101 = .ok (.iload_n 2, 1) := by decide +kernel
theorem dX9_laysParts_102 : decode cX9_laysParts 102 = .ok (.bipush 32, 2) := by decide +kernel
theorem dX9_laysParts_104 : decode cX9_laysParts 104 = .ok (.irem, 1) := by decide +kernel
theorem dX9_laysParts_105 : decode cX9_laysParts 105 = .ok (.invokevirtual 126, 3) := by decide +kernel
theorem dX9_laysParts_108 : decode cX9_laysParts 108 = .ok (.ifCond .eq 19, 3) := by decide +kernel
theorem dX9_laysParts_111 : decode cX9_laysParts 111 = .ok (.aload_n 0, 1) := by decide +kernel
theorem dX9_laysParts_112 : decode cX9_laysParts 112 = .ok (.getfield 98, 3) := by decide +kernel
theorem dX9_laysParts_115 : decode cX9_laysParts 115 = .ok (.iload_n 2, 1) := by decide +kernel
theorem dX9_laysParts_116 : decode cX9_laysParts 116 = .ok (.aload_n 0, 1) := by decide +kernel
theorem dX9_laysParts_117 : decode cX9_laysParts 117 = .ok (.getfield 98, 3) := by decide +kernel
theorem dX9_laysParts_120 : decode cX9_laysParts 120 = .ok (.iload_n 2, 1) := by decide +kernel
theorem dX9_laysParts_121 : decode cX9_laysParts 121 = .ok (.iaload, 1) := by decide +kernel
theorem dX9_laysParts_122 : decode cX9_laysParts 122 = .ok (.iconst 1, 1) := by decide +kernel
theorem dX9_laysParts_123 : decode cX9_laysParts 123 = .ok (.iload_n 3, 1) := by decide +kernel
theorem dX9_laysParts_124 : decode cX9_laysParts 124 = .ok (.ishl, 1) := by decide +kernel
theorem dX9_laysParts_125 : decode cX9_laysParts 125 = .ok (.ior, 1) := by decide +kernel
theorem dX9_laysParts_126 : decode cX9_laysParts 126 = .ok (.iastore, 1) := by decide +kernel
theorem dX9_laysParts_127 : decode cX9_laysParts 127 = .ok (.iinc 3 1, 3) := by decide +kernel
theorem dX9_laysParts_130 : decode cX9_laysParts 130 = .ok (.goto (-60), 3) := by decide +kernel
theorem dX9_laysParts_133 : decode cX9_laysParts 133 = .ok (.iinc 2 1, 3) := by decide +kernel
theorem dX9_laysParts_136 : decode cX9_laysParts 136 = .ok (.goto (-82), 3) := by decide +kernel
theorem dX9_laysParts_139 : decode cX9_laysParts 139 = .ok (.return_, 1) := by decide +kernel
theorem dX9_enoughBy_0 : decode cX9_enoughBy 0 = .ok (.iload_n 1, 1) := by decide +kernel
theorem dX9_enoughBy_1 : decode cX9_enoughBy 1 = .ok (.aload_n 0, 1) := by decide +kernel
theorem dX9_enoughBy_2 : decode cX9_enoughBy 2 = .ok (.getfield 98, 3) := by decide +kernel
theorem dX9_enoughBy_5 : decode cX9_enoughBy 5 = .ok (.iload_n 2, 1) := by decide +kernel
theorem dX9_enoughBy_6 : decode cX9_enoughBy 6 = .ok (.iaload, 1) := by decide +kernel
theorem dX9_enoughBy_7 : decode cX9_enoughBy 7 = .ok (.iand, 1) := by decide +kernel
theorem dX9_enoughBy_8 : decode cX9_enoughBy 8 = .ok (.istore_n 3, 1) := by decide +kernel
theorem dX9_enoughBy_9 : decode cX9_enoughBy 9 = .ok (.iload_n 1, 1) := by decide +kernel
theorem dX9_enoughBy_10 : decode cX9_enoughBy 10 = .ok (.aload_n 0, 1) := by decide +kernel
theorem dX9_enoughBy_11 : decode cX9_enoughBy 11 = .ok (.getfield 98, 3) := by decide +kernel
theorem dX9_enoughBy_14 : decode cX9_enoughBy 14 = .ok (.iload_n 2, 1) := by decide +kernel
theorem dX9_enoughBy_15 : decode cX9_enoughBy 15 = .ok (.iaload, 1) := by decide +kernel
theorem dX9_enoughBy_16 : decode cX9_enoughBy 16 = .ok (.iconst (-1), 1) := by decide +kernel
theorem dX9_enoughBy_17 : decode cX9_enoughBy 17 = .ok (.ixor, 1) := by decide +kernel
theorem dX9_enoughBy_18 : decode cX9_enoughBy 18 = .ok (.iand, 1) := by decide +kernel
theorem dX9_enoughBy_19 : decode cX9_enoughBy 19 = .ok (.istore 4, 2) := by decide +kernel
theorem dX9_enoughBy_21 : decode cX9_enoughBy 21 = .ok (.iload_n 3, 1) := by decide +kernel
theorem dX9_enoughBy_22 : decode cX9_enoughBy 22 = .ok (.ifCond .eq 8, 3) := by decide +kernel
theorem dX9_enoughBy_25 : decode cX9_enoughBy 25 = .ok (.iload 4, 2) := by decide +kernel
theorem dX9_enoughBy_27 : decode cX9_enoughBy 27 = .ok (.ifCond .ne 7, 3) := by decide +kernel
theorem dX9_enoughBy_30 : decode cX9_enoughBy 30 = .ok (.ldc_w 351, 3) := by decide +kernel
theorem dX9_enoughBy_33 : decode cX9_enoughBy 33 = .ok (.ireturn, 1) := by decide +kernel
theorem dX9_enoughBy_34 : decode cX9_enoughBy 34 = .ok (.aload_n 0, 1) := by decide +kernel
theorem dX9_enoughBy_35 : decode cX9_enoughBy 35 = .ok (.getfield 101, 3) := by decide +kernel
theorem dX9_enoughBy_38 : decode cX9_enoughBy 38 = .ok (.iload_n 3, 1) := by decide +kernel
theorem dX9_enoughBy_39 : decode cX9_enoughBy 39 = .ok (.iaload, 1) := by decide +kernel
theorem dX9_enoughBy_40 : decode cX9_enoughBy 40 = .ok (.aload_n 0, 1) := by decide +kernel
theorem dX9_enoughBy_41 : decode cX9_enoughBy 41 = .ok (.getfield 101, 3) := by decide +kernel
theorem dX9_enoughBy_44 : decode cX9_enoughBy 44 = .ok (.iload 4, 2) := by decide +kernel
theorem dX9_enoughBy_46 : decode cX9_enoughBy 46 = .ok (.iaload, 1) := by decide +kernel
theorem dX9_enoughBy_47 : decode cX9_enoughBy 47 = .ok (.if_icmp .le 12, 3) := by decide +kernel
theorem dX9_enoughBy_50 : decode cX9_enoughBy 50 = .ok (.aload_n 0, 1) := by decide +kernel
theorem dX9_enoughBy_51 : decode cX9_enoughBy 51 = .ok (.getfield 101, 3) := by decide +kernel
theorem dX9_enoughBy_54 : decode cX9_enoughBy 54 = .ok (.iload_n 3, 1) := by decide +kernel
theorem dX9_enoughBy_55 : decode cX9_enoughBy 55 = .ok (.iaload, 1) := by decide +kernel
theorem dX9_enoughBy_56 : decode cX9_enoughBy 56 = .ok (.goto 10, 3) := by decide +kernel
theorem dX9_enoughBy_59 : decode cX9_enoughBy 59 = .ok (.aload_n 0, 1) := by decide +kernel
theorem dX9_enoughBy_60 : decode cX9_enoughBy 60 = .ok (.getfield 101, 3) := by decide +kernel
theorem dX9_enoughBy_63 : decode cX9_enoughBy 63 = .ok (.iload 4, 2) := by decide +kernel
theorem dX9_enoughBy_65 : decode cX9_enoughBy 65 = .ok (.iaload, 1) := by decide +kernel
theorem dX9_enoughBy_66 : decode cX9_enoughBy 66 = .ok (.istore 5, 2) := by decide +kernel
theorem dX9_enoughBy_68 : decode cX9_enoughBy 68 = .ok (.iload 5, 2) := by decide +kernel
theorem dX9_enoughBy_70 : decode cX9_enoughBy 70 = .ok (.ldc_w 351, 3) := by decide +kernel
theorem dX9_enoughBy_73 : decode cX9_enoughBy 73 = .ok (.if_icmp .ne 9, 3) := by decide +kernel
theorem dX9_enoughBy_76 : decode cX9_enoughBy 76 = .ok (.ldc_w 351, 3) := by decide +kernel
theorem dX9_enoughBy_79 : decode cX9_enoughBy 79 = .ok (.goto 7, 3) := by decide +kernel
theorem dX9_enoughBy_82 : decode cX9_enoughBy 82 = .ok (.iload 5, 2) := by decide +kernel
theorem dX9_enoughBy_84 : decode cX9_enoughBy 84 = .ok (.iconst 1, 1) := by decide +kernel
theorem dX9_enoughBy_85 : decode cX9_enoughBy 85 = .ok (.iadd, 1) := by decide +kernel
theorem dX9_enoughBy_86 : decode cX9_enoughBy 86 = .ok (.ireturn, 1) := by decide +kernel
theorem dX9_laysEnough_0 : decode cX9_laysEnough 0 = .ok (.iconst 1, 1) := by decide +kernel
theorem dX9_laysEnough_1 : decode cX9_laysEnough 1 = .ok (.istore_n 1, 1) := by decide +kernel
theorem dX9_laysEnough_2 : decode cX9_laysEnough 2 = .ok (.iload_n 1, 1) := by decide +kernel
theorem dX9_laysEnough_3 : decode cX9_laysEnough 3 = .ok (.iconst 1, 1) := by decide +kernel
theorem dX9_laysEnough_4 : decode cX9_laysEnough 4 = .ok (.aload_n 0, 1) := by decide +kernel
theorem dX9_laysEnough_5 : decode cX9_laysEnough 5 = .ok (.getfield 348, 3) := by decide +kernel
theorem dX9_laysEnough_8 : decode cX9_laysEnough 8 = .ok (.ishl, 1) := by decide +kernel
theorem dX9_laysEnough_9 : decode cX9_laysEnough 9 = .ok (.if_icmp .ge 86, 3) := by decide +kernel
theorem dX9_laysEnough_12 : decode cX9_laysEnough 12 = .ok (.aload_n 0, 1) := by decide +kernel
theorem dX9_laysEnough_13 : decode cX9_laysEnough 13 = .ok (.getfield 101, 3) := by decide +kernel
theorem dX9_laysEnough_16 : decode cX9_laysEnough 16 = .ok (.iload_n 1, 1) := by decide +kernel
theorem dX9_laysEnough_17 : decode cX9_laysEnough 17 = .ok (.iload_n 1, 1) := by decide +kernel
theorem dX9_laysEnough_18 : decode cX9_laysEnough 18 = .ok (.invokestatic 321, 3) := by decide +kernel
theorem dX9_laysEnough_21 : decode cX9_laysEnough 21 = .ok (.iconst 1, 1) := by decide +kernel
theorem dX9_laysEnough_22 : decode cX9_laysEnough 22 = .ok (.if_icmp .ne 7, 3) := by decide +kernel
theorem dX9_laysEnough_25 : decode cX9_laysEnough 25 = .ok (.iconst 0, 1) := by decide +kernel
theorem dX9_laysEnough_26 : decode cX9_laysEnough 26 = .ok (.goto 6, 3) := by decide +kernel
theorem dX9_laysEnough_29 : decode cX9_laysEnough 29 = .ok (.ldc_w 351, 3) := by decide +kernel
theorem dX9_laysEnough_32 : decode cX9_laysEnough 32 = .ok (.iastore, 1) := by decide +kernel
theorem dX9_laysEnough_33 : decode cX9_laysEnough 33 = .ok (.iconst 0, 1) := by decide +kernel
theorem dX9_laysEnough_34 : decode cX9_laysEnough 34 = .ok (.istore_n 2, 1) := by decide +kernel
theorem dX9_laysEnough_35 : decode cX9_laysEnough 35 = .ok (.iload_n 2, 1) := by decide +kernel
theorem dX9_laysEnough_36 : decode cX9_laysEnough 36 = .ok (.sipush 128, 3) := by decide +kernel
theorem dX9_laysEnough_39 : decode cX9_laysEnough 39 = .ok (.if_icmp .ge 50, 3) := by decide +kernel
theorem dX9_laysEnough_42 : decode cX9_laysEnough 42 = .ok (.iload_n 1, 1) := by decide +kernel
theorem dX9_laysEnough_43 : decode cX9_laysEnough 43 = .ok (.invokestatic 321, 3) := by decide +kernel
theorem dX9_laysEnough_46 : decode cX9_laysEnough 46 = .ok (.iconst 1, 1) := by decide +kernel
theorem dX9_laysEnough_47 : decode cX9_laysEnough 47 = .ok (.if_icmp .le 42, 3) := by decide +kernel
theorem dX9_laysEnough_50 : decode cX9_laysEnough 50 = .ok (.aload_n 0, 1) := by decide +kernel
theorem dX9_laysEnough_51 : decode cX9_laysEnough 51 = .ok (.iload_n 1, 1) := by decide +kernel
theorem dX9_laysEnough_52 : decode cX9_laysEnough 52 = .ok (.iload_n 2, 1) := by decide +kernel
theorem dX9_laysEnough_53 : decode cX9_laysEnough 53 = .ok (.invokevirtual 352, 3) := by decide +kernel
theorem dX9_laysEnough_56 : decode cX9_laysEnough 56 = .ok (.istore_n 3, 1) := by decide +kernel
theorem dX9_laysEnough_57 : decode cX9_laysEnough 57 = .ok (.aload_n 0, 1) := by decide +kernel
theorem dX9_laysEnough_58 : decode cX9_laysEnough 58 = .ok (.getfield 101, 3) := by decide +kernel
theorem dX9_laysEnough_61 : decode cX9_laysEnough 61 = .ok (.iload_n 1, 1) := by decide +kernel
theorem dX9_laysEnough_62 : decode cX9_laysEnough 62 = .ok (.iload_n 3, 1) := by decide +kernel
theorem dX9_laysEnough_63 : decode cX9_laysEnough 63 = .ok (.aload_n 0, 1) := by decide +kernel
theorem dX9_laysEnough_64 : decode cX9_laysEnough 64 = .ok (.getfield 101, 3) := by decide +kernel
theorem dX9_laysEnough_67 : decode cX9_laysEnough 67 = .ok (.iload_n 1, 1) := by decide +kernel
theorem dX9_laysEnough_68 : decode cX9_laysEnough 68 = .ok (.iaload, 1) := by decide +kernel
theorem dX9_laysEnough_69 : decode cX9_laysEnough 69 = .ok (.if_icmp .ge 7, 3) := by decide +kernel
theorem dX9_laysEnough_72 : decode cX9_laysEnough 72 = .ok (.iload_n 3, 1) := by decide +kernel
theorem dX9_laysEnough_73 : decode cX9_laysEnough 73 = .ok (.goto 9, 3) := by decide +kernel
theorem dX9_laysEnough_76 : decode cX9_laysEnough 76 = .ok (.aload_n 0, 1) := by decide +kernel
theorem dX9_laysEnough_77 : decode cX9_laysEnough 77 = .ok (.getfield 101, 3) := by decide +kernel
theorem dX9_laysEnough_80 : decode cX9_laysEnough 80 = .ok (.iload_n 1, 1) := by decide +kernel
theorem dX9_laysEnough_81 : decode cX9_laysEnough 81 = .ok (.iaload, 1) := by decide +kernel
theorem dX9_laysEnough_82 : decode cX9_laysEnough 82 = .ok (.iastore, 1) := by decide +kernel
theorem dX9_laysEnough_83 : decode cX9_laysEnough 83 = .ok (.iinc 2 1, 3) := by decide +kernel
theorem dX9_laysEnough_86 : decode cX9_laysEnough 86 = .ok (.goto (-51), 3) := by decide +kernel
theorem dX9_laysEnough_89 : decode cX9_laysEnough 89 = .ok (.iinc 1 1, 3) := by decide +kernel
theorem dX9_laysEnough_92 : decode cX9_laysEnough 92 = .ok (.goto (-90), 3) := by decide +kernel
theorem dX9_laysEnough_95 : decode cX9_laysEnough 95 = .ok (.return_, 1) := by decide +kernel
theorem dX9_questions_0 : decode cX9_questions 0 = .ok (.aload_n 0, 1) := by decide +kernel
theorem dX9_questions_1 : decode cX9_questions 1 = .ok (.iload_n 1, 1) := by decide +kernel
theorem dX9_questions_2 : decode cX9_questions 2 = .ok (.iload_n 2, 1) := by decide +kernel
theorem dX9_questions_3 : decode cX9_questions 3 = .ok (.invokevirtual 139, 3) := by decide +kernel
theorem dX9_questions_6 : decode cX9_questions 6 = .ok (.ifCond .eq 20, 3) := by decide +kernel
theorem dX9_questions_9 : decode cX9_questions 9 = .ok (.iload_n 3, 1) := by decide +kernel
theorem dX9_questions_10 : decode cX9_questions 10 = .ok (.invokestatic 282, 3) := by decide +kernel
theorem dX9_questions_13 : decode cX9_questions 13 = .ok (.ifCond .eq 13, 3) := by decide +kernel
theorem dX9_questions_16 : decode cX9_questions 16 = .ok (.iload 4, 2) := by decide +kernel
theorem dX9_questions_18 : decode cX9_questions 18 = .ok (.iconst 0, 1) := by decide +kernel
theorem dX9_questions_19 : decode cX9_questions 19 = .ok (.iconst 2, 1) := by decide +kernel
theorem dX9_questions_20 : decode cX9_questions 20 = .ok (.invokestatic 115, 3) := by decide +kernel
theorem dX9_questions_23 : decode cX9_questions 23 = .ok (.ifCond .ne 5, 3) := by decide +kernel
theorem dX9_questions_26 : decode cX9_questions 26 = .ok (.iconst (-1), 1) := by decide +kernel
theorem dX9_questions_27 : decode cX9_questions 27 = .ok (.ireturn, 1) := by decide +kernel
theorem dX9_questions_28 : decode cX9_questions 28 = .ok (.aload_n 0, 1) := by decide +kernel
theorem dX9_questions_29 : decode cX9_questions 29 = .ok (.getfield 37, 3) := by decide +kernel
theorem dX9_questions_32 : decode cX9_questions 32 = .ok (.iload_n 1, 1) := by decide +kernel
theorem dX9_questions_33 : decode cX9_questions 33 = .ok (.iload_n 2, 1) := by decide +kernel
theorem dX9_questions_34 : decode cX9_questions 34 = .ok (.invokestatic 143, 3) := by decide +kernel
theorem dX9_questions_37 : decode cX9_questions 37 = .ok (.baload, 1) := by decide +kernel
theorem dX9_questions_38 : decode cX9_questions 38 = .ok (.ifCond .eq 6, 3) := by decide +kernel
theorem dX9_questions_41 : decode cX9_questions 41 = .ok (.bipush (-2), 2) := by decide +kernel
theorem dX9_questions_43 : decode cX9_questions 43 = .ok (.ireturn, 1) := by decide +kernel
theorem dX9_questions_44 : decode cX9_questions 44 = .ok (.aload_n 0, 1) := by decide +kernel
theorem dX9_questions_45 : decode cX9_questions 45 = .ok (.iload_n 1, 1) := by decide +kernel
theorem dX9_questions_46 : decode cX9_questions 46 = .ok (.iload_n 2, 1) := by decide +kernel
theorem dX9_questions_47 : decode cX9_questions 47 = .ok (.invokestatic 143, 3) := by decide +kernel
theorem dX9_questions_50 : decode cX9_questions 50 = .ok (.iload_n 3, 1) := by decide +kernel
theorem dX9_questions_51 : decode cX9_questions 51 = .ok (.invokevirtual 285, 3) := by decide +kernel
theorem dX9_questions_54 : decode cX9_questions 54 = .ok (.istore 5, 2) := by decide +kernel
theorem dX9_questions_56 : decode cX9_questions 56 = .ok (.iload 5, 2) := by decide +kernel
theorem dX9_questions_58 : decode cX9_questions 58 = .ok (.ifCond .ne 6, 3) := by decide +kernel
theorem dX9_questions_61 : decode cX9_questions 61 = .ok (.bipush (-2), 2) := by decide +kernel
theorem dX9_questions_63 : decode cX9_questions 63 = .ok (.ireturn, 1) := by decide +kernel
theorem dX9_questions_64 : decode cX9_questions 64 = .ok (.aload_n 0, 1) := by decide +kernel
theorem dX9_questions_65 : decode cX9_questions 65 = .ok (.iload 5, 2) := by decide +kernel
theorem dX9_questions_67 : decode cX9_questions 67 = .ok (.invokevirtual 355, 3) := by decide +kernel
theorem dX9_questions_70 : decode cX9_questions 70 = .ok (.aload_n 0, 1) := by decide +kernel
theorem dX9_questions_71 : decode cX9_questions 71 = .ok (.invokevirtual 358, 3) := by decide +kernel
theorem dX9_questions_74 : decode cX9_questions 74 = .ok (.iconst 1, 1) := by decide +kernel
theorem dX9_questions_75 : decode cX9_questions 75 = .ok (.aload_n 0, 1) := by decide +kernel
theorem dX9_questions_76 : decode cX9_questions 76 = .ok (.getfield 348, 3) := by decide +kernel
theorem dX9_questions_79 : decode cX9_questions 79 = .ok (.ishl, 1) := by decide +kernel
theorem dX9_questions_80 : decode cX9_questions 80 = .ok (.iconst 1, 1) := by decide +kernel
theorem dX9_questions_81 : decode cX9_questions 81 = .ok (.isub, 1) := by decide +kernel
theorem dX9_questions_82 : decode cX9_questions 82 = .ok (.istore 6, 2) := by decide +kernel
theorem dX9_questions_84 : decode cX9_questions 84 = .ok (.aload_n 0, 1) := by decide +kernel
theorem dX9_questions_85 : decode cX9_questions 85 = .ok (.getfield 101, 3) := by decide +kernel
theorem dX9_questions_88 : decode cX9_questions 88 = .ok (.iload 6, 2) := by decide +kernel
theorem dX9_questions_90 : decode cX9_questions 90 = .ok (.iaload, 1) := by decide +kernel
theorem dX9_questions_91 : decode cX9_questions 91 = .ok (.ldc_w 351, 3) := by decide +kernel
theorem dX9_questions_94 : decode cX9_questions 94 = .ok (.if_icmp .ne 6, 3) := by decide +kernel
theorem dX9_questions_97 : decode cX9_questions 97 = .ok (.bipush (-2), 2) := by decide +kernel
theorem dX9_questions_99 : decode cX9_questions 99 = .ok (.ireturn, 1) := by decide +kernel
theorem dX9_questions_100 : decode cX9_questions 100 = .ok (.iload 4, 2) := by decide +kernel
theorem dX9_questions_102 : decode cX9_questions 102 = .ok (.ifCond .ne 11, 3) := by decide +kernel
theorem dX9_questions_105 : decode cX9_questions 105 = .ok (.aload_n 0, 1) := by decide +kernel
theorem dX9_questions_106 : decode cX9_questions 106 = .ok (.getfield 101, 3) := by decide +kernel
theorem dX9_questions_109 : decode cX9_questions 109 = .ok (.iload 6, 2) := by decide +kernel
theorem dX9_questions_111 : decode cX9_questions 111 = .ok (.iaload, 1) := by decide +kernel
theorem dX9_questions_112 : decode cX9_questions 112 = .ok (.ireturn, 1) := by decide +kernel
theorem dX9_questions_113 : decode cX9_questions 113 = .ok (.aload_n 0, 1) := by decide +kernel
theorem dX9_questions_114 : decode cX9_questions 114 = .ok (.getfield 348, 3) := by decide +kernel
theorem dX9_questions_117 : decode cX9_questions 117 = .ok (.iconst 1, 1) := by decide +kernel
theorem dX9_questions_118 : decode cX9_questions 118 = .ok (.if_icmp .ne 6, 3) := by decide +kernel
theorem dX9_questions_121 : decode cX9_questions 121 = .ok (.bipush (-3), 2) := by decide +kernel
theorem dX9_questions_123 : decode cX9_questions 123 = .ok (.ireturn, 1) := by decide +kernel
theorem dX9_questions_124 : decode cX9_questions 124 = .ok (.iconst 0, 1) := by decide +kernel
theorem dX9_questions_125 : decode cX9_questions 125 = .ok (.istore 7, 2) := by decide +kernel
theorem dX9_questions_127 : decode cX9_questions 127 = .ok (.aload_n 0, 1) := by decide +kernel
theorem dX9_questions_128 : decode cX9_questions 128 = .ok (.iload 6, 2) := by decide +kernel
theorem dX9_questions_130 : decode cX9_questions 130 = .ok (.iload 7, 2) := by decide +kernel
theorem dX9_questions_132 : decode cX9_questions 132 = .ok (.invokevirtual 352, 3) := by decide +kernel
theorem dX9_questions_135 : decode cX9_questions 135 = .ok (.aload_n 0, 1) := by decide +kernel
theorem dX9_questions_136 : decode cX9_questions 136 = .ok (.getfield 101, 3) := by decide +kernel
theorem dX9_questions_139 : decode cX9_questions 139 = .ok (.iload 6, 2) := by decide +kernel
theorem dX9_questions_141 : decode cX9_questions 141 = .ok (.iaload, 1) := by decide +kernel
theorem dX9_questions_142 : decode cX9_questions 142 = .ok (.if_icmp .eq 12, 3) := by decide +kernel
theorem dX9_questions_145 : decode cX9_questions 145 = .ok (.iload 7, 2) := by decide +kernel
theorem dX9_questions_147 : decode cX9_questions 147 = .ok (.iconst 1, 1) := by decide +kernel
theorem dX9_questions_148 : decode cX9_questions 148 = .ok (.iadd, 1) := by decide +kernel
theorem dX9_questions_149 : decode cX9_questions 149 = .ok (.istore 7, 2) := by decide +kernel
theorem dX9_questions_151 : decode cX9_questions 151 = .ok (.goto (-24), 3) := by decide +kernel
theorem dX9_questions_154 : decode cX9_questions 154 = .ok (.iload 4, 2) := by decide +kernel
theorem dX9_questions_156 : decode cX9_questions 156 = .ok (.iconst 1, 1) := by decide +kernel
theorem dX9_questions_157 : decode cX9_questions 157 = .ok (.if_icmp .ne 11, 3) := by decide +kernel
theorem dX9_questions_160 : decode cX9_questions 160 = .ok (.iload 7, 2) := by decide +kernel
theorem dX9_questions_162 : decode cX9_questions 162 = .ok (.bipush 32, 2) := by decide +kernel
theorem dX9_questions_164 : decode cX9_questions 164 = .ok (.idiv, 1) := by decide +kernel
theorem dX9_questions_165 : decode cX9_questions 165 = .ok (.goto 8, 3) := by decide +kernel
theorem dX9_questions_168 : decode cX9_questions 168 = .ok (.iload 7, 2) := by decide +kernel
theorem dX9_questions_170 : decode cX9_questions 170 = .ok (.bipush 32, 2) := by decide +kernel
theorem dX9_questions_172 : decode cX9_questions 172 = .ok (.irem, 1) := by decide +kernel
theorem dX9_questions_173 : decode cX9_questions 173 = .ok (.ireturn, 1) := by decide +kernel
theorem dX9_fitsBlurred_0 : decode cX9_fitsBlurred 0 = .ok (.iconst 0, 1) := by decide +kernel
theorem dX9_fitsBlurred_1 : decode cX9_fitsBlurred 1 = .ok (.istore_n 1, 1) := by decide +kernel
theorem dX9_fitsBlurred_2 : decode cX9_fitsBlurred 2 = .ok (.iconst 0, 1) := by decide +kernel
theorem dX9_fitsBlurred_3 : decode cX9_fitsBlurred 3 = .ok (.istore_n 2, 1) := by decide +kernel
theorem dX9_fitsBlurred_4 : decode cX9_fitsBlurred 4 = .ok (.iload_n 2, 1) := by decide +kernel
theorem dX9_fitsBlurred_5 : decode cX9_fitsBlurred 5 = .ok (.aload_n 0, 1) := by decide +kernel
theorem dX9_fitsBlurred_6 : decode cX9_fitsBlurred 6 = .ok (.getfield 107, 3) := by decide +kernel
theorem dX9_fitsBlurred_9 : decode cX9_fitsBlurred 9 = .ok (.if_icmp .ge 75, 3) := by decide +kernel
theorem dX9_fitsBlurred_12 : decode cX9_fitsBlurred 12 = .ok (.iconst 1, 1) := by decide +kernel
theorem dX9_fitsBlurred_13 : decode cX9_fitsBlurred 13 = .ok (.istore_n 3, 1) := by decide +kernel
theorem dX9_fitsBlurred_14 : decode cX9_fitsBlurred 14 = .ok (.iconst 0, 1) := by decide +kernel
theorem dX9_fitsBlurred_15 : decode cX9_fitsBlurred 15 = .ok (.istore 4, 2) := by decide +kernel
theorem dX9_fitsBlurred_17 : decode cX9_fitsBlurred 17 = .ok (.iload 4, 2) := by decide +kernel
theorem dX9_fitsBlurred_19 : decode cX9_fitsBlurred 19 = .ok (.iconst 4, 1) := by decide +kernel
theorem dX9_fitsBlurred_20 : decode cX9_fitsBlurred 20 = .ok (.if_icmp .ge 46, 3) := by decide +kernel
theorem dX9_fitsBlurred_23 : decode cX9_fitsBlurred 23 = .ok (.iload_n 3, 1) := by decide +kernel
theorem dX9_fitsBlurred_24 : decode cX9_fitsBlurred 24 = .ok (.ifCond .eq 34, 3) := by decide +kernel
theorem dX9_fitsBlurred_27 : decode cX9_fitsBlurred 27 = .ok (.aload_n 0, 1) := by decide +kernel
theorem dX9_fitsBlurred_28 : decode cX9_fitsBlurred 28 = .ok (.iload 4, 2) := by decide +kernel
theorem dX9_fitsBlurred_30 : decode cX9_fitsBlurred 30 = .ok (.aload_n 0, 1) := by decide +kernel
theorem dX9_fitsBlurred_31 : decode cX9_fitsBlurred 31 = .ok (.getfield 16, 3) := by decide +kernel
theorem dX9_fitsBlurred_34 : decode cX9_fitsBlurred 34 = .ok (.iconst 4, 1) := by decide +kernel
theorem dX9_fitsBlurred_35 : decode cX9_fitsBlurred 35 = .ok (.iload_n 2, 1) := by decide +kernel
theorem dX9_fitsBlurred_36 : decode cX9_fitsBlurred 36 = .ok (.imul, 1) := by decide +kernel
theorem dX9_fitsBlurred_37 : decode cX9_fitsBlurred 37 = .ok (.iload 4, 2) := by decide +kernel
theorem dX9_fitsBlurred_39 : decode cX9_fitsBlurred 39 = .ok (.iadd, 1) := by decide +kernel
theorem dX9_fitsBlurred_40 : decode cX9_fitsBlurred 40 = .ok (.iaload, 1) := by decide +kernel
theorem dX9_fitsBlurred_41 : decode cX9_fitsBlurred 41 = .ok (.aload_n 0, 1) := by decide +kernel
theorem dX9_fitsBlurred_42 : decode cX9_fitsBlurred 42 = .ok (.getfield 104, 3) := by decide +kernel
theorem dX9_fitsBlurred_45 : decode cX9_fitsBlurred 45 = .ok (.iload 4, 2) := by decide +kernel
theorem dX9_fitsBlurred_47 : decode cX9_fitsBlurred 47 = .ok (.iaload, 1) := by decide +kernel
theorem dX9_fitsBlurred_48 : decode cX9_fitsBlurred 48 = .ok (.invokevirtual 126, 3) := by decide +kernel
theorem dX9_fitsBlurred_51 : decode cX9_fitsBlurred 51 = .ok (.ifCond .eq 7, 3) := by decide +kernel
theorem dX9_fitsBlurred_54 : decode cX9_fitsBlurred 54 = .ok (.iconst 1, 1) := by decide +kernel
theorem dX9_fitsBlurred_55 : decode cX9_fitsBlurred 55 = .ok (.goto 4, 3) := by decide +kernel
theorem dX9_fitsBlurred_58 : decode cX9_fitsBlurred 58 = .ok (.iconst 0, 1) := by decide +kernel
theorem dX9_fitsBlurred_59 : decode cX9_fitsBlurred 59 = .ok (.istore_n 3, 1) := by decide +kernel
theorem dX9_fitsBlurred_60 : decode cX9_fitsBlurred 60 = .ok (.iinc 4 1, 3) := by decide +kernel
theorem dX9_fitsBlurred_63 : decode cX9_fitsBlurred 63 = .ok (.goto (-46), 3) := by decide +kernel
theorem dX9_fitsBlurred_66 : decode cX9_fitsBlurred 66 = .ok (.iload_n 1, 1) := by decide +kernel
theorem dX9_fitsBlurred_67 : decode cX9_fitsBlurred 67 = .ok (.iload_n 3, 1) := by decide +kernel
theorem dX9_fitsBlurred_68 : decode cX9_fitsBlurred 68 = .ok (.ifCond .eq 7, 3) := by decide +kernel
theorem dX9_fitsBlurred_71 : decode cX9_fitsBlurred 71 = .ok (.iconst 1, 1) := by decide +kernel
theorem dX9_fitsBlurred_72 : decode cX9_fitsBlurred 72 = .ok (.goto 4, 3) := by decide +kernel
theorem dX9_fitsBlurred_75 : decode cX9_fitsBlurred 75 = .ok (.iconst 0, 1) := by decide +kernel
theorem dX9_fitsBlurred_76 : decode cX9_fitsBlurred 76 = .ok (.iadd, 1) := by decide +kernel
theorem dX9_fitsBlurred_77 : decode cX9_fitsBlurred 77 = .ok (.istore_n 1, 1) := by decide +kernel
theorem dX9_fitsBlurred_78 : decode cX9_fitsBlurred 78 = .ok (.iinc 2 1, 3) := by decide +kernel
theorem dX9_fitsBlurred_81 : decode cX9_fitsBlurred 81 = .ok (.goto (-77), 3) := by decide +kernel
theorem dX9_fitsBlurred_84 : decode cX9_fitsBlurred 84 = .ok (.iload_n 1, 1) := by decide +kernel
theorem dX9_fitsBlurred_85 : decode cX9_fitsBlurred 85 = .ok (.ireturn, 1) := by decide +kernel
theorem dX9_lossAt_0 : decode cX9_lossAt 0 = .ok (.aload_n 0, 1) := by decide +kernel
theorem dX9_lossAt_1 : decode cX9_lossAt 1 = .ok (.iload_n 1, 1) := by decide +kernel
theorem dX9_lossAt_2 : decode cX9_lossAt 2 = .ok (.iload_n 2, 1) := by decide +kernel
theorem dX9_lossAt_3 : decode cX9_lossAt 3 = .ok (.invokevirtual 129, 3) := by decide +kernel
theorem dX9_lossAt_6 : decode cX9_lossAt 6 = .ok (.iconst 1, 1) := by decide +kernel
theorem dX9_lossAt_7 : decode cX9_lossAt 7 = .ok (.isub, 1) := by decide +kernel
theorem dX9_lossAt_8 : decode cX9_lossAt 8 = .ok (.istore_n 3, 1) := by decide +kernel
theorem dX9_lossAt_9 : decode cX9_lossAt 9 = .ok (.iload_n 3, 1) := by decide +kernel
theorem dX9_lossAt_10 : decode cX9_lossAt 10 = .ok (.ifCond .le 14, 3) := by decide +kernel
theorem dX9_lossAt_13 : decode cX9_lossAt 13 = .ok (.iload_n 3, 1) := by decide +kernel
theorem dX9_lossAt_14 : decode cX9_lossAt 14 = .ok (.aload_n 0, 1) := by decide +kernel
theorem dX9_lossAt_15 : decode cX9_lossAt 15 = .ok (.getfield 13, 3) := by decide +kernel
theorem dX9_lossAt_18 : decode cX9_lossAt 18 = .ok (.iload_n 1, 1) := by decide +kernel
theorem dX9_lossAt_19 : decode cX9_lossAt 19 = .ok (.iaload, 1) := by decide +kernel
theorem dX9_lossAt_20 : decode cX9_lossAt 20 = .ok (.imul, 1) := by decide +kernel
theorem dX9_lossAt_21 : decode cX9_lossAt 21 = .ok (.goto 4, 3) := by decide +kernel
theorem dX9_lossAt_24 : decode cX9_lossAt 24 = .ok (.iconst 0, 1) := by decide +kernel
theorem dX9_lossAt_25 : decode cX9_lossAt 25 = .ok (.ireturn, 1) := by decide +kernel
theorem dX9_lossBy_0 : decode cX9_lossBy 0 = .ok (.iconst 0, 1) := by decide +kernel
theorem dX9_lossBy_1 : decode cX9_lossBy 1 = .ok (.istore 5, 2) := by decide +kernel
theorem dX9_lossBy_3 : decode cX9_lossBy 3 = .ok (.aload_n 0, 1) := by decide +kernel
theorem dX9_lossBy_4 : decode cX9_lossBy 4 = .ok (.iconst 0, 1) := by decide +kernel
theorem dX9_lossBy_5 : decode cX9_lossBy 5 = .ok (.putfield 361, 3) := by decide +kernel
theorem dX9_lossBy_8 : decode cX9_lossBy 8 = .ok (.iconst 0, 1) := by decide +kernel
theorem dX9_lossBy_9 : decode cX9_lossBy 9 = .ok (.istore 6, 2) := by decide +kernel
theorem dX9_lossBy_11 : decode cX9_lossBy 11 = .ok (.iload 6, 2) := by decide +kernel
theorem dX9_lossBy_13 : decode cX9_lossBy 13 = .ok (.iload_n 1, 1) := by decide +kernel
theorem dX9_lossBy_14 : decode cX9_lossBy 14 = .ok (.if_icmp .ge 142, 3) := by decide +kernel
theorem dX9_lossBy_17 : decode cX9_lossBy 17 = .ok (.aload_n 0, 1) := by decide +kernel
theorem dX9_lossBy_18 : decode cX9_lossBy 18 = .ok (.getfield 41, 3) := by decide +kernel
theorem dX9_lossBy_21 : decode cX9_lossBy 21 = .ok (.iload 6, 2) := by decide +kernel
theorem dX9_lossBy_23 : decode cX9_lossBy 23 = .ok (.baload, 1) := by decide +kernel
theorem dX9_lossBy_24 : decode cX9_lossBy 24 = .ok (.istore 7, 2) := by decide +kernel
theorem dX9_lossBy_26 : decode cX9_lossBy 26 = .ok (.iload 4, 2) := by decide +kernel
theorem dX9_lossBy_28 : decode cX9_lossBy 28 = .ok (.istore 8, 2) := by decide +kernel
theorem dX9_lossBy_30 : decode cX9_lossBy 30 = .ok (.iconst 0, 1) := by decide +kernel
theorem dX9_lossBy_31 : decode cX9_lossBy 31 = .ok (.istore 9, 2) := by decide +kernel
theorem dX9_lossBy_33 : decode cX9_lossBy 33 = .ok (.iconst 3, 1) := by decide +kernel
theorem dX9_lossBy_34 : decode cX9_lossBy 34 = .ok (.istore 10, 2) := by decide +kernel
theorem dX9_lossBy_36 : decode cX9_lossBy 36 = .ok (.iload 10, 2) := by decide +kernel
theorem dX9_lossBy_38 : decode cX9_lossBy 38 = .ok (.ifCond .lt 62, 3) := by decide +kernel
theorem dX9_lossBy_41 : decode cX9_lossBy 41 = .ok (.aload_n 0, 1) := by decide +kernel
theorem dX9_lossBy_42 : decode cX9_lossBy 42 = .ok (.getfield 104, 3) := by decide +kernel
theorem dX9_lossBy_45 : decode cX9_lossBy 45 = .ok (.iload 10, 2) := by decide +kernel
theorem dX9_lossBy_47 : decode cX9_lossBy 47 = .ok (.aload_n 0, 1) := by decide +kernel
theorem dX9_lossBy_48 : decode cX9_lossBy 48 = .ok (.iload 10, 2) := by decide +kernel
theorem dX9_lossBy_50 : decode cX9_lossBy 50 = .ok (.aload_n 0, 1) := by decide +kernel
theorem dX9_lossBy_51 : decode cX9_lossBy 51 = .ok (.getfield 16, 3) := by decide +kernel
theorem dX9_lossBy_54 : decode cX9_lossBy 54 = .ok (.iconst 4, 1) := by decide +kernel
theorem dX9_lossBy_55 : decode cX9_lossBy 55 = .ok (.iload 7, 2) := by decide +kernel
theorem dX9_lossBy_57 : decode cX9_lossBy 57 = .ok (.imul, 1) := by decide +kernel
theorem dX9_lossBy_58 : decode cX9_lossBy 58 = .ok (.iload 10, 2) := by decide +kernel
theorem dX9_lossBy_60 : decode cX9_lossBy 60 = .ok (.iadd, 1) := by decide +kernel
theorem dX9_lossBy_61 : decode cX9_lossBy 61 = .ok (.iaload, 1) := by decide +kernel
theorem dX9_lossBy_62 : decode cX9_lossBy 62 = .ok (.iload 8, 2) := by decide +kernel
theorem dX9_lossBy_64 : decode cX9_lossBy 64 = .ok (.iconst 5, 1) := by decide +kernel
theorem dX9_lossBy_65 : decode cX9_lossBy 65 = .ok (.irem, 1) := by decide +kernel
theorem dX9_lossBy_66 : decode cX9_lossBy 66 = .ok (.invokevirtual 122, 3) := by decide +kernel
theorem dX9_lossBy_69 : decode cX9_lossBy 69 = .ok (.iastore, 1) := by decide +kernel
theorem dX9_lossBy_70 : decode cX9_lossBy 70 = .ok (.iload 8, 2) := by decide +kernel
theorem dX9_lossBy_72 : decode cX9_lossBy 72 = .ok (.iconst 5, 1) := by decide +kernel
theorem dX9_lossBy_73 : decode cX9_lossBy 73 = .ok (.idiv, 1) := by decide +kernel
theorem dX9_lossBy_74 : decode cX9_lossBy 74 = .ok (.istore 8, 2) := by decide +kernel
theorem dX9_lossBy_76 : decode cX9_lossBy 76 = .ok (.iload 9, 2) := by decide +kernel
theorem dX9_lossBy_78 : decode cX9_lossBy 78 = .ok (.aload_n 0, 1) := by decide +kernel
theorem dX9_lossBy_79 : decode cX9_lossBy 79 = .ok (.iload 10, 2) := by decide +kernel
theorem dX9_lossBy_81 : decode cX9_lossBy 81 = .ok (.aload_n 0, 1) := by decide +kernel
theorem dX9_lossBy_82 : decode cX9_lossBy 82 = .ok (.getfield 104, 3) := by decide +kernel
theorem dX9_lossBy_85 : decode cX9_lossBy 85 = .ok (.iload 10, 2) := by decide +kernel
theorem dX9_lossBy_87 : decode cX9_lossBy 87 = .ok (.iaload, 1) := by decide +kernel
theorem dX9_lossBy_88 : decode cX9_lossBy 88 = .ok (.invokevirtual 364, 3) := by decide +kernel
theorem dX9_lossBy_91 : decode cX9_lossBy 91 = .ok (.iadd, 1) := by decide +kernel
theorem dX9_lossBy_92 : decode cX9_lossBy 92 = .ok (.istore 9, 2) := by decide +kernel
theorem dX9_lossBy_94 : decode cX9_lossBy 94 = .ok (.iinc 10 (-1), 3) := by decide +kernel
theorem dX9_lossBy_97 : decode cX9_lossBy 97 = .ok (.goto (-61), 3) := by decide +kernel
theorem dX9_lossBy_100 : decode cX9_lossBy 100 = .ok (.aload_n 0, 1) := by decide +kernel
theorem dX9_lossBy_101 : decode cX9_lossBy 101 = .ok (.invokevirtual 367, 3) := by decide +kernel
theorem dX9_lossBy_104 : decode cX9_lossBy 104 = .ok (.iload_n 2, 1) := by decide +kernel
theorem dX9_lossBy_105 : decode cX9_lossBy 105 = .ok (.if_icmp .lt 7, 3) := by decide +kernel
theorem dX9_lossBy_108 : decode cX9_lossBy 108 = .ok (.iconst 1, 1) := by decide +kernel
theorem dX9_lossBy_109 : decode cX9_lossBy 109 = .ok (.goto 4, 3) := by decide +kernel
theorem dX9_lossBy_112 : decode cX9_lossBy 112 = .ok (.iconst 0, 1) := by decide +kernel
theorem dX9_lossBy_113 : decode cX9_lossBy 113 = .ok (.istore 10, 2) := by decide +kernel
theorem dX9_lossBy_115 : decode cX9_lossBy 115 = .ok (.aload_n 0, 1) := by decide +kernel
theorem dX9_lossBy_116 : decode cX9_lossBy 116 = .ok (.aload_n 0, 1) := by decide +kernel
theorem dX9_lossBy_117 : decode cX9_lossBy 117 = .ok (.getfield 361, 3) := by decide +kernel
theorem dX9_lossBy_120 : decode cX9_lossBy 120 = .ok (.iload 10, 2) := by decide +kernel
theorem dX9_lossBy_122 : decode cX9_lossBy 122 = .ok (.ifCond .eq 7, 3) := by decide +kernel
theorem dX9_lossBy_125 : decode cX9_lossBy 125 = .ok (.iconst 0, 1) := by decide +kernel
theorem dX9_lossBy_126 : decode cX9_lossBy 126 = .ok (.goto 4, 3) := by decide +kernel
theorem dX9_lossBy_129 : decode cX9_lossBy 129 = .ok (.iconst 1, 1) := by decide +kernel
theorem dX9_lossBy_130 : decode cX9_lossBy 130 = .ok (.iadd, 1) := by decide +kernel
theorem dX9_lossBy_131 : decode cX9_lossBy 131 = .ok (.putfield 361, 3) := by decide +kernel
theorem dX9_lossBy_134 : decode cX9_lossBy 134 = .ok (.iload 5, 2) := by decide +kernel
theorem dX9_lossBy_136 : decode cX9_lossBy 136 = .ok (.iload 10, 2) := by decide +kernel
theorem dX9_lossBy_138 : decode cX9_lossBy 138 = .ok (.ifCond .eq 8, 3) := by decide +kernel
theorem dX9_lossBy_141 : decode cX9_lossBy 141 = .ok (.iload 9, 2) := by decide +kernel
theorem dX9_lossBy_143 : decode cX9_lossBy 143 = .ok (.goto 4, 3) := by decide +kernel
theorem dX9_lossBy_146 : decode cX9_lossBy 146 = .ok (.iload_n 3, 1) := by decide +kernel
theorem dX9_lossBy_147 : decode cX9_lossBy 147 = .ok (.iadd, 1) := by decide +kernel
theorem dX9_lossBy_148 : decode cX9_lossBy 148 = .ok (.istore 5, 2) := by decide +kernel
theorem dX9_lossBy_150 : decode cX9_lossBy 150 = .ok (.iinc 6 1, 3) := by decide +kernel
theorem dX9_lossBy_153 : decode cX9_lossBy 153 = .ok (.goto (-142), 3) := by decide +kernel
theorem dX9_lossBy_156 : decode cX9_lossBy 156 = .ok (.iload 5, 2) := by decide +kernel
theorem dX9_lossBy_158 : decode cX9_lossBy 158 = .ok (.ireturn, 1) := by decide +kernel
theorem dX9_blurring_0 : decode cX9_blurring 0 = .ok (.iload_n 1, 1) := by decide +kernel
theorem dX9_blurring_1 : decode cX9_blurring 1 = .ok (.iconst 1, 1) := by decide +kernel
theorem dX9_blurring_2 : decode cX9_blurring 2 = .ok (.bipush 8, 2) := by decide +kernel
theorem dX9_blurring_4 : decode cX9_blurring 4 = .ok (.invokestatic 115, 3) := by decide +kernel
theorem dX9_blurring_7 : decode cX9_blurring 7 = .ok (.ifCond .eq 39, 3) := by decide +kernel
theorem dX9_blurring_10 : decode cX9_blurring 10 = .ok (.iload_n 2, 1) := by decide +kernel
theorem dX9_blurring_11 : decode cX9_blurring 11 = .ok (.invokestatic 333, 3) := by decide +kernel
theorem dX9_blurring_14 : decode cX9_blurring 14 = .ok (.ifCond .eq 32, 3) := by decide +kernel
theorem dX9_blurring_17 : decode cX9_blurring 17 = .ok (.iload_n 3, 1) := by decide +kernel
theorem dX9_blurring_18 : decode cX9_blurring 18 = .ok (.iconst 0, 1) := by decide +kernel
theorem dX9_blurring_19 : decode cX9_blurring 19 = .ok (.sipush 9999, 3) := by decide +kernel
theorem dX9_blurring_22 : decode cX9_blurring 22 = .ok (.invokestatic 115, 3) := by decide +kernel
theorem dX9_blurring_25 : decode cX9_blurring 25 = .ok (.ifCond .eq 21, 3) := by decide +kernel
theorem dX9_blurring_28 : decode cX9_blurring 28 = .ok (.iload 4, 2) := by decide +kernel
theorem dX9_blurring_30 : decode cX9_blurring 30 = .ok (.iconst (-1), 1) := by decide +kernel
theorem dX9_blurring_31 : decode cX9_blurring 31 = .ok (.iconst 4, 1) := by decide +kernel
theorem dX9_blurring_32 : decode cX9_blurring 32 = .ok (.invokestatic 115, 3) := by decide +kernel
theorem dX9_blurring_35 : decode cX9_blurring 35 = .ok (.ifCond .eq 11, 3) := by decide +kernel
theorem dX9_blurring_38 : decode cX9_blurring 38 = .ok (.iload_n 1, 1) := by decide +kernel
theorem dX9_blurring_39 : decode cX9_blurring 39 = .ok (.aload_n 0, 1) := by decide +kernel
theorem dX9_blurring_40 : decode cX9_blurring 40 = .ok (.getfield 149, 3) := by decide +kernel
theorem dX9_blurring_43 : decode cX9_blurring 43 = .ok (.if_icmp .le 6, 3) := by decide +kernel
theorem dX9_blurring_46 : decode cX9_blurring 46 = .ok (.bipush (-3), 2) := by decide +kernel
theorem dX9_blurring_48 : decode cX9_blurring 48 = .ok (.ireturn, 1) := by decide +kernel
theorem dX9_blurring_49 : decode cX9_blurring 49 = .ok (.aload_n 0, 1) := by decide +kernel
theorem dX9_blurring_50 : decode cX9_blurring 50 = .ok (.iconst 0, 1) := by decide +kernel
theorem dX9_blurring_51 : decode cX9_blurring 51 = .ok (.putfield 149, 3) := by decide +kernel
theorem dX9_blurring_54 : decode cX9_blurring 54 = .ok (.aload_n 0, 1) := by decide +kernel
theorem dX9_blurring_55 : decode cX9_blurring 55 = .ok (.iload_n 1, 1) := by decide +kernel
theorem dX9_blurring_56 : decode cX9_blurring 56 = .ok (.invokevirtual 152, 3) := by decide +kernel
theorem dX9_blurring_59 : decode cX9_blurring 59 = .ok (.ifCond .ne 6, 3) := by decide +kernel
theorem dX9_blurring_62 : decode cX9_blurring 62 = .ok (.bipush (-2), 2) := by decide +kernel
theorem dX9_blurring_64 : decode cX9_blurring 64 = .ok (.ireturn, 1) := by decide +kernel
theorem dX9_blurring_65 : decode cX9_blurring 65 = .ok (.iconst 0, 1) := by decide +kernel
theorem dX9_blurring_66 : decode cX9_blurring 66 = .ok (.istore 5, 2) := by decide +kernel
theorem dX9_blurring_68 : decode cX9_blurring 68 = .ok (.ldc_w 351, 3) := by decide +kernel
theorem dX9_blurring_71 : decode cX9_blurring 71 = .ok (.istore 6, 2) := by decide +kernel
theorem dX9_blurring_73 : decode cX9_blurring 73 = .ok (.iconst 0, 1) := by decide +kernel
theorem dX9_blurring_74 : decode cX9_blurring 74 = .ok (.istore 7, 2) := by decide +kernel
theorem dX9_blurring_76 : decode cX9_blurring 76 = .ok (.iconst 0, 1) := by decide +kernel
theorem dX9_blurring_77 : decode cX9_blurring 77 = .ok (.istore 8, 2) := by decide +kernel
theorem dX9_blurring_79 : decode cX9_blurring 79 = .ok (.iload 8, 2) := by decide +kernel
theorem dX9_blurring_81 : decode cX9_blurring 81 = .ok (.sipush 625, 3) := by decide +kernel
theorem dX9_blurring_84 : decode cX9_blurring 84 = .ok (.if_icmp .ge 44, 3) := by decide +kernel
theorem dX9_blurring_87 : decode cX9_blurring 87 = .ok (.aload_n 0, 1) := by decide +kernel
theorem dX9_blurring_88 : decode cX9_blurring 88 = .ok (.iload_n 1, 1) := by decide +kernel
theorem dX9_blurring_89 : decode cX9_blurring 89 = .ok (.iload_n 2, 1) := by decide +kernel
theorem dX9_blurring_90 : decode cX9_blurring 90 = .ok (.iload_n 3, 1) := by decide +kernel
theorem dX9_blurring_91 : decode cX9_blurring 91 = .ok (.iload 8, 2) := by decide +kernel
theorem dX9_blurring_93 : decode cX9_blurring 93 = .ok (.invokevirtual 370, 3) := by decide +kernel
theorem dX9_blurring_96 : decode cX9_blurring 96 = .ok (.istore 9, 2) := by decide +kernel
theorem dX9_blurring_98 : decode cX9_blurring 98 = .ok (.iload 9, 2) := by decide +kernel
theorem dX9_blurring_100 : decode cX9_blurring 100 = .ok (.iload 6, 2) := by decide +kernel
theorem dX9_blurring_102 : decode cX9_blurring 102 = .ok (.if_icmp .lt 6, 3) := by decide +kernel
theorem dX9_blurring_105 : decode cX9_blurring 105 = .ok (.goto 17, 3) := by decide +kernel
theorem dX9_blurring_108 : decode cX9_blurring 108 = .ok (.iload 9, 2) := by decide +kernel
theorem dX9_blurring_110 : decode cX9_blurring 110 = .ok (.istore 6, 2) := by decide +kernel
theorem dX9_blurring_112 : decode cX9_blurring 112 = .ok (.iload 8, 2) := by decide +kernel
theorem dX9_blurring_114 : decode cX9_blurring 114 = .ok (.istore 5, 2) := by decide +kernel
theorem dX9_blurring_116 : decode cX9_blurring 116 = .ok (.aload_n 0, 1) := by decide +kernel
theorem dX9_blurring_117 : decode cX9_blurring 117 = .ok (.getfield 361, 3) := by decide +kernel
theorem dX9_blurring_120 : decode cX9_blurring 120 = .ok (.istore 7, 2) := by decide +kernel
theorem dX9_blurring_122 : decode cX9_blurring 122 = .ok (.iinc 8 1, 3) := by decide +kernel
theorem dX9_blurring_125 : decode cX9_blurring 125 = .ok (.goto (-46), 3) := by decide +kernel
theorem dX9_blurring_128 : decode cX9_blurring 128 = .ok (.iload 4, 2) := by decide +kernel
theorem dX9_blurring_130 : decode cX9_blurring 130 = .ok (.iconst (-1), 1) := by decide +kernel
theorem dX9_blurring_131 : decode cX9_blurring 131 = .ok (.if_icmp .ne 6, 3) := by decide +kernel
theorem dX9_blurring_134 : decode cX9_blurring 134 = .ok (.iload 6, 2) := by decide +kernel
theorem dX9_blurring_136 : decode cX9_blurring 136 = .ok (.ireturn, 1) := by decide +kernel
theorem dX9_blurring_137 : decode cX9_blurring 137 = .ok (.iload 4, 2) := by decide +kernel
theorem dX9_blurring_139 : decode cX9_blurring 139 = .ok (.iconst 4, 1) := by decide +kernel
theorem dX9_blurring_140 : decode cX9_blurring 140 = .ok (.if_icmp .ne 6, 3) := by decide +kernel
theorem dX9_blurring_143 : decode cX9_blurring 143 = .ok (.iload 7, 2) := by decide +kernel
theorem dX9_blurring_145 : decode cX9_blurring 145 = .ok (.ireturn, 1) := by decide +kernel
theorem dX9_blurring_146 : decode cX9_blurring 146 = .ok (.iconst 3, 1) := by decide +kernel
theorem dX9_blurring_147 : decode cX9_blurring 147 = .ok (.istore 8, 2) := by decide +kernel
theorem dX9_blurring_149 : decode cX9_blurring 149 = .ok (.iload 8, 2) := by decide +kernel
theorem dX9_blurring_151 : decode cX9_blurring 151 = .ok (.iload 4, 2) := by decide +kernel
theorem dX9_blurring_153 : decode cX9_blurring 153 = .ok (.if_icmp .le 15, 3) := by decide +kernel
theorem dX9_blurring_156 : decode cX9_blurring 156 = .ok (.iload 5, 2) := by decide +kernel
theorem dX9_blurring_158 : decode cX9_blurring 158 = .ok (.iconst 5, 1) := by decide +kernel
theorem dX9_blurring_159 : decode cX9_blurring 159 = .ok (.idiv, 1) := by decide +kernel
theorem dX9_blurring_160 : decode cX9_blurring 160 = .ok (.istore 5, 2) := by decide +kernel
theorem dX9_blurring_162 : decode cX9_blurring 162 = .ok (.iinc 8 (-1), 3) := by decide +kernel
theorem dX9_blurring_165 : decode cX9_blurring 165 = .ok (.goto (-16), 3) := by decide +kernel
theorem dX9_blurring_168 : decode cX9_blurring 168 = .ok (.iload 5, 2) := by decide +kernel
theorem dX9_blurring_170 : decode cX9_blurring 170 = .ok (.iconst 5, 1) := by decide +kernel
theorem dX9_blurring_171 : decode cX9_blurring 171 = .ok (.irem, 1) := by decide +kernel
theorem dX9_blurring_172 : decode cX9_blurring 172 = .ok (.ireturn, 1) := by decide +kernel
theorem dX9_bestSwap_0 : decode cX9_bestSwap 0 = .ok (.aload_n 0, 1) := by decide +kernel
theorem dX9_bestSwap_1 : decode cX9_bestSwap 1 = .ok (.iload_n 1, 1) := by decide +kernel
theorem dX9_bestSwap_2 : decode cX9_bestSwap 2 = .ok (.invokevirtual 136, 3) := by decide +kernel
theorem dX9_bestSwap_5 : decode cX9_bestSwap 5 = .ok (.ifCond .eq 19, 3) := by decide +kernel
theorem dX9_bestSwap_8 : decode cX9_bestSwap 8 = .ok (.iload_n 2, 1) := by decide +kernel
theorem dX9_bestSwap_9 : decode cX9_bestSwap 9 = .ok (.invokestatic 333, 3) := by decide +kernel
theorem dX9_bestSwap_12 : decode cX9_bestSwap 12 = .ok (.ifCond .eq 12, 3) := by decide +kernel
theorem dX9_bestSwap_15 : decode cX9_bestSwap 15 = .ok (.iload_n 3, 1) := by decide +kernel
theorem dX9_bestSwap_16 : decode cX9_bestSwap 16 = .ok (.iconst 0, 1) := by decide +kernel
theorem dX9_bestSwap_17 : decode cX9_bestSwap 17 = .ok (.iconst 3, 1) := by decide +kernel
theorem dX9_bestSwap_18 : decode cX9_bestSwap 18 = .ok (.invokestatic 115, 3) := by decide +kernel
theorem dX9_bestSwap_21 : decode cX9_bestSwap 21 = .ok (.ifCond .ne 5, 3) := by decide +kernel
theorem dX9_bestSwap_24 : decode cX9_bestSwap 24 = .ok (.iconst (-1), 1) := by decide +kernel
theorem dX9_bestSwap_25 : decode cX9_bestSwap 25 = .ok (.ireturn, 1) := by decide +kernel
theorem dX9_bestSwap_26 : decode cX9_bestSwap 26 = .ok (.iconst (-1), 1) := by decide +kernel
theorem dX9_bestSwap_27 : decode cX9_bestSwap 27 = .ok (.istore 4, 2) := by decide +kernel
theorem dX9_bestSwap_29 : decode cX9_bestSwap 29 = .ok (.iconst (-1), 1) := by decide +kernel
theorem dX9_bestSwap_30 : decode cX9_bestSwap 30 = .ok (.istore 5, 2) := by decide +kernel
theorem dX9_bestSwap_32 : decode cX9_bestSwap 32 = .ok (.iconst 0, 1) := by decide +kernel
theorem dX9_bestSwap_33 : decode cX9_bestSwap 33 = .ok (.istore 6, 2) := by decide +kernel
theorem dX9_bestSwap_35 : decode cX9_bestSwap 35 = .ok (.iload 6, 2) := by decide +kernel
theorem dX9_bestSwap_37 : decode cX9_bestSwap 37 = .ok (.iconst 4, 1) := by decide +kernel
theorem dX9_bestSwap_38 : decode cX9_bestSwap 38 = .ok (.if_icmp .ge 133, 3) := by decide +kernel
theorem dX9_bestSwap_41 : decode cX9_bestSwap 41 = .ok (.iconst 0, 1) := by decide +kernel
theorem dX9_bestSwap_42 : decode cX9_bestSwap 42 = .ok (.istore 7, 2) := by decide +kernel
theorem dX9_bestSwap_44 : decode cX9_bestSwap 44 = .ok (.iload 7, 2) := by decide +kernel
theorem dX9_bestSwap_46 : decode cX9_bestSwap 46 = .ok (.aload_n 0, 1) := by decide +kernel
theorem dX9_bestSwap_47 : decode cX9_bestSwap 47 = .ok (.getfield 22, 3) := by decide +kernel
theorem dX9_bestSwap_50 : decode cX9_bestSwap 50 = .ok (.iload_n 1, 1) := by decide +kernel
theorem dX9_bestSwap_51 : decode cX9_bestSwap 51 = .ok (.iaload, 1) := by decide +kernel
theorem dX9_bestSwap_52 : decode cX9_bestSwap 52 = .ok (.if_icmp .ge 113, 3) := by decide +kernel
theorem dX9_bestSwap_55 : decode cX9_bestSwap 55 = .ok (.iload 7, 2) := by decide +kernel
theorem dX9_bestSwap_57 : decode cX9_bestSwap 57 = .ok (.iconst 1, 1) := by decide +kernel
theorem dX9_bestSwap_58 : decode cX9_bestSwap 58 = .ok (.iadd, 1) := by decide +kernel
theorem dX9_bestSwap_59 : decode cX9_bestSwap 59 = .ok (.istore 8, 2) := by decide +kernel
theorem dX9_bestSwap_61 : decode cX9_bestSwap 61 = .ok (.iload 8, 2) := by decide +kernel
theorem dX9_bestSwap_63 : decode cX9_bestSwap 63 = .ok (.aload_n 0, 1) := by decide +kernel
theorem dX9_bestSwap_64 : decode cX9_bestSwap 64 = .ok (.getfield 22, 3) := by decide +kernel
theorem dX9_bestSwap_67 : decode cX9_bestSwap 67 = .ok (.iload_n 1, 1) := by decide +kernel
theorem dX9_bestSwap_68 : decode cX9_bestSwap 68 = .ok (.iaload, 1) := by decide +kernel
theorem dX9_bestSwap_69 : decode cX9_bestSwap 69 = .ok (.if_icmp .ge 90, 3) := by decide +kernel
theorem dX9_bestSwap_72 : decode cX9_bestSwap 72 = .ok (.aload_n 0, 1) := by decide +kernel
theorem dX9_bestSwap_73 : decode cX9_bestSwap 73 = .ok (.iload_n 1, 1) := by decide +kernel
theorem dX9_bestSwap_74 : decode cX9_bestSwap 74 = .ok (.iload 7, 2) := by decide +kernel
theorem dX9_bestSwap_76 : decode cX9_bestSwap 76 = .ok (.iload 8, 2) := by decide +kernel
theorem dX9_bestSwap_78 : decode cX9_bestSwap 78 = .ok (.iload 6, 2) := by decide +kernel
theorem dX9_bestSwap_80 : decode cX9_bestSwap 80 = .ok (.invokevirtual 161, 3) := by decide +kernel
theorem dX9_bestSwap_83 : decode cX9_bestSwap 83 = .ok (.ifCond .ne 6, 3) := by decide +kernel
theorem dX9_bestSwap_86 : decode cX9_bestSwap 86 = .ok (.goto 67, 3) := by decide +kernel
theorem dX9_bestSwap_89 : decode cX9_bestSwap 89 = .ok (.aload_n 0, 1) := by decide +kernel
theorem dX9_bestSwap_90 : decode cX9_bestSwap 90 = .ok (.iload_n 1, 1) := by decide +kernel
theorem dX9_bestSwap_91 : decode cX9_bestSwap 91 = .ok (.iload 7, 2) := by decide +kernel
theorem dX9_bestSwap_93 : decode cX9_bestSwap 93 = .ok (.iload 8, 2) := by decide +kernel
theorem dX9_bestSwap_95 : decode cX9_bestSwap 95 = .ok (.iload 6, 2) := by decide +kernel
theorem dX9_bestSwap_97 : decode cX9_bestSwap 97 = .ok (.invokevirtual 165, 3) := by decide +kernel
theorem dX9_bestSwap_100 : decode cX9_bestSwap 100 = .ok (.aload_n 0, 1) := by decide +kernel
theorem dX9_bestSwap_101 : decode cX9_bestSwap 101 = .ok (.iload_n 1, 1) := by decide +kernel
theorem dX9_bestSwap_102 : decode cX9_bestSwap 102 = .ok (.iload_n 2, 1) := by decide +kernel
theorem dX9_bestSwap_103 : decode cX9_bestSwap 103 = .ok (.iconst 0, 1) := by decide +kernel
theorem dX9_bestSwap_104 : decode cX9_bestSwap 104 = .ok (.invokevirtual 336, 3) := by decide +kernel
theorem dX9_bestSwap_107 : decode cX9_bestSwap 107 = .ok (.invokestatic 321, 3) := by decide +kernel
theorem dX9_bestSwap_110 : decode cX9_bestSwap 110 = .ok (.istore 9, 2) := by decide +kernel
theorem dX9_bestSwap_112 : decode cX9_bestSwap 112 = .ok (.aload_n 0, 1) := by decide +kernel
theorem dX9_bestSwap_113 : decode cX9_bestSwap 113 = .ok (.iload_n 1, 1) := by decide +kernel
theorem dX9_bestSwap_114 : decode cX9_bestSwap 114 = .ok (.iload 7, 2) := by decide +kernel
theorem dX9_bestSwap_116 : decode cX9_bestSwap 116 = .ok (.iload 8, 2) := by decide +kernel
theorem dX9_bestSwap_118 : decode cX9_bestSwap 118 = .ok (.iload 6, 2) := by decide +kernel
theorem dX9_bestSwap_120 : decode cX9_bestSwap 120 = .ok (.invokevirtual 165, 3) := by decide +kernel
theorem dX9_bestSwap_123 : decode cX9_bestSwap 123 = .ok (.iload 9, 2) := by decide +kernel
theorem dX9_bestSwap_125 : decode cX9_bestSwap 125 = .ok (.iload 5, 2) := by decide +kernel
theorem dX9_bestSwap_127 : decode cX9_bestSwap 127 = .ok (.if_icmp .gt 6, 3) := by decide +kernel
theorem dX9_bestSwap_130 : decode cX9_bestSwap 130 = .ok (.goto 23, 3) := by decide +kernel
theorem dX9_bestSwap_133 : decode cX9_bestSwap 133 = .ok (.iload 9, 2) := by decide +kernel
theorem dX9_bestSwap_135 : decode cX9_bestSwap 135 = .ok (.istore 5, 2) := by decide +kernel
theorem dX9_bestSwap_137 : decode cX9_bestSwap 137 = .ok (.bipush 64, 2) := by decide +kernel
theorem dX9_bestSwap_139 : decode cX9_bestSwap 139 = .ok (.iload 6, 2) := by decide +kernel
theorem dX9_bestSwap_141 : decode cX9_bestSwap 141 = .ok (.imul, 1) := by decide +kernel
theorem dX9_bestSwap_142 : decode cX9_bestSwap 142 = .ok (.bipush 8, 2) := by decide +kernel
theorem dX9_bestSwap_144 : decode cX9_bestSwap 144 = .ok (.iload 7, 2) := by decide +kernel
theorem dX9_bestSwap_146 : decode cX9_bestSwap 146 = .ok (.imul, 1) := by decide +kernel
theorem dX9_bestSwap_147 : decode cX9_bestSwap 147 = .ok (.iadd, 1) := by decide +kernel
theorem dX9_bestSwap_148 : decode cX9_bestSwap 148 = .ok (.iload 8, 2) := by decide +kernel
theorem dX9_bestSwap_150 : decode cX9_bestSwap 150 = .ok (.iadd, 1) := by decide +kernel
theorem dX9_bestSwap_151 : decode cX9_bestSwap 151 = .ok (.istore 4, 2) := by decide +kernel
theorem dX9_bestSwap_153 : decode cX9_bestSwap 153 = .ok (.iinc 8 1, 3) := by decide +kernel
theorem dX9_bestSwap_156 : decode cX9_bestSwap 156 = .ok (.goto (-95), 3) := by decide +kernel
theorem dX9_bestSwap_159 : decode cX9_bestSwap 159 = .ok (.iinc 7 1, 3) := by decide +kernel
theorem dX9_bestSwap_162 : decode cX9_bestSwap 162 = .ok (.goto (-118), 3) := by decide +kernel
theorem dX9_bestSwap_165 : decode cX9_bestSwap 165 = .ok (.iinc 6 1, 3) := by decide +kernel
theorem dX9_bestSwap_168 : decode cX9_bestSwap 168 = .ok (.goto (-133), 3) := by decide +kernel
theorem dX9_bestSwap_171 : decode cX9_bestSwap 171 = .ok (.iload 4, 2) := by decide +kernel
theorem dX9_bestSwap_173 : decode cX9_bestSwap 173 = .ok (.iconst (-1), 1) := by decide +kernel
theorem dX9_bestSwap_174 : decode cX9_bestSwap 174 = .ok (.if_icmp .ne 6, 3) := by decide +kernel
theorem dX9_bestSwap_177 : decode cX9_bestSwap 177 = .ok (.bipush (-2), 2) := by decide +kernel
theorem dX9_bestSwap_179 : decode cX9_bestSwap 179 = .ok (.ireturn, 1) := by decide +kernel
theorem dX9_bestSwap_180 : decode cX9_bestSwap 180 = .ok (.iload_n 3, 1) := by decide +kernel
theorem dX9_bestSwap_181 : decode cX9_bestSwap 181 = .ok (.ifCond .ne 11, 3) := by decide +kernel
theorem dX9_bestSwap_184 : decode cX9_bestSwap 184 = .ok (.iload 4, 2) := by decide +kernel
theorem dX9_bestSwap_186 : decode cX9_bestSwap 186 = .ok (.bipush 64, 2) := by decide +kernel
theorem dX9_bestSwap_188 : decode cX9_bestSwap 188 = .ok (.idiv, 1) := by decide +kernel
theorem dX9_bestSwap_189 : decode cX9_bestSwap 189 = .ok (.goto 34, 3) := by decide +kernel
theorem dX9_bestSwap_192 : decode cX9_bestSwap 192 = .ok (.iload_n 3, 1) := by decide +kernel
theorem dX9_bestSwap_193 : decode cX9_bestSwap 193 = .ok (.iconst 1, 1) := by decide +kernel
theorem dX9_bestSwap_194 : decode cX9_bestSwap 194 = .ok (.if_icmp .ne 14, 3) := by decide +kernel
theorem dX9_bestSwap_197 : decode cX9_bestSwap 197 = .ok (.iload 4, 2) := by decide +kernel
theorem dX9_bestSwap_199 : decode cX9_bestSwap 199 = .ok (.bipush 8, 2) := by decide +kernel
theorem dX9_bestSwap_201 : decode cX9_bestSwap 201 = .ok (.idiv, 1) := by decide +kernel
theorem dX9_bestSwap_202 : decode cX9_bestSwap 202 = .ok (.bipush 8, 2) := by decide +kernel
theorem dX9_bestSwap_204 : decode cX9_bestSwap 204 = .ok (.irem, 1) := by decide +kernel
theorem dX9_bestSwap_205 : decode cX9_bestSwap 205 = .ok (.goto 18, 3) := by decide +kernel
theorem dX9_bestSwap_208 : decode cX9_bestSwap 208 = .ok (.iload_n 3, 1) := by decide +kernel
theorem dX9_bestSwap_209 : decode cX9_bestSwap 209 = .ok (.iconst 2, 1) := by decide +kernel
theorem dX9_bestSwap_210 : decode cX9_bestSwap 210 = .ok (.if_icmp .ne 11, 3) := by decide +kernel
theorem dX9_bestSwap_213 : decode cX9_bestSwap 213 = .ok (.iload 4, 2) := by decide +kernel
theorem dX9_bestSwap_215 : decode cX9_bestSwap 215 = .ok (.bipush 8, 2) := by decide +kernel
theorem dX9_bestSwap_217 : decode cX9_bestSwap 217 = .ok (.irem, 1) := by decide +kernel
theorem dX9_bestSwap_218 : decode cX9_bestSwap 218 = .ok (.goto 5, 3) := by decide +kernel
theorem dX9_bestSwap_221 : decode cX9_bestSwap 221 = .ok (.iload 5, 2) := by decide +kernel
theorem dX9_bestSwap_223 : decode cX9_bestSwap 223 = .ok (.ireturn, 1) := by decide +kernel
theorem dX9_allLines_0 : decode cX9_allLines 0 = .ok (.iconst 0, 1) := by decide +kernel
theorem dX9_allLines_1 : decode cX9_allLines 1 = .ok (.istore_n 2, 1) := by decide +kernel
theorem dX9_allLines_2 : decode cX9_allLines 2 = .ok (.iconst 0, 1) := by decide +kernel
theorem dX9_allLines_3 : decode cX9_allLines 3 = .ok (.istore_n 3, 1) := by decide +kernel
theorem dX9_allLines_4 : decode cX9_allLines 4 = .ok (.iload_n 3, 1) := by decide +kernel
theorem dX9_allLines_5 : decode cX9_allLines 5 = .ok (.aload_n 0, 1) := by decide +kernel
theorem dX9_allLines_6 : decode cX9_allLines 6 = .ok (.getfield 22, 3) := by decide +kernel
theorem dX9_allLines_9 : decode cX9_allLines 9 = .ok (.iload_n 1, 1) := by decide +kernel
theorem dX9_allLines_10 : decode cX9_allLines 10 = .ok (.iaload, 1) := by decide +kernel
theorem dX9_allLines_11 : decode cX9_allLines 11 = .ok (.if_icmp .ge 32, 3) := by decide +kernel
theorem dX9_allLines_14 : decode cX9_allLines 14 = .ok (.aload_n 0, 1) := by decide +kernel
theorem dX9_allLines_15 : decode cX9_allLines 15 = .ok (.getfield 37, 3) := by decide +kernel
theorem dX9_allLines_18 : decode cX9_allLines 18 = .ok (.iload_n 1, 1) := by decide +kernel
theorem dX9_allLines_19 : decode cX9_allLines 19 = .ok (.iload_n 3, 1) := by decide +kernel
theorem dX9_allLines_20 : decode cX9_allLines 20 = .ok (.invokestatic 143, 3) := by decide +kernel
theorem dX9_allLines_23 : decode cX9_allLines 23 = .ok (.baload, 1) := by decide +kernel
theorem dX9_allLines_24 : decode cX9_allLines 24 = .ok (.ifCond .eq 7, 3) := by decide +kernel
theorem dX9_allLines_27 : decode cX9_allLines 27 = .ok (.iload_n 2, 1) := by decide +kernel
theorem dX9_allLines_28 : decode cX9_allLines 28 = .ok (.goto 8, 3) := by decide +kernel
theorem dX9_allLines_31 : decode cX9_allLines 31 = .ok (.iload_n 2, 1) := by decide +kernel
theorem dX9_allLines_32 : decode cX9_allLines 32 = .ok (.iconst 1, 1) := by decide +kernel
theorem dX9_allLines_33 : decode cX9_allLines 33 = .ok (.iload_n 3, 1) := by decide +kernel
theorem dX9_allLines_34 : decode cX9_allLines 34 = .ok (.ishl, 1) := by decide +kernel
theorem dX9_allLines_35 : decode cX9_allLines 35 = .ok (.ior, 1) := by decide +kernel
theorem dX9_allLines_36 : decode cX9_allLines 36 = .ok (.istore_n 2, 1) := by decide +kernel
theorem dX9_allLines_37 : decode cX9_allLines 37 = .ok (.iinc 3 1, 3) := by decide +kernel
theorem dX9_allLines_40 : decode cX9_allLines 40 = .ok (.goto (-36), 3) := by decide +kernel
theorem dX9_allLines_43 : decode cX9_allLines 43 = .ok (.iload_n 2, 1) := by decide +kernel
theorem dX9_allLines_44 : decode cX9_allLines 44 = .ok (.ireturn, 1) := by decide +kernel
theorem dX9_together_0 : decode cX9_together 0 = .ok (.iload_n 1, 1) := by decide +kernel
theorem dX9_together_1 : decode cX9_together 1 = .ok (.invokestatic 333, 3) := by decide +kernel
theorem dX9_together_4 : decode cX9_together 4 = .ok (.ifCond .eq 12, 3) := by decide +kernel
theorem dX9_together_7 : decode cX9_together 7 = .ok (.iload_n 2, 1) := by decide +kernel
theorem dX9_together_8 : decode cX9_together 8 = .ok (.iconst 0, 1) := by decide +kernel
theorem dX9_together_9 : decode cX9_together 9 = .ok (.iconst 2, 1) := by decide +kernel
theorem dX9_together_10 : decode cX9_together 10 = .ok (.invokestatic 115, 3) := by decide +kernel
theorem dX9_together_13 : decode cX9_together 13 = .ok (.ifCond .ne 5, 3) := by decide +kernel
theorem dX9_together_16 : decode cX9_together 16 = .ok (.iconst (-1), 1) := by decide +kernel
theorem dX9_together_17 : decode cX9_together 17 = .ok (.ireturn, 1) := by decide +kernel
theorem dX9_together_18 : decode cX9_together 18 = .ok (.aload_n 0, 1) := by decide +kernel
theorem dX9_together_19 : decode cX9_together 19 = .ok (.getfield 155, 3) := by decide +kernel
theorem dX9_together_22 : decode cX9_together 22 = .ok (.istore_n 3, 1) := by decide +kernel
theorem dX9_together_23 : decode cX9_together 23 = .ok (.iconst 0, 1) := by decide +kernel
theorem dX9_together_24 : decode cX9_together 24 = .ok (.istore 4, 2) := by decide +kernel
theorem dX9_together_26 : decode cX9_together 26 = .ok (.iload 4, 2) := by decide +kernel
theorem dX9_together_28 : decode cX9_together 28 = .ok (.aload_n 0, 1) := by decide +kernel
theorem dX9_together_29 : decode cX9_together 29 = .ok (.getfield 133, 3) := by decide +kernel
theorem dX9_together_32 : decode cX9_together 32 = .ok (.if_icmp .ge 140, 3) := by decide +kernel
theorem dX9_together_35 : decode cX9_together 35 = .ok (.iload_n 3, 1) := by decide +kernel
theorem dX9_together_36 : decode cX9_together 36 = .ok (.iload 4, 2) := by decide +kernel
theorem dX9_together_38 : decode cX9_together 38 = .ok (.ishr, 1) := by decide +kernel
theorem dX9_together_39 : decode cX9_together 39 = .ok (.iconst 1, 1) := by decide +kernel
theorem dX9_together_40 : decode cX9_together 40 = .ok (.iand, 1) := by decide +kernel
theorem dX9_together_41 : decode cX9_together 41 = .ok (.ifCond .ne 6, 3) := by decide +kernel
theorem dX9_together_44 : decode cX9_together 44 = .ok (.goto 122, 3) := by decide +kernel
theorem dX9_together_47 : decode cX9_together 47 = .ok (.aload_n 0, 1) := by decide +kernel
theorem dX9_together_48 : decode cX9_together 48 = .ok (.iconst 1, 1) := by decide +kernel
theorem dX9_together_49 : decode cX9_together 49 = .ok (.iload 4, 2) := by decide +kernel
theorem dX9_together_51 : decode cX9_together 51 = .ok (.ishl, 1) := by decide +kernel
theorem dX9_together_52 : decode cX9_together 52 = .ok (.putfield 155, 3) := by decide +kernel
theorem dX9_together_55 : decode cX9_together 55 = .ok (.aload_n 0, 1) := by decide +kernel
theorem dX9_together_56 : decode cX9_together 56 = .ok (.iload 4, 2) := by decide +kernel
theorem dX9_together_58 : decode cX9_together 58 = .ok (.iload_n 1, 1) := by decide +kernel
theorem dX9_together_59 : decode cX9_together 59 = .ok (.iconst 0, 1) := by decide +kernel
theorem dX9_together_60 : decode cX9_together 60 = .ok (.invokevirtual 336, 3) := by decide +kernel
theorem dX9_together_63 : decode cX9_together 63 = .ok (.aload_n 0, 1) := by decide +kernel
theorem dX9_together_64 : decode cX9_together 64 = .ok (.iload 4, 2) := by decide +kernel
theorem dX9_together_66 : decode cX9_together 66 = .ok (.invokevirtual 374, 3) := by decide +kernel
theorem dX9_together_69 : decode cX9_together 69 = .ok (.if_icmp .ne 7, 3) := by decide +kernel
theorem dX9_together_72 : decode cX9_together 72 = .ok (.iconst 1, 1) := by decide +kernel
theorem dX9_together_73 : decode cX9_together 73 = .ok (.goto 4, 3) := by decide +kernel
theorem dX9_together_76 : decode cX9_together 76 = .ok (.iconst 0, 1) := by decide +kernel
theorem dX9_together_77 : decode cX9_together 77 = .ok (.istore 5, 2) := by decide +kernel
theorem dX9_together_79 : decode cX9_together 79 = .ok (.aload_n 0, 1) := by decide +kernel
theorem dX9_together_80 : decode cX9_together 80 = .ok (.iload_n 3, 1) := by decide +kernel
theorem dX9_together_81 : decode cX9_together 81 = .ok (.putfield 155, 3) := by decide +kernel
theorem dX9_together_84 : decode cX9_together 84 = .ok (.aload_n 0, 1) := by decide +kernel
theorem dX9_together_85 : decode cX9_together 85 = .ok (.iload 4, 2) := by decide +kernel
theorem dX9_together_87 : decode cX9_together 87 = .ok (.invokevirtual 374, 3) := by decide +kernel
theorem dX9_together_90 : decode cX9_together 90 = .ok (.aload_n 0, 1) := by decide +kernel
theorem dX9_together_91 : decode cX9_together 91 = .ok (.iload 4, 2) := by decide +kernel
theorem dX9_together_93 : decode cX9_together 93 = .ok (.iload_n 1, 1) := by decide +kernel
theorem dX9_together_94 : decode cX9_together 94 = .ok (.iconst 0, 1) := by decide +kernel
theorem dX9_together_95 : decode cX9_together 95 = .ok (.invokevirtual 336, 3) := by decide +kernel
theorem dX9_together_98 : decode cX9_together 98 = .ok (.iconst (-1), 1) := by decide +kernel
theorem dX9_together_99 : decode cX9_together 99 = .ok (.ixor, 1) := by decide +kernel
theorem dX9_together_100 : decode cX9_together 100 = .ok (.iand, 1) := by decide +kernel
theorem dX9_together_101 : decode cX9_together 101 = .ok (.istore 6, 2) := by decide +kernel
theorem dX9_together_103 : decode cX9_together 103 = .ok (.iload 5, 2) := by decide +kernel
theorem dX9_together_105 : decode cX9_together 105 = .ok (.ifCond .eq 61, 3) := by decide +kernel
theorem dX9_together_108 : decode cX9_together 108 = .ok (.iload 6, 2) := by decide +kernel
theorem dX9_together_110 : decode cX9_together 110 = .ok (.ifCond .ne 6, 3) := by decide +kernel
theorem dX9_together_113 : decode cX9_together 113 = .ok (.goto 53, 3) := by decide +kernel
theorem dX9_together_116 : decode cX9_together 116 = .ok (.iconst 0, 1) := by decide +kernel
theorem dX9_together_117 : decode cX9_together 117 = .ok (.istore 7, 2) := by decide +kernel
theorem dX9_together_119 : decode cX9_together 119 = .ok (.iload 6, 2) := by decide +kernel
theorem dX9_together_121 : decode cX9_together 121 = .ok (.iload 7, 2) := by decide +kernel
theorem dX9_together_123 : decode cX9_together 123 = .ok (.ishr, 1) := by decide +kernel
theorem dX9_together_124 : decode cX9_together 124 = .ok (.iconst 1, 1) := by decide +kernel
theorem dX9_together_125 : decode cX9_together 125 = .ok (.iand, 1) := by decide +kernel
theorem dX9_together_126 : decode cX9_together 126 = .ok (.ifCond .ne 12, 3) := by decide +kernel
theorem dX9_together_129 : decode cX9_together 129 = .ok (.iload 7, 2) := by decide +kernel
theorem dX9_together_131 : decode cX9_together 131 = .ok (.iconst 1, 1) := by decide +kernel
theorem dX9_together_132 : decode cX9_together 132 = .ok (.iadd, 1) := by decide +kernel
theorem dX9_together_133 : decode cX9_together 133 = .ok (.istore 7, 2) := by decide +kernel
theorem dX9_together_135 : decode cX9_together 135 = .ok (.goto (-16), 3) := by decide +kernel
theorem dX9_together_138 : decode cX9_together 138 = .ok (.iload_n 2, 1) := by decide +kernel
theorem dX9_together_139 : decode cX9_together 139 = .ok (.ifCond .ne 8, 3) := by decide +kernel
theorem dX9_together_142 : decode cX9_together 142 = .ok (.iload 4, 2) := by decide +kernel
theorem dX9_together_144 : decode cX9_together 144 = .ok (.goto 21, 3) := by decide +kernel
theorem dX9_together_147 : decode cX9_together 147 = .ok (.iload_n 2, 1) := by decide +kernel
theorem dX9_together_148 : decode cX9_together 148 = .ok (.iconst 1, 1) := by decide +kernel
theorem dX9_together_149 : decode cX9_together 149 = .ok (.if_icmp .ne 8, 3) := by decide +kernel
theorem dX9_together_152 : decode cX9_together 152 = .ok (.iload 7, 2) := by decide +kernel
theorem dX9_together_154 : decode cX9_together 154 = .ok (.goto 11, 3) := by decide +kernel
theorem dX9_together_157 : decode cX9_together 157 = .ok (.aload_n 0, 1) := by decide +kernel
theorem dX9_together_158 : decode cX9_together 158 = .ok (.iload 4, 2) := by decide +kernel
theorem dX9_together_160 : decode cX9_together 160 = .ok (.iload 7, 2) := by decide +kernel
theorem dX9_together_162 : decode cX9_together 162 = .ok (.invokevirtual 318, 3) := by decide +kernel
theorem dX9_together_165 : decode cX9_together 165 = .ok (.ireturn, 1) := by decide +kernel
theorem dX9_together_166 : decode cX9_together 166 = .ok (.iinc 4 1, 3) := by decide +kernel
theorem dX9_together_169 : decode cX9_together 169 = .ok (.goto (-143), 3) := by decide +kernel
theorem dX9_together_172 : decode cX9_together 172 = .ok (.bipush (-2), 2) := by decide +kernel
theorem dX9_together_174 : decode cX9_together 174 = .ok (.ireturn, 1) := by decide +kernel
theorem dX9_loss_0 : decode cX9_loss 0 = .ok (.aload_n 0, 1) := by decide +kernel
theorem dX9_loss_1 : decode cX9_loss 1 = .ok (.iload_n 1, 1) := by decide +kernel
theorem dX9_loss_2 : decode cX9_loss 2 = .ok (.invokevirtual 136, 3) := by decide +kernel
theorem dX9_loss_5 : decode cX9_loss 5 = .ok (.ifCond .ne 5, 3) := by decide +kernel
theorem dX9_loss_8 : decode cX9_loss 8 = .ok (.iconst (-1), 1) := by decide +kernel
theorem dX9_loss_9 : decode cX9_loss 9 = .ok (.ireturn, 1) := by decide +kernel
theorem dX9_loss_10 : decode cX9_loss 10 = .ok (.iconst 0, 1) := by decide +kernel
theorem dX9_loss_11 : decode cX9_loss 11 = .ok (.istore_n 2, 1) := by decide +kernel
theorem dX9_loss_12 : decode cX9_loss 12 = .ok (.iconst 0, 1) := by decide +kernel
theorem dX9_loss_13 : decode cX9_loss 13 = .ok (.istore_n 3, 1) := by decide +kernel
theorem dX9_loss_14 : decode cX9_loss 14 = .ok (.iload_n 3, 1) := by decide +kernel
theorem dX9_loss_15 : decode cX9_loss 15 = .ok (.aload_n 0, 1) := by decide +kernel
theorem dX9_loss_16 : decode cX9_loss 16 = .ok (.getfield 22, 3) := by decide +kernel
theorem dX9_loss_19 : decode cX9_loss 19 = .ok (.iload_n 1, 1) := by decide +kernel
theorem dX9_loss_20 : decode cX9_loss 20 = .ok (.iaload, 1) := by decide +kernel
theorem dX9_loss_21 : decode cX9_loss 21 = .ok (.if_icmp .ge 61, 3) := by decide +kernel
theorem dX9_loss_24 : decode cX9_loss 24 = .ok (.iconst 0, 1) := by decide +kernel
theorem dX9_loss_25 : decode cX9_loss 25 = .ok (.istore 4, 2) := by decide +kernel
theorem dX9_loss_27 : decode cX9_loss 27 = .ok (.iload 4, 2) := by decide +kernel
theorem dX9_loss_29 : decode cX9_loss 29 = .ok (.iconst 4, 1) := by decide +kernel
theorem dX9_loss_30 : decode cX9_loss 30 = .ok (.if_icmp .ge 46, 3) := by decide +kernel
theorem dX9_loss_33 : decode cX9_loss 33 = .ok (.aload_n 0, 1) := by decide +kernel
theorem dX9_loss_34 : decode cX9_loss 34 = .ok (.getfield 37, 3) := by decide +kernel
theorem dX9_loss_37 : decode cX9_loss 37 = .ok (.iload_n 1, 1) := by decide +kernel
theorem dX9_loss_38 : decode cX9_loss 38 = .ok (.iload_n 3, 1) := by decide +kernel
theorem dX9_loss_39 : decode cX9_loss 39 = .ok (.invokestatic 143, 3) := by decide +kernel
theorem dX9_loss_42 : decode cX9_loss 42 = .ok (.baload, 1) := by decide +kernel
theorem dX9_loss_43 : decode cX9_loss 43 = .ok (.ifCond .ne 33, 3) := by decide +kernel
theorem dX9_loss_46 : decode cX9_loss 46 = .ok (.iload_n 2, 1) := by decide +kernel
theorem dX9_loss_47 : decode cX9_loss 47 = .ok (.aload_n 0, 1) := by decide +kernel
theorem dX9_loss_48 : decode cX9_loss 48 = .ok (.iload 4, 2) := by decide +kernel
theorem dX9_loss_50 : decode cX9_loss 50 = .ok (.aload_n 0, 1) := by decide +kernel
theorem dX9_loss_51 : decode cX9_loss 51 = .ok (.getfield 28, 3) := by decide +kernel
theorem dX9_loss_54 : decode cX9_loss 54 = .ok (.iconst 4, 1) := by decide +kernel
theorem dX9_loss_55 : decode cX9_loss 55 = .ok (.iload_n 1, 1) := by decide +kernel
theorem dX9_loss_56 : decode cX9_loss 56 = .ok (.iload_n 3, 1) := by decide +kernel
theorem dX9_loss_57 : decode cX9_loss 57 = .ok (.invokestatic 143, 3) := by decide +kernel
theorem dX9_loss_60 : decode cX9_loss 60 = .ok (.imul, 1) := by decide +kernel
theorem dX9_loss_61 : decode cX9_loss 61 = .ok (.iload 4, 2) := by decide +kernel
theorem dX9_loss_63 : decode cX9_loss 63 = .ok (.iadd, 1) := by decide +kernel
theorem dX9_loss_64 : decode cX9_loss 64 = .ok (.iaload, 1) := by decide +kernel
theorem dX9_loss_65 : decode cX9_loss 65 = .ok (.invokevirtual 364, 3) := by decide +kernel
theorem dX9_loss_68 : decode cX9_loss 68 = .ok (.iadd, 1) := by decide +kernel
theorem dX9_loss_69 : decode cX9_loss 69 = .ok (.istore_n 2, 1) := by decide +kernel
theorem dX9_loss_70 : decode cX9_loss 70 = .ok (.iinc 4 1, 3) := by decide +kernel
theorem dX9_loss_73 : decode cX9_loss 73 = .ok (.goto (-46), 3) := by decide +kernel
theorem dX9_loss_76 : decode cX9_loss 76 = .ok (.iinc 3 1, 3) := by decide +kernel
theorem dX9_loss_79 : decode cX9_loss 79 = .ok (.goto (-65), 3) := by decide +kernel
theorem dX9_loss_82 : decode cX9_loss 82 = .ok (.iload_n 2, 1) := by decide +kernel
theorem dX9_loss_83 : decode cX9_loss 83 = .ok (.ireturn, 1) := by decide +kernel
theorem dX9_tapeNumber_0 : decode cX9_tapeNumber 0 = .ok (.iconst 0, 1) := by decide +kernel
theorem dX9_tapeNumber_1 : decode cX9_tapeNumber 1 = .ok (.istore_n 2, 1) := by decide +kernel
theorem dX9_tapeNumber_2 : decode cX9_tapeNumber 2 = .ok (.iconst 4, 1) := by decide +kernel
theorem dX9_tapeNumber_3 : decode cX9_tapeNumber 3 = .ok (.iload_n 1, 1) := by decide +kernel
theorem dX9_tapeNumber_4 : decode cX9_tapeNumber 4 = .ok (.imul, 1) := by decide +kernel
theorem dX9_tapeNumber_5 : decode cX9_tapeNumber 5 = .ok (.istore_n 3, 1) := by decide +kernel
theorem dX9_tapeNumber_6 : decode cX9_tapeNumber 6 = .ok (.iload_n 3, 1) := by decide +kernel
theorem dX9_tapeNumber_7 : decode cX9_tapeNumber 7 = .ok (.iconst 4, 1) := by decide +kernel
theorem dX9_tapeNumber_8 : decode cX9_tapeNumber 8 = .ok (.iload_n 1, 1) := by decide +kernel
theorem dX9_tapeNumber_9 : decode cX9_tapeNumber 9 = .ok (.imul, 1) := by decide +kernel
theorem dX9_tapeNumber_10 : decode cX9_tapeNumber 10 = .ok (.iconst 4, 1) := by decide +kernel
theorem dX9_tapeNumber_11 : decode cX9_tapeNumber 11 = .ok (.iadd, 1) := by decide +kernel
theorem dX9_tapeNumber_12 : decode cX9_tapeNumber 12 = .ok (.if_icmp .ge 25, 3) := by decide +kernel
theorem dX9_tapeNumber_15 : decode cX9_tapeNumber 15 = .ok (.iload_n 2, 1) := by decide +kernel
theorem dX9_tapeNumber_16 : decode cX9_tapeNumber 16 = .ok (.bipush 8, 2) := by decide +kernel
theorem dX9_tapeNumber_18 : decode cX9_tapeNumber 18 = .ok (.ishl, 1) := by decide +kernel
theorem dX9_tapeNumber_19 : decode cX9_tapeNumber 19 = .ok (.aload_n 0, 1) := by decide +kernel
theorem dX9_tapeNumber_20 : decode cX9_tapeNumber 20 = .ok (.getfield 41, 3) := by decide +kernel
theorem dX9_tapeNumber_23 : decode cX9_tapeNumber 23 = .ok (.iload_n 3, 1) := by decide +kernel
theorem dX9_tapeNumber_24 : decode cX9_tapeNumber 24 = .ok (.baload, 1) := by decide +kernel
theorem dX9_tapeNumber_25 : decode cX9_tapeNumber 25 = .ok (.sipush 255, 3) := by decide +kernel
theorem dX9_tapeNumber_28 : decode cX9_tapeNumber 28 = .ok (.iand, 1) := by decide +kernel
theorem dX9_tapeNumber_29 : decode cX9_tapeNumber 29 = .ok (.ior, 1) := by decide +kernel
theorem dX9_tapeNumber_30 : decode cX9_tapeNumber 30 = .ok (.istore_n 2, 1) := by decide +kernel
theorem dX9_tapeNumber_31 : decode cX9_tapeNumber 31 = .ok (.iinc 3 1, 3) := by decide +kernel
theorem dX9_tapeNumber_34 : decode cX9_tapeNumber 34 = .ok (.goto (-28), 3) := by decide +kernel
theorem dX9_tapeNumber_37 : decode cX9_tapeNumber 37 = .ok (.iload_n 2, 1) := by decide +kernel
theorem dX9_tapeNumber_38 : decode cX9_tapeNumber 38 = .ok (.ireturn, 1) := by decide +kernel
theorem dX9_check_0 : decode cX9_check 0 = .ok (.aload_n 0, 1) := by decide +kernel
theorem dX9_check_1 : decode cX9_check 1 = .ok (.iload_n 1, 1) := by decide +kernel
theorem dX9_check_2 : decode cX9_check 2 = .ok (.iload_n 2, 1) := by decide +kernel
theorem dX9_check_3 : decode cX9_check 3 = .ok (.invokevirtual 158, 3) := by decide +kernel
theorem dX9_check_6 : decode cX9_check 6 = .ok (.ifCond .eq 22, 3) := by decide +kernel
theorem dX9_check_9 : decode cX9_check 9 = .ok (.iload_n 3, 1) := by decide +kernel
theorem dX9_check_10 : decode cX9_check 10 = .ok (.iconst 0, 1) := by decide +kernel
theorem dX9_check_11 : decode cX9_check 11 = .ok (.iconst 4, 1) := by decide +kernel
theorem dX9_check_12 : decode cX9_check 12 = .ok (.invokestatic 115, 3) := by decide +kernel
theorem dX9_check_15 : decode cX9_check 15 = .ok (.ifCond .eq 13, 3) := by decide +kernel
theorem dX9_check_18 : decode cX9_check 18 = .ok (.iload_n 3, 1) := by decide +kernel
theorem dX9_check_19 : decode cX9_check 19 = .ok (.aload_n 0, 1) := by decide +kernel
theorem dX9_check_20 : decode cX9_check 20 = .ok (.getfield 149, 3) := by decide +kernel
theorem dX9_check_23 : decode cX9_check 23 = .ok (.iconst 4, 1) := by decide +kernel
theorem dX9_check_24 : decode cX9_check 24 = .ok (.idiv, 1) := by decide +kernel
theorem dX9_check_25 : decode cX9_check 25 = .ok (.if_icmp .le 6, 3) := by decide +kernel
theorem dX9_check_28 : decode cX9_check 28 = .ok (.bipush (-2), 2) := by decide +kernel
theorem dX9_check_30 : decode cX9_check 30 = .ok (.ireturn, 1) := by decide +kernel
theorem dX9_check_31 : decode cX9_check 31 = .ok (.aload_n 0, 1) := by decide +kernel
theorem dX9_check_32 : decode cX9_check 32 = .ok (.iconst 0, 1) := by decide +kernel
theorem dX9_check_33 : decode cX9_check 33 = .ok (.putfield 149, 3) := by decide +kernel
theorem dX9_check_36 : decode cX9_check 36 = .ok (.iconst 0, 1) := by decide +kernel
theorem dX9_check_37 : decode cX9_check 37 = .ok (.istore 4, 2) := by decide +kernel
theorem dX9_check_39 : decode cX9_check 39 = .ok (.iload 4, 2) := by decide +kernel
theorem dX9_check_41 : decode cX9_check 41 = .ok (.iload_n 3, 1) := by decide +kernel
theorem dX9_check_42 : decode cX9_check 42 = .ok (.if_icmp .ge 36, 3) := by decide +kernel
theorem dX9_check_45 : decode cX9_check 45 = .ok (.aload_n 0, 1) := by decide +kernel
theorem dX9_check_46 : decode cX9_check 46 = .ok (.iload 4, 2) := by decide +kernel
theorem dX9_check_48 : decode cX9_check 48 = .ok (.invokevirtual 377, 3) := by decide +kernel
theorem dX9_check_51 : decode cX9_check 51 = .ok (.aload_n 0, 1) := by decide +kernel
theorem dX9_check_52 : decode cX9_check 52 = .ok (.getfield 28, 3) := by decide +kernel
theorem dX9_check_55 : decode cX9_check 55 = .ok (.iconst 4, 1) := by decide +kernel
theorem dX9_check_56 : decode cX9_check 56 = .ok (.iload_n 1, 1) := by decide +kernel
theorem dX9_check_57 : decode cX9_check 57 = .ok (.iload_n 2, 1) := by decide +kernel
theorem dX9_check_58 : decode cX9_check 58 = .ok (.invokestatic 143, 3) := by decide +kernel
theorem dX9_check_61 : decode cX9_check 61 = .ok (.imul, 1) := by decide +kernel
theorem dX9_check_62 : decode cX9_check 62 = .ok (.iload 4, 2) := by decide +kernel
theorem dX9_check_64 : decode cX9_check 64 = .ok (.iadd, 1) := by decide +kernel
theorem dX9_check_65 : decode cX9_check 65 = .ok (.iaload, 1) := by decide +kernel
theorem dX9_check_66 : decode cX9_check 66 = .ok (.if_icmp .eq 6, 3) := by decide +kernel
theorem dX9_check_69 : decode cX9_check 69 = .ok (.iload 4, 2) := by decide +kernel
theorem dX9_check_71 : decode cX9_check 71 = .ok (.ireturn, 1) := by decide +kernel
theorem dX9_check_72 : decode cX9_check 72 = .ok (.iinc 4 1, 3) := by decide +kernel
theorem dX9_check_75 : decode cX9_check 75 = .ok (.goto (-36), 3) := by decide +kernel
theorem dX9_check_78 : decode cX9_check 78 = .ok (.iconst (-1), 1) := by decide +kernel
theorem dX9_check_79 : decode cX9_check 79 = .ok (.ireturn, 1) := by decide +kernel
theorem dX9_count_0 : decode cX9_count 0 = .ok (.iload_n 1, 1) := by decide +kernel
theorem dX9_count_1 : decode cX9_count 1 = .ok (.tableswitch 69 0 5 #[39, 44, 49, 54, 59, 64], 39) := by decide +kernel
theorem dX9_count_40 : decode cX9_count 40 = .ok (.aload_n 0, 1) := by decide +kernel
theorem dX9_count_41 : decode cX9_count 41 = .ok (.getfield 107, 3) := by decide +kernel
theorem dX9_count_44 : decode cX9_count 44 = .ok (.ireturn, 1) := by decide +kernel
theorem dX9_count_45 : decode cX9_count 45 = .ok (.aload_n 0, 1) := by decide +kernel
theorem dX9_count_46 : decode cX9_count 46 = .ok (.getfield 133, 3) := by decide +kernel
theorem dX9_count_49 : decode cX9_count 49 = .ok (.ireturn, 1) := by decide +kernel
theorem dX9_count_50 : decode cX9_count 50 = .ok (.aload_n 0, 1) := by decide +kernel
theorem dX9_count_51 : decode cX9_count 51 = .ok (.getfield 169, 3) := by decide +kernel
theorem dX9_count_54 : decode cX9_count 54 = .ok (.ireturn, 1) := by decide +kernel
theorem dX9_count_55 : decode cX9_count 55 = .ok (.aload_n 0, 1) := by decide +kernel
theorem dX9_count_56 : decode cX9_count 56 = .ok (.getfield 261, 3) := by decide +kernel
theorem dX9_count_59 : decode cX9_count 59 = .ok (.ireturn, 1) := by decide +kernel
theorem dX9_count_60 : decode cX9_count 60 = .ok (.aload_n 0, 1) := by decide +kernel
theorem dX9_count_61 : decode cX9_count 61 = .ok (.getfield 149, 3) := by decide +kernel
theorem dX9_count_64 : decode cX9_count 64 = .ok (.ireturn, 1) := by decide +kernel
theorem dX9_count_65 : decode cX9_count 65 = .ok (.aload_n 0, 1) := by decide +kernel
theorem dX9_count_66 : decode cX9_count 66 = .ok (.getfield 155, 3) := by decide +kernel
theorem dX9_count_69 : decode cX9_count 69 = .ok (.ireturn, 1) := by decide +kernel
theorem dX9_count_70 : decode cX9_count 70 = .ok (.iload_n 1, 1) := by decide +kernel
theorem dX9_count_71 : decode cX9_count 71 = .ok (.bipush 10, 2) := by decide +kernel
theorem dX9_count_73 : decode cX9_count 73 = .ok (.bipush 9, 2) := by decide +kernel
theorem dX9_count_75 : decode cX9_count 75 = .ok (.aload_n 0, 1) := by decide +kernel
theorem dX9_count_76 : decode cX9_count 76 = .ok (.getfield 133, 3) := by decide +kernel
theorem dX9_count_79 : decode cX9_count 79 = .ok (.iadd, 1) := by decide +kernel
theorem dX9_count_80 : decode cX9_count 80 = .ok (.invokestatic 115, 3) := by decide +kernel
theorem dX9_count_83 : decode cX9_count 83 = .ok (.ifCond .eq 13, 3) := by decide +kernel
theorem dX9_count_86 : decode cX9_count 86 = .ok (.aload_n 0, 1) := by decide +kernel
theorem dX9_count_87 : decode cX9_count 87 = .ok (.getfield 22, 3) := by decide +kernel
theorem dX9_count_90 : decode cX9_count 90 = .ok (.iload_n 1, 1) := by decide +kernel
theorem dX9_count_91 : decode cX9_count 91 = .ok (.bipush 10, 2) := by decide +kernel
theorem dX9_count_93 : decode cX9_count 93 = .ok (.isub, 1) := by decide +kernel
theorem dX9_count_94 : decode cX9_count 94 = .ok (.iaload, 1) := by decide +kernel
theorem dX9_count_95 : decode cX9_count 95 = .ok (.ireturn, 1) := by decide +kernel
theorem dX9_count_96 : decode cX9_count 96 = .ok (.iload_n 1, 1) := by decide +kernel
theorem dX9_count_97 : decode cX9_count 97 = .ok (.bipush 20, 2) := by decide +kernel
theorem dX9_count_99 : decode cX9_count 99 = .ok (.bipush 23, 2) := by decide +kernel
theorem dX9_count_101 : decode cX9_count 101 = .ok (.invokestatic 115, 3) := by decide +kernel
theorem dX9_count_104 : decode cX9_count 104 = .ok (.ifCond .eq 13, 3) := by decide +kernel
theorem dX9_count_107 : decode cX9_count 107 = .ok (.aload_n 0, 1) := by decide +kernel
theorem dX9_count_108 : decode cX9_count 108 = .ok (.getfield 13, 3) := by decide +kernel
theorem dX9_count_111 : decode cX9_count 111 = .ok (.iload_n 1, 1) := by decide +kernel
theorem dX9_count_112 : decode cX9_count 112 = .ok (.bipush 20, 2) := by decide +kernel
theorem dX9_count_114 : decode cX9_count 114 = .ok (.isub, 1) := by decide +kernel
theorem dX9_count_115 : decode cX9_count 115 = .ok (.iaload, 1) := by decide +kernel
theorem dX9_count_116 : decode cX9_count 116 = .ok (.ireturn, 1) := by decide +kernel
theorem dX9_count_117 : decode cX9_count 117 = .ok (.iload_n 1, 1) := by decide +kernel
theorem dX9_count_118 : decode cX9_count 118 = .ok (.bipush 30, 2) := by decide +kernel
theorem dX9_count_120 : decode cX9_count 120 = .ok (.bipush 29, 2) := by decide +kernel
theorem dX9_count_122 : decode cX9_count 122 = .ok (.aload_n 0, 1) := by decide +kernel
theorem dX9_count_123 : decode cX9_count 123 = .ok (.getfield 107, 3) := by decide +kernel
theorem dX9_count_126 : decode cX9_count 126 = .ok (.iadd, 1) := by decide +kernel
theorem dX9_count_127 : decode cX9_count 127 = .ok (.invokestatic 115, 3) := by decide +kernel
theorem dX9_count_130 : decode cX9_count 130 = .ok (.ifCond .eq 15, 3) := by decide +kernel
theorem dX9_count_133 : decode cX9_count 133 = .ok (.aload_n 0, 1) := by decide +kernel
theorem dX9_count_134 : decode cX9_count 134 = .ok (.getfield 19, 3) := by decide +kernel
theorem dX9_count_137 : decode cX9_count 137 = .ok (.iload_n 1, 1) := by decide +kernel
theorem dX9_count_138 : decode cX9_count 138 = .ok (.bipush 30, 2) := by decide +kernel
theorem dX9_count_140 : decode cX9_count 140 = .ok (.isub, 1) := by decide +kernel
theorem dX9_count_141 : decode cX9_count 141 = .ok (.iaload, 1) := by decide +kernel
theorem dX9_count_142 : decode cX9_count 142 = .ok (.goto 4, 3) := by decide +kernel
theorem dX9_count_145 : decode cX9_count 145 = .ok (.iconst (-1), 1) := by decide +kernel
theorem dX9_count_146 : decode cX9_count 146 = .ok (.ireturn, 1) := by decide +kernel

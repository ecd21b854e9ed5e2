theorem dX8_person_0 : decode cX8_person 0 = .ok (.iload_n 1, 1) := by decide +kernel
theorem dX8_person_1 : decode cX8_person 1 = .ok (.invokestatic 101, 3) := by decide +kernel
theorem dX8_person_4 : decode cX8_person 4 = .ok (.ifCond .eq 34, 3) := by decide +kernel
theorem dX8_person_7 : decode cX8_person 7 = .ok (.iload_n 2, 1) := by decide +kernel
theorem dX8_person_8 : decode cX8_person 8 = .ok (.invokestatic 101, 3) := by decide +kernel
theorem dX8_person_11 : decode cX8_person 11 = .ok (.ifCond .eq 27, 3) := by decide +kernel
theorem dX8_person_14 : decode cX8_person 14 = .ok (.iload_n 3, 1) := by decide +kernel
theorem dX8_person_15 : decode cX8_person 15 = .ok (.invokestatic 101, 3) := by decide +kernel
theorem dX8_person_18 : decode cX8_person 18 = .ok (.ifCond .eq 20, 3) := by decide +kernel
theorem dX8_person_21 : decode cX8_person 21 = .ok (.iload 4, 2) := by decide +kernel
theorem dX8_person_23 : decode cX8_person 23 = .ok (.invokestatic 101, 3) := by decide +kernel
theorem dX8_person_26 : decode cX8_person 26 = .ok (.ifCond .eq 12, 3) := by decide +kernel
theorem dX8_person_29 : decode cX8_person 29 = .ok (.aload_n 0, 1) := by decide +kernel
theorem dX8_person_30 : decode cX8_person 30 = .ok (.getfield 74, 3) := by decide +kernel
theorem dX8_person_33 : decode cX8_person 33 = .ok (.bipush 16, 2) := by decide +kernel
theorem dX8_person_35 : decode cX8_person 35 = .ok (.if_icmp .lt 5, 3) := by decide +kernel
theorem dX8_person_38 : decode cX8_person 38 = .ok (.iconst (-1), 1) := by decide +kernel
theorem dX8_person_39 : decode cX8_person 39 = .ok (.ireturn, 1) := by decide +kernel
theorem dX8_person_40 : decode cX8_person 40 = .ok (.aload_n 0, 1) := by decide +kernel
theorem dX8_person_41 : decode cX8_person 41 = .ok (.getfield 74, 3) := by decide +kernel
theorem dX8_person_44 : decode cX8_person 44 = .ok (.istore 5, 2) := by decide +kernel
theorem dX8_person_46 : decode cX8_person 46 = .ok (.aload_n 0, 1) := by decide +kernel
theorem dX8_person_47 : decode cX8_person 47 = .ok (.dup, 1) := by decide +kernel
theorem dX8_person_48 : decode cX8_person 48 = .ok (.getfield 74, 3) := by decide +kernel
theorem dX8_person_51 : decode cX8_person 51 = .ok (.iconst 1, 1) := by decide +kernel
theorem dX8_person_52 : decode cX8_person 52 = .ok (.iadd, 1) := by decide +kernel
theorem dX8_person_53 : decode cX8_person 53 = .ok (.putfield 74, 3) := by decide +kernel
theorem dX8_person_56 : decode cX8_person 56 = .ok (.aload_n 0, 1) := by decide +kernel
theorem dX8_person_57 : decode cX8_person 57 = .ok (.getfield 11, 3) := by decide +kernel
theorem dX8_person_60 : decode cX8_person 60 = .ok (.iconst 0, 1) := by decide +kernel
theorem dX8_person_61 : decode cX8_person 61 = .ok (.aaload, 1) := by decide +kernel
theorem dX8_person_62 : decode cX8_person 62 = .ok (.iload 5, 2) := by decide +kernel
theorem dX8_person_64 : decode cX8_person 64 = .ok (.iload_n 1, 1) := by decide +kernel
theorem dX8_person_65 : decode cX8_person 65 = .ok (.invokevirtual 104, 3) := by decide +kernel
theorem dX8_person_68 : decode cX8_person 68 = .ok (.aload_n 0, 1) := by decide +kernel
theorem dX8_person_69 : decode cX8_person 69 = .ok (.getfield 11, 3) := by decide +kernel
theorem dX8_person_72 : decode cX8_person 72 = .ok (.iconst 1, 1) := by decide +kernel
theorem dX8_person_73 : decode cX8_person 73 = .ok (.aaload, 1) := by decide +kernel
theorem dX8_person_74 : decode cX8_person 74 = .ok (.iload 5, 2) := by decide +kernel
theorem dX8_person_76 : decode cX8_person 76 = .ok (.iload_n 2, 1) := by decide +kernel
theorem dX8_person_77 : decode cX8_person 77 = .ok (.invokevirtual 104, 3) := by decide +kernel
theorem dX8_person_80 : decode cX8_person 80 = .ok (.aload_n 0, 1) := by decide +kernel
theorem dX8_person_81 : decode cX8_person 81 = .ok (.getfield 11, 3) := by decide +kernel
theorem dX8_person_84 : decode cX8_person 84 = .ok (.iconst 2, 1) := by decide +kernel
theorem dX8_person_85 : decode cX8_person 85 = .ok (.aaload, 1) := by decide +kernel
theorem dX8_person_86 : decode cX8_person 86 = .ok (.iload 5, 2) := by decide +kernel
theorem dX8_person_88 : decode cX8_person 88 = .ok (.iload_n 3, 1) := by decide +kernel
theorem dX8_person_89 : decode cX8_person 89 = .ok (.invokevirtual 104, 3) := by decide +kernel
theorem dX8_person_92 : decode cX8_person 92 = .ok (.aload_n 0, 1) := by decide +kernel
theorem dX8_person_93 : decode cX8_person 93 = .ok (.getfield 11, 3) := by decide +kernel
theorem dX8_person_96 : decode cX8_person 96 = .ok (.iconst 3, 1) := by decide +kernel
theorem dX8_person_97 : decode cX8_person 97 = .ok (.aaload, 1) := by decide +kernel
theorem dX8_person_98 : decode cX8_person 98 = .ok (.iload 5, 2) := by decide +kernel
theorem dX8_person_100 : decode cX8_person 100 = .ok (.iload 4, 2) := by decide +kernel
theorem dX8_person_102 : decode cX8_person 102 = .ok (.invokevirtual 104, 3) := by decide +kernel
theorem dX8_person_105 : decode cX8_person 105 = .ok (.aload_n 0, 1) := by decide +kernel
theorem dX8_person_106 : decode cX8_person 106 = .ok (.iload 5, 2) := by decide +kernel
theorem dX8_person_108 : decode cX8_person 108 = .ok (.invokevirtual 107, 3) := by decide +kernel
theorem dX8_person_111 : decode cX8_person 111 = .ok (.iload 5, 2) := by decide +kernel
theorem dX8_person_113 : decode cX8_person 113 = .ok (.ireturn, 1) := by decide +kernel
theorem dX8_judgeAll_0 : decode cX8_judgeAll 0 = .ok (.aload_n 0, 1) := by decide +kernel
theorem dX8_judgeAll_1 : decode cX8_judgeAll 1 = .ok (.iload_n 1, 1) := by decide +kernel
theorem dX8_judgeAll_2 : decode cX8_judgeAll 2 = .ok (.invokevirtual 195, 3) := by decide +kernel
theorem dX8_judgeAll_5 : decode cX8_judgeAll 5 = .ok (.iconst 0, 1) := by decide +kernel
theorem dX8_judgeAll_6 : decode cX8_judgeAll 6 = .ok (.istore_n 2, 1) := by decide +kernel
theorem dX8_judgeAll_7 : decode cX8_judgeAll 7 = .ok (.iload_n 2, 1) := by decide +kernel
theorem dX8_judgeAll_8 : decode cX8_judgeAll 8 = .ok (.bipush 8, 2) := by decide +kernel
theorem dX8_judgeAll_10 : decode cX8_judgeAll 10 = .ok (.if_icmp .ge 34, 3) := by decide +kernel
theorem dX8_judgeAll_13 : decode cX8_judgeAll 13 = .ok (.aload_n 0, 1) := by decide +kernel
theorem dX8_judgeAll_14 : decode cX8_judgeAll 14 = .ok (.getfield 41, 3) := by decide +kernel
theorem dX8_judgeAll_17 : decode cX8_judgeAll 17 = .ok (.iload_n 2, 1) := by decide +kernel
theorem dX8_judgeAll_18 : decode cX8_judgeAll 18 = .ok (.aaload, 1) := by decide +kernel
theorem dX8_judgeAll_19 : decode cX8_judgeAll 19 = .ok (.getfield 325, 3) := by decide +kernel
theorem dX8_judgeAll_22 : decode cX8_judgeAll 22 = .ok (.ifCond .eq 16, 3) := by decide +kernel
theorem dX8_judgeAll_38 : decode cX8_judgeAll 38 = .ok (.iinc 2 1, 3) := by decide +kernel
theorem dX8_judgeAll_41 : decode cX8_judgeAll 41 = .ok (.goto (-34), 3) := by decide +kernel
theorem dX8_judgeAll_44 : decode cX8_judgeAll 44 = .ok (.return_, 1) := by decide +kernel
theorem dX8_spell_0 : decode cX8_spell 0 = .ok (.iconst 0, 1) := by decide +kernel
theorem dX8_spell_1 : decode cX8_spell 1 = .ok (.istore_n 2, 1) := by decide +kernel
theorem dX8_spell_2 : decode cX8_spell 2 = .ok (.iload_n 2, 1) := by decide +kernel
theorem dX8_spell_3 : decode cX8_spell 3 = .ok (.iconst 4, 1) := by decide +kernel
theorem dX8_spell_4 : decode cX8_spell 4 = .ok (.if_icmp .ge 25, 3) := by decide +kernel
theorem dX8_spell_7 : decode cX8_spell 7 = .ok (.aload_n 0, 1) := by decide +kernel
theorem dX8_spell_8 : decode cX8_spell 8 = .ok (.getfield 66, 3) := by decide +kernel
theorem dX8_spell_11 : decode cX8_spell 11 = .ok (.iload_n 2, 1) := by decide +kernel
theorem dX8_spell_12 : decode cX8_spell 12 = .ok (.aload_n 0, 1) := by decide +kernel
theorem dX8_spell_13 : decode cX8_spell 13 = .ok (.getfield 11, 3) := by decide +kernel
theorem dX8_spell_16 : decode cX8_spell 16 = .ok (.iload_n 2, 1) := by decide +kernel
theorem dX8_spell_17 : decode cX8_spell 17 = .ok (.aaload, 1) := by decide +kernel
theorem dX8_spell_18 : decode cX8_spell 18 = .ok (.iload_n 1, 1) := by decide +kernel
theorem dX8_spell_19 : decode cX8_spell 19 = .ok (.invokevirtual 328, 3) := by decide +kernel
theorem dX8_spell_22 : decode cX8_spell 22 = .ok (.iastore, 1) := by decide +kernel
theorem dX8_spell_23 : decode cX8_spell 23 = .ok (.iinc 2 1, 3) := by decide +kernel
theorem dX8_spell_26 : decode cX8_spell 26 = .ok (.goto (-24), 3) := by decide +kernel
theorem dX8_spell_29 : decode cX8_spell 29 = .ok (.aload_n 0, 1) := by decide +kernel
theorem dX8_spell_30 : decode cX8_spell 30 = .ok (.getfield 66, 3) := by decide +kernel
theorem dX8_spell_33 : decode cX8_spell 33 = .ok (.iconst 4, 1) := by decide +kernel
theorem dX8_spell_34 : decode cX8_spell 34 = .ok (.iload_n 1, 1) := by decide +kernel
theorem dX8_spell_35 : decode cX8_spell 35 = .ok (.iastore, 1) := by decide +kernel
theorem dX8_spell_36 : decode cX8_spell 36 = .ok (.aload_n 0, 1) := by decide +kernel
theorem dX8_spell_37 : decode cX8_spell 37 = .ok (.getfield 66, 3) := by decide +kernel
theorem dX8_spell_40 : decode cX8_spell 40 = .ok (.iconst 5, 1) := by decide +kernel
theorem dX8_spell_41 : decode cX8_spell 41 = .ok (.aload_n 0, 1) := by decide +kernel
theorem dX8_spell_42 : decode cX8_spell 42 = .ok (.iload_n 1, 1) := by decide +kernel
theorem dX8_spell_43 : decode cX8_spell 43 = .ok (.invokevirtual 111, 3) := by decide +kernel
theorem dX8_spell_46 : decode cX8_spell 46 = .ok (.ifCond .eq 12, 3) := by decide +kernel
theorem dX8_spell_49 : decode cX8_spell 49 = .ok (.aload_n 0, 1) := by decide +kernel
theorem dX8_spell_50 : decode cX8_spell 50 = .ok (.getfield 15, 3) := by decide +kernel
theorem dX8_spell_53 : decode cX8_spell 53 = .ok (.iload_n 1, 1) := by decide +kernel
theorem dX8_spell_54 : decode cX8_spell 54 = .ok (.iaload, 1) := by decide +kernel
theorem dX8_spell_55 : decode cX8_spell 55 = .ok (.goto 4, 3) := by decide +kernel
theorem dX8_spell_58 : decode cX8_spell 58 = .ok (.iconst 0, 1) := by decide +kernel
theorem dX8_spell_59 : decode cX8_spell 59 = .ok (.iastore, 1) := by decide +kernel
theorem dX8_spell_60 : decode cX8_spell 60 = .ok (.return_, 1) := by decide +kernel
theorem dX9_init_0 : decode cX9_init 0 = .ok (.aload_n 0, 1) := by decide +kernel
theorem dX9_init_1 : decode cX9_init 1 = .ok (.invokespecial 1, 3) := by decide +kernel
theorem dX9_init_4 : decode cX9_init 4 = .ok (.aload_n 0, 1) := by decide +kernel
theorem dX9_init_5 : decode cX9_init 5 = .ok (.sipush 128, 3) := by decide +kernel
theorem dX9_init_8 : decode cX9_init 8 = .ok (.newarray .int, 2) := by decide +kernel
theorem dX9_init_10 : decode cX9_init 10 = .ok (.putfield 7, 3) := by decide +kernel
theorem dX9_init_13 : decode cX9_init 13 = .ok (.aload_n 0, 1) := by decide +kernel
theorem dX9_init_14 : decode cX9_init 14 = .ok (.iconst 4, 1) := by decide +kernel
theorem dX9_init_15 : decode cX9_init 15 = .ok (.newarray .int, 2) := by decide +kernel
theorem dX9_init_17 : decode cX9_init 17 = .ok (.putfield 13, 3) := by decide +kernel
theorem dX9_init_20 : decode cX9_init 20 = .ok (.aload_n 0, 1) := by decide +kernel
theorem dX9_init_21 : decode cX9_init 21 = .ok (.bipush 64, 2) := by decide +kernel
theorem dX9_init_23 : decode cX9_init 23 = .ok (.newarray .int, 2) := by decide +kernel
theorem dX9_init_25 : decode cX9_init 25 = .ok (.putfield 16, 3) := by decide +kernel
theorem dX9_init_28 : decode cX9_init 28 = .ok (.aload_n 0, 1) := by decide +kernel
theorem dX9_init_29 : decode cX9_init 29 = .ok (.bipush 16, 2) := by decide +kernel
theorem dX9_init_31 : decode cX9_init 31 = .ok (.newarray .int, 2) := by decide +kernel
theorem dX9_init_33 : decode cX9_init 33 = .ok (.putfield 19, 3) := by decide +kernel
theorem dX9_init_36 : decode cX9_init 36 = .ok (.aload_n 0, 1) := by decide +kernel
theorem dX9_init_37 : decode cX9_init 37 = .ok (.iconst 4, 1) := by decide +kernel
theorem dX9_init_38 : decode cX9_init 38 = .ok (.newarray .int, 2) := by decide +kernel
theorem dX9_init_40 : decode cX9_init 40 = .ok (.putfield 22, 3) := by decide +kernel
theorem dX9_init_43 : decode cX9_init 43 = .ok (.aload_n 0, 1) := by decide +kernel
theorem dX9_init_44 : decode cX9_init 44 = .ok (.bipush 32, 2) := by decide +kernel
theorem dX9_init_46 : decode cX9_init 46 = .ok (.newarray .int, 2) := by decide +kernel
theorem dX9_init_48 : decode cX9_init 48 = .ok (.putfield 25, 3) := by decide +kernel
theorem dX9_init_51 : decode cX9_init 51 = .ok (.aload_n 0, 1) := by decide +kernel
theorem dX9_init_52 : decode cX9_init 52 = .ok (.sipush 128, 3) := by decide +kernel
theorem dX9_init_55 : decode cX9_init 55 = .ok (.newarray .int, 2) := by decide +kernel
theorem dX9_init_57 : decode cX9_init 57 = .ok (.putfield 28, 3) := by decide +kernel
theorem dX9_init_60 : decode cX9_init 60 = .ok (.aload_n 0, 1) := by decide +kernel
theorem dX9_init_61 : decode cX9_init 61 = .ok (.bipush 40, 2) := by decide +kernel
theorem dX9_init_63 : decode cX9_init 63 = .ok (.newarray .int, 2) := by decide +kernel
theorem dX9_init_65 : decode cX9_init 65 = .ok (.putfield 31, 3) := by decide +kernel
theorem dX9_init_68 : decode cX9_init 68 = .ok (.aload_n 0, 1) := by decide +kernel
theorem dX9_init_69 : decode cX9_init 69 = .ok (.bipush 40, 2) := by decide +kernel
theorem dX9_init_71 : decode cX9_init 71 = .ok (.newarray .int, 2) := by decide +kernel
theorem dX9_init_73 : decode cX9_init 73 = .ok (.putfield 34, 3) := by decide +kernel
theorem dX9_init_76 : decode cX9_init 76 = .ok (.aload_n 0, 1) := by decide +kernel
theorem dX9_init_77 : decode cX9_init 77 = .ok (.bipush 32, 2) := by decide +kernel
theorem dX9_init_79 : decode cX9_init 79 = .ok (.newarray .boolean, 2) := by decide +kernel
theorem dX9_init_81 : decode cX9_init 81 = .ok (.putfield 37, 3) := by decide +kernel
theorem dX9_init_84 : decode cX9_init 84 = .ok (.aload_n 0, 1) := by decide +kernel
theorem dX9_init_85 : decode cX9_init 85 = .ok (.sipush 200, 3) := by decide +kernel
theorem dX9_init_88 : decode cX9_init 88 = .ok (.newarray .byte, 2) := by decide +kernel
theorem dX9_init_90 : decode cX9_init 90 = .ok (.putfield 41, 3) := by decide +kernel
theorem dX9_init_93 : decode cX9_init 93 = .ok (.aload_n 0, 1) := by decide +kernel
theorem dX9_init_94 : decode cX9_init 94 = .ok (.bipush 120, 2) := by decide +kernel
theorem dX9_init_96 : decode cX9_init 96 = .ok (.newarray .int, 2) := by decide +kernel
theorem dX9_init_98 : decode cX9_init 98 = .ok (.putfield 45, 3) := by decide +kernel
theorem dX9_init_101 : decode cX9_init 101 = .ok (.aload_n 0, 1) := by decide +kernel
theorem dX9_init_102 : decode cX9_init 102 = .ok (.bipush 120, 2) := by decide +kernel
theorem dX9_init_104 : decode cX9_init 104 = .ok (.newarray .int, 2) := by decide +kernel
theorem dX9_init_106 : decode cX9_init 106 = .ok (.putfield 48, 3) := by decide +kernel
theorem dX9_init_109 : decode cX9_init 109 = .ok (.aload_n 0, 1) := by decide +kernel
theorem dX9_init_110 : decode cX9_init 110 = .ok (.sipush 960, 3) := by decide +kernel
theorem dX9_init_113 : decode cX9_init 113 = .ok (.newarray .int, 2) := by decide +kernel
theorem dX9_init_115 : decode cX9_init 115 = .ok (.putfield 51, 3) := by decide +kernel
theorem dX9_init_118 : decode cX9_init 118 = .ok (.aload_n 0, 1) := by decide +kernel
theorem dX9_init_119 : decode cX9_init 119 = .ok (.bipush 8, 2) := by decide +kernel
theorem dX9_init_121 : decode cX9_init 121 = .ok (.newarray .int, 2) := by decide +kernel
theorem dX9_init_123 : decode cX9_init 123 = .ok (.putfield 54, 3) := by decide +kernel
theorem dX9_init_126 : decode cX9_init 126 = .ok (.aload_n 0, 1) := by decide +kernel
theorem dX9_init_127 : decode cX9_init 127 = .ok (.bipush 8, 2) := by decide +kernel
theorem dX9_init_129 : decode cX9_init 129 = .ok (.newarray .int, 2) := by decide +kernel
theorem dX9_init_131 : decode cX9_init 131 = .ok (.putfield 57, 3) := by decide +kernel
theorem dX9_init_134 : decode cX9_init 134 = .ok (.aload_n 0, 1) := by decide +kernel
theorem dX9_init_135 : decode cX9_init 135 = .ok (.bipush 120, 2) := by decide +kernel
theorem dX9_init_137 : decode cX9_init 137 = .ok (.newarray .int, 2) := by decide +kernel
theorem dX9_init_139 : decode cX9_init 139 = .ok (.putfield 60, 3) := by decide +kernel
theorem dX9_init_142 : decode cX9_init 142 = .ok (.aload_n 0, 1) := by decide +kernel
theorem dX9_init_143 : decode cX9_init 143 = .ok (.bipush 7, 2) := by decide +kernel
theorem dX9_init_145 : decode cX9_init 145 = .ok (.newarray .int, 2) := by decide +kernel
theorem dX9_init_147 : decode cX9_init 147 = .ok (.putfield 63, 3) := by decide +kernel
theorem dX9_init_150 : decode cX9_init 150 = .ok (.aload_n 0, 1) := by decide +kernel
theorem dX9_init_151 : decode cX9_init 151 = .ok (.bipush 32, 2) := by decide +kernel
theorem dX9_init_153 : decode cX9_init 153 = .ok (.newarray .boolean, 2) := by decide +kernel
theorem dX9_init_155 : decode cX9_init 155 = .ok (.putfield 66, 3) := by decide +kernel
theorem dX9_init_158 : decode cX9_init 158 = .ok (.aload_n 0, 1) := by decide +kernel
theorem dX9_init_159 : decode cX9_init 159 = .ok (.bipush 8, 2) := by decide +kernel
theorem dX9_init_161 : decode cX9_init 161 = .ok (.newarray .int, 2) := by decide +kernel
theorem dX9_init_163 : decode cX9_init 163 = .ok (.putfield 69, 3) := by decide +kernel
theorem dX9_init_166 : decode cX9_init 166 = .ok (.aload_n 0, 1) := by decide +kernel
theorem dX9_init_167 : decode cX9_init 167 = .ok (.ldc 72, 2) := by decide +kernel
theorem dX9_init_169 : decode cX9_init 169 = .ok (.newarray .long, 2) := by decide +kernel
theorem dX9_init_171 : decode cX9_init 171 = .ok (.putfield 73, 3) := by decide +kernel
theorem dX9_init_174 : decode cX9_init 174 = .ok (.aload_n 0, 1) := by decide +kernel
theorem dX9_init_175 : decode cX9_init 175 = .ok (.ldc 72, 2) := by decide +kernel
theorem dX9_init_177 : decode cX9_init 177 = .ok (.newarray .int, 2) := by decide +kernel
theorem dX9_init_179 : decode cX9_init 179 = .ok (.putfield 77, 3) := by decide +kernel
theorem dX9_init_182 : decode cX9_init 182 = .ok (.aload_n 0, 1) := by decide +kernel
theorem dX9_init_183 : decode cX9_init 183 = .ok (.bipush 8, 2) := by decide +kernel
theorem dX9_init_185 : decode cX9_init 185 = .ok (.newarray .int, 2) := by decide +kernel
theorem dX9_init_187 : decode cX9_init 187 = .ok (.putfield 80, 3) := by decide +kernel
theorem dX9_init_190 : decode cX9_init 190 = .ok (.aload_n 0, 1) := by decide +kernel
theorem dX9_init_191 : decode cX9_init 191 = .ok (.bipush 16, 2) := by decide +kernel
theorem dX9_init_193 : decode cX9_init 193 = .ok (.newarray .int, 2) := by decide +kernel
theorem dX9_init_195 : decode cX9_init 195 = .ok (.putfield 83, 3) := by decide +kernel
theorem dX9_init_198 : decode cX9_init 198 = .ok (.aload_n 0, 1) := by decide +kernel
theorem dX9_init_199 : decode cX9_init 199 = .ok (.bipush 16, 2) := by decide +kernel
theorem dX9_init_201 : decode cX9_init 201 = .ok (.newarray .int, 2) := by decide +kernel
theorem dX9_init_203 : decode cX9_init 203 = .ok (.putfield 86, 3) := by decide +kernel
theorem dX9_init_206 : decode cX9_init 206 = .ok (.aload_n 0, 1) := by decide +kernel
theorem dX9_init_207 : decode cX9_init 207 = .ok (.bipush 16, 2) := by decide +kernel
theorem dX9_init_209 : decode cX9_init 209 = .ok (.newarray .int, 2) := by decide +kernel
theorem dX9_init_211 : decode cX9_init 211 = .ok (.putfield 89, 3) := by decide +kernel
theorem dX9_init_214 : decode cX9_init 214 = .ok (.aload_n 0, 1) := by decide +kernel
theorem dX9_init_215 : decode cX9_init 215 = .ok (.bipush 8, 2) := by decide +kernel
theorem dX9_init_217 : decode cX9_init 217 = .ok (.newarray .int, 2) := by decide +kernel
theorem dX9_init_219 : decode cX9_init 219 = .ok (.putfield 92, 3) := by decide +kernel
theorem dX9_init_222 : decode cX9_init 222 = .ok (.aload_n 0, 1) := by decide +kernel
theorem dX9_init_223 : decode cX9_init 223 = .ok (.bipush 16, 2) := by decide +kernel
theorem dX9_init_225 : decode cX9_init 225 = .ok (.newarray .int, 2) := by decide +kernel
theorem dX9_init_227 : decode cX9_init 227 = .ok (.putfield 95, 3) := by decide +kernel
theorem dX9_init_230 : decode cX9_init 230 = .ok (.aload_n 0, 1) := by decide +kernel
theorem dX9_init_231 : decode cX9_init 231 = .ok (.sipush 128, 3) := by decide +kernel
theorem dX9_init_234 : decode cX9_init 234 = .ok (.newarray .int, 2) := by decide +kernel
theorem dX9_init_236 : decode cX9_init 236 = .ok (.putfield 98, 3) := by decide +kernel
theorem dX9_init_239 : decode cX9_init 239 = .ok (.aload_n 0, 1) := by decide +kernel
theorem dX9_init_240 : decode cX9_init 240 = .ok (.ldc 72, 2) := by decide +kernel
theorem dX9_init_242 : decode cX9_init 242 = .ok (.newarray .int, 2) := by decide +kernel
theorem dX9_init_244 : decode cX9_init 244 = .ok (.putfield 101, 3) := by decide +kernel
theorem dX9_init_247 : decode cX9_init 247 = .ok (.aload_n 0, 1) := by decide +kernel
theorem dX9_init_248 : decode cX9_init 248 = .ok (.iconst 4, 1) := by decide +kernel
theorem dX9_init_249 : decode cX9_init 249 = .ok (.newarray .int, 2) := by decide +kernel
theorem dX9_init_251 : decode cX9_init 251 = .ok (.putfield 104, 3) := by decide +kernel
theorem dX9_init_254 : decode cX9_init 254 = .ok (.iconst 0, 1) := by decide +kernel
theorem dX9_init_255 : decode cX9_init 255 = .ok (.istore_n 1, 1) := by decide +kernel
theorem dX9_init_256 : decode cX9_init 256 = .ok (.iload_n 1, 1) := by decide +kernel
theorem dX9_init_257 : decode cX9_init 257 = .ok (.sipush 128, 3) := by decide +kernel
theorem dX9_init_260 : decode cX9_init 260 = .ok (.if_icmp .ge 16, 3) := by decide +kernel
theorem dX9_init_263 : decode cX9_init 263 = .ok (.aload_n 0, 1) := by decide +kernel
theorem dX9_init_264 : decode cX9_init 264 = .ok (.getfield 7, 3) := by decide +kernel
theorem dX9_init_267 : decode cX9_init 267 = .ok (.iload_n 1, 1) := by decide +kernel
theorem dX9_init_268 : decode cX9_init 268 = .ok (.iconst (-1), 1) := by decide +kernel
theorem dX9_init_269 : decode cX9_init 269 = .ok (.iastore, 1) := by decide +kernel
theorem dX9_init_270 : decode cX9_init 270 = .ok (.iinc 1 1, 3) := by decide +kernel
theorem dX9_init_273 : decode cX9_init 273 = .ok (.goto (-17), 3) := by decide +kernel
theorem dX9_init_276 : decode cX9_init 276 = .ok (.iconst 0, 1) := by decide +kernel
theorem dX9_init_277 : decode cX9_init 277 = .ok (.istore_n 1, 1) := by decide +kernel
theorem dX9_init_278 : decode cX9_init 278 = .ok (.iload_n 1, 1) := by decide +kernel
theorem dX9_init_279 : decode cX9_init 279 = .ok (.iconst 4, 1) := by decide +kernel
theorem dX9_init_280 : decode cX9_init 280 = .ok (.if_icmp .ge 16, 3) := by decide +kernel
theorem dX9_init_283 : decode cX9_init 283 = .ok (.aload_n 0, 1) := by decide +kernel
theorem dX9_init_284 : decode cX9_init 284 = .ok (.getfield 13, 3) := by decide +kernel
theorem dX9_init_287 : decode cX9_init 287 = .ok (.iload_n 1, 1) := by decide +kernel
theorem dX9_init_288 : decode cX9_init 288 = .ok (.iconst 1, 1) := by decide +kernel
theorem dX9_init_289 : decode cX9_init 289 = .ok (.iastore, 1) := by decide +kernel
theorem dX9_init_290 : decode cX9_init 290 = .ok (.iinc 1 1, 3) := by decide +kernel
theorem dX9_init_293 : decode cX9_init 293 = .ok (.goto (-15), 3) := by decide +kernel
theorem dX9_init_296 : decode cX9_init 296 = .ok (.iconst 1, 1) := by decide +kernel
theorem dX9_init_297 : decode cX9_init 297 = .ok (.istore_n 1, 1) := by decide +kernel
theorem dX9_init_298 : decode cX9_init 298 = .ok (.iload_n 1, 1) := by decide +kernel
theorem dX9_init_299 : decode cX9_init 299 = .ok (.ldc 72, 2) := by decide +kernel
theorem dX9_init_301 : decode cX9_init 301 = .ok (.if_icmp .ge 27, 3) := by decide +kernel
theorem dX9_init_304 : decode cX9_init 304 = .ok (.aload_n 0, 1) := by decide +kernel
theorem dX9_init_305 : decode cX9_init 305 = .ok (.getfield 77, 3) := by decide +kernel
theorem dX9_init_308 : decode cX9_init 308 = .ok (.iload_n 1, 1) := by decide +kernel
theorem dX9_init_309 : decode cX9_init 309 = .ok (.aload_n 0, 1) := by decide +kernel
theorem dX9_init_310 : decode cX9_init 310 = .ok (.getfield 77, 3) := by decide +kernel
theorem dX9_init_313 : decode cX9_init 313 = .ok (.iload_n 1, 1) := by decide +kernel
theorem dX9_init_314 : decode cX9_init 314 = .ok (.iconst 2, 1) := by decide +kernel
theorem dX9_init_315 : decode cX9_init 315 = .ok (.idiv, 1) := by decide +kernel
theorem dX9_init_316 : decode cX9_init 316 = .ok (.iaload, 1) := by decide +kernel
theorem dX9_init_317 : decode cX9_init 317 = .ok (.iload_n 1, 1) := by decide +kernel
theorem dX9_init_318 : decode cX9_init 318 = .ok (.iconst 2, 1) := by decide +kernel
theorem dX9_init_319 : decode cX9_init 319 = .ok (.irem, 1) := by decide +kernel
theorem dX9_init_320 : decode cX9_init 320 = .ok (.iadd, 1) := by decide +kernel
theorem dX9_init_321 : decode cX9_init 321 = .ok (.iastore, 1) := by decide +kernel
theorem dX9_init_322 : decode cX9_init 322 = .ok (.iinc 1 1, 3) := by decide +kernel
theorem dX9_init_325 : decode cX9_init 325 = .ok (.goto (-27), 3) := by decide +kernel
theorem dX9_init_328 : decode cX9_init 328 = .ok (.return_, 1) := by decide +kernel
theorem dX9_isPerson_0 : decode cX9_isPerson 0 = .ok (.iload_n 1, 1) := by decide +kernel
theorem dX9_isPerson_1 : decode cX9_isPerson 1 = .ok (.ifCond .lt 15, 3) := by decide +kernel
theorem dX9_isPerson_4 : decode cX9_isPerson 4 = .ok (.iload_n 1, 1) := by decide +kernel
theorem dX9_isPerson_5 : decode cX9_isPerson 5 = .ok (.aload_n 0, 1) := by decide +kernel
theorem dX9_isPerson_6 : decode cX9_isPerson 6 = .ok (.getfield 107, 3) := by decide +kernel
theorem dX9_isPerson_9 : decode cX9_isPerson 9 = .ok (.if_icmp .ge 7, 3) := by decide +kernel
theorem dX9_isPerson_16 : decode cX9_isPerson 16 = .ok (.iconst 0, 1) := by decide +kernel
theorem dX9_isPerson_17 : decode cX9_isPerson 17 = .ok (.ireturn, 1) := by decide +kernel
theorem dX9_upper_0 : decode cX9_upper 0 = .ok (.iload_n 1, 1) := by decide +kernel
theorem dX9_upper_1 : decode cX9_upper 1 = .ok (.invokestatic 111, 3) := by decide +kernel
theorem dX9_upper_4 : decode cX9_upper 4 = .ok (.ifCond .eq 34, 3) := by decide +kernel
theorem dX9_upper_7 : decode cX9_upper 7 = .ok (.iload_n 2, 1) := by decide +kernel
theorem dX9_upper_8 : decode cX9_upper 8 = .ok (.iconst 0, 1) := by decide +kernel
theorem dX9_upper_9 : decode cX9_upper 9 = .ok (.bipush 31, 2) := by decide +kernel
theorem dX9_upper_11 : decode cX9_upper 11 = .ok (.invokestatic 115, 3) := by decide +kernel
theorem dX9_upper_14 : decode cX9_upper 14 = .ok (.ifCond .eq 24, 3) := by decide +kernel
theorem dX9_upper_17 : decode cX9_upper 17 = .ok (.iload_n 3, 1) := by decide +kernel
theorem dX9_upper_18 : decode cX9_upper 18 = .ok (.iconst (-1), 1) := by decide +kernel
theorem dX9_upper_19 : decode cX9_upper 19 = .ok (.if_icmp .eq 21, 3) := by decide +kernel
theorem dX9_upper_22 : decode cX9_upper 22 = .ok (.iload_n 3, 1) := by decide +kernel
theorem dX9_upper_23 : decode cX9_upper 23 = .ok (.bipush 16, 2) := by decide +kernel
theorem dX9_upper_25 : decode cX9_upper 25 = .ok (.bipush 31, 2) := by decide +kernel
theorem dX9_upper_27 : decode cX9_upper 27 = .ok (.invokestatic 115, 3) := by decide +kernel
theorem dX9_upper_30 : decode cX9_upper 30 = .ok (.ifCond .eq 8, 3) := by decide +kernel
theorem dX9_upper_33 : decode cX9_upper 33 = .ok (.iload_n 3, 1) := by decide +kernel
theorem dX9_upper_34 : decode cX9_upper 34 = .ok (.iload_n 2, 1) := by decide +kernel
theorem dX9_upper_35 : decode cX9_upper 35 = .ok (.if_icmp .gt 5, 3) := by decide +kernel
theorem dX9_upper_38 : decode cX9_upper 38 = .ok (.iconst 0, 1) := by decide +kernel
theorem dX9_upper_39 : decode cX9_upper 39 = .ok (.ireturn, 1) := by decide +kernel
theorem dX9_upper_40 : decode cX9_upper 40 = .ok (.aload_n 0, 1) := by decide +kernel
theorem dX9_upper_41 : decode cX9_upper 41 = .ok (.getfield 7, 3) := by decide +kernel
theorem dX9_upper_44 : decode cX9_upper 44 = .ok (.bipush 32, 2) := by decide +kernel
theorem dX9_upper_46 : decode cX9_upper 46 = .ok (.iload_n 1, 1) := by decide +kernel
theorem dX9_upper_47 : decode cX9_upper 47 = .ok (.imul, 1) := by decide +kernel
theorem dX9_upper_48 : decode cX9_upper 48 = .ok (.iload_n 2, 1) := by decide +kernel
theorem dX9_upper_49 : decode cX9_upper 49 = .ok (.iadd, 1) := by decide +kernel
theorem dX9_upper_50 : decode cX9_upper 50 = .ok (.iload_n 3, 1) := by decide +kernel
theorem dX9_upper_51 : decode cX9_upper 51 = .ok (.iastore, 1) := by decide +kernel
theorem dX9_upper_52 : decode cX9_upper 52 = .ok (.iconst 1, 1) := by decide +kernel
theorem dX9_upper_53 : decode cX9_upper 53 = .ok (.ireturn, 1) := by decide +kernel
theorem dX9_weight_0 : decode cX9_weight 0 = .ok (.iload_n 1, 1) := by decide +kernel
theorem dX9_weight_1 : decode cX9_weight 1 = .ok (.invokestatic 111, 3) := by decide +kernel
theorem dX9_weight_4 : decode cX9_weight 4 = .ok (.ifCond .eq 13, 3) := by decide +kernel
theorem dX9_weight_7 : decode cX9_weight 7 = .ok (.iload_n 2, 1) := by decide +kernel
theorem dX9_weight_8 : decode cX9_weight 8 = .ok (.iconst 0, 1) := by decide +kernel
theorem dX9_weight_9 : decode cX9_weight 9 = .ok (.bipush 99, 2) := by decide +kernel
theorem dX9_weight_11 : decode cX9_weight 11 = .ok (.invokestatic 115, 3) := by decide +kernel
theorem dX9_weight_14 : decode cX9_weight 14 = .ok (.ifCond .ne 5, 3) := by decide +kernel
theorem dX9_weight_17 : decode cX9_weight 17 = .ok (.iconst 0, 1) := by decide +kernel
theorem dX9_weight_18 : decode cX9_weight 18 = .ok (.ireturn, 1) := by decide +kernel
theorem dX9_weight_19 : decode cX9_weight 19 = .ok (.aload_n 0, 1) := by decide +kernel
theorem dX9_weight_20 : decode cX9_weight 20 = .ok (.getfield 13, 3) := by decide +kernel
theorem dX9_weight_23 : decode cX9_weight 23 = .ok (.iload_n 1, 1) := by decide +kernel
theorem dX9_weight_24 : decode cX9_weight 24 = .ok (.iload_n 2, 1) := by decide +kernel
theorem dX9_weight_25 : decode cX9_weight 25 = .ok (.iastore, 1) := by decide +kernel
theorem dX9_weight_26 : decode cX9_weight 26 = .ok (.iconst 1, 1) := by decide +kernel
theorem dX9_weight_27 : decode cX9_weight 27 = .ok (.ireturn, 1) := by decide +kernel
theorem dX9_person_0 : decode cX9_person 0 = .ok (.iload_n 1, 1) := by decide +kernel
theorem dX9_person_1 : decode cX9_person 1 = .ok (.iconst 0, 1) := by decide +kernel
theorem dX9_person_2 : decode cX9_person 2 = .ok (.bipush 15, 2) := by decide +kernel
theorem dX9_person_4 : decode cX9_person 4 = .ok (.invokestatic 115, 3) := by decide +kernel
theorem dX9_person_7 : decode cX9_person 7 = .ok (.ifCond .eq 43, 3) := by decide +kernel
theorem dX9_person_10 : decode cX9_person 10 = .ok (.iload_n 2, 1) := by decide +kernel
theorem dX9_person_11 : decode cX9_person 11 = .ok (.iconst 0, 1) := by decide +kernel
theorem dX9_person_12 : decode cX9_person 12 = .ok (.bipush 15, 2) := by decide +kernel
theorem dX9_person_14 : decode cX9_person 14 = .ok (.invokestatic 115, 3) := by decide +kernel
theorem dX9_person_17 : decode cX9_person 17 = .ok (.ifCond .eq 33, 3) := by decide +kernel
theorem dX9_person_20 : decode cX9_person 20 = .ok (.iload_n 3, 1) := by decide +kernel
theorem dX9_person_21 : decode cX9_person 21 = .ok (.iconst 0, 1) := by decide +kernel
theorem dX9_person_22 : decode cX9_person 22 = .ok (.bipush 15, 2) := by decide +kernel
theorem dX9_person_24 : decode cX9_person 24 = .ok (.invokestatic 115, 3) := by decide +kernel
theorem dX9_person_27 : decode cX9_person 27 = .ok (.ifCond .eq 23, 3) := by decide +kernel
theorem dX9_person_30 : decode cX9_person 30 = .ok (.iload 4, 2) := by decide +kernel
theorem dX9_person_32 : decode cX9_person 32 = .ok (.iconst 0, 1) := by decide +kernel
theorem dX9_person_33 : decode cX9_person 33 = .ok (.bipush 15, 2) := by decide +kernel
theorem dX9_person_35 : decode cX9_person 35 = .ok (.invokestatic 115, 3) := by decide +kernel
theorem dX9_person_38 : decode cX9_person 38 = .ok (.ifCond .eq 12, 3) := by decide +kernel
theorem dX9_person_41 : decode cX9_person 41 = .ok (.aload_n 0, 1) := by decide +kernel
theorem dX9_person_42 : decode cX9_person 42 = .ok (.getfield 107, 3) := by decide +kernel
theorem dX9_person_45 : decode cX9_person 45 = .ok (.bipush 16, 2) := by decide +kernel
theorem dX9_person_47 : decode cX9_person 47 = .ok (.if_icmp .ne 5, 3) := by decide +kernel
theorem dX9_person_50 : decode cX9_person 50 = .ok (.iconst (-1), 1) := by decide +kernel
theorem dX9_person_51 : decode cX9_person 51 = .ok (.ireturn, 1) := by decide +kernel
theorem dX9_person_52 : decode cX9_person 52 = .ok (.aload_n 0, 1) := by decide +kernel
theorem dX9_person_53 : decode cX9_person 53 = .ok (.getfield 16, 3) := by decide +kernel
theorem dX9_person_56 : decode cX9_person 56 = .ok (.iconst 4, 1) := by decide +kernel
theorem dX9_person_57 : decode cX9_person 57 = .ok (.aload_n 0, 1) := by decide +kernel
theorem dX9_person_58 : decode cX9_person 58 = .ok (.getfield 107, 3) := by decide +kernel
theorem dX9_person_61 : decode cX9_person 61 = .ok (.imul, 1) := by decide +kernel
theorem dX9_person_62 : decode cX9_person 62 = .ok (.iload_n 1, 1) := by decide +kernel
theorem dX9_person_63 : decode cX9_person 63 = .ok (.iastore, 1) := by decide +kernel
theorem dX9_person_64 : decode cX9_person 64 = .ok (.aload_n 0, 1) := by decide +kernel
theorem dX9_person_65 : decode cX9_person 65 = .ok (.getfield 16, 3) := by decide +kernel
theorem dX9_person_68 : decode cX9_person 68 = .ok (.iconst 4, 1) := by decide +kernel
theorem dX9_person_69 : decode cX9_person 69 = .ok (.aload_n 0, 1) := by decide +kernel
theorem dX9_person_70 : decode cX9_person 70 = .ok (.getfield 107, 3) := by decide +kernel
theorem dX9_person_73 : decode cX9_person 73 = .ok (.imul, 1) := by decide +kernel
theorem dX9_person_74 : decode cX9_person 74 = .ok (.iconst 1, 1) := by decide +kernel
theorem dX9_person_75 : decode cX9_person 75 = .ok (.iadd, 1) := by decide +kernel
theorem dX9_person_76 : decode cX9_person 76 = .ok (.iload_n 2, 1) := by decide +kernel
theorem dX9_person_77 : decode cX9_person 77 = .ok (.iastore, 1) := by decide +kernel
theorem dX9_person_78 : decode cX9_person 78 = .ok (.aload_n 0, 1) := by decide +kernel
theorem dX9_person_79 : decode cX9_person 79 = .ok (.getfield 16, 3) := by decide +kernel
theorem dX9_person_82 : decode cX9_person 82 = .ok (.iconst 4, 1) := by decide +kernel
theorem dX9_person_83 : decode cX9_person 83 = .ok (.aload_n 0, 1) := by decide +kernel
theorem dX9_person_84 : decode cX9_person 84 = .ok (.getfield 107, 3) := by decide +kernel
theorem dX9_person_87 : decode cX9_person 87 = .ok (.imul, 1) := by decide +kernel
theorem dX9_person_88 : decode cX9_person 88 = .ok (.iconst 2, 1) := by decide +kernel
theorem dX9_person_89 : decode cX9_person 89 = .ok (.iadd, 1) := by decide +kernel
theorem dX9_person_90 : decode cX9_person 90 = .ok (.iload_n 3, 1) := by decide +kernel
theorem dX9_person_91 : decode cX9_person 91 = .ok (.iastore, 1) := by decide +kernel
theorem dX9_person_92 : decode cX9_person 92 = .ok (.aload_n 0, 1) := by decide +kernel
theorem dX9_person_93 : decode cX9_person 93 = .ok (.getfield 16, 3) := by decide +kernel
theorem dX9_person_96 : decode cX9_person 96 = .ok (.iconst 4, 1) := by decide +kernel
theorem dX9_person_97 : decode cX9_person 97 = .ok (.aload_n 0, 1) := by decide +kernel
theorem dX9_person_98 : decode cX9_person 98 = .ok (.getfield 107, 3) := by decide +kernel
theorem dX9_person_101 : decode cX9_person 101 = .ok (.imul, 1) := by decide +kernel
theorem dX9_person_102 : decode cX9_person 102 = .ok (.iconst 3, 1) := by decide +kernel
theorem dX9_person_103 : decode cX9_person 103 = .ok (.iadd, 1) := by decide +kernel
theorem dX9_person_104 : decode cX9_person 104 = .ok (.iload 4, 2) := by decide +kernel
theorem dX9_person_106 : decode cX9_person 106 = .ok (.iastore, 1) := by decide +kernel
theorem dX9_person_107 : decode cX9_person 107 = .ok (.aload_n 0, 1) := by decide +kernel
theorem dX9_person_108 : decode cX9_person 108 = .ok (.aload_n 0, 1) := by decide +kernel
theorem dX9_person_109 : decode cX9_person 109 = .ok (.getfield 107, 3) := by decide +kernel
theorem dX9_person_112 : decode cX9_person 112 = .ok (.iconst 1, 1) := by decide +kernel
theorem dX9_person_113 : decode cX9_person 113 = .ok (.iadd, 1) := by decide +kernel
theorem dX9_person_114 : decode cX9_person 114 = .ok (.putfield 107, 3) := by decide +kernel
theorem dX9_person_117 : decode cX9_person 117 = .ok (.aload_n 0, 1) := by decide +kernel
theorem dX9_person_118 : decode cX9_person 118 = .ok (.getfield 107, 3) := by decide +kernel
theorem dX9_person_121 : decode cX9_person 121 = .ok (.iconst 1, 1) := by decide +kernel
theorem dX9_person_122 : decode cX9_person 122 = .ok (.isub, 1) := by decide +kernel
theorem dX9_person_123 : decode cX9_person 123 = .ok (.ireturn, 1) := by decide +kernel
theorem dX9_wish_0 : decode cX9_wish 0 = .ok (.aload_n 0, 1) := by decide +kernel
theorem dX9_wish_1 : decode cX9_wish 1 = .ok (.iload_n 1, 1) := by decide +kernel
theorem dX9_wish_2 : decode cX9_wish 2 = .ok (.invokevirtual 119, 3) := by decide +kernel
theorem dX9_wish_5 : decode cX9_wish 5 = .ok (.ifCond .eq 13, 3) := by decide +kernel
theorem dX9_wish_18 : decode cX9_wish 18 = .ok (.iconst 0, 1) := by decide +kernel
theorem dX9_wish_19 : decode cX9_wish 19 = .ok (.ireturn, 1) := by decide +kernel
theorem dX9_blurs_0 : decode cX9_blurs 0 = .ok (.iload_n 2, 1) := by decide +kernel
theorem dX9_blurs_1 : decode cX9_blurs 1 = .ok (.istore 4, 2) := by decide +kernel
theorem dX9_blurs_3 : decode cX9_blurs 3 = .ok (.iconst 0, 1) := by decide +kernel
theorem dX9_blurs_4 : decode cX9_blurs 4 = .ok (.istore 5, 2) := by decide +kernel
theorem dX9_blurs_6 : decode cX9_blurs 6 = .ok (.iload 5, 2) := by decide +kernel
theorem dX9_blurs_8 : decode cX9_blurs 8 = .ok (.iload_n 3, 1) := by decide +kernel
theorem dX9_blurs_9 : decode cX9_blurs 9 = .ok (.if_icmp .ge 51, 3) := by decide +kernel
theorem dX9_blurs_12 : decode cX9_blurs 12 = .ok (.iload 4, 2) := by decide +kernel
theorem dX9_blurs_14 : decode cX9_blurs 14 = .ok (.bipush 32, 2) := by decide +kernel
theorem dX9_blurs_16 : decode cX9_blurs 16 = .ok (.if_icmp .eq 44, 3) := by decide +kernel
theorem dX9_blurs_19 : decode cX9_blurs 19 = .ok (.aload_n 0, 1) := by decide +kernel
theorem dX9_blurs_20 : decode cX9_blurs 20 = .ok (.getfield 7, 3) := by decide +kernel
theorem dX9_blurs_23 : decode cX9_blurs 23 = .ok (.bipush 32, 2) := by decide +kernel
theorem dX9_blurs_25 : decode cX9_blurs 25 = .ok (.iload_n 1, 1) := by decide +kernel
theorem dX9_blurs_26 : decode cX9_blurs 26 = .ok (.imul, 1) := by decide +kernel
theorem dX9_blurs_27 : decode cX9_blurs 27 = .ok (.iload 4, 2) := by decide +kernel
theorem dX9_blurs_29 : decode cX9_blurs 29 = .ok (.iadd, 1) := by decide +kernel
theorem dX9_blurs_30 : decode cX9_blurs 30 = .ok (.iaload, 1) := by decide +kernel
theorem dX9_blurs_31 : decode cX9_blurs 31 = .ok (.iconst (-1), 1) := by decide +kernel
theorem dX9_blurs_32 : decode cX9_blurs 32 = .ok (.if_icmp .ne 8, 3) := by decide +kernel
theorem dX9_blurs_35 : decode cX9_blurs 35 = .ok (.bipush 32, 2) := by decide +kernel
theorem dX9_blurs_37 : decode cX9_blurs 37 = .ok (.goto 15, 3) := by decide +kernel
theorem dX9_blurs_52 : decode cX9_blurs 52 = .ok (.istore 4, 2) := by decide +kernel
theorem dX9_blurs_54 : decode cX9_blurs 54 = .ok (.iinc 5 1, 3) := by decide +kernel
theorem dX9_blurs_57 : decode cX9_blurs 57 = .ok (.goto (-51), 3) := by decide +kernel
theorem dX9_blurs_60 : decode cX9_blurs 60 = .ok (.iload 4, 2) := by decide +kernel
theorem dX9_blurs_62 : decode cX9_blurs 62 = .ok (.ireturn, 1) := by decide +kernel
theorem dX9_blurred_0 : decode cX9_blurred 0 = .ok (.iload_n 1, 1) := by decide +kernel
theorem dX9_blurred_1 : decode cX9_blurred 1 = .ok (.invokestatic 111, 3) := by decide +kernel
theorem dX9_blurred_4 : decode cX9_blurred 4 = .ok (.ifCond .eq 32, 3) := by decide +kernel
theorem dX9_blurred_7 : decode cX9_blurred 7 = .ok (.iload_n 2, 1) := by decide +kernel
theorem dX9_blurred_8 : decode cX9_blurred 8 = .ok (.iconst 0, 1) := by decide +kernel
theorem dX9_blurred_9 : decode cX9_blurred 9 = .ok (.bipush 15, 2) := by decide +kernel
theorem dX9_blurred_11 : decode cX9_blurred 11 = .ok (.invokestatic 115, 3) := by decide +kernel
theorem dX9_blurred_14 : decode cX9_blurred 14 = .ok (.ifCond .eq 22, 3) := by decide +kernel
theorem dX9_blurred_17 : decode cX9_blurred 17 = .ok (.iload_n 3, 1) := by decide +kernel
theorem dX9_blurred_18 : decode cX9_blurred 18 = .ok (.iconst 0, 1) := by decide +kernel
theorem dX9_blurred_19 : decode cX9_blurred 19 = .ok (.iconst 4, 1) := by decide +kernel
theorem dX9_blurred_20 : decode cX9_blurred 20 = .ok (.invokestatic 115, 3) := by decide +kernel
theorem dX9_blurred_23 : decode cX9_blurred 23 = .ok (.ifCond .eq 13, 3) := by decide +kernel
theorem dX9_blurred_26 : decode cX9_blurred 26 = .ok (.aload_n 0, 1) := by decide +kernel
theorem dX9_blurred_27 : decode cX9_blurred 27 = .ok (.iload_n 1, 1) := by decide +kernel
theorem dX9_blurred_28 : decode cX9_blurred 28 = .ok (.iload_n 2, 1) := by decide +kernel
theorem dX9_blurred_29 : decode cX9_blurred 29 = .ok (.iload_n 3, 1) := by decide +kernel
theorem dX9_blurred_30 : decode cX9_blurred 30 = .ok (.invokevirtual 122, 3) := by decide +kernel
theorem dX9_blurred_33 : decode cX9_blurred 33 = .ok (.goto 4, 3) := by decide +kernel
theorem dX9_blurred_36 : decode cX9_blurred 36 = .ok (.iconst (-1), 1) := by decide +kernel
theorem dX9_blurred_37 : decode cX9_blurred 37 = .ok (.ireturn, 1) := by decide +kernel
theorem dX9_isBelow_0 : decode cX9_isBelow 0 = .ok (.iload_n 3, 1) := by decide +kernel
theorem dX9_isBelow_1 : decode cX9_isBelow 1 = .ok (.bipush 32, 2) := by decide +kernel
theorem dX9_isBelow_3 : decode cX9_isBelow 3 = .ok (.if_icmp .ne 5, 3) := by decide +kernel
theorem dX9_isBelow_6 : decode cX9_isBelow 6 = .ok (.iconst 1, 1) := by decide +kernel
theorem dX9_isBelow_7 : decode cX9_isBelow 7 = .ok (.ireturn, 1) := by decide +kernel
theorem dX9_isBelow_8 : decode cX9_isBelow 8 = .ok (.iload_n 2, 1) := by decide +kernel
theorem dX9_isBelow_9 : decode cX9_isBelow 9 = .ok (.istore 4, 2) := by decide +kernel
theorem dX9_isBelow_11 : decode cX9_isBelow 11 = .ok (.iload 4, 2) := by decide +kernel
theorem dX9_isBelow_13 : decode cX9_isBelow 13 = .ok (.iconst (-1), 1) := by decide +kernel
theorem dX9_isBelow_14 : decode cX9_isBelow 14 = .ok (.if_icmp .eq 26, 3) := by decide +kernel
theorem dX9_isBelow_17 : decode cX9_isBelow 17 = .ok (.iload 4, 2) := by decide +kernel
theorem dX9_isBelow_19 : decode cX9_isBelow 19 = .ok (.iload_n 3, 1) := by decide +kernel
theorem dX9_isBelow_20 : decode cX9_isBelow 20 = .ok (.if_icmp .eq 20, 3) := by decide +kernel
theorem dX9_isBelow_23 : decode cX9_isBelow 23 = .ok (.aload_n 0, 1) := by decide +kernel
theorem dX9_isBelow_24 : decode cX9_isBelow 24 = .ok (.getfield 7, 3) := by decide +kernel
theorem dX9_isBelow_27 : decode cX9_isBelow 27 = .ok (.bipush 32, 2) := by decide +kernel
theorem dX9_isBelow_29 : decode cX9_isBelow 29 = .ok (.iload_n 1, 1) := by decide +kernel
theorem dX9_isBelow_30 : decode cX9_isBelow 30 = .ok (.imul, 1) := by decide +kernel
theorem dX9_isBelow_31 : decode cX9_isBelow 31 = .ok (.iload 4, 2) := by decide +kernel
theorem dX9_isBelow_33 : decode cX9_isBelow 33 = .ok (.iadd, 1) := by decide +kernel
theorem dX9_isBelow_34 : decode cX9_isBelow 34 = .ok (.iaload, 1) := by decide +kernel
theorem dX9_isBelow_35 : decode cX9_isBelow 35 = .ok (.istore 4, 2) := by decide +kernel
theorem dX9_isBelow_37 : decode cX9_isBelow 37 = .ok (.goto (-26), 3) := by decide +kernel
theorem dX9_isBelow_40 : decode cX9_isBelow 40 = .ok (.iload 4, 2) := by decide +kernel
theorem dX9_isBelow_42 : decode cX9_isBelow 42 = .ok (.iload_n 3, 1) := by decide +kernel
theorem dX9_isBelow_43 : decode cX9_isBelow 43 = .ok (.if_icmp .ne 7, 3) := by decide +kernel
theorem dX9_isBelow_46 : decode cX9_isBelow 46 = .ok (.iconst 1, 1) := by decide +kernel
theorem dX9_isBelow_47 : decode cX9_isBelow 47 = .ok (.goto 4, 3) := by decide +kernel
theorem dX9_isBelow_50 : decode cX9_isBelow 50 = .ok (.iconst 0, 1) := by decide +kernel
theorem dX9_isBelow_51 : decode cX9_isBelow 51 = .ok (.ireturn, 1) := by decide +kernel
theorem dX9_sizeOf_0 : decode cX9_sizeOf 0 = .ok (.iconst 0, 1) := by decide +kernel
theorem dX9_sizeOf_1 : decode cX9_sizeOf 1 = .ok (.istore_n 3, 1) := by decide +kernel
theorem dX9_sizeOf_2 : decode cX9_sizeOf 2 = .ok (.iconst 0, 1) := by decide +kernel
theorem dX9_sizeOf_3 : decode cX9_sizeOf 3 = .ok (.istore 4, 2) := by decide +kernel
theorem dX9_sizeOf_5 : decode cX9_sizeOf 5 = .ok (.iload 4, 2) := by decide +kernel
theorem dX9_sizeOf_7 : decode cX9_sizeOf 7 = .ok (.bipush 16, 2) := by decide +kernel
theorem dX9_sizeOf_9 : decode cX9_sizeOf 9 = .ok (.if_icmp .ge 28, 3) := by decide +kernel
theorem dX9_sizeOf_12 : decode cX9_sizeOf 12 = .ok (.iload_n 3, 1) := by decide +kernel
theorem dX9_sizeOf_13 : decode cX9_sizeOf 13 = .ok (.aload_n 0, 1) := by decide +kernel
theorem dX9_sizeOf_14 : decode cX9_sizeOf 14 = .ok (.iload_n 1, 1) := by decide +kernel
theorem dX9_sizeOf_15 : decode cX9_sizeOf 15 = .ok (.iload 4, 2) := by decide +kernel
theorem dX9_sizeOf_17 : decode cX9_sizeOf 17 = .ok (.iload_n 2, 1) := by decide +kernel
theorem dX9_sizeOf_18 : decode cX9_sizeOf 18 = .ok (.invokevirtual 126, 3) := by decide +kernel
theorem dX9_sizeOf_21 : decode cX9_sizeOf 21 = .ok (.ifCond .eq 7, 3) := by decide +kernel
theorem dX9_sizeOf_24 : decode cX9_sizeOf 24 = .ok (.iconst 1, 1) := by decide +kernel
theorem dX9_sizeOf_25 : decode cX9_sizeOf 25 = .ok (.goto 4, 3) := by decide +kernel
theorem dX9_sizeOf_28 : decode cX9_sizeOf 28 = .ok (.iconst 0, 1) := by decide +kernel
theorem dX9_sizeOf_29 : decode cX9_sizeOf 29 = .ok (.iadd, 1) := by decide +kernel
theorem dX9_sizeOf_30 : decode cX9_sizeOf 30 = .ok (.istore_n 3, 1) := by decide +kernel
theorem dX9_sizeOf_31 : decode cX9_sizeOf 31 = .ok (.iinc 4 1, 3) := by decide +kernel
theorem dX9_sizeOf_34 : decode cX9_sizeOf 34 = .ok (.goto (-29), 3) := by decide +kernel
theorem dX9_sizeOf_37 : decode cX9_sizeOf 37 = .ok (.iload_n 3, 1) := by decide +kernel
theorem dX9_sizeOf_38 : decode cX9_sizeOf 38 = .ok (.ireturn, 1) := by decide +kernel
theorem dX9_size_0 : decode cX9_size 0 = .ok (.iload_n 1, 1) := by decide +kernel
theorem dX9_size_1 : decode cX9_size 1 = .ok (.invokestatic 111, 3) := by decide +kernel
theorem dX9_size_4 : decode cX9_size 4 = .ok (.ifCond .eq 22, 3) := by decide +kernel
theorem dX9_size_7 : decode cX9_size 7 = .ok (.iload_n 2, 1) := by decide +kernel
theorem dX9_size_8 : decode cX9_size 8 = .ok (.iconst 0, 1) := by decide +kernel
theorem dX9_size_9 : decode cX9_size 9 = .ok (.bipush 32, 2) := by decide +kernel
theorem dX9_size_11 : decode cX9_size 11 = .ok (.invokestatic 115, 3) := by decide +kernel
theorem dX9_size_14 : decode cX9_size 14 = .ok (.ifCond .eq 12, 3) := by decide +kernel
theorem dX9_size_17 : decode cX9_size 17 = .ok (.aload_n 0, 1) := by decide +kernel
theorem dX9_size_18 : decode cX9_size 18 = .ok (.iload_n 1, 1) := by decide +kernel
theorem dX9_size_19 : decode cX9_size 19 = .ok (.iload_n 2, 1) := by decide +kernel
theorem dX9_size_20 : decode cX9_size 20 = .ok (.invokevirtual 129, 3) := by decide +kernel
theorem dX9_size_23 : decode cX9_size 23 = .ok (.goto 4, 3) := by decide +kernel
theorem dX9_size_26 : decode cX9_size 26 = .ok (.iconst (-1), 1) := by decide +kernel
theorem dX9_size_27 : decode cX9_size 27 = .ok (.ireturn, 1) := by decide +kernel
theorem dX9_isBook_0 : decode cX9_isBook 0 = .ok (.iload_n 1, 1) := by decide +kernel
theorem dX9_isBook_1 : decode cX9_isBook 1 = .ok (.ifCond .lt 15, 3) := by decide +kernel
theorem dX9_isBook_4 : decode cX9_isBook 4 = .ok (.iload_n 1, 1) := by decide +kernel
theorem dX9_isBook_5 : decode cX9_isBook 5 = .ok (.aload_n 0, 1) := by decide +kernel
theorem dX9_isBook_6 : decode cX9_isBook 6 = .ok (.getfield 133, 3) := by decide +kernel
theorem dX9_isBook_9 : decode cX9_isBook 9 = .ok (.if_icmp .ge 7, 3) := by decide +kernel
theorem dX9_isBook_16 : decode cX9_isBook 16 = .ok (.iconst 0, 1) := by decide +kernel
theorem dX9_isBook_17 : decode cX9_isBook 17 = .ok (.ireturn, 1) := by decide +kernel
theorem dX9_isLine_0 : decode cX9_isLine 0 = .ok (.aload_n 0, 1) := by decide +kernel
theorem dX9_isLine_1 : decode cX9_isLine 1 = .ok (.iload_n 1, 1) := by decide +kernel
theorem dX9_isLine_2 : decode cX9_isLine 2 = .ok (.invokevirtual 136, 3) := by decide +kernel
theorem dX9_isLine_5 : decode cX9_isLine 5 = .ok (.ifCond .eq 21, 3) := by decide +kernel
theorem dX9_isLine_26 : decode cX9_isLine 26 = .ok (.iconst 0, 1) := by decide +kernel
theorem dX9_isLine_27 : decode cX9_isLine 27 = .ok (.ireturn, 1) := by decide +kernel
theorem dX9_isThere_0 : decode cX9_isThere 0 = .ok (.aload_n 0, 1) := by decide +kernel
theorem dX9_isThere_1 : decode cX9_isThere 1 = .ok (.iload_n 1, 1) := by decide +kernel
theorem dX9_isThere_2 : decode cX9_isThere 2 = .ok (.iload_n 2, 1) := by decide +kernel
theorem dX9_isThere_3 : decode cX9_isThere 3 = .ok (.invokevirtual 139, 3) := by decide +kernel
theorem dX9_isThere_6 : decode cX9_isThere 6 = .ok (.ifCond .eq 20, 3) := by decide +kernel
theorem dX9_isThere_26 : decode cX9_isThere 26 = .ok (.iconst 0, 1) := by decide +kernel
theorem dX9_isThere_27 : decode cX9_isThere 27 = .ok (.ireturn, 1) := by decide +kernel
theorem dX9_book_0 : decode cX9_book 0 = .ok (.iload_n 1, 1) := by decide +kernel
theorem dX9_book_1 : decode cX9_book 1 = .ok (.iconst 1, 1) := by decide +kernel
theorem dX9_book_2 : decode cX9_book 2 = .ok (.bipush 8, 2) := by decide +kernel
theorem dX9_book_4 : decode cX9_book 4 = .ok (.invokestatic 115, 3) := by decide +kernel
theorem dX9_book_7 : decode cX9_book 7 = .ok (.ifCond .eq 49, 3) := by decide +kernel
theorem dX9_book_10 : decode cX9_book 10 = .ok (.iload_n 2, 1) := by decide +kernel
theorem dX9_book_11 : decode cX9_book 11 = .ok (.invokestatic 146, 3) := by decide +kernel
theorem dX9_book_14 : decode cX9_book 14 = .ok (.ifCond .eq 42, 3) := by decide +kernel
theorem dX9_book_17 : decode cX9_book 17 = .ok (.iload_n 3, 1) := by decide +kernel
theorem dX9_book_18 : decode cX9_book 18 = .ok (.invokestatic 146, 3) := by decide +kernel
theorem dX9_book_21 : decode cX9_book 21 = .ok (.ifCond .eq 35, 3) := by decide +kernel
theorem dX9_book_24 : decode cX9_book 24 = .ok (.iload 4, 2) := by decide +kernel
theorem dX9_book_26 : decode cX9_book 26 = .ok (.invokestatic 146, 3) := by decide +kernel
theorem dX9_book_29 : decode cX9_book 29 = .ok (.ifCond .eq 27, 3) := by decide +kernel
theorem dX9_book_32 : decode cX9_book 32 = .ok (.iload 5, 2) := by decide +kernel
theorem dX9_book_34 : decode cX9_book 34 = .ok (.invokestatic 146, 3) := by decide +kernel
theorem dX9_book_37 : decode cX9_book 37 = .ok (.ifCond .eq 19, 3) := by decide +kernel
theorem dX9_book_40 : decode cX9_book 40 = .ok (.aload_n 0, 1) := by decide +kernel
theorem dX9_book_41 : decode cX9_book 41 = .ok (.getfield 133, 3) := by decide +kernel
theorem dX9_book_44 : decode cX9_book 44 = .ok (.iconst 4, 1) := by decide +kernel
theorem dX9_book_45 : decode cX9_book 45 = .ok (.if_icmp .eq 11, 3) := by decide +kernel
theorem dX9_book_48 : decode cX9_book 48 = .ok (.iload_n 1, 1) := by decide +kernel
theorem dX9_book_49 : decode cX9_book 49 = .ok (.aload_n 0, 1) := by decide +kernel
theorem dX9_book_50 : decode cX9_book 50 = .ok (.getfield 149, 3) := by decide +kernel
theorem dX9_book_53 : decode cX9_book 53 = .ok (.if_icmp .le 5, 3) := by decide +kernel
theorem dX9_book_56 : decode cX9_book 56 = .ok (.iconst (-1), 1) := by decide +kernel
theorem dX9_book_57 : decode cX9_book 57 = .ok (.ireturn, 1) := by decide +kernel
theorem dX9_cut_0 : decode cX9_cut 0 = .ok (.aload_n 0, 1) := by decide +kernel
theorem dX9_cut_1 : decode cX9_cut 1 = .ok (.iload_n 1, 1) := by decide +kernel
theorem dX9_cut_2 : decode cX9_cut 2 = .ok (.iload_n 2, 1) := by decide +kernel
theorem dX9_cut_3 : decode cX9_cut 3 = .ok (.invokevirtual 158, 3) := by decide +kernel
theorem dX9_cut_6 : decode cX9_cut 6 = .ok (.ifCond .ne 5, 3) := by decide +kernel
theorem dX9_cut_9 : decode cX9_cut 9 = .ok (.iconst 0, 1) := by decide +kernel
theorem dX9_cut_10 : decode cX9_cut 10 = .ok (.ireturn, 1) := by decide +kernel
theorem dX9_canSwap_0 : decode cX9_canSwap 0 = .ok (.aload_n 0, 1) := by decide +kernel
theorem dX9_canSwap_1 : decode cX9_canSwap 1 = .ok (.iload_n 1, 1) := by decide +kernel
theorem dX9_canSwap_2 : decode cX9_canSwap 2 = .ok (.iload_n 2, 1) := by decide +kernel
theorem dX9_canSwap_3 : decode cX9_canSwap 3 = .ok (.invokevirtual 158, 3) := by decide +kernel
theorem dX9_canSwap_6 : decode cX9_canSwap 6 = .ok (.ifCond .eq 57, 3) := by decide +kernel
theorem dX9_canSwap_63 : decode cX9_canSwap 63 = .ok (.iconst 0, 1) := by decide +kernel
theorem dX9_canSwap_64 : decode cX9_canSwap 64 = .ok (.ireturn, 1) := by decide +kernel
theorem dX9_swap_0 : decode cX9_swap 0 = .ok (.aload_n 0, 1) := by decide +kernel
theorem dX9_swap_1 : decode cX9_swap 1 = .ok (.iload_n 1, 1) := by decide +kernel
theorem dX9_swap_2 : decode cX9_swap 2 = .ok (.iload_n 2, 1) := by decide +kernel
theorem dX9_swap_3 : decode cX9_swap 3 = .ok (.iload_n 3, 1) := by decide +kernel
theorem dX9_swap_4 : decode cX9_swap 4 = .ok (.iload 4, 2) := by decide +kernel
theorem dX9_swap_6 : decode cX9_swap 6 = .ok (.invokevirtual 161, 3) := by decide +kernel
theorem dX9_swap_9 : decode cX9_swap 9 = .ok (.ifCond .ne 5, 3) := by decide +kernel
theorem dX9_swap_12 : decode cX9_swap 12 = .ok (.iconst 0, 1) := by decide +kernel
theorem dX9_swap_13 : decode cX9_swap 13 = .ok (.ireturn, 1) := by decide +kernel
theorem dX9_show_0 : decode cX9_show 0 = .ok (.aload_n 0, 1) := by decide +kernel
theorem dX9_show_1 : decode cX9_show 1 = .ok (.iload_n 1, 1) := by decide +kernel
theorem dX9_show_2 : decode cX9_show 2 = .ok (.invokevirtual 136, 3) := by decide +kernel
theorem dX9_show_5 : decode cX9_show 5 = .ok (.ifCond .eq 23, 3) := by decide +kernel
theorem dX9_show_28 : decode cX9_show 28 = .ok (.iconst 0, 1) := by decide +kernel
theorem dX9_show_29 : decode cX9_show 29 = .ok (.ireturn, 1) := by decide +kernel
theorem dX9_link_0 : decode cX9_link 0 = .ok (.aload_n 0, 1) := by decide +kernel
theorem dX9_link_1 : decode cX9_link 1 = .ok (.iload_n 1, 1) := by decide +kernel
theorem dX9_link_2 : decode cX9_link 2 = .ok (.iload_n 2, 1) := by decide +kernel
theorem dX9_link_3 : decode cX9_link 3 = .ok (.invokevirtual 139, 3) := by decide +kernel
theorem dX9_link_6 : decode cX9_link 6 = .ok (.ifCond .eq 27, 3) := by decide +kernel
theorem dX9_link_33 : decode cX9_link 33 = .ok (.iconst (-1), 1) := by decide +kernel
theorem dX9_link_34 : decode cX9_link 34 = .ok (.ireturn, 1) := by decide +kernel
theorem dX9_types_0 : decode cX9_types 0 = .ok (.iconst 3, 1) := by decide +kernel
theorem dX9_types_1 : decode cX9_types 1 = .ok (.istore_n 2, 1) := by decide +kernel
theorem dX9_types_2 : decode cX9_types 2 = .ok (.iload_n 2, 1) := by decide +kernel
theorem dX9_types_3 : decode cX9_types 3 = .ok (.ifCond .lt 35, 3) := by decide +kernel
theorem dX9_types_6 : decode cX9_types 6 = .ok (.aload_n 0, 1) := by decide +kernel
theorem dX9_types_7 : decode cX9_types 7 = .ok (.getfield 41, 3) := by decide +kernel
theorem dX9_types_10 : decode cX9_types 10 = .ok (.aload_n 0, 1) := by decide +kernel
theorem dX9_types_11 : decode cX9_types 11 = .ok (.getfield 149, 3) := by decide +kernel
theorem dX9_types_14 : decode cX9_types 14 = .ok (.iload_n 1, 1) := by decide +kernel
theorem dX9_types_15 : decode cX9_types 15 = .ok (.bipush 8, 2) := by decide +kernel
theorem dX9_types_17 : decode cX9_types 17 = .ok (.iload_n 2, 1) := by decide +kernel
theorem dX9_types_18 : decode cX9_types 18 = .ok (.imul, 1) := by decide +kernel
theorem dX9_types_19 : decode cX9_types 19 = .ok (.ishr, 1) := by decide +kernel
theorem dX9_types_20 : decode cX9_types 20 = .ok (.i2b, 1) := by decide +kernel
theorem dX9_types_21 : decode cX9_types 21 = .ok (.bastore, 1) := by decide +kernel
theorem dX9_types_22 : decode cX9_types 22 = .ok (.aload_n 0, 1) := by decide +kernel
theorem dX9_types_23 : decode cX9_types 23 = .ok (.aload_n 0, 1) := by decide +kernel
theorem dX9_types_24 : decode cX9_types 24 = .ok (.getfield 149, 3) := by decide +kernel
theorem dX9_types_27 : decode cX9_types 27 = .ok (.iconst 1, 1) := by decide +kernel
theorem dX9_types_28 : decode cX9_types 28 = .ok (.iadd, 1) := by decide +kernel
theorem dX9_types_29 : decode cX9_types 29 = .ok (.putfield 149, 3) := by decide +kernel
theorem dX9_types_32 : decode cX9_types 32 = .ok (.iinc 2 (-1), 3) := by decide +kernel
theorem dX9_types_35 : decode cX9_types 35 = .ok (.goto (-33), 3) := by decide +kernel
theorem dX9_types_38 : decode cX9_types 38 = .ok (.return_, 1) := by decide +kernel
theorem dX9_feed_0 : decode cX9_feed 0 = .ok (.aload_n 0, 1) := by decide +kernel
theorem dX9_feed_1 : decode cX9_feed 1 = .ok (.getfield 149, 3) := by decide +kernel
theorem dX9_feed_4 : decode cX9_feed 4 = .ok (.bipush 20, 2) := by decide +kernel
theorem dX9_feed_6 : decode cX9_feed 6 = .ok (.iadd, 1) := by decide +kernel
theorem dX9_feed_7 : decode cX9_feed 7 = .ok (.sipush 200, 3) := by decide +kernel
theorem dX9_feed_10 : decode cX9_feed 10 = .ok (.if_icmp .le 5, 3) := by decide +kernel
theorem dX9_feed_15 : decode cX9_feed 15 = .ok (.aload_n 0, 1) := by decide +kernel
theorem dX9_feed_16 : decode cX9_feed 16 = .ok (.iload_n 1, 1) := by decide +kernel
theorem dX9_feed_17 : decode cX9_feed 17 = .ok (.invokevirtual 172, 3) := by decide +kernel
theorem dX9_feed_20 : decode cX9_feed 20 = .ok (.aload_n 0, 1) := by decide +kernel
theorem dX9_feed_21 : decode cX9_feed 21 = .ok (.iload_n 2, 1) := by decide +kernel
theorem dX9_feed_22 : decode cX9_feed 22 = .ok (.invokevirtual 172, 3) := by decide +kernel
theorem dX9_feed_25 : decode cX9_feed 25 = .ok (.aload_n 0, 1) := by decide +kernel
theorem dX9_feed_26 : decode cX9_feed 26 = .ok (.iload_n 3, 1) := by decide +kernel
theorem dX9_feed_27 : decode cX9_feed 27 = .ok (.invokevirtual 172, 3) := by decide +kernel
theorem dX9_feed_30 : decode cX9_feed 30 = .ok (.aload_n 0, 1) := by decide +kernel
theorem dX9_feed_31 : decode cX9_feed 31 = .ok (.iload 4, 2) := by decide +kernel
theorem dX9_feed_33 : decode cX9_feed 33 = .ok (.invokevirtual 172, 3) := by decide +kernel
theorem dX9_feed_36 : decode cX9_feed 36 = .ok (.aload_n 0, 1) := by decide +kernel
theorem dX9_feed_37 : decode cX9_feed 37 = .ok (.iload 5, 2) := by decide +kernel
theorem dX9_feed_39 : decode cX9_feed 39 = .ok (.invokevirtual 172, 3) := by decide +kernel
theorem dX9_feed_42 : decode cX9_feed 42 = .ok (.aload_n 0, 1) := by decide +kernel
theorem dX9_feed_43 : decode cX9_feed 43 = .ok (.getfield 149, 3) := by decide +kernel
theorem dX9_feed_46 : decode cX9_feed 46 = .ok (.ireturn, 1) := by decide +kernel
theorem dX9_gossip_0 : decode cX9_gossip 0 = .ok (.iload_n 1, 1) := by decide +kernel
theorem dX9_gossip_1 : decode cX9_gossip 1 = .ok (.iconst 0, 1) := by decide +kernel
theorem dX9_gossip_2 : decode cX9_gossip 2 = .ok (.bipush 7, 2) := by decide +kernel
theorem dX9_gossip_4 : decode cX9_gossip 4 = .ok (.invokestatic 115, 3) := by decide +kernel
theorem dX9_gossip_7 : decode cX9_gossip 7 = .ok (.ifCond .eq 32, 3) := by decide +kernel
theorem dX9_gossip_10 : decode cX9_gossip 10 = .ok (.aload_n 0, 1) := by decide +kernel
theorem dX9_gossip_11 : decode cX9_gossip 11 = .ok (.iload_n 2, 1) := by decide +kernel
theorem dX9_gossip_12 : decode cX9_gossip 12 = .ok (.iload_n 3, 1) := by decide +kernel
theorem dX9_gossip_13 : decode cX9_gossip 13 = .ok (.invokevirtual 139, 3) := by decide +kernel
theorem dX9_gossip_16 : decode cX9_gossip 16 = .ok (.ifCond .eq 23, 3) := by decide +kernel
theorem dX9_gossip_39 : decode cX9_gossip 39 = .ok (.iconst (-1), 1) := by decide +kernel
theorem dX9_gossip_40 : decode cX9_gossip 40 = .ok (.ireturn, 1) := by decide +kernel
theorem dX9_line_0 : decode cX9_line 0 = .ok (.aload_n 0, 1) := by decide +kernel
theorem dX9_line_1 : decode cX9_line 1 = .ok (.iload_n 1, 1) := by decide +kernel
theorem dX9_line_2 : decode cX9_line 2 = .ok (.iload_n 2, 1) := by decide +kernel
theorem dX9_line_3 : decode cX9_line 3 = .ok (.invokevirtual 139, 3) := by decide +kernel
theorem dX9_line_6 : decode cX9_line 6 = .ok (.ifCond .eq 12, 3) := by decide +kernel
theorem dX9_line_18 : decode cX9_line 18 = .ok (.iconst (-1), 1) := by decide +kernel
theorem dX9_line_19 : decode cX9_line 19 = .ok (.ireturn, 1) := by decide +kernel
theorem dX9_fits_0 : decode cX9_fits 0 = .ok (.aload_n 0, 1) := by decide +kernel
theorem dX9_fits_1 : decode cX9_fits 1 = .ok (.iload_n 1, 1) := by decide +kernel
theorem dX9_fits_2 : decode cX9_fits 2 = .ok (.iload_n 2, 1) := by decide +kernel
theorem dX9_fits_3 : decode cX9_fits 3 = .ok (.invokevirtual 139, 3) := by decide +kernel
theorem dX9_fits_6 : decode cX9_fits 6 = .ok (.ifCond .eq 10, 3) := by decide +kernel
theorem dX9_fits_16 : decode cX9_fits 16 = .ok (.iconst (-1), 1) := by decide +kernel
theorem dX9_fits_17 : decode cX9_fits 17 = .ok (.ireturn, 1) := by decide +kernel
theorem dX9_givings_0 : decode cX9_givings 0 = .ok (.aload_n 0, 1) := by decide +kernel
theorem dX9_givings_1 : decode cX9_givings 1 = .ok (.iload_n 1, 1) := by decide +kernel
theorem dX9_givings_2 : decode cX9_givings 2 = .ok (.invokevirtual 136, 3) := by decide +kernel
theorem dX9_givings_5 : decode cX9_givings 5 = .ok (.ifCond .eq 10, 3) := by decide +kernel
theorem dX9_givings_15 : decode cX9_givings 15 = .ok (.ldc2_w 297, 3) := by decide +kernel
theorem dX9_givings_18 : decode cX9_givings 18 = .ok (.lreturn, 1) := by decide +kernel
theorem dX9_isAsked_0 : decode cX9_isAsked 0 = .ok (.aload_n 0, 1) := by decide +kernel
theorem dX9_isAsked_1 : decode cX9_isAsked 1 = .ok (.iload_n 1, 1) := by decide +kernel
theorem dX9_isAsked_2 : decode cX9_isAsked 2 = .ok (.iload_n 2, 1) := by decide +kernel
theorem dX9_isAsked_3 : decode cX9_isAsked 3 = .ok (.invokevirtual 139, 3) := by decide +kernel
theorem dX9_isAsked_6 : decode cX9_isAsked 6 = .ok (.ifCond .eq 23, 3) := by decide +kernel
theorem dX9_isAsked_29 : decode cX9_isAsked 29 = .ok (.iconst 0, 1) := by decide +kernel
theorem dX9_isAsked_30 : decode cX9_isAsked 30 = .ok (.ireturn, 1) := by decide +kernel
theorem dX9_odds_0 : decode cX9_odds 0 = .ok (.aload_n 0, 1) := by decide +kernel
theorem dX9_odds_1 : decode cX9_odds 1 = .ok (.iload_n 1, 1) := by decide +kernel
theorem dX9_odds_2 : decode cX9_odds 2 = .ok (.iload_n 2, 1) := by decide +kernel
theorem dX9_odds_3 : decode cX9_odds 3 = .ok (.iload_n 3, 1) := by decide +kernel
theorem dX9_odds_4 : decode cX9_odds 4 = .ok (.iload 4, 2) := by decide +kernel
theorem dX9_odds_6 : decode cX9_odds 6 = .ok (.invokevirtual 306, 3) := by decide +kernel
theorem dX9_odds_9 : decode cX9_odds 9 = .ok (.ifCond .eq 13, 3) := by decide +kernel
theorem dX9_odds_22 : decode cX9_odds 22 = .ok (.ldc2_w 297, 3) := by decide +kernel
theorem dX9_odds_25 : decode cX9_odds 25 = .ok (.lreturn, 1) := by decide +kernel
theorem dX9_mustBe_0 : decode cX9_mustBe 0 = .ok (.aload_n 0, 1) := by decide +kernel
theorem dX9_mustBe_1 : decode cX9_mustBe 1 = .ok (.iload_n 1, 1) := by decide +kernel
theorem dX9_mustBe_2 : decode cX9_mustBe 2 = .ok (.iload_n 2, 1) := by decide +kernel
theorem dX9_mustBe_3 : decode cX9_mustBe 3 = .ok (.iload_n 3, 1) := by decide +kernel
theorem dX9_mustBe_4 : decode cX9_mustBe 4 = .ok (.iload 4, 2) := by decide +kernel
theorem dX9_mustBe_6 : decode cX9_mustBe 6 = .ok (.invokevirtual 306, 3) := by decide +kernel
theorem dX9_mustBe_9 : decode cX9_mustBe 9 = .ok (.ifCond .ne 5, 3) := by decide +kernel
theorem dX9_mustBe_12 : decode cX9_mustBe 12 = .ok (.iconst (-1), 1) := by decide +kernel
theorem dX9_mustBe_13 : decode cX9_mustBe 13 = .ok (.ireturn, 1) := by decide +kernel
theorem dX9_giving_0 : decode cX9_giving 0 = .ok (.aload_n 0, 1) := by decide +kernel
theorem dX9_giving_1 : decode cX9_giving 1 = .ok (.iload_n 1, 1) := by decide +kernel
theorem dX9_giving_2 : decode cX9_giving 2 = .ok (.iload_n 2, 1) := by decide +kernel
theorem dX9_giving_3 : decode cX9_giving 3 = .ok (.invokevirtual 139, 3) := by decide +kernel
theorem dX9_giving_6 : decode cX9_giving 6 = .ok (.ifCond .eq 10, 3) := by decide +kernel
theorem dX9_giving_16 : decode cX9_giving 16 = .ok (.iconst (-1), 1) := by decide +kernel
theorem dX9_giving_17 : decode cX9_giving 17 = .ok (.ireturn, 1) := by decide +kernel
theorem dX9_tooFew_0 : decode cX9_tooFew 0 = .ok (.aload_n 0, 1) := by decide +kernel
theorem dX9_tooFew_1 : decode cX9_tooFew 1 = .ok (.iload_n 1, 1) := by decide +kernel
theorem dX9_tooFew_2 : decode cX9_tooFew 2 = .ok (.invokevirtual 136, 3) := by decide +kernel
theorem dX9_tooFew_5 : decode cX9_tooFew 5 = .ok (.ifCond .eq 10, 3) := by decide +kernel
theorem dX9_tooFew_15 : decode cX9_tooFew 15 = .ok (.iconst (-1), 1) := by decide +kernel
theorem dX9_tooFew_16 : decode cX9_tooFew 16 = .ok (.ireturn, 1) := by decide +kernel
theorem dX9_steps_0 : decode cX9_steps 0 = .ok (.aload_n 0, 1) := by decide +kernel
theorem dX9_steps_1 : decode cX9_steps 1 = .ok (.iload_n 1, 1) := by decide +kernel
theorem dX9_steps_2 : decode cX9_steps 2 = .ok (.invokevirtual 136, 3) := by decide +kernel
theorem dX9_steps_5 : decode cX9_steps 5 = .ok (.ifCond .eq 30, 3) := by decide +kernel
theorem dX9_steps_35 : decode cX9_steps 35 = .ok (.iconst (-1), 1) := by decide +kernel
theorem dX9_steps_36 : decode cX9_steps 36 = .ok (.ireturn, 1) := by decide +kernel
theorem dX9_safe_0 : decode cX9_safe 0 = .ok (.aload_n 0, 1) := by decide +kernel
theorem dX9_safe_1 : decode cX9_safe 1 = .ok (.iload_n 1, 1) := by decide +kernel
theorem dX9_safe_2 : decode cX9_safe 2 = .ok (.invokevirtual 136, 3) := by decide +kernel
theorem dX9_safe_5 : decode cX9_safe 5 = .ok (.ifCond .eq 27, 3) := by decide +kernel
theorem dX9_safe_32 : decode cX9_safe 32 = .ok (.iconst (-1), 1) := by decide +kernel
theorem dX9_safe_33 : decode cX9_safe 33 = .ok (.ireturn, 1) := by decide +kernel
theorem dX9_linesOf_0 : decode cX9_linesOf 0 = .ok (.aload_n 0, 1) := by decide +kernel
theorem dX9_linesOf_1 : decode cX9_linesOf 1 = .ok (.iload_n 1, 1) := by decide +kernel
theorem dX9_linesOf_2 : decode cX9_linesOf 2 = .ok (.invokevirtual 136, 3) := by decide +kernel
theorem dX9_linesOf_5 : decode cX9_linesOf 5 = .ok (.ifCond .eq 18, 3) := by decide +kernel
theorem dX9_linesOf_23 : decode cX9_linesOf 23 = .ok (.iconst (-1), 1) := by decide +kernel
theorem dX9_linesOf_24 : decode cX9_linesOf 24 = .ok (.ireturn, 1) := by decide +kernel
theorem dX9_fewest_0 : decode cX9_fewest 0 = .ok (.aload_n 0, 1) := by decide +kernel
theorem dX9_fewest_1 : decode cX9_fewest 1 = .ok (.iload_n 1, 1) := by decide +kernel
theorem dX9_fewest_2 : decode cX9_fewest 2 = .ok (.iload_n 2, 1) := by decide +kernel
theorem dX9_fewest_3 : decode cX9_fewest 3 = .ok (.invokevirtual 139, 3) := by decide +kernel
theorem dX9_fewest_6 : decode cX9_fewest 6 = .ok (.ifCond .eq 12, 3) := by decide +kernel
theorem dX9_fewest_18 : decode cX9_fewest 18 = .ok (.iconst (-1), 1) := by decide +kernel
theorem dX9_fewest_19 : decode cX9_fewest 19 = .ok (.ireturn, 1) := by decide +kernel
theorem dX9_questions_0 : decode cX9_questions 0 = .ok (.aload_n 0, 1) := by decide +kernel
theorem dX9_questions_1 : decode cX9_questions 1 = .ok (.iload_n 1, 1) := by decide +kernel
theorem dX9_questions_2 : decode cX9_questions 2 = .ok (.iload_n 2, 1) := by decide +kernel
theorem dX9_questions_3 : decode cX9_questions 3 = .ok (.invokevirtual 139, 3) := by decide +kernel
theorem dX9_questions_6 : decode cX9_questions 6 = .ok (.ifCond .eq 20, 3) := by decide +kernel
theorem dX9_questions_26 : decode cX9_questions 26 = .ok (.iconst (-1), 1) := by decide +kernel
theorem dX9_questions_27 : decode cX9_questions 27 = .ok (.ireturn, 1) := by decide +kernel
theorem dX9_blurring_0 : decode cX9_blurring 0 = .ok (.iload_n 1, 1) := by decide +kernel
theorem dX9_blurring_1 : decode cX9_blurring 1 = .ok (.iconst 1, 1) := by decide +kernel
theorem dX9_blurring_2 : decode cX9_blurring 2 = .ok (.bipush 8, 2) := by decide +kernel
theorem dX9_blurring_4 : decode cX9_blurring 4 = .ok (.invokestatic 115, 3) := by decide +kernel
theorem dX9_blurring_7 : decode cX9_blurring 7 = .ok (.ifCond .eq 39, 3) := by decide +kernel
theorem dX9_blurring_10 : decode cX9_blurring 10 = .ok (.iload_n 2, 1) := by decide +kernel
theorem dX9_blurring_11 : decode cX9_blurring 11 = .ok (.invokestatic 333, 3) := by decide +kernel
theorem dX9_blurring_14 : decode cX9_blurring 14 = .ok (.ifCond .eq 32, 3) := by decide +kernel
theorem dX9_blurring_17 : decode cX9_blurring 17 = .ok (.iload_n 3, 1) := by decide +kernel
theorem dX9_blurring_18 : decode cX9_blurring 18 = .ok (.iconst 0, 1) := by decide +kernel
theorem dX9_blurring_19 : decode cX9_blurring 19 = .ok (.sipush 9999, 3) := by decide +kernel
theorem dX9_blurring_22 : decode cX9_blurring 22 = .ok (.invokestatic 115, 3) := by decide +kernel
theorem dX9_blurring_25 : decode cX9_blurring 25 = .ok (.ifCond .eq 21, 3) := by decide +kernel
theorem dX9_blurring_28 : decode cX9_blurring 28 = .ok (.iload 4, 2) := by decide +kernel
theorem dX9_blurring_30 : decode cX9_blurring 30 = .ok (.iconst (-1), 1) := by decide +kernel
theorem dX9_blurring_31 : decode cX9_blurring 31 = .ok (.iconst 4, 1) := by decide +kernel
theorem dX9_blurring_32 : decode cX9_blurring 32 = .ok (.invokestatic 115, 3) := by decide +kernel
theorem dX9_blurring_35 : decode cX9_blurring 35 = .ok (.ifCond .eq 11, 3) := by decide +kernel
theorem dX9_blurring_38 : decode cX9_blurring 38 = .ok (.iload_n 1, 1) := by decide +kernel
theorem dX9_blurring_39 : decode cX9_blurring 39 = .ok (.aload_n 0, 1) := by decide +kernel
theorem dX9_blurring_40 : decode cX9_blurring 40 = .ok (.getfield 149, 3) := by decide +kernel
theorem dX9_blurring_43 : decode cX9_blurring 43 = .ok (.if_icmp .le 6, 3) := by decide +kernel
theorem dX9_blurring_46 : decode cX9_blurring 46 = .ok (.bipush (-3), 2) := by decide +kernel
theorem dX9_blurring_48 : decode cX9_blurring 48 = .ok (.ireturn, 1) := by decide +kernel
theorem dX9_bestSwap_0 : decode cX9_bestSwap 0 = .ok (.aload_n 0, 1) := by decide +kernel
theorem dX9_bestSwap_1 : decode cX9_bestSwap 1 = .ok (.iload_n 1, 1) := by decide +kernel
theorem dX9_bestSwap_2 : decode cX9_bestSwap 2 = .ok (.invokevirtual 136, 3) := by decide +kernel
theorem dX9_bestSwap_5 : decode cX9_bestSwap 5 = .ok (.ifCond .eq 19, 3) := by decide +kernel
theorem dX9_bestSwap_24 : decode cX9_bestSwap 24 = .ok (.iconst (-1), 1) := by decide +kernel
theorem dX9_bestSwap_25 : decode cX9_bestSwap 25 = .ok (.ireturn, 1) := by decide +kernel
theorem dX9_together_0 : decode cX9_together 0 = .ok (.iload_n 1, 1) := by decide +kernel
theorem dX9_together_1 : decode cX9_together 1 = .ok (.invokestatic 333, 3) := by decide +kernel
theorem dX9_together_4 : decode cX9_together 4 = .ok (.ifCond .eq 12, 3) := by decide +kernel
theorem dX9_together_7 : decode cX9_together 7 = .ok (.iload_n 2, 1) := by decide +kernel
theorem dX9_together_8 : decode cX9_together 8 = .ok (.iconst 0, 1) := by decide +kernel
theorem dX9_together_9 : decode cX9_together 9 = .ok (.iconst 2, 1) := by decide +kernel
theorem dX9_together_10 : decode cX9_together 10 = .ok (.invokestatic 115, 3) := by decide +kernel
theorem dX9_together_13 : decode cX9_together 13 = .ok (.ifCond .ne 5, 3) := by decide +kernel
theorem dX9_together_16 : decode cX9_together 16 = .ok (.iconst (-1), 1) := by decide +kernel
theorem dX9_together_17 : decode cX9_together 17 = .ok (.ireturn, 1) := by decide +kernel
theorem dX9_together_18 : decode cX9_together 18 = .ok (.aload_n 0, 1) := by decide +kernel
theorem dX9_together_19 : decode cX9_together 19 = .ok (.getfield 155, 3) := by decide +kernel
theorem dX9_together_22 : decode cX9_together 22 = .ok (.istore_n 3, 1) := by decide +kernel
theorem dX9_together_23 : decode cX9_together 23 = .ok (.iconst 0, 1) := by decide +kernel
theorem dX9_together_24 : decode cX9_together 24 = .ok (.istore 4, 2) := by decide +kernel
theorem dX9_together_26 : decode cX9_together 26 = .ok (.iload 4, 2) := by decide +kernel
theorem dX9_together_28 : decode cX9_together 28 = .ok (.aload_n 0, 1) := by decide +kernel
theorem dX9_together_29 : decode cX9_together 29 = .ok (.getfield 133, 3) := by decide +kernel
theorem dX9_together_32 : decode cX9_together 32 = .ok (.if_icmp .ge 140, 3) := by decide +kernel
theorem dX9_together_172 : decode cX9_together 172 = .ok (.bipush (-2), 2) := by decide +kernel
theorem dX9_together_174 : decode cX9_together 174 = .ok (.ireturn, 1) := by decide +kernel
theorem dX9_loss_0 : decode cX9_loss 0 = .ok (.aload_n 0, 1) := by decide +kernel
theorem dX9_loss_1 : decode cX9_loss 1 = .ok (.iload_n 1, 1) := by decide +kernel
theorem dX9_loss_2 : decode cX9_loss 2 = .ok (.invokevirtual 136, 3) := by decide +kernel
theorem dX9_loss_5 : decode cX9_loss 5 = .ok (.ifCond .ne 5, 3) := by decide +kernel
theorem dX9_loss_8 : decode cX9_loss 8 = .ok (.iconst (-1), 1) := by decide +kernel
theorem dX9_loss_9 : decode cX9_loss 9 = .ok (.ireturn, 1) := by decide +kernel
theorem dX9_check_0 : decode cX9_check 0 = .ok (.aload_n 0, 1) := by decide +kernel
theorem dX9_check_1 : decode cX9_check 1 = .ok (.iload_n 1, 1) := by decide +kernel
theorem dX9_check_2 : decode cX9_check 2 = .ok (.iload_n 2, 1) := by decide +kernel
theorem dX9_check_3 : decode cX9_check 3 = .ok (.invokevirtual 158, 3) := by decide +kernel
theorem dX9_check_6 : decode cX9_check 6 = .ok (.ifCond .eq 22, 3) := by decide +kernel
theorem dX9_check_28 : decode cX9_check 28 = .ok (.bipush (-2), 2) := by decide +kernel
theorem dX9_check_30 : decode cX9_check 30 = .ok (.ireturn, 1) := by decide +kernel
theorem dX9_count_0 : decode cX9_count 0 = .ok (.iload_n 1, 1) := by decide +kernel
theorem dX9_count_1 : decode cX9_count 1 = .ok (.tableswitch 69 0 5 #[39, 44, 49, 54, 59, 64], 39) := by decide +kernel
theorem dX9_count_40 : decode cX9_count 40 = .ok (.aload_n 0, 1) := by decide +kernel
theorem dX9_count_41 : decode cX9_count 41 = .ok (.getfield 107, 3) := by decide +kernel
theorem dX9_count_44 : decode cX9_count 44 = .ok (.ireturn, 1) := by decide +kernel
theorem dX9_count_45 : decode cX9_count 45 = .ok (.aload_n 0, 1) := by decide +kernel
theorem dX9_count_46 : decode cX9_count 46 = .ok (.getfield 133, 3) := by decide +kernel
theorem dX9_count_49 : decode cX9_count 49 = .ok (.ireturn, 1) := by decide +kernel
theorem dX9_count_50 : decode cX9_count 50 = .ok (.aload_n 0, 1) := by decide +kernel
theorem dX9_count_51 : decode cX9_count 51 = .ok (.getfield 169, 3) := by decide +kernel
theorem dX9_count_54 : decode cX9_count 54 = .ok (.ireturn, 1) := by decide +kernel
theorem dX9_count_55 : decode cX9_count 55 = .ok (.aload_n 0, 1) := by decide +kernel
theorem dX9_count_56 : decode cX9_count 56 = .ok (.getfield 261, 3) := by decide +kernel
theorem dX9_count_59 : decode cX9_count 59 = .ok (.ireturn, 1) := by decide +kernel
theorem dX9_count_60 : decode cX9_count 60 = .ok (.aload_n 0, 1) := by decide +kernel
theorem dX9_count_61 : decode cX9_count 61 = .ok (.getfield 149, 3) := by decide +kernel
theorem dX9_count_64 : decode cX9_count 64 = .ok (.ireturn, 1) := by decide +kernel
theorem dX9_count_65 : decode cX9_count 65 = .ok (.aload_n 0, 1) := by decide +kernel
theorem dX9_count_66 : decode cX9_count 66 = .ok (.getfield 155, 3) := by decide +kernel
theorem dX9_count_69 : decode cX9_count 69 = .ok (.ireturn, 1) := by decide +kernel
theorem dX9_count_70 : decode cX9_count 70 = .ok (.iload_n 1, 1) := by decide +kernel
theorem dX9_count_71 : decode cX9_count 71 = .ok (.bipush 10, 2) := by decide +kernel
theorem dX9_count_73 : decode cX9_count 73 = .ok (.bipush 9, 2) := by decide +kernel
theorem dX9_count_75 : decode cX9_count 75 = .ok (.aload_n 0, 1) := by decide +kernel
theorem dX9_count_76 : decode cX9_count 76 = .ok (.getfield 133, 3) := by decide +kernel
theorem dX9_count_79 : decode cX9_count 79 = .ok (.iadd, 1) := by decide +kernel
theorem dX9_count_80 : decode cX9_count 80 = .ok (.invokestatic 115, 3) := by decide +kernel
theorem dX9_count_83 : decode cX9_count 83 = .ok (.ifCond .eq 13, 3) := by decide +kernel
theorem dX9_count_96 : decode cX9_count 96 = .ok (.iload_n 1, 1) := by decide +kernel
theorem dX9_count_97 : decode cX9_count 97 = .ok (.bipush 20, 2) := by decide +kernel
theorem dX9_count_99 : decode cX9_count 99 = .ok (.bipush 23, 2) := by decide +kernel
theorem dX9_count_101 : decode cX9_count 101 = .ok (.invokestatic 115, 3) := by decide +kernel
theorem dX9_count_104 : decode cX9_count 104 = .ok (.ifCond .eq 13, 3) := by decide +kernel
theorem dX9_count_107 : decode cX9_count 107 = .ok (.aload_n 0, 1) := by decide +kernel
theorem dX9_count_108 : decode cX9_count 108 = .ok (.getfield 13, 3) := by decide +kernel
theorem dX9_count_111 : decode cX9_count 111 = .ok (.iload_n 1, 1) := by decide +kernel
theorem dX9_count_112 : decode cX9_count 112 = .ok (.bipush 20, 2) := by decide +kernel
theorem dX9_count_114 : decode cX9_count 114 = .ok (.isub, 1) := by decide +kernel
theorem dX9_count_115 : decode cX9_count 115 = .ok (.iaload, 1) := by decide +kernel
theorem dX9_count_116 : decode cX9_count 116 = .ok (.ireturn, 1) := by decide +kernel
theorem dX9_count_117 : decode cX9_count 117 = .ok (.iload_n 1, 1) := by decide +kernel
theorem dX9_count_118 : decode cX9_count 118 = .ok (.bipush 30, 2) := by decide +kernel
theorem dX9_count_120 : decode cX9_count 120 = .ok (.bipush 29, 2) := by decide +kernel
theorem dX9_count_122 : decode cX9_count 122 = .ok (.aload_n 0, 1) := by decide +kernel
theorem dX9_count_123 : decode cX9_count 123 = .ok (.getfield 107, 3) := by decide +kernel
theorem dX9_count_126 : decode cX9_count 126 = .ok (.iadd, 1) := by decide +kernel
theorem dX9_count_127 : decode cX9_count 127 = .ok (.invokestatic 115, 3) := by decide +kernel
theorem dX9_count_130 : decode cX9_count 130 = .ok (.ifCond .eq 15, 3) := by decide +kernel
theorem dX9_count_145 : decode cX9_count 145 = .ok (.iconst (-1), 1) := by decide +kernel
theorem dX9_count_146 : decode cX9_count 146 = .ok (.ireturn, 1) := by decide +kernel
theorem mm_1 : Cond.selects RX8 yX8_judgeAll yX8_judgeAll ∈ zGW := List.mem_filter.mpr ⟨List.mem_of_getElem? (i := 1) (by decide +kernel), by decide +kernel⟩
theorem mm_2 : Cond.selects RX8 yX8_spell yX8_spell ∈ zGW := List.mem_filter.mpr ⟨List.mem_of_getElem? (i := 2) (by decide +kernel), by decide +kernel⟩
theorem mm_51 : Cond.selects RX9 yX9_isPerson yX9_isPerson ∈ zGW := List.mem_filter.mpr ⟨List.mem_of_getElem? (i := 51) (by decide +kernel), by decide +kernel⟩
theorem mm_52 : Cond.selects RX9 yX9_blurs yX9_blurs ∈ zGW := List.mem_filter.mpr ⟨List.mem_of_getElem? (i := 52) (by decide +kernel), by decide +kernel⟩
theorem mm_53 : Cond.selects RX9 yX9_sizeOf yX9_sizeOf ∈ zGW := List.mem_filter.mpr ⟨List.mem_of_getElem? (i := 53) (by decide +kernel), by decide +kernel⟩
theorem mm_54 : Cond.selects RX9 yX9_isBelow yX9_isBelow ∈ zGW := List.mem_filter.mpr ⟨List.mem_of_getElem? (i := 54) (by decide +kernel), by decide +kernel⟩
theorem mm_56 : Cond.selects RX9 yX9_isThere yX9_isThere ∈ zGW := List.mem_filter.mpr ⟨List.mem_of_getElem? (i := 56) (by decide +kernel), by decide +kernel⟩
theorem mm_57 : Cond.selects RX9 yX9_isLine yX9_isLine ∈ zGW := List.mem_filter.mpr ⟨List.mem_of_getElem? (i := 57) (by decide +kernel), by decide +kernel⟩
theorem mm_58 : Cond.selects RX9 yX9_isBook yX9_isBook ∈ zGW := List.mem_filter.mpr ⟨List.mem_of_getElem? (i := 58) (by decide +kernel), by decide +kernel⟩
theorem mm_59 : Cond.selects RX9 yX9_canSwap yX9_canSwap ∈ zGW := List.mem_filter.mpr ⟨List.mem_of_getElem? (i := 59) (by decide +kernel), by decide +kernel⟩
theorem mm_61 : Cond.selects RX9 yX9_types yX9_types ∈ zGW := List.mem_filter.mpr ⟨List.mem_of_getElem? (i := 61) (by decide +kernel), by decide +kernel⟩
theorem mm_88 : Cond.selects RX9 yX9_isAsked yX9_isAsked ∈ zGW := List.mem_filter.mpr ⟨List.mem_of_getElem? (i := 88) (by decide +kernel), by decide +kernel⟩
theorem mm_117 : Cond.initialized RX9 ∈ zGW := List.mem_filter.mpr ⟨List.mem_of_getElem? (i := 117) (by decide +kernel), by decide +kernel⟩
theorem mm_434 : Cond.methodLink RX8 104 yX3_settle ∈ zGW := List.mem_filter.mpr ⟨List.mem_of_getElem? (i := 434) (by decide +kernel), by decide +kernel⟩
theorem mm_435 : Cond.instanceMethod yX3_settle ∈ zGW := List.mem_filter.mpr ⟨List.mem_of_getElem? (i := 435) (by decide +kernel), by decide +kernel⟩
theorem mm_436 : Cond.selects RX3 yX3_settle yX3_settle ∈ zGW := List.mem_filter.mpr ⟨List.mem_of_getElem? (i := 436) (by decide +kernel), by decide +kernel⟩
theorem mm_437 : Cond.code yX3_settle cX3_settle 3 none ∈ zGW := List.mem_filter.mpr ⟨List.mem_of_getElem? (i := 437) (by decide +kernel), by decide +kernel⟩
theorem mm_439 : Cond.methodLink RX8 107 yX8_judgeAll ∈ zGW := List.mem_filter.mpr ⟨List.mem_of_getElem? (i := 439) (by decide +kernel), by decide +kernel⟩
theorem mm_441 : Cond.instanceMethod yX8_judgeAll ∈ zGW := List.mem_filter.mpr ⟨List.mem_of_getElem? (i := 441) (by decide +kernel), by decide +kernel⟩
theorem mm_442 : Cond.code yX8_judgeAll cX8_judgeAll 3 none ∈ zGW := List.mem_filter.mpr ⟨List.mem_of_getElem? (i := 442) (by decide +kernel), by decide +kernel⟩
theorem mm_443 : Cond.methodLink RX8 195 yX8_spell ∈ zGW := List.mem_filter.mpr ⟨List.mem_of_getElem? (i := 443) (by decide +kernel), by decide +kernel⟩
theorem mm_445 : Cond.instanceMethod yX8_spell ∈ zGW := List.mem_filter.mpr ⟨List.mem_of_getElem? (i := 445) (by decide +kernel), by decide +kernel⟩
theorem mm_446 : Cond.code yX8_spell cX8_spell 3 none ∈ zGW := List.mem_filter.mpr ⟨List.mem_of_getElem? (i := 446) (by decide +kernel), by decide +kernel⟩
theorem mm_447 : Cond.methodLink RX8 328 yX3_valueOf ∈ zGW := List.mem_filter.mpr ⟨List.mem_of_getElem? (i := 447) (by decide +kernel), by decide +kernel⟩
theorem mm_448 : Cond.instanceMethod yX3_valueOf ∈ zGW := List.mem_filter.mpr ⟨List.mem_of_getElem? (i := 448) (by decide +kernel), by decide +kernel⟩
theorem mm_449 : Cond.selects RX3 yX3_valueOf yX3_valueOf ∈ zGW := List.mem_filter.mpr ⟨List.mem_of_getElem? (i := 449) (by decide +kernel), by decide +kernel⟩
theorem mm_450 : Cond.code yX3_valueOf cX3_valueOf 2 (some .int) ∈ zGW := List.mem_filter.mpr ⟨List.mem_of_getElem? (i := 450) (by decide +kernel), by decide +kernel⟩
theorem mm_956 : Cond.methodLink RX9 1 objectInit ∈ zGW := List.mem_filter.mpr ⟨List.mem_of_getElem? (i := 956) (by decide +kernel), by decide +kernel⟩
theorem mm_957 : Cond.constant RX9 72 (65536) ∈ zGW := List.mem_filter.mpr ⟨List.mem_of_getElem? (i := 957) (by decide +kernel), by decide +kernel⟩
theorem mm_958 : Cond.fieldLink RX9 107 "TwoFitModel" "people" "I" ∈ zGW := List.mem_filter.mpr ⟨List.mem_of_getElem? (i := 958) (by decide +kernel), by decide +kernel⟩
theorem mm_959 : Cond.fieldLink RX9 7 "TwoFitModel" "upperOf" "[I" ∈ zGW := List.mem_filter.mpr ⟨List.mem_of_getElem? (i := 959) (by decide +kernel), by decide +kernel⟩
theorem mm_960 : Cond.fieldLink RX9 13 "TwoFitModel" "weightOf" "[I" ∈ zGW := List.mem_filter.mpr ⟨List.mem_of_getElem? (i := 960) (by decide +kernel), by decide +kernel⟩
theorem mm_961 : Cond.fieldLink RX9 16 "TwoFitModel" "valueOf" "[I" ∈ zGW := List.mem_filter.mpr ⟨List.mem_of_getElem? (i := 961) (by decide +kernel), by decide +kernel⟩
theorem mm_962 : Cond.fieldLink RX9 19 "TwoFitModel" "wishOf" "[I" ∈ zGW := List.mem_filter.mpr ⟨List.mem_of_getElem? (i := 962) (by decide +kernel), by decide +kernel⟩
theorem mm_963 : Cond.fieldLink RX9 133 "TwoFitModel" "books" "I" ∈ zGW := List.mem_filter.mpr ⟨List.mem_of_getElem? (i := 963) (by decide +kernel), by decide +kernel⟩
theorem mm_964 : Cond.fieldLink RX9 169 "TwoFitModel" "links" "I" ∈ zGW := List.mem_filter.mpr ⟨List.mem_of_getElem? (i := 964) (by decide +kernel), by decide +kernel⟩
theorem mm_965 : Cond.fieldLink RX9 261 "TwoFitModel" "gossips" "I" ∈ zGW := List.mem_filter.mpr ⟨List.mem_of_getElem? (i := 965) (by decide +kernel), by decide +kernel⟩
theorem mm_966 : Cond.fieldLink RX9 155 "TwoFitModel" "shownSet" "I" ∈ zGW := List.mem_filter.mpr ⟨List.mem_of_getElem? (i := 966) (by decide +kernel), by decide +kernel⟩
theorem mm_967 : Cond.fieldLink RX9 22 "TwoFitModel" "lineMany" "[I" ∈ zGW := List.mem_filter.mpr ⟨List.mem_of_getElem? (i := 967) (by decide +kernel), by decide +kernel⟩
theorem mm_968 : Cond.fieldLink RX9 25 "TwoFitModel" "ownerOf" "[I" ∈ zGW := List.mem_filter.mpr ⟨List.mem_of_getElem? (i := 968) (by decide +kernel), by decide +kernel⟩
theorem mm_969 : Cond.fieldLink RX9 28 "TwoFitModel" "showsOf" "[I" ∈ zGW := List.mem_filter.mpr ⟨List.mem_of_getElem? (i := 969) (by decide +kernel), by decide +kernel⟩
theorem mm_970 : Cond.fieldLink RX9 31 "TwoFitModel" "linkA" "[I" ∈ zGW := List.mem_filter.mpr ⟨List.mem_of_getElem? (i := 970) (by decide +kernel), by decide +kernel⟩
theorem mm_971 : Cond.fieldLink RX9 34 "TwoFitModel" "linkB" "[I" ∈ zGW := List.mem_filter.mpr ⟨List.mem_of_getElem? (i := 971) (by decide +kernel), by decide +kernel⟩
theorem mm_972 : Cond.fieldLink RX9 37 "TwoFitModel" "isCut" "[Z" ∈ zGW := List.mem_filter.mpr ⟨List.mem_of_getElem? (i := 972) (by decide +kernel), by decide +kernel⟩
theorem mm_973 : Cond.fieldLink RX9 41 "TwoFitModel" "tape" "[B" ∈ zGW := List.mem_filter.mpr ⟨List.mem_of_getElem? (i := 973) (by decide +kernel), by decide +kernel⟩
theorem mm_974 : Cond.fieldLink RX9 149 "TwoFitModel" "taped" "I" ∈ zGW := List.mem_filter.mpr ⟨List.mem_of_getElem? (i := 974) (by decide +kernel), by decide +kernel⟩
theorem mm_982 : Cond.fieldLink RX9 45 "TwoFitModel" "said" "[I" ∈ zGW := List.mem_filter.mpr ⟨List.mem_of_getElem? (i := 982) (by decide +kernel), by decide +kernel⟩
theorem mm_983 : Cond.fieldLink RX9 48 "TwoFitModel" "waits" "[I" ∈ zGW := List.mem_filter.mpr ⟨List.mem_of_getElem? (i := 983) (by decide +kernel), by decide +kernel⟩
theorem mm_984 : Cond.fieldLink RX9 51 "TwoFitModel" "codes" "[I" ∈ zGW := List.mem_filter.mpr ⟨List.mem_of_getElem? (i := 984) (by decide +kernel), by decide +kernel⟩
theorem mm_985 : Cond.fieldLink RX9 54 "TwoFitModel" "codeTo" "[I" ∈ zGW := List.mem_filter.mpr ⟨List.mem_of_getElem? (i := 985) (by decide +kernel), by decide +kernel⟩
theorem mm_986 : Cond.fieldLink RX9 57 "TwoFitModel" "gossipOf" "[I" ∈ zGW := List.mem_filter.mpr ⟨List.mem_of_getElem? (i := 986) (by decide +kernel), by decide +kernel⟩
theorem mm_987 : Cond.fieldLink RX9 60 "TwoFitModel" "stack" "[I" ∈ zGW := List.mem_filter.mpr ⟨List.mem_of_getElem? (i := 987) (by decide +kernel), by decide +kernel⟩
theorem mm_988 : Cond.fieldLink RX9 63 "TwoFitModel" "facts" "[I" ∈ zGW := List.mem_filter.mpr ⟨List.mem_of_getElem? (i := 988) (by decide +kernel), by decide +kernel⟩
theorem mm_989 : Cond.fieldLink RX9 66 "TwoFitModel" "isReached" "[Z" ∈ zGW := List.mem_filter.mpr ⟨List.mem_of_getElem? (i := 989) (by decide +kernel), by decide +kernel⟩
theorem mm_990 : Cond.fieldLink RX9 69 "TwoFitModel" "fitting" "[I" ∈ zGW := List.mem_filter.mpr ⟨List.mem_of_getElem? (i := 990) (by decide +kernel), by decide +kernel⟩
theorem mm_991 : Cond.fieldLink RX9 73 "TwoFitModel" "ways" "[J" ∈ zGW := List.mem_filter.mpr ⟨List.mem_of_getElem? (i := 991) (by decide +kernel), by decide +kernel⟩
theorem mm_992 : Cond.fieldLink RX9 77 "TwoFitModel" "ones" "[I" ∈ zGW := List.mem_filter.mpr ⟨List.mem_of_getElem? (i := 992) (by decide +kernel), by decide +kernel⟩
theorem mm_993 : Cond.fieldLink RX9 80 "TwoFitModel" "hasOf" "[I" ∈ zGW := List.mem_filter.mpr ⟨List.mem_of_getElem? (i := 993) (by decide +kernel), by decide +kernel⟩
theorem mm_994 : Cond.fieldLink RX9 83 "TwoFitModel" "givenTo" "[I" ∈ zGW := List.mem_filter.mpr ⟨List.mem_of_getElem? (i := 994) (by decide +kernel), by decide +kernel⟩
theorem mm_995 : Cond.fieldLink RX9 86 "TwoFitModel" "askedBy" "[I" ∈ zGW := List.mem_filter.mpr ⟨List.mem_of_getElem? (i := 995) (by decide +kernel), by decide +kernel⟩
theorem mm_996 : Cond.fieldLink RX9 89 "TwoFitModel" "waitingLine" "[I" ∈ zGW := List.mem_filter.mpr ⟨List.mem_of_getElem? (i := 996) (by decide +kernel), by decide +kernel⟩
theorem mm_997 : Cond.fieldLink RX9 92 "TwoFitModel" "before" "[I" ∈ zGW := List.mem_filter.mpr ⟨List.mem_of_getElem? (i := 997) (by decide +kernel), by decide +kernel⟩
theorem mm_1000 : Cond.fieldLink RX9 95 "TwoFitModel" "suspect" "[I" ∈ zGW := List.mem_filter.mpr ⟨List.mem_of_getElem? (i := 1000) (by decide +kernel), by decide +kernel⟩
theorem mm_1001 : Cond.fieldLink RX9 98 "TwoFitModel" "parts" "[I" ∈ zGW := List.mem_filter.mpr ⟨List.mem_of_getElem? (i := 1001) (by decide +kernel), by decide +kernel⟩
theorem mm_1002 : Cond.fieldLink RX9 101 "TwoFitModel" "enough" "[I" ∈ zGW := List.mem_filter.mpr ⟨List.mem_of_getElem? (i := 1002) (by decide +kernel), by decide +kernel⟩
theorem mm_1003 : Cond.fieldLink RX9 104 "TwoFitModel" "blurShows" "[I" ∈ zGW := List.mem_filter.mpr ⟨List.mem_of_getElem? (i := 1003) (by decide +kernel), by decide +kernel⟩
theorem mm_1100 : Cond.arrayClass .boolean ∈ zGW := List.mem_filter.mpr ⟨List.mem_of_getElem? (i := 1100) (by decide +kernel), by decide +kernel⟩
theorem mm_1101 : Cond.arrayClass .byte ∈ zGW := List.mem_filter.mpr ⟨List.mem_of_getElem? (i := 1101) (by decide +kernel), by decide +kernel⟩
theorem mm_1106 : Cond.methodLink RX9 111 yX9_isColumn ∈ zGW := List.mem_filter.mpr ⟨List.mem_of_getElem? (i := 1106) (by decide +kernel), by decide +kernel⟩
theorem mm_1107 : Cond.static yX9_isColumn ∈ zGW := List.mem_filter.mpr ⟨List.mem_of_getElem? (i := 1107) (by decide +kernel), by decide +kernel⟩
theorem mm_1108 : Cond.code yX9_isColumn cX9_isColumn 1 (some .boolean) ∈ zGW := List.mem_filter.mpr ⟨List.mem_of_getElem? (i := 1108) (by decide +kernel), by decide +kernel⟩
theorem mm_1109 : Cond.methodLink RX9 115 yX9_in ∈ zGW := List.mem_filter.mpr ⟨List.mem_of_getElem? (i := 1109) (by decide +kernel), by decide +kernel⟩
theorem mm_1110 : Cond.static yX9_in ∈ zGW := List.mem_filter.mpr ⟨List.mem_of_getElem? (i := 1110) (by decide +kernel), by decide +kernel⟩
theorem mm_1111 : Cond.code yX9_in cX9_in 3 (some .boolean) ∈ zGW := List.mem_filter.mpr ⟨List.mem_of_getElem? (i := 1111) (by decide +kernel), by decide +kernel⟩
theorem mm_1124 : Cond.methodLink RX9 119 yX9_isPerson ∈ zGW := List.mem_filter.mpr ⟨List.mem_of_getElem? (i := 1124) (by decide +kernel), by decide +kernel⟩
theorem mm_1126 : Cond.instanceMethod yX9_isPerson ∈ zGW := List.mem_filter.mpr ⟨List.mem_of_getElem? (i := 1126) (by decide +kernel), by decide +kernel⟩
theorem mm_1127 : Cond.code yX9_isPerson cX9_isPerson 2 (some .boolean) ∈ zGW := List.mem_filter.mpr ⟨List.mem_of_getElem? (i := 1127) (by decide +kernel), by decide +kernel⟩
theorem mm_1132 : Cond.methodLink RX9 122 yX9_blurs ∈ zGW := List.mem_filter.mpr ⟨List.mem_of_getElem? (i := 1132) (by decide +kernel), by decide +kernel⟩
theorem mm_1134 : Cond.instanceMethod yX9_blurs ∈ zGW := List.mem_filter.mpr ⟨List.mem_of_getElem? (i := 1134) (by decide +kernel), by decide +kernel⟩
theorem mm_1135 : Cond.code yX9_blurs cX9_blurs 6 (some .int) ∈ zGW := List.mem_filter.mpr ⟨List.mem_of_getElem? (i := 1135) (by decide +kernel), by decide +kernel⟩
theorem mm_1140 : Cond.methodLink RX9 129 yX9_sizeOf ∈ zGW := List.mem_filter.mpr ⟨List.mem_of_getElem? (i := 1140) (by decide +kernel), by decide +kernel⟩
theorem mm_1142 : Cond.instanceMethod yX9_sizeOf ∈ zGW := List.mem_filter.mpr ⟨List.mem_of_getElem? (i := 1142) (by decide +kernel), by decide +kernel⟩
theorem mm_1143 : Cond.code yX9_sizeOf cX9_sizeOf 5 (some .int) ∈ zGW := List.mem_filter.mpr ⟨List.mem_of_getElem? (i := 1143) (by decide +kernel), by decide +kernel⟩
theorem mm_1144 : Cond.methodLink RX9 126 yX9_isBelow ∈ zGW := List.mem_filter.mpr ⟨List.mem_of_getElem? (i := 1144) (by decide +kernel), by decide +kernel⟩
theorem mm_1146 : Cond.instanceMethod yX9_isBelow ∈ zGW := List.mem_filter.mpr ⟨List.mem_of_getElem? (i := 1146) (by decide +kernel), by decide +kernel⟩
theorem mm_1147 : Cond.code yX9_isBelow cX9_isBelow 5 (some .boolean) ∈ zGW := List.mem_filter.mpr ⟨List.mem_of_getElem? (i := 1147) (by decide +kernel), by decide +kernel⟩
theorem mm_1152 : Cond.methodLink RX9 146 yX9_isLevel ∈ zGW := List.mem_filter.mpr ⟨List.mem_of_getElem? (i := 1152) (by decide +kernel), by decide +kernel⟩
theorem mm_1153 : Cond.static yX9_isLevel ∈ zGW := List.mem_filter.mpr ⟨List.mem_of_getElem? (i := 1153) (by decide +kernel), by decide +kernel⟩
theorem mm_1154 : Cond.code yX9_isLevel cX9_isLevel 1 (some .boolean) ∈ zGW := List.mem_filter.mpr ⟨List.mem_of_getElem? (i := 1154) (by decide +kernel), by decide +kernel⟩
theorem mm_1166 : Cond.methodLink RX9 158 yX9_isThere ∈ zGW := List.mem_filter.mpr ⟨List.mem_of_getElem? (i := 1166) (by decide +kernel), by decide +kernel⟩
theorem mm_1168 : Cond.instanceMethod yX9_isThere ∈ zGW := List.mem_filter.mpr ⟨List.mem_of_getElem? (i := 1168) (by decide +kernel), by decide +kernel⟩
theorem mm_1169 : Cond.code yX9_isThere cX9_isThere 3 (some .boolean) ∈ zGW := List.mem_filter.mpr ⟨List.mem_of_getElem? (i := 1169) (by decide +kernel), by decide +kernel⟩
theorem mm_1170 : Cond.methodLink RX9 139 yX9_isLine ∈ zGW := List.mem_filter.mpr ⟨List.mem_of_getElem? (i := 1170) (by decide +kernel), by decide +kernel⟩
theorem mm_1172 : Cond.instanceMethod yX9_isLine ∈ zGW := List.mem_filter.mpr ⟨List.mem_of_getElem? (i := 1172) (by decide +kernel), by decide +kernel⟩
theorem mm_1173 : Cond.code yX9_isLine cX9_isLine 3 (some .boolean) ∈ zGW := List.mem_filter.mpr ⟨List.mem_of_getElem? (i := 1173) (by decide +kernel), by decide +kernel⟩
theorem mm_1174 : Cond.methodLink RX9 136 yX9_isBook ∈ zGW := List.mem_filter.mpr ⟨List.mem_of_getElem? (i := 1174) (by decide +kernel), by decide +kernel⟩
theorem mm_1176 : Cond.instanceMethod yX9_isBook ∈ zGW := List.mem_filter.mpr ⟨List.mem_of_getElem? (i := 1176) (by decide +kernel), by decide +kernel⟩
theorem mm_1177 : Cond.code yX9_isBook cX9_isBook 2 (some .boolean) ∈ zGW := List.mem_filter.mpr ⟨List.mem_of_getElem? (i := 1177) (by decide +kernel), by decide +kernel⟩
theorem mm_1182 : Cond.methodLink RX9 161 yX9_canSwap ∈ zGW := List.mem_filter.mpr ⟨List.mem_of_getElem? (i := 1182) (by decide +kernel), by decide +kernel⟩
theorem mm_1184 : Cond.instanceMethod yX9_canSwap ∈ zGW := List.mem_filter.mpr ⟨List.mem_of_getElem? (i := 1184) (by decide +kernel), by decide +kernel⟩
theorem mm_1185 : Cond.code yX9_canSwap cX9_canSwap 5 (some .boolean) ∈ zGW := List.mem_filter.mpr ⟨List.mem_of_getElem? (i := 1185) (by decide +kernel), by decide +kernel⟩
theorem mm_1202 : Cond.methodLink RX9 172 yX9_types ∈ zGW := List.mem_filter.mpr ⟨List.mem_of_getElem? (i := 1202) (by decide +kernel), by decide +kernel⟩
theorem mm_1204 : Cond.instanceMethod yX9_types ∈ zGW := List.mem_filter.mpr ⟨List.mem_of_getElem? (i := 1204) (by decide +kernel), by decide +kernel⟩
theorem mm_1205 : Cond.code yX9_types cX9_types 3 none ∈ zGW := List.mem_filter.mpr ⟨List.mem_of_getElem? (i := 1205) (by decide +kernel), by decide +kernel⟩
theorem mm_1328 : Cond.constantLong RX9 297 (-1) ∈ zGW := List.mem_filter.mpr ⟨List.mem_of_getElem? (i := 1328) (by decide +kernel), by decide +kernel⟩
theorem mm_1345 : Cond.methodLink RX9 306 yX9_isAsked ∈ zGW := List.mem_filter.mpr ⟨List.mem_of_getElem? (i := 1345) (by decide +kernel), by decide +kernel⟩
theorem mm_1347 : Cond.instanceMethod yX9_isAsked ∈ zGW := List.mem_filter.mpr ⟨List.mem_of_getElem? (i := 1347) (by decide +kernel), by decide +kernel⟩
theorem mm_1348 : Cond.code yX9_isAsked cX9_isAsked 5 (some .boolean) ∈ zGW := List.mem_filter.mpr ⟨List.mem_of_getElem? (i := 1348) (by decide +kernel), by decide +kernel⟩
theorem mm_1404 : Cond.methodLink RX9 333 yX9_isMany ∈ zGW := List.mem_filter.mpr ⟨List.mem_of_getElem? (i := 1404) (by decide +kernel), by decide +kernel⟩
theorem mm_1405 : Cond.static yX9_isMany ∈ zGW := List.mem_filter.mpr ⟨List.mem_of_getElem? (i := 1405) (by decide +kernel), by decide +kernel⟩
theorem mm_1406 : Cond.code yX9_isMany cX9_isMany 1 (some .boolean) ∈ zGW := List.mem_filter.mpr ⟨List.mem_of_getElem? (i := 1406) (by decide +kernel), by decide +kernel⟩

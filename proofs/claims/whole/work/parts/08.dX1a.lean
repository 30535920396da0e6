theorem dX1_init_0 : decode cX1_init 0 = .ok (.aload_n 0, 1) := by decide +kernel
theorem dX1_init_1 : decode cX1_init 1 = .ok (.invokespecial 3, 3) := by decide +kernel
theorem dX1_init_4 : decode cX1_init 4 = .ok (.return_, 1) := by decide +kernel
theorem dX1_takeName_0 : decode cX1_takeName 0 = .ok (.aload_n 1, 1) := by decide +kernel
theorem dX1_takeName_1 : decode cX1_takeName 1 = .ok (.getfield 9, 3) := by decide +kernel
theorem dX1_takeName_4 : decode cX1_takeName 4 = .ok (.istore 4, 2) := by decide +kernel
theorem dX1_takeName_6 : decode cX1_takeName 6 = .ok (.aload_n 1, 1) := by decide +kernel
theorem dX1_takeName_7 : decode cX1_takeName 7 = .ok (.invokevirtual 15, 3) := by decide +kernel
theorem dX1_takeName_10 : decode cX1_takeName 10 = .ok (.aload_n 1, 1) := by decide +kernel
theorem dX1_takeName_11 : decode cX1_takeName 11 = .ok (.iload 4, 2) := by decide +kernel
theorem dX1_takeName_13 : decode cX1_takeName 13 = .ok (.aload_n 1, 1) := by decide +kernel
theorem dX1_takeName_14 : decode cX1_takeName 14 = .ok (.getfield 9, 3) := by decide +kernel
theorem dX1_takeName_17 : decode cX1_takeName 17 = .ok (.invokevirtual 18, 3) := by decide +kernel
theorem dX1_takeName_20 : decode cX1_takeName 20 = .ok (.astore 5, 2) := by decide +kernel
theorem dX1_takeName_22 : decode cX1_takeName 22 = .ok (.iconst (-1), 1) := by decide +kernel
theorem dX1_takeName_23 : decode cX1_takeName 23 = .ok (.istore 6, 2) := by decide +kernel
theorem dX1_takeName_25 : decode cX1_takeName 25 = .ok (.aload_n 1, 1) := by decide +kernel
theorem dX1_takeName_26 : decode cX1_takeName 26 = .ok (.getfield 9, 3) := by decide +kernel
theorem dX1_takeName_29 : decode cX1_takeName 29 = .ok (.iload 4, 2) := by decide +kernel
theorem dX1_takeName_31 : decode cX1_takeName 31 = .ok (.if_icmp .le 22, 3) := by decide +kernel
theorem dX1_takeName_34 : decode cX1_takeName 34 = .ok (.aload_n 2, 1) := by decide +kernel
theorem dX1_takeName_35 : decode cX1_takeName 35 = .ok (.iload_n 3, 1) := by decide +kernel
theorem dX1_takeName_36 : decode cX1_takeName 36 = .ok (.aload 5, 2) := by decide +kernel
theorem dX1_takeName_38 : decode cX1_takeName 38 = .ok (.invokevirtual 22, 3) := by decide +kernel
theorem dX1_takeName_41 : decode cX1_takeName 41 = .ok (.ifCond .eq 12, 3) := by decide +kernel
theorem dX1_takeName_44 : decode cX1_takeName 44 = .ok (.aload_n 2, 1) := by decide +kernel
theorem dX1_takeName_45 : decode cX1_takeName 45 = .ok (.iload_n 3, 1) := by decide +kernel
theorem dX1_takeName_46 : decode cX1_takeName 46 = .ok (.aload 5, 2) := by decide +kernel
theorem dX1_takeName_48 : decode cX1_takeName 48 = .ok (.invokevirtual 28, 3) := by decide +kernel
theorem dX1_takeName_51 : decode cX1_takeName 51 = .ok (.istore 6, 2) := by decide +kernel
theorem dX1_takeName_53 : decode cX1_takeName 53 = .ok (.iload 6, 2) := by decide +kernel
theorem dX1_takeName_55 : decode cX1_takeName 55 = .ok (.iconst (-1), 1) := by decide +kernel
theorem dX1_takeName_56 : decode cX1_takeName 56 = .ok (.if_icmp .ne 10, 3) := by decide +kernel
theorem dX1_takeName_59 : decode cX1_takeName 59 = .ok (.aload_n 1, 1) := by decide +kernel
theorem dX1_takeName_60 : decode cX1_takeName 60 = .ok (.iload 4, 2) := by decide +kernel
theorem dX1_takeName_62 : decode cX1_takeName 62 = .ok (.invokevirtual 32, 3) := by decide +kernel
theorem dX1_takeName_65 : decode cX1_takeName 65 = .ok (.pop, 1) := by decide +kernel
theorem dX1_takeName_66 : decode cX1_takeName 66 = .ok (.iload 6, 2) := by decide +kernel
theorem dX1_takeName_68 : decode cX1_takeName 68 = .ok (.ireturn, 1) := by decide +kernel
theorem dX1_takeValues_0 : decode cX1_takeValues 0 = .ok (.aload_n 2, 1) := by decide +kernel
theorem dX1_takeValues_1 : decode cX1_takeValues 1 = .ok (.iload_n 3, 1) := by decide +kernel
theorem dX1_takeValues_2 : decode cX1_takeValues 2 = .ok (.invokevirtual 36, 3) := by decide +kernel
theorem dX1_takeValues_5 : decode cX1_takeValues 5 = .ok (.astore 4, 2) := by decide +kernel
theorem dX1_takeValues_7 : decode cX1_takeValues 7 = .ok (.aload 4, 2) := by decide +kernel
theorem dX1_takeValues_9 : decode cX1_takeValues 9 = .ok (.getstatic 40, 3) := by decide +kernel
theorem dX1_takeValues_12 : decode cX1_takeValues 12 = .ok (.if_acmp .ne 49, 3) := by decide +kernel
theorem dX1_takeValues_15 : decode cX1_takeValues 15 = .ok (.aload_n 0, 1) := by decide +kernel
theorem dX1_takeValues_16 : decode cX1_takeValues 16 = .ok (.aload_n 1, 1) := by decide +kernel
theorem dX1_takeValues_17 : decode cX1_takeValues 17 = .ok (.invokevirtual 46, 3) := by decide +kernel
theorem dX1_takeValues_20 : decode cX1_takeValues 20 = .ok (.ifCond .eq 17, 3) := by decide +kernel
theorem dX1_takeValues_23 : decode cX1_takeValues 23 = .ok (.aload_n 1, 1) := by decide +kernel
theorem dX1_takeValues_24 : decode cX1_takeValues 24 = .ok (.getstatic 52, 3) := by decide +kernel
theorem dX1_takeValues_27 : decode cX1_takeValues 27 = .ok (.invokevirtual 58, 3) := by decide +kernel
theorem dX1_takeValues_30 : decode cX1_takeValues 30 = .ok (.ifCond .eq 7, 3) := by decide +kernel
theorem dX1_takeValues_33 : decode cX1_takeValues 33 = .ok (.iconst 1, 1) := by decide +kernel
theorem dX1_takeValues_34 : decode cX1_takeValues 34 = .ok (.goto 4, 3) := by decide +kernel
theorem dX1_takeValues_37 : decode cX1_takeValues 37 = .ok (.iconst 0, 1) := by decide +kernel
theorem dX1_takeValues_38 : decode cX1_takeValues 38 = .ok (.istore 5, 2) := by decide +kernel
theorem dX1_takeValues_40 : decode cX1_takeValues 40 = .ok (.aload_n 2, 1) := by decide +kernel
theorem dX1_takeValues_41 : decode cX1_takeValues 41 = .ok (.iload 5, 2) := by decide +kernel
theorem dX1_takeValues_43 : decode cX1_takeValues 43 = .ok (.ifCond .eq 11, 3) := by decide +kernel
theorem dX1_takeValues_46 : decode cX1_takeValues 46 = .ok (.aload_n 1, 1) := by decide +kernel
theorem dX1_takeValues_47 : decode cX1_takeValues 47 = .ok (.getfield 62, 3) := by decide +kernel
theorem dX1_takeValues_50 : decode cX1_takeValues 50 = .ok (.l2i, 1) := by decide +kernel
theorem dX1_takeValues_51 : decode cX1_takeValues 51 = .ok (.goto 4, 3) := by decide +kernel
theorem dX1_takeValues_54 : decode cX1_takeValues 54 = .ok (.iconst 0, 1) := by decide +kernel
theorem dX1_takeValues_55 : decode cX1_takeValues 55 = .ok (.putfield 66, 3) := by decide +kernel
theorem dX1_takeValues_58 : decode cX1_takeValues 58 = .ok (.iload 5, 2) := by decide +kernel
theorem dX1_takeValues_60 : decode cX1_takeValues 60 = .ok (.ireturn, 1) := by decide +kernel
theorem dX1_takeValues_61 : decode cX1_takeValues 61 = .ok (.iconst 0, 1) := by decide +kernel
theorem dX1_takeValues_62 : decode cX1_takeValues 62 = .ok (.istore 5, 2) := by decide +kernel
theorem dX1_takeValues_64 : decode cX1_takeValues 64 = .ok (.iconst 0, 1) := by decide +kernel
theorem dX1_takeValues_65 : decode cX1_takeValues 65 = .ok (.istore 6, 2) := by decide +kernel
theorem dX1_takeValues_67 : decode cX1_takeValues 67 = .ok (.iconst 0, 1) := by decide +kernel
theorem dX1_takeValues_68 : decode cX1_takeValues 68 = .ok (.istore 7, 2) := by decide +kernel
theorem dX1_takeValues_70 : decode cX1_takeValues 70 = .ok (.iload 7, 2) := by decide +kernel
theorem dX1_takeValues_72 : decode cX1_takeValues 72 = .ok (.aload 4, 2) := by decide +kernel
theorem dX1_takeValues_74 : decode cX1_takeValues 74 = .ok (.invokevirtual 69, 3) := by decide +kernel
theorem dX1_takeValues_77 : decode cX1_takeValues 77 = .ok (.if_icmp .ge 95, 3) := by decide +kernel
theorem dX1_takeValues_80 : decode cX1_takeValues 80 = .ok (.aload 4, 2) := by decide +kernel
theorem dX1_takeValues_82 : decode cX1_takeValues 82 = .ok (.iload 7, 2) := by decide +kernel
theorem dX1_takeValues_84 : decode cX1_takeValues 84 = .ok (.invokevirtual 73, 3) := by decide +kernel
theorem dX1_takeValues_87 : decode cX1_takeValues 87 = .ok (.astore 8, 2) := by decide +kernel
theorem dX1_takeValues_89 : decode cX1_takeValues 89 = .ok (.aload 8, 2) := by decide +kernel
theorem dX1_takeValues_91 : decode cX1_takeValues 91 = .ok (.getfield 77, 3) := by decide +kernel
theorem dX1_takeValues_94 : decode cX1_takeValues 94 = .ok (.aload_n 2, 1) := by decide +kernel
theorem dX1_takeValues_95 : decode cX1_takeValues 95 = .ok (.getfield 66, 3) := by decide +kernel
theorem dX1_takeValues_98 : decode cX1_takeValues 98 = .ok (.if_icmp .le 6, 3) := by decide +kernel
theorem dX1_takeValues_101 : decode cX1_takeValues 101 = .ok (.goto 65, 3) := by decide +kernel
theorem dX1_takeValues_104 : decode cX1_takeValues 104 = .ok (.aload_n 0, 1) := by decide +kernel
theorem dX1_takeValues_105 : decode cX1_takeValues 105 = .ok (.aload_n 1, 1) := by decide +kernel
theorem dX1_takeValues_106 : decode cX1_takeValues 106 = .ok (.invokevirtual 46, 3) := by decide +kernel
theorem dX1_takeValues_109 : decode cX1_takeValues 109 = .ok (.ifCond .ne 5, 3) := by decide +kernel
theorem dX1_takeValues_112 : decode cX1_takeValues 112 = .ok (.iconst 0, 1) := by decide +kernel
theorem dX1_takeValues_113 : decode cX1_takeValues 113 = .ok (.ireturn, 1) := by decide +kernel
theorem dX1_takeValues_114 : decode cX1_takeValues 114 = .ok (.aload 8, 2) := by decide +kernel
theorem dX1_takeValues_116 : decode cX1_takeValues 116 = .ok (.invokevirtual 80, 3) := by decide +kernel
theorem dX1_takeValues_119 : decode cX1_takeValues 119 = .ok (.ifCond .eq 22, 3) := by decide +kernel
theorem dX1_takeValues_122 : decode cX1_takeValues 122 = .ok (.aload_n 1, 1) := by decide +kernel
theorem dX1_takeValues_123 : decode cX1_takeValues 123 = .ok (.aload_n 2, 1) := by decide +kernel
theorem dX1_takeValues_124 : decode cX1_takeValues 124 = .ok (.iload_n 3, 1) := by decide +kernel
theorem dX1_takeValues_125 : decode cX1_takeValues 125 = .ok (.iload 5, 2) := by decide +kernel
theorem dX1_takeValues_127 : decode cX1_takeValues 127 = .ok (.invokevirtual 84, 3) := by decide +kernel
theorem dX1_takeValues_130 : decode cX1_takeValues 130 = .ok (.ifCond .ne 5, 3) := by decide +kernel
theorem dX1_takeValues_133 : decode cX1_takeValues 133 = .ok (.iconst 0, 1) := by decide +kernel
theorem dX1_takeValues_134 : decode cX1_takeValues 134 = .ok (.ireturn, 1) := by decide +kernel
theorem dX1_takeValues_135 : decode cX1_takeValues 135 = .ok (.iinc 5 1, 3) := by decide +kernel
theorem dX1_takeValues_138 : decode cX1_takeValues 138 = .ok (.goto 28, 3) := by decide +kernel
theorem dX1_takeValues_141 : decode cX1_takeValues 141 = .ok (.aload_n 1, 1) := by decide +kernel
theorem dX1_takeValues_142 : decode cX1_takeValues 142 = .ok (.aload 8, 2) := by decide +kernel
theorem dX1_takeValues_144 : decode cX1_takeValues 144 = .ok (.invokevirtual 58, 3) := by decide +kernel
theorem dX1_takeValues_147 : decode cX1_takeValues 147 = .ok (.ifCond .ne 5, 3) := by decide +kernel
theorem dX1_takeValues_150 : decode cX1_takeValues 150 = .ok (.iconst 0, 1) := by decide +kernel
theorem dX1_takeValues_151 : decode cX1_takeValues 151 = .ok (.ireturn, 1) := by decide +kernel
theorem dX1_takeValues_152 : decode cX1_takeValues 152 = .ok (.aload_n 2, 1) := by decide +kernel
theorem dX1_takeValues_153 : decode cX1_takeValues 153 = .ok (.iload_n 3, 1) := by decide +kernel
theorem dX1_takeValues_154 : decode cX1_takeValues 154 = .ok (.iload 6, 2) := by decide +kernel
theorem dX1_takeValues_156 : decode cX1_takeValues 156 = .ok (.aload_n 1, 1) := by decide +kernel
theorem dX1_takeValues_157 : decode cX1_takeValues 157 = .ok (.getfield 62, 3) := by decide +kernel
theorem dX1_takeValues_160 : decode cX1_takeValues 160 = .ok (.invokevirtual 88, 3) := by decide +kernel
theorem dX1_takeValues_163 : decode cX1_takeValues 163 = .ok (.iinc 6 1, 3) := by decide +kernel
theorem dX1_takeValues_166 : decode cX1_takeValues 166 = .ok (.iinc 7 1, 3) := by decide +kernel
theorem dX1_takeValues_169 : decode cX1_takeValues 169 = .ok (.goto (-99), 3) := by decide +kernel
theorem dX1_takeValues_172 : decode cX1_takeValues 172 = .ok (.iconst 1, 1) := by decide +kernel
theorem dX1_takeValues_173 : decode cX1_takeValues 173 = .ok (.ireturn, 1) := by decide +kernel
theorem dX1_putNameAndValues_0 : decode cX1_putNameAndValues 0 = .ok (.aload_n 1, 1) := by decide +kernel
theorem dX1_putNameAndValues_1 : decode cX1_putNameAndValues 1 = .ok (.iload_n 2, 1) := by decide +kernel
theorem dX1_putNameAndValues_2 : decode cX1_putNameAndValues 2 = .ok (.invokevirtual 36, 3) := by decide +kernel
theorem dX1_putNameAndValues_5 : decode cX1_putNameAndValues 5 = .ok (.astore 4, 2) := by decide +kernel
theorem dX1_putNameAndValues_7 : decode cX1_putNameAndValues 7 = .ok (.aload_n 3, 1) := by decide +kernel
theorem dX1_putNameAndValues_8 : decode cX1_putNameAndValues 8 = .ok (.aload 4, 2) := by decide +kernel
theorem dX1_putNameAndValues_10 : decode cX1_putNameAndValues 10 = .ok (.getfield 92, 3) := by decide +kernel
theorem dX1_putNameAndValues_13 : decode cX1_putNameAndValues 13 = .ok (.invokevirtual 96, 3) := by decide +kernel
theorem dX1_putNameAndValues_16 : decode cX1_putNameAndValues 16 = .ok (.aload 4, 2) := by decide +kernel
theorem dX1_putNameAndValues_18 : decode cX1_putNameAndValues 18 = .ok (.getstatic 40, 3) := by decide +kernel
theorem dX1_putNameAndValues_21 : decode cX1_putNameAndValues 21 = .ok (.if_acmp .ne 19, 3) := by decide +kernel
theorem dX1_putNameAndValues_24 : decode cX1_putNameAndValues 24 = .ok (.aload_n 3, 1) := by decide +kernel
theorem dX1_putNameAndValues_25 : decode cX1_putNameAndValues 25 = .ok (.bipush 32, 2) := by decide +kernel
theorem dX1_putNameAndValues_27 : decode cX1_putNameAndValues 27 = .ok (.invokevirtual 102, 3) := by decide +kernel
theorem dX1_putNameAndValues_30 : decode cX1_putNameAndValues 30 = .ok (.aload_n 3, 1) := by decide +kernel
theorem dX1_putNameAndValues_31 : decode cX1_putNameAndValues 31 = .ok (.getstatic 52, 3) := by decide +kernel
theorem dX1_putNameAndValues_34 : decode cX1_putNameAndValues 34 = .ok (.ldc2_w 106, 3) := by decide +kernel
theorem dX1_putNameAndValues_37 : decode cX1_putNameAndValues 37 = .ok (.invokevirtual 108, 3) := by decide +kernel
theorem dX1_putNameAndValues_40 : decode cX1_putNameAndValues 40 = .ok (.iconst 0, 1) := by decide +kernel
theorem dX1_putNameAndValues_41 : decode cX1_putNameAndValues 41 = .ok (.istore 5, 2) := by decide +kernel
theorem dX1_putNameAndValues_43 : decode cX1_putNameAndValues 43 = .ok (.iconst 0, 1) := by decide +kernel
theorem dX1_putNameAndValues_44 : decode cX1_putNameAndValues 44 = .ok (.istore 6, 2) := by decide +kernel
theorem dX1_putNameAndValues_46 : decode cX1_putNameAndValues 46 = .ok (.iconst 0, 1) := by decide +kernel
theorem dX1_putNameAndValues_47 : decode cX1_putNameAndValues 47 = .ok (.istore 7, 2) := by decide +kernel
theorem dX1_putNameAndValues_49 : decode cX1_putNameAndValues 49 = .ok (.iload 7, 2) := by decide +kernel
theorem dX1_putNameAndValues_51 : decode cX1_putNameAndValues 51 = .ok (.aload 4, 2) := by decide +kernel
theorem dX1_putNameAndValues_53 : decode cX1_putNameAndValues 53 = .ok (.invokevirtual 69, 3) := by decide +kernel
theorem dX1_putNameAndValues_56 : decode cX1_putNameAndValues 56 = .ok (.if_icmp .ge 62, 3) := by decide +kernel
theorem dX1_putNameAndValues_59 : decode cX1_putNameAndValues 59 = .ok (.aload 4, 2) := by decide +kernel
theorem dX1_putNameAndValues_61 : decode cX1_putNameAndValues 61 = .ok (.iload 7, 2) := by decide +kernel
theorem dX1_putNameAndValues_63 : decode cX1_putNameAndValues 63 = .ok (.invokevirtual 73, 3) := by decide +kernel
theorem dX1_putNameAndValues_66 : decode cX1_putNameAndValues 66 = .ok (.astore 8, 2) := by decide +kernel
theorem dX1_putNameAndValues_68 : decode cX1_putNameAndValues 68 = .ok (.aload_n 3, 1) := by decide +kernel
theorem dX1_putNameAndValues_69 : decode cX1_putNameAndValues 69 = .ok (.bipush 32, 2) := by decide +kernel
theorem dX1_putNameAndValues_71 : decode cX1_putNameAndValues 71 = .ok (.invokevirtual 102, 3) := by decide +kernel
theorem dX1_putNameAndValues_74 : decode cX1_putNameAndValues 74 = .ok (.aload 8, 2) := by decide +kernel
theorem dX1_putNameAndValues_76 : decode cX1_putNameAndValues 76 = .ok (.invokevirtual 80, 3) := by decide +kernel
theorem dX1_putNameAndValues_79 : decode cX1_putNameAndValues 79 = .ok (.ifCond .eq 17, 3) := by decide +kernel
theorem dX1_putNameAndValues_82 : decode cX1_putNameAndValues 82 = .ok (.aload_n 3, 1) := by decide +kernel
theorem dX1_putNameAndValues_83 : decode cX1_putNameAndValues 83 = .ok (.aload_n 1, 1) := by decide +kernel
theorem dX1_putNameAndValues_84 : decode cX1_putNameAndValues 84 = .ok (.iload_n 2, 1) := by decide +kernel
theorem dX1_putNameAndValues_85 : decode cX1_putNameAndValues 85 = .ok (.iload 5, 2) := by decide +kernel
theorem dX1_putNameAndValues_87 : decode cX1_putNameAndValues 87 = .ok (.invokevirtual 111, 3) := by decide +kernel
theorem dX1_putNameAndValues_90 : decode cX1_putNameAndValues 90 = .ok (.iinc 5 1, 3) := by decide +kernel
theorem dX1_putNameAndValues_93 : decode cX1_putNameAndValues 93 = .ok (.goto 19, 3) := by decide +kernel
theorem dX1_putNameAndValues_96 : decode cX1_putNameAndValues 96 = .ok (.aload_n 3, 1) := by decide +kernel
theorem dX1_putNameAndValues_97 : decode cX1_putNameAndValues 97 = .ok (.aload 8, 2) := by decide +kernel
theorem dX1_putNameAndValues_99 : decode cX1_putNameAndValues 99 = .ok (.aload_n 1, 1) := by decide +kernel
theorem dX1_putNameAndValues_100 : decode cX1_putNameAndValues 100 = .ok (.iload_n 2, 1) := by decide +kernel
theorem dX1_putNameAndValues_101 : decode cX1_putNameAndValues 101 = .ok (.iload 6, 2) := by decide +kernel
theorem dX1_putNameAndValues_103 : decode cX1_putNameAndValues 103 = .ok (.invokevirtual 115, 3) := by decide +kernel
theorem dX1_putNameAndValues_106 : decode cX1_putNameAndValues 106 = .ok (.invokevirtual 108, 3) := by decide +kernel
theorem dX1_putNameAndValues_109 : decode cX1_putNameAndValues 109 = .ok (.iinc 6 1, 3) := by decide +kernel
theorem dX1_putNameAndValues_112 : decode cX1_putNameAndValues 112 = .ok (.iinc 7 1, 3) := by decide +kernel
theorem dX1_putNameAndValues_115 : decode cX1_putNameAndValues 115 = .ok (.goto (-66), 3) := by decide +kernel
theorem dX1_putNameAndValues_118 : decode cX1_putNameAndValues 118 = .ok (.return_, 1) := by decide +kernel

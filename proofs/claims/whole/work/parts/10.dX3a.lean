theorem dX3_init_0 : decode cX3_init 0 = .ok (.aload_n 0, 1) := by decide +kernel
theorem dX3_init_1 : decode cX3_init 1 = .ok (.invokespecial 3, 3) := by decide +kernel
theorem dX3_init_4 : decode cX3_init 4 = .ok (.return_, 1) := by decide +kernel
theorem dX3_take_0 : decode cX3_take 0 = .ok (.aload_n 0, 1) := by decide +kernel
theorem dX3_take_1 : decode cX3_take 1 = .ok (.aload_n 1, 1) := by decide +kernel
theorem dX3_take_2 : decode cX3_take 2 = .ok (.aload_n 2, 1) := by decide +kernel
theorem dX3_take_3 : decode cX3_take 3 = .ok (.iconst (-1), 1) := by decide +kernel
theorem dX3_take_4 : decode cX3_take 4 = .ok (.invokevirtual 9, 3) := by decide +kernel
theorem dX3_take_7 : decode cX3_take 7 = .ok (.istore_n 3, 1) := by decide +kernel
theorem dX3_take_8 : decode cX3_take 8 = .ok (.iconst 0, 1) := by decide +kernel
theorem dX3_take_9 : decode cX3_take 9 = .ok (.istore 4, 2) := by decide +kernel
theorem dX3_take_11 : decode cX3_take 11 = .ok (.iload 4, 2) := by decide +kernel
theorem dX3_take_13 : decode cX3_take 13 = .ok (.sipush 4000, 3) := by decide +kernel
theorem dX3_take_16 : decode cX3_take 16 = .ok (.if_icmp .ge 29, 3) := by decide +kernel
theorem dX3_take_19 : decode cX3_take 19 = .ok (.iload_n 3, 1) := by decide +kernel
theorem dX3_take_20 : decode cX3_take 20 = .ok (.iconst (-1), 1) := by decide +kernel
theorem dX3_take_21 : decode cX3_take 21 = .ok (.if_icmp .eq 24, 3) := by decide +kernel
theorem dX3_take_24 : decode cX3_take 24 = .ok (.aload_n 1, 1) := by decide +kernel
theorem dX3_take_25 : decode cX3_take 25 = .ok (.invokevirtual 15, 3) := by decide +kernel
theorem dX3_take_28 : decode cX3_take 28 = .ok (.ifCond .ne 17, 3) := by decide +kernel
theorem dX3_take_31 : decode cX3_take 31 = .ok (.aload_n 0, 1) := by decide +kernel
theorem dX3_take_32 : decode cX3_take 32 = .ok (.aload_n 1, 1) := by decide +kernel
theorem dX3_take_33 : decode cX3_take 33 = .ok (.aload_n 2, 1) := by decide +kernel
theorem dX3_take_34 : decode cX3_take 34 = .ok (.iload_n 3, 1) := by decide +kernel
theorem dX3_take_35 : decode cX3_take 35 = .ok (.invokevirtual 9, 3) := by decide +kernel
theorem dX3_take_38 : decode cX3_take 38 = .ok (.istore_n 3, 1) := by decide +kernel
theorem dX3_take_39 : decode cX3_take 39 = .ok (.iinc 4 1, 3) := by decide +kernel
theorem dX3_take_42 : decode cX3_take 42 = .ok (.goto (-31), 3) := by decide +kernel
theorem dX3_take_45 : decode cX3_take 45 = .ok (.iload_n 3, 1) := by decide +kernel
theorem dX3_take_46 : decode cX3_take 46 = .ok (.iconst (-1), 1) := by decide +kernel
theorem dX3_take_47 : decode cX3_take 47 = .ok (.if_icmp .eq 7, 3) := by decide +kernel
theorem dX3_take_50 : decode cX3_take 50 = .ok (.iconst 1, 1) := by decide +kernel
theorem dX3_take_51 : decode cX3_take 51 = .ok (.goto 4, 3) := by decide +kernel
theorem dX3_take_54 : decode cX3_take 54 = .ok (.iconst 0, 1) := by decide +kernel
theorem dX3_take_55 : decode cX3_take 55 = .ok (.ireturn, 1) := by decide +kernel
theorem dX3_takeLine_0 : decode cX3_takeLine 0 = .ok (.aload_n 2, 1) := by decide +kernel
theorem dX3_takeLine_1 : decode cX3_takeLine 1 = .ok (.iload_n 3, 1) := by decide +kernel
theorem dX3_takeLine_2 : decode cX3_takeLine 2 = .ok (.invokevirtual 21, 3) := by decide +kernel
theorem dX3_takeLine_5 : decode cX3_takeLine 5 = .ok (.iconst 1, 1) := by decide +kernel
theorem dX3_takeLine_6 : decode cX3_takeLine 6 = .ok (.iadd, 1) := by decide +kernel
theorem dX3_takeLine_7 : decode cX3_takeLine 7 = .ok (.istore 4, 2) := by decide +kernel
theorem dX3_takeLine_9 : decode cX3_takeLine 9 = .ok (.aload_n 1, 1) := by decide +kernel
theorem dX3_takeLine_10 : decode cX3_takeLine 10 = .ok (.getfield 27, 3) := by decide +kernel
theorem dX3_takeLine_13 : decode cX3_takeLine 13 = .ok (.istore 5, 2) := by decide +kernel
theorem dX3_takeLine_15 : decode cX3_takeLine 15 = .ok (.aload_n 1, 1) := by decide +kernel
theorem dX3_takeLine_16 : decode cX3_takeLine 16 = .ok (.iload 5, 2) := by decide +kernel
theorem dX3_takeLine_18 : decode cX3_takeLine 18 = .ok (.invokevirtual 31, 3) := by decide +kernel
theorem dX3_takeLine_21 : decode cX3_takeLine 21 = .ok (.istore 6, 2) := by decide +kernel
theorem dX3_takeLine_23 : decode cX3_takeLine 23 = .ok (.iload 6, 2) := by decide +kernel
theorem dX3_takeLine_25 : decode cX3_takeLine 25 = .ok (.iload 4, 2) := by decide +kernel
theorem dX3_takeLine_27 : decode cX3_takeLine 27 = .ok (.if_icmp .le 15, 3) := by decide +kernel
theorem dX3_takeLine_30 : decode cX3_takeLine 30 = .ok (.aload_n 1, 1) := by decide +kernel
theorem dX3_takeLine_31 : decode cX3_takeLine 31 = .ok (.iload 5, 2) := by decide +kernel
theorem dX3_takeLine_33 : decode cX3_takeLine 33 = .ok (.iload 4, 2) := by decide +kernel
theorem dX3_takeLine_35 : decode cX3_takeLine 35 = .ok (.iadd, 1) := by decide +kernel
theorem dX3_takeLine_36 : decode cX3_takeLine 36 = .ok (.invokevirtual 34, 3) := by decide +kernel
theorem dX3_takeLine_39 : decode cX3_takeLine 39 = .ok (.pop, 1) := by decide +kernel
theorem dX3_takeLine_40 : decode cX3_takeLine 40 = .ok (.iconst (-1), 1) := by decide +kernel
theorem dX3_takeLine_41 : decode cX3_takeLine 41 = .ok (.ireturn, 1) := by decide +kernel
theorem dX3_takeLine_42 : decode cX3_takeLine 42 = .ok (.iload 6, 2) := by decide +kernel
theorem dX3_takeLine_44 : decode cX3_takeLine 44 = .ok (.ifCond .ne 17, 3) := by decide +kernel
theorem dX3_takeLine_47 : decode cX3_takeLine 47 = .ok (.iload_n 3, 1) := by decide +kernel
theorem dX3_takeLine_48 : decode cX3_takeLine 48 = .ok (.iconst (-1), 1) := by decide +kernel
theorem dX3_takeLine_49 : decode cX3_takeLine 49 = .ok (.if_icmp .eq 12, 3) := by decide +kernel
theorem dX3_takeLine_52 : decode cX3_takeLine 52 = .ok (.aload_n 1, 1) := by decide +kernel
theorem dX3_takeLine_53 : decode cX3_takeLine 53 = .ok (.iload 5, 2) := by decide +kernel
theorem dX3_takeLine_55 : decode cX3_takeLine 55 = .ok (.invokevirtual 34, 3) := by decide +kernel
theorem dX3_takeLine_58 : decode cX3_takeLine 58 = .ok (.pop, 1) := by decide +kernel
theorem dX3_takeLine_59 : decode cX3_takeLine 59 = .ok (.iconst (-1), 1) := by decide +kernel
theorem dX3_takeLine_60 : decode cX3_takeLine 60 = .ok (.ireturn, 1) := by decide +kernel
theorem dX3_takeLine_61 : decode cX3_takeLine 61 = .ok (.aload_n 1, 1) := by decide +kernel
theorem dX3_takeLine_62 : decode cX3_takeLine 62 = .ok (.iload 5, 2) := by decide +kernel
theorem dX3_takeLine_64 : decode cX3_takeLine 64 = .ok (.iload 6, 2) := by decide +kernel
theorem dX3_takeLine_66 : decode cX3_takeLine 66 = .ok (.iadd, 1) := by decide +kernel
theorem dX3_takeLine_67 : decode cX3_takeLine 67 = .ok (.putfield 27, 3) := by decide +kernel
theorem dX3_takeLine_70 : decode cX3_takeLine 70 = .ok (.aload_n 0, 1) := by decide +kernel
theorem dX3_takeLine_71 : decode cX3_takeLine 71 = .ok (.aload_n 1, 1) := by decide +kernel
theorem dX3_takeLine_72 : decode cX3_takeLine 72 = .ok (.aload_n 2, 1) := by decide +kernel
theorem dX3_takeLine_73 : decode cX3_takeLine 73 = .ok (.aload_n 0, 1) := by decide +kernel
theorem dX3_takeLine_74 : decode cX3_takeLine 74 = .ok (.aload_n 2, 1) := by decide +kernel
theorem dX3_takeLine_75 : decode cX3_takeLine 75 = .ok (.iload_n 3, 1) := by decide +kernel
theorem dX3_takeLine_76 : decode cX3_takeLine 76 = .ok (.iload 6, 2) := by decide +kernel
theorem dX3_takeLine_78 : decode cX3_takeLine 78 = .ok (.invokevirtual 38, 3) := by decide +kernel
theorem dX3_takeLine_81 : decode cX3_takeLine 81 = .ok (.invokevirtual 42, 3) := by decide +kernel
theorem dX3_takeLine_84 : decode cX3_takeLine 84 = .ok (.istore 7, 2) := by decide +kernel
theorem dX3_takeLine_86 : decode cX3_takeLine 86 = .ok (.iload 7, 2) := by decide +kernel
theorem dX3_takeLine_88 : decode cX3_takeLine 88 = .ok (.iconst (-1), 1) := by decide +kernel
theorem dX3_takeLine_89 : decode cX3_takeLine 89 = .ok (.if_icmp .ne 5, 3) := by decide +kernel
theorem dX3_takeLine_92 : decode cX3_takeLine 92 = .ok (.iconst (-1), 1) := by decide +kernel
theorem dX3_takeLine_93 : decode cX3_takeLine 93 = .ok (.ireturn, 1) := by decide +kernel
theorem dX3_takeLine_94 : decode cX3_takeLine 94 = .ok (.aload_n 2, 1) := by decide +kernel
theorem dX3_takeLine_95 : decode cX3_takeLine 95 = .ok (.iload 7, 2) := by decide +kernel
theorem dX3_takeLine_97 : decode cX3_takeLine 97 = .ok (.invokevirtual 45, 3) := by decide +kernel
theorem dX3_takeLine_100 : decode cX3_takeLine 100 = .ok (.getstatic 49, 3) := by decide +kernel
theorem dX3_takeLine_103 : decode cX3_takeLine 103 = .ok (.if_acmp .ne 26, 3) := by decide +kernel
theorem dX3_takeLine_106 : decode cX3_takeLine 106 = .ok (.aload_n 0, 1) := by decide +kernel
theorem dX3_takeLine_107 : decode cX3_takeLine 107 = .ok (.aload_n 1, 1) := by decide +kernel
theorem dX3_takeLine_108 : decode cX3_takeLine 108 = .ok (.aload_n 2, 1) := by decide +kernel
theorem dX3_takeLine_109 : decode cX3_takeLine 109 = .ok (.iload 7, 2) := by decide +kernel
theorem dX3_takeLine_111 : decode cX3_takeLine 111 = .ok (.iload 5, 2) := by decide +kernel
theorem dX3_takeLine_113 : decode cX3_takeLine 113 = .ok (.iload 6, 2) := by decide +kernel
theorem dX3_takeLine_115 : decode cX3_takeLine 115 = .ok (.iadd, 1) := by decide +kernel
theorem dX3_takeLine_116 : decode cX3_takeLine 116 = .ok (.invokevirtual 55, 3) := by decide +kernel
theorem dX3_takeLine_119 : decode cX3_takeLine 119 = .ok (.ifCond .eq 8, 3) := by decide +kernel
theorem dX3_takeLine_122 : decode cX3_takeLine 122 = .ok (.iload 7, 2) := by decide +kernel
theorem dX3_takeLine_124 : decode cX3_takeLine 124 = .ok (.goto 4, 3) := by decide +kernel
theorem dX3_takeLine_127 : decode cX3_takeLine 127 = .ok (.iconst (-1), 1) := by decide +kernel
theorem dX3_takeLine_128 : decode cX3_takeLine 128 = .ok (.ireturn, 1) := by decide +kernel
theorem dX3_takeLine_129 : decode cX3_takeLine 129 = .ok (.aload_n 0, 1) := by decide +kernel
theorem dX3_takeLine_130 : decode cX3_takeLine 130 = .ok (.aload_n 1, 1) := by decide +kernel
theorem dX3_takeLine_131 : decode cX3_takeLine 131 = .ok (.aload_n 2, 1) := by decide +kernel
theorem dX3_takeLine_132 : decode cX3_takeLine 132 = .ok (.iload 7, 2) := by decide +kernel
theorem dX3_takeLine_134 : decode cX3_takeLine 134 = .ok (.invokevirtual 59, 3) := by decide +kernel
theorem dX3_takeLine_137 : decode cX3_takeLine 137 = .ok (.ifCond .eq 17, 3) := by decide +kernel
theorem dX3_takeLine_140 : decode cX3_takeLine 140 = .ok (.aload_n 1, 1) := by decide +kernel
theorem dX3_takeLine_141 : decode cX3_takeLine 141 = .ok (.bipush 10, 2) := by decide +kernel
theorem dX3_takeLine_143 : decode cX3_takeLine 143 = .ok (.invokevirtual 63, 3) := by decide +kernel
theorem dX3_takeLine_146 : decode cX3_takeLine 146 = .ok (.ifCond .eq 8, 3) := by decide +kernel
theorem dX3_takeLine_149 : decode cX3_takeLine 149 = .ok (.iload 7, 2) := by decide +kernel
theorem dX3_takeLine_151 : decode cX3_takeLine 151 = .ok (.goto 4, 3) := by decide +kernel
theorem dX3_takeLine_154 : decode cX3_takeLine 154 = .ok (.iconst (-1), 1) := by decide +kernel
theorem dX3_takeLine_155 : decode cX3_takeLine 155 = .ok (.ireturn, 1) := by decide +kernel
theorem dX3_holderOf_0 : decode cX3_holderOf 0 = .ok (.iload_n 2, 1) := by decide +kernel
theorem dX3_holderOf_1 : decode cX3_holderOf 1 = .ok (.istore 4, 2) := by decide +kernel
theorem dX3_holderOf_3 : decode cX3_holderOf 3 = .ok (.iconst 0, 1) := by decide +kernel
theorem dX3_holderOf_4 : decode cX3_holderOf 4 = .ok (.istore 5, 2) := by decide +kernel
theorem dX3_holderOf_6 : decode cX3_holderOf 6 = .ok (.iload 5, 2) := by decide +kernel
theorem dX3_holderOf_8 : decode cX3_holderOf 8 = .ok (.sipush 200, 3) := by decide +kernel
theorem dX3_holderOf_11 : decode cX3_holderOf 11 = .ok (.if_icmp .ge 27, 3) := by decide +kernel
theorem dX3_holderOf_14 : decode cX3_holderOf 14 = .ok (.aload_n 1, 1) := by decide +kernel
theorem dX3_holderOf_15 : decode cX3_holderOf 15 = .ok (.iload 4, 2) := by decide +kernel
theorem dX3_holderOf_17 : decode cX3_holderOf 17 = .ok (.invokevirtual 21, 3) := by decide +kernel
theorem dX3_holderOf_20 : decode cX3_holderOf 20 = .ok (.iload_n 3, 1) := by decide +kernel
theorem dX3_holderOf_21 : decode cX3_holderOf 21 = .ok (.if_icmp .lt 17, 3) := by decide +kernel
theorem dX3_holderOf_24 : decode cX3_holderOf 24 = .ok (.aload_n 1, 1) := by decide +kernel
theorem dX3_holderOf_25 : decode cX3_holderOf 25 = .ok (.iload 4, 2) := by decide +kernel
theorem dX3_holderOf_27 : decode cX3_holderOf 27 = .ok (.invokevirtual 67, 3) := by decide +kernel
theorem dX3_holderOf_30 : decode cX3_holderOf 30 = .ok (.istore 4, 2) := by decide +kernel
theorem dX3_holderOf_32 : decode cX3_holderOf 32 = .ok (.iinc 5 1, 3) := by decide +kernel
theorem dX3_holderOf_35 : decode cX3_holderOf 35 = .ok (.goto (-29), 3) := by decide +kernel
theorem dX3_holderOf_38 : decode cX3_holderOf 38 = .ok (.iload 4, 2) := by decide +kernel
theorem dX3_holderOf_40 : decode cX3_holderOf 40 = .ok (.ireturn, 1) := by decide +kernel
theorem dX3_keepLines_0 : decode cX3_keepLines 0 = .ok (.aload_n 2, 1) := by decide +kernel
theorem dX3_keepLines_1 : decode cX3_keepLines 1 = .ok (.iload_n 3, 1) := by decide +kernel
theorem dX3_keepLines_2 : decode cX3_keepLines 2 = .ok (.invokevirtual 21, 3) := by decide +kernel
theorem dX3_keepLines_5 : decode cX3_keepLines 5 = .ok (.istore 5, 2) := by decide +kernel
theorem dX3_keepLines_7 : decode cX3_keepLines 7 = .ok (.aload_n 1, 1) := by decide +kernel
theorem dX3_keepLines_8 : decode cX3_keepLines 8 = .ok (.iload 4, 2) := by decide +kernel
theorem dX3_keepLines_10 : decode cX3_keepLines 10 = .ok (.invokevirtual 70, 3) := by decide +kernel
theorem dX3_keepLines_13 : decode cX3_keepLines 13 = .ok (.istore 6, 2) := by decide +kernel
theorem dX3_keepLines_15 : decode cX3_keepLines 15 = .ok (.iconst 0, 1) := by decide +kernel
theorem dX3_keepLines_16 : decode cX3_keepLines 16 = .ok (.istore 7, 2) := by decide +kernel
theorem dX3_keepLines_18 : decode cX3_keepLines 18 = .ok (.iload 7, 2) := by decide +kernel
theorem dX3_keepLines_20 : decode cX3_keepLines 20 = .ok (.sipush 4000, 3) := by decide +kernel
theorem dX3_keepLines_23 : decode cX3_keepLines 23 = .ok (.if_icmp .ge 32, 3) := by decide +kernel
theorem dX3_keepLines_26 : decode cX3_keepLines 26 = .ok (.aload_n 1, 1) := by decide +kernel
theorem dX3_keepLines_27 : decode cX3_keepLines 27 = .ok (.iload 6, 2) := by decide +kernel
theorem dX3_keepLines_29 : decode cX3_keepLines 29 = .ok (.iconst 1, 1) := by decide +kernel
theorem dX3_keepLines_30 : decode cX3_keepLines 30 = .ok (.iadd, 1) := by decide +kernel
theorem dX3_keepLines_31 : decode cX3_keepLines 31 = .ok (.invokevirtual 31, 3) := by decide +kernel
theorem dX3_keepLines_34 : decode cX3_keepLines 34 = .ok (.iload 5, 2) := by decide +kernel
theorem dX3_keepLines_36 : decode cX3_keepLines 36 = .ok (.if_icmp .le 19, 3) := by decide +kernel
theorem dX3_keepLines_39 : decode cX3_keepLines 39 = .ok (.aload_n 1, 1) := by decide +kernel
theorem dX3_keepLines_40 : decode cX3_keepLines 40 = .ok (.iload 6, 2) := by decide +kernel
theorem dX3_keepLines_42 : decode cX3_keepLines 42 = .ok (.iconst 1, 1) := by decide +kernel
theorem dX3_keepLines_43 : decode cX3_keepLines 43 = .ok (.iadd, 1) := by decide +kernel
theorem dX3_keepLines_44 : decode cX3_keepLines 44 = .ok (.invokevirtual 70, 3) := by decide +kernel
theorem dX3_keepLines_47 : decode cX3_keepLines 47 = .ok (.istore 6, 2) := by decide +kernel
theorem dX3_keepLines_49 : decode cX3_keepLines 49 = .ok (.iinc 7 1, 3) := by decide +kernel
theorem dX3_keepLines_52 : decode cX3_keepLines 52 = .ok (.goto (-34), 3) := by decide +kernel
theorem dX3_keepLines_55 : decode cX3_keepLines 55 = .ok (.iload 6, 2) := by decide +kernel
theorem dX3_keepLines_57 : decode cX3_keepLines 57 = .ok (.iload 4, 2) := by decide +kernel
theorem dX3_keepLines_59 : decode cX3_keepLines 59 = .ok (.isub, 1) := by decide +kernel
theorem dX3_keepLines_60 : decode cX3_keepLines 60 = .ok (.aload_n 2, 1) := by decide +kernel
theorem dX3_keepLines_61 : decode cX3_keepLines 61 = .ok (.invokevirtual 73, 3) := by decide +kernel
theorem dX3_keepLines_64 : decode cX3_keepLines 64 = .ok (.if_icmp .le 15, 3) := by decide +kernel
theorem dX3_keepLines_67 : decode cX3_keepLines 67 = .ok (.aload_n 1, 1) := by decide +kernel
theorem dX3_keepLines_68 : decode cX3_keepLines 68 = .ok (.iload 4, 2) := by decide +kernel
theorem dX3_keepLines_70 : decode cX3_keepLines 70 = .ok (.aload_n 2, 1) := by decide +kernel
theorem dX3_keepLines_71 : decode cX3_keepLines 71 = .ok (.invokevirtual 73, 3) := by decide +kernel
theorem dX3_keepLines_74 : decode cX3_keepLines 74 = .ok (.iadd, 1) := by decide +kernel
theorem dX3_keepLines_75 : decode cX3_keepLines 75 = .ok (.invokevirtual 34, 3) := by decide +kernel
theorem dX3_keepLines_78 : decode cX3_keepLines 78 = .ok (.ireturn, 1) := by decide +kernel
theorem dX3_keepLines_79 : decode cX3_keepLines 79 = .ok (.iload 6, 2) := by decide +kernel
theorem dX3_keepLines_81 : decode cX3_keepLines 81 = .ok (.aload_n 1, 1) := by decide +kernel
theorem dX3_keepLines_82 : decode cX3_keepLines 82 = .ok (.getfield 77, 3) := by decide +kernel
theorem dX3_keepLines_85 : decode cX3_keepLines 85 = .ok (.if_icmp .lt 12, 3) := by decide +kernel
theorem dX3_keepLines_88 : decode cX3_keepLines 88 = .ok (.aload_n 1, 1) := by decide +kernel
theorem dX3_keepLines_89 : decode cX3_keepLines 89 = .ok (.aload_n 1, 1) := by decide +kernel
theorem dX3_keepLines_90 : decode cX3_keepLines 90 = .ok (.getfield 77, 3) := by decide +kernel
theorem dX3_keepLines_93 : decode cX3_keepLines 93 = .ok (.invokevirtual 34, 3) := by decide +kernel
theorem dX3_keepLines_96 : decode cX3_keepLines 96 = .ok (.ireturn, 1) := by decide +kernel
theorem dX3_keepLines_97 : decode cX3_keepLines 97 = .ok (.aload_n 2, 1) := by decide +kernel
theorem dX3_keepLines_98 : decode cX3_keepLines 98 = .ok (.iload_n 3, 1) := by decide +kernel
theorem dX3_keepLines_99 : decode cX3_keepLines 99 = .ok (.aload_n 1, 1) := by decide +kernel
theorem dX3_keepLines_100 : decode cX3_keepLines 100 = .ok (.iload 4, 2) := by decide +kernel
theorem dX3_keepLines_102 : decode cX3_keepLines 102 = .ok (.iload 6, 2) := by decide +kernel
theorem dX3_keepLines_104 : decode cX3_keepLines 104 = .ok (.invokevirtual 80, 3) := by decide +kernel
theorem dX3_keepLines_107 : decode cX3_keepLines 107 = .ok (.aload_n 1, 1) := by decide +kernel
theorem dX3_keepLines_108 : decode cX3_keepLines 108 = .ok (.iload 6, 2) := by decide +kernel
theorem dX3_keepLines_110 : decode cX3_keepLines 110 = .ok (.iconst 1, 1) := by decide +kernel
theorem dX3_keepLines_111 : decode cX3_keepLines 111 = .ok (.iadd, 1) := by decide +kernel
theorem dX3_keepLines_112 : decode cX3_keepLines 112 = .ok (.putfield 27, 3) := by decide +kernel
theorem dX3_keepLines_115 : decode cX3_keepLines 115 = .ok (.iconst 1, 1) := by decide +kernel
theorem dX3_keepLines_116 : decode cX3_keepLines 116 = .ok (.ireturn, 1) := by decide +kernel
theorem dX3_passGap_0 : decode cX3_passGap 0 = .ok (.aload_n 1, 1) := by decide +kernel
theorem dX3_passGap_1 : decode cX3_passGap 1 = .ok (.bipush 32, 2) := by decide +kernel
theorem dX3_passGap_3 : decode cX3_passGap 3 = .ok (.invokevirtual 63, 3) := by decide +kernel
theorem dX3_passGap_6 : decode cX3_passGap 6 = .ok (.ireturn, 1) := by decide +kernel
theorem dX3_tell_0 : decode cX3_tell 0 = .ok (.iconst 0, 1) := by decide +kernel
theorem dX3_tell_1 : decode cX3_tell 1 = .ok (.istore_n 3, 1) := by decide +kernel
theorem dX3_tell_2 : decode cX3_tell 2 = .ok (.iconst 0, 1) := by decide +kernel
theorem dX3_tell_3 : decode cX3_tell 3 = .ok (.istore 4, 2) := by decide +kernel
theorem dX3_tell_5 : decode cX3_tell 5 = .ok (.iload 4, 2) := by decide +kernel
theorem dX3_tell_7 : decode cX3_tell 7 = .ok (.sipush 200, 3) := by decide +kernel
theorem dX3_tell_10 : decode cX3_tell 10 = .ok (.if_icmp .ge 67, 3) := by decide +kernel
theorem dX3_tell_13 : decode cX3_tell 13 = .ok (.aload_n 1, 1) := by decide +kernel
theorem dX3_tell_14 : decode cX3_tell 14 = .ok (.iload_n 3, 1) := by decide +kernel
theorem dX3_tell_15 : decode cX3_tell 15 = .ok (.invokevirtual 84, 3) := by decide +kernel
theorem dX3_tell_18 : decode cX3_tell 18 = .ok (.ifCond .eq 59, 3) := by decide +kernel
theorem dX3_tell_21 : decode cX3_tell 21 = .ok (.aload_n 2, 1) := by decide +kernel
theorem dX3_tell_22 : decode cX3_tell 22 = .ok (.bipush 46, 2) := by decide +kernel
theorem dX3_tell_24 : decode cX3_tell 24 = .ok (.aload_n 1, 1) := by decide +kernel
theorem dX3_tell_25 : decode cX3_tell 25 = .ok (.iload_n 3, 1) := by decide +kernel
theorem dX3_tell_26 : decode cX3_tell 26 = .ok (.invokevirtual 21, 3) := by decide +kernel
theorem dX3_tell_29 : decode cX3_tell 29 = .ok (.invokevirtual 87, 3) := by decide +kernel
theorem dX3_tell_32 : decode cX3_tell 32 = .ok (.aload_n 1, 1) := by decide +kernel
theorem dX3_tell_33 : decode cX3_tell 33 = .ok (.iload_n 3, 1) := by decide +kernel
theorem dX3_tell_34 : decode cX3_tell 34 = .ok (.invokevirtual 45, 3) := by decide +kernel
theorem dX3_tell_37 : decode cX3_tell 37 = .ok (.getstatic 49, 3) := by decide +kernel
theorem dX3_tell_40 : decode cX3_tell 40 = .ok (.if_acmp .ne 12, 3) := by decide +kernel
theorem dX3_tell_43 : decode cX3_tell 43 = .ok (.aload_n 2, 1) := by decide +kernel
theorem dX3_tell_44 : decode cX3_tell 44 = .ok (.aload_n 1, 1) := by decide +kernel
theorem dX3_tell_45 : decode cX3_tell 45 = .ok (.iload_n 3, 1) := by decide +kernel
theorem dX3_tell_46 : decode cX3_tell 46 = .ok (.invokevirtual 93, 3) := by decide +kernel
theorem dX3_tell_49 : decode cX3_tell 49 = .ok (.goto 10, 3) := by decide +kernel
theorem dX3_tell_52 : decode cX3_tell 52 = .ok (.aload_n 0, 1) := by decide +kernel
theorem dX3_tell_53 : decode cX3_tell 53 = .ok (.aload_n 1, 1) := by decide +kernel
theorem dX3_tell_54 : decode cX3_tell 54 = .ok (.iload_n 3, 1) := by decide +kernel
theorem dX3_tell_55 : decode cX3_tell 55 = .ok (.aload_n 2, 1) := by decide +kernel
theorem dX3_tell_56 : decode cX3_tell 56 = .ok (.invokevirtual 97, 3) := by decide +kernel
theorem dX3_tell_59 : decode cX3_tell 59 = .ok (.aload_n 2, 1) := by decide +kernel
theorem dX3_tell_60 : decode cX3_tell 60 = .ok (.bipush 10, 2) := by decide +kernel
theorem dX3_tell_62 : decode cX3_tell 62 = .ok (.invokevirtual 101, 3) := by decide +kernel
theorem dX3_tell_65 : decode cX3_tell 65 = .ok (.aload_n 1, 1) := by decide +kernel
theorem dX3_tell_66 : decode cX3_tell 66 = .ok (.iload_n 3, 1) := by decide +kernel
theorem dX3_tell_67 : decode cX3_tell 67 = .ok (.invokevirtual 105, 3) := by decide +kernel
theorem dX3_tell_70 : decode cX3_tell 70 = .ok (.istore_n 3, 1) := by decide +kernel
theorem dX3_tell_71 : decode cX3_tell 71 = .ok (.iinc 4 1, 3) := by decide +kernel
theorem dX3_tell_74 : decode cX3_tell 74 = .ok (.goto (-69), 3) := by decide +kernel
theorem dX3_tell_77 : decode cX3_tell 77 = .ok (.return_, 1) := by decide +kernel

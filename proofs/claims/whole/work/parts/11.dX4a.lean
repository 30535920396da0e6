theorem dX4_init_0 : decode cX4_init 0 = .ok (.aload_n 0, 1) := by decide +kernel
theorem dX4_init_1 : decode cX4_init 1 = .ok (.invokespecial 3, 3) := by decide +kernel
theorem dX4_init_4 : decode cX4_init 4 = .ok (.return_, 1) := by decide +kernel
theorem dX4_take_0 : decode cX4_take 0 = .ok (.aload_n 1, 1) := by decide +kernel
theorem dX4_take_1 : decode cX4_take 1 = .ok (.invokevirtual 9, 3) := by decide +kernel
theorem dX4_take_4 : decode cX4_take 4 = .ok (.aload_n 1, 1) := by decide +kernel
theorem dX4_take_5 : decode cX4_take 5 = .ok (.invokevirtual 14, 3) := by decide +kernel
theorem dX4_take_8 : decode cX4_take 8 = .ok (.bipush 40, 2) := by decide +kernel
theorem dX4_take_10 : decode cX4_take 10 = .ok (.if_icmp .eq 12, 3) := by decide +kernel
theorem dX4_take_13 : decode cX4_take 13 = .ok (.aload_n 1, 1) := by decide +kernel
theorem dX4_take_14 : decode cX4_take 14 = .ok (.aload_n 1, 1) := by decide +kernel
theorem dX4_take_15 : decode cX4_take 15 = .ok (.getfield 18, 3) := by decide +kernel
theorem dX4_take_18 : decode cX4_take 18 = .ok (.invokevirtual 22, 3) := by decide +kernel
theorem dX4_take_21 : decode cX4_take 21 = .ok (.ireturn, 1) := by decide +kernel
theorem dX4_take_22 : decode cX4_take 22 = .ok (.aload_n 0, 1) := by decide +kernel
theorem dX4_take_23 : decode cX4_take 23 = .ok (.aload_n 1, 1) := by decide +kernel
theorem dX4_take_24 : decode cX4_take 24 = .ok (.aload_n 2, 1) := by decide +kernel
theorem dX4_take_25 : decode cX4_take 25 = .ok (.iconst (-1), 1) := by decide +kernel
theorem dX4_take_26 : decode cX4_take 26 = .ok (.invokevirtual 26, 3) := by decide +kernel
theorem dX4_take_29 : decode cX4_take 29 = .ok (.istore_n 3, 1) := by decide +kernel
theorem dX4_take_30 : decode cX4_take 30 = .ok (.iconst 0, 1) := by decide +kernel
theorem dX4_take_31 : decode cX4_take 31 = .ok (.istore 4, 2) := by decide +kernel
theorem dX4_take_33 : decode cX4_take 33 = .ok (.iload 4, 2) := by decide +kernel
theorem dX4_take_35 : decode cX4_take 35 = .ok (.sipush 4000, 3) := by decide +kernel
theorem dX4_take_38 : decode cX4_take 38 = .ok (.if_icmp .ge 69, 3) := by decide +kernel
theorem dX4_take_41 : decode cX4_take 41 = .ok (.iload_n 3, 1) := by decide +kernel
theorem dX4_take_42 : decode cX4_take 42 = .ok (.iconst (-1), 1) := by decide +kernel
theorem dX4_take_43 : decode cX4_take 43 = .ok (.if_icmp .eq 64, 3) := by decide +kernel
theorem dX4_take_46 : decode cX4_take 46 = .ok (.aload_n 1, 1) := by decide +kernel
theorem dX4_take_47 : decode cX4_take 47 = .ok (.invokevirtual 9, 3) := by decide +kernel
theorem dX4_take_50 : decode cX4_take 50 = .ok (.aload_n 1, 1) := by decide +kernel
theorem dX4_take_51 : decode cX4_take 51 = .ok (.invokevirtual 14, 3) := by decide +kernel
theorem dX4_take_54 : decode cX4_take 54 = .ok (.bipush 41, 2) := by decide +kernel
theorem dX4_take_56 : decode cX4_take 56 = .ok (.if_icmp .ne 16, 3) := by decide +kernel
theorem dX4_take_59 : decode cX4_take 59 = .ok (.aload_n 1, 1) := by decide +kernel
theorem dX4_take_60 : decode cX4_take 60 = .ok (.invokevirtual 32, 3) := by decide +kernel
theorem dX4_take_63 : decode cX4_take 63 = .ok (.aload_n 2, 1) := by decide +kernel
theorem dX4_take_64 : decode cX4_take 64 = .ok (.iload_n 3, 1) := by decide +kernel
theorem dX4_take_65 : decode cX4_take 65 = .ok (.invokevirtual 35, 3) := by decide +kernel
theorem dX4_take_68 : decode cX4_take 68 = .ok (.istore_n 3, 1) := by decide +kernel
theorem dX4_take_69 : decode cX4_take 69 = .ok (.goto 32, 3) := by decide +kernel
theorem dX4_take_72 : decode cX4_take 72 = .ok (.aload_n 1, 1) := by decide +kernel
theorem dX4_take_73 : decode cX4_take 73 = .ok (.invokevirtual 14, 3) := by decide +kernel
theorem dX4_take_76 : decode cX4_take 76 = .ok (.bipush 40, 2) := by decide +kernel
theorem dX4_take_78 : decode cX4_take 78 = .ok (.if_icmp .ne 14, 3) := by decide +kernel
theorem dX4_take_81 : decode cX4_take 81 = .ok (.aload_n 0, 1) := by decide +kernel
theorem dX4_take_82 : decode cX4_take 82 = .ok (.aload_n 1, 1) := by decide +kernel
theorem dX4_take_83 : decode cX4_take 83 = .ok (.aload_n 2, 1) := by decide +kernel
theorem dX4_take_84 : decode cX4_take 84 = .ok (.iload_n 3, 1) := by decide +kernel
theorem dX4_take_85 : decode cX4_take 85 = .ok (.invokevirtual 26, 3) := by decide +kernel
theorem dX4_take_88 : decode cX4_take 88 = .ok (.istore_n 3, 1) := by decide +kernel
theorem dX4_take_89 : decode cX4_take 89 = .ok (.goto 12, 3) := by decide +kernel
theorem dX4_take_92 : decode cX4_take 92 = .ok (.aload_n 1, 1) := by decide +kernel
theorem dX4_take_93 : decode cX4_take 93 = .ok (.aload_n 1, 1) := by decide +kernel
theorem dX4_take_94 : decode cX4_take 94 = .ok (.getfield 18, 3) := by decide +kernel
theorem dX4_take_97 : decode cX4_take 97 = .ok (.invokevirtual 22, 3) := by decide +kernel
theorem dX4_take_100 : decode cX4_take 100 = .ok (.ireturn, 1) := by decide +kernel
theorem dX4_take_101 : decode cX4_take 101 = .ok (.iinc 4 1, 3) := by decide +kernel
theorem dX4_take_104 : decode cX4_take 104 = .ok (.goto (-71), 3) := by decide +kernel
theorem dX4_take_107 : decode cX4_take 107 = .ok (.aload_n 1, 1) := by decide +kernel
theorem dX4_take_108 : decode cX4_take 108 = .ok (.getfield 41, 3) := by decide +kernel
theorem dX4_take_111 : decode cX4_take 111 = .ok (.iconst (-1), 1) := by decide +kernel
theorem dX4_take_112 : decode cX4_take 112 = .ok (.if_icmp .eq 5, 3) := by decide +kernel
theorem dX4_take_115 : decode cX4_take 115 = .ok (.iconst 0, 1) := by decide +kernel
theorem dX4_take_116 : decode cX4_take 116 = .ok (.ireturn, 1) := by decide +kernel
theorem dX4_take_117 : decode cX4_take 117 = .ok (.aload_n 1, 1) := by decide +kernel
theorem dX4_take_118 : decode cX4_take 118 = .ok (.invokevirtual 9, 3) := by decide +kernel
theorem dX4_take_121 : decode cX4_take 121 = .ok (.aload_n 1, 1) := by decide +kernel
theorem dX4_take_122 : decode cX4_take 122 = .ok (.invokevirtual 44, 3) := by decide +kernel
theorem dX4_take_125 : decode cX4_take 125 = .ok (.ifCond .ne 14, 3) := by decide +kernel
theorem dX4_take_128 : decode cX4_take 128 = .ok (.aload_n 1, 1) := by decide +kernel
theorem dX4_take_129 : decode cX4_take 129 = .ok (.aload_n 1, 1) := by decide +kernel
theorem dX4_take_130 : decode cX4_take 130 = .ok (.getfield 18, 3) := by decide +kernel
theorem dX4_take_133 : decode cX4_take 133 = .ok (.invokevirtual 22, 3) := by decide +kernel
theorem dX4_take_136 : decode cX4_take 136 = .ok (.ifCond .eq 7, 3) := by decide +kernel
theorem dX4_take_139 : decode cX4_take 139 = .ok (.iconst 1, 1) := by decide +kernel
theorem dX4_take_140 : decode cX4_take 140 = .ok (.goto 4, 3) := by decide +kernel
theorem dX4_take_143 : decode cX4_take 143 = .ok (.iconst 0, 1) := by decide +kernel
theorem dX4_take_144 : decode cX4_take 144 = .ok (.ireturn, 1) := by decide +kernel
theorem dX4_takeList_0 : decode cX4_takeList 0 = .ok (.aload_n 1, 1) := by decide +kernel
theorem dX4_takeList_1 : decode cX4_takeList 1 = .ok (.getfield 18, 3) := by decide +kernel
theorem dX4_takeList_4 : decode cX4_takeList 4 = .ok (.istore 4, 2) := by decide +kernel
theorem dX4_takeList_6 : decode cX4_takeList 6 = .ok (.aload_n 2, 1) := by decide +kernel
theorem dX4_takeList_7 : decode cX4_takeList 7 = .ok (.iload_n 3, 1) := by decide +kernel
theorem dX4_takeList_8 : decode cX4_takeList 8 = .ok (.invokevirtual 48, 3) := by decide +kernel
theorem dX4_takeList_11 : decode cX4_takeList 11 = .ok (.iconst 1, 1) := by decide +kernel
theorem dX4_takeList_12 : decode cX4_takeList 12 = .ok (.iadd, 1) := by decide +kernel
theorem dX4_takeList_13 : decode cX4_takeList 13 = .ok (.bipush 100, 2) := by decide +kernel
theorem dX4_takeList_15 : decode cX4_takeList 15 = .ok (.if_icmp .lt 12, 3) := by decide +kernel
theorem dX4_takeList_18 : decode cX4_takeList 18 = .ok (.aload_n 1, 1) := by decide +kernel
theorem dX4_takeList_19 : decode cX4_takeList 19 = .ok (.iload 4, 2) := by decide +kernel
theorem dX4_takeList_21 : decode cX4_takeList 21 = .ok (.invokevirtual 22, 3) := by decide +kernel
theorem dX4_takeList_24 : decode cX4_takeList 24 = .ok (.pop, 1) := by decide +kernel
theorem dX4_takeList_25 : decode cX4_takeList 25 = .ok (.iconst (-1), 1) := by decide +kernel
theorem dX4_takeList_26 : decode cX4_takeList 26 = .ok (.ireturn, 1) := by decide +kernel
theorem dX4_takeList_27 : decode cX4_takeList 27 = .ok (.aload_n 1, 1) := by decide +kernel
theorem dX4_takeList_28 : decode cX4_takeList 28 = .ok (.invokevirtual 32, 3) := by decide +kernel
theorem dX4_takeList_31 : decode cX4_takeList 31 = .ok (.aload_n 1, 1) := by decide +kernel
theorem dX4_takeList_32 : decode cX4_takeList 32 = .ok (.invokevirtual 9, 3) := by decide +kernel
theorem dX4_takeList_35 : decode cX4_takeList 35 = .ok (.aload_n 0, 1) := by decide +kernel
theorem dX4_takeList_36 : decode cX4_takeList 36 = .ok (.aload_n 1, 1) := by decide +kernel
theorem dX4_takeList_37 : decode cX4_takeList 37 = .ok (.aload_n 2, 1) := by decide +kernel
theorem dX4_takeList_38 : decode cX4_takeList 38 = .ok (.iload_n 3, 1) := by decide +kernel
theorem dX4_takeList_39 : decode cX4_takeList 39 = .ok (.invokevirtual 51, 3) := by decide +kernel
theorem dX4_takeList_42 : decode cX4_takeList 42 = .ok (.istore 5, 2) := by decide +kernel
theorem dX4_takeList_44 : decode cX4_takeList 44 = .ok (.iload 5, 2) := by decide +kernel
theorem dX4_takeList_46 : decode cX4_takeList 46 = .ok (.iconst (-1), 1) := by decide +kernel
theorem dX4_takeList_47 : decode cX4_takeList 47 = .ok (.if_icmp .ne 5, 3) := by decide +kernel
theorem dX4_takeList_50 : decode cX4_takeList 50 = .ok (.iconst (-1), 1) := by decide +kernel
theorem dX4_takeList_51 : decode cX4_takeList 51 = .ok (.ireturn, 1) := by decide +kernel
theorem dX4_takeList_52 : decode cX4_takeList 52 = .ok (.aload_n 2, 1) := by decide +kernel
theorem dX4_takeList_53 : decode cX4_takeList 53 = .ok (.iload 5, 2) := by decide +kernel
theorem dX4_takeList_55 : decode cX4_takeList 55 = .ok (.invokevirtual 54, 3) := by decide +kernel
theorem dX4_takeList_58 : decode cX4_takeList 58 = .ok (.getstatic 58, 3) := by decide +kernel
theorem dX4_takeList_61 : decode cX4_takeList 61 = .ok (.if_acmp .ne 22, 3) := by decide +kernel
theorem dX4_takeList_64 : decode cX4_takeList 64 = .ok (.aload_n 0, 1) := by decide +kernel
theorem dX4_takeList_65 : decode cX4_takeList 65 = .ok (.aload_n 1, 1) := by decide +kernel
theorem dX4_takeList_66 : decode cX4_takeList 66 = .ok (.aload_n 2, 1) := by decide +kernel
theorem dX4_takeList_67 : decode cX4_takeList 67 = .ok (.iload 5, 2) := by decide +kernel
theorem dX4_takeList_69 : decode cX4_takeList 69 = .ok (.iload 4, 2) := by decide +kernel
theorem dX4_takeList_71 : decode cX4_takeList 71 = .ok (.invokevirtual 64, 3) := by decide +kernel
theorem dX4_takeList_74 : decode cX4_takeList 74 = .ok (.ifCond .eq 7, 3) := by decide +kernel
theorem dX4_takeList_77 : decode cX4_takeList 77 = .ok (.iload_n 3, 1) := by decide +kernel
theorem dX4_takeList_78 : decode cX4_takeList 78 = .ok (.goto 4, 3) := by decide +kernel
theorem dX4_takeList_81 : decode cX4_takeList 81 = .ok (.iconst (-1), 1) := by decide +kernel
theorem dX4_takeList_82 : decode cX4_takeList 82 = .ok (.ireturn, 1) := by decide +kernel
theorem dX4_takeList_83 : decode cX4_takeList 83 = .ok (.aload_n 0, 1) := by decide +kernel
theorem dX4_takeList_84 : decode cX4_takeList 84 = .ok (.aload_n 1, 1) := by decide +kernel
theorem dX4_takeList_85 : decode cX4_takeList 85 = .ok (.aload_n 2, 1) := by decide +kernel
theorem dX4_takeList_86 : decode cX4_takeList 86 = .ok (.iload 5, 2) := by decide +kernel
theorem dX4_takeList_88 : decode cX4_takeList 88 = .ok (.invokevirtual 68, 3) := by decide +kernel
theorem dX4_takeList_91 : decode cX4_takeList 91 = .ok (.ifCond .eq 8, 3) := by decide +kernel
theorem dX4_takeList_94 : decode cX4_takeList 94 = .ok (.iload 5, 2) := by decide +kernel
theorem dX4_takeList_96 : decode cX4_takeList 96 = .ok (.goto 4, 3) := by decide +kernel
theorem dX4_takeList_99 : decode cX4_takeList 99 = .ok (.iconst (-1), 1) := by decide +kernel
theorem dX4_takeList_100 : decode cX4_takeList 100 = .ok (.ireturn, 1) := by decide +kernel
theorem dX4_keepList_0 : decode cX4_keepList 0 = .ok (.aload_n 1, 1) := by decide +kernel
theorem dX4_keepList_1 : decode cX4_keepList 1 = .ok (.getfield 72, 3) := by decide +kernel
theorem dX4_keepList_4 : decode cX4_keepList 4 = .ok (.iload 4, 2) := by decide +kernel
theorem dX4_keepList_6 : decode cX4_keepList 6 = .ok (.aload_n 2, 1) := by decide +kernel
theorem dX4_keepList_7 : decode cX4_keepList 7 = .ok (.invokevirtual 75, 3) := by decide +kernel
theorem dX4_keepList_10 : decode cX4_keepList 10 = .ok (.iadd, 1) := by decide +kernel
theorem dX4_keepList_11 : decode cX4_keepList 11 = .ok (.invokestatic 78, 3) := by decide +kernel
theorem dX4_keepList_14 : decode cX4_keepList 14 = .ok (.istore 5, 2) := by decide +kernel
theorem dX4_keepList_16 : decode cX4_keepList 16 = .ok (.aload_n 2, 1) := by decide +kernel
theorem dX4_keepList_17 : decode cX4_keepList 17 = .ok (.iload_n 3, 1) := by decide +kernel
theorem dX4_keepList_18 : decode cX4_keepList 18 = .ok (.invokevirtual 48, 3) := by decide +kernel
theorem dX4_keepList_21 : decode cX4_keepList 21 = .ok (.istore 6, 2) := by decide +kernel
theorem dX4_keepList_23 : decode cX4_keepList 23 = .ok (.iload 6, 2) := by decide +kernel
theorem dX4_keepList_25 : decode cX4_keepList 25 = .ok (.iconst 1, 1) := by decide +kernel
theorem dX4_keepList_26 : decode cX4_keepList 26 = .ok (.iadd, 1) := by decide +kernel
theorem dX4_keepList_27 : decode cX4_keepList 27 = .ok (.istore 7, 2) := by decide +kernel
theorem dX4_keepList_29 : decode cX4_keepList 29 = .ok (.iconst 0, 1) := by decide +kernel
theorem dX4_keepList_30 : decode cX4_keepList 30 = .ok (.istore 8, 2) := by decide +kernel
theorem dX4_keepList_32 : decode cX4_keepList 32 = .ok (.iload 8, 2) := by decide +kernel
theorem dX4_keepList_34 : decode cX4_keepList 34 = .ok (.sipush 4000, 3) := by decide +kernel
theorem dX4_keepList_37 : decode cX4_keepList 37 = .ok (.if_icmp .ge 92, 3) := by decide +kernel
theorem dX4_keepList_40 : decode cX4_keepList 40 = .ok (.aload_n 1, 1) := by decide +kernel
theorem dX4_keepList_41 : decode cX4_keepList 41 = .ok (.getfield 18, 3) := by decide +kernel
theorem dX4_keepList_44 : decode cX4_keepList 44 = .ok (.iload 5, 2) := by decide +kernel
theorem dX4_keepList_46 : decode cX4_keepList 46 = .ok (.if_icmp .ge 83, 3) := by decide +kernel
theorem dX4_keepList_49 : decode cX4_keepList 49 = .ok (.iload 7, 2) := by decide +kernel
theorem dX4_keepList_51 : decode cX4_keepList 51 = .ok (.iload 6, 2) := by decide +kernel
theorem dX4_keepList_53 : decode cX4_keepList 53 = .ok (.if_icmp .le 76, 3) := by decide +kernel
theorem dX4_keepList_56 : decode cX4_keepList 56 = .ok (.aload_n 1, 1) := by decide +kernel
theorem dX4_keepList_57 : decode cX4_keepList 57 = .ok (.invokevirtual 14, 3) := by decide +kernel
theorem dX4_keepList_60 : decode cX4_keepList 60 = .ok (.istore 9, 2) := by decide +kernel
theorem dX4_keepList_62 : decode cX4_keepList 62 = .ok (.iload 9, 2) := by decide +kernel
theorem dX4_keepList_64 : decode cX4_keepList 64 = .ok (.bipush 34, 2) := by decide +kernel
theorem dX4_keepList_66 : decode cX4_keepList 66 = .ok (.if_icmp .ne 14, 3) := by decide +kernel
theorem dX4_keepList_69 : decode cX4_keepList 69 = .ok (.aload_n 1, 1) := by decide +kernel
theorem dX4_keepList_70 : decode cX4_keepList 70 = .ok (.iload 5, 2) := by decide +kernel
theorem dX4_keepList_72 : decode cX4_keepList 72 = .ok (.invokevirtual 84, 3) := by decide +kernel
theorem dX4_keepList_75 : decode cX4_keepList 75 = .ok (.ifCond .ne 48, 3) := by decide +kernel
theorem dX4_keepList_78 : decode cX4_keepList 78 = .ok (.iconst 0, 1) := by decide +kernel
theorem dX4_keepList_79 : decode cX4_keepList 79 = .ok (.ireturn, 1) := by decide +kernel
theorem dX4_keepList_80 : decode cX4_keepList 80 = .ok (.iload 9, 2) := by decide +kernel
theorem dX4_keepList_82 : decode cX4_keepList 82 = .ok (.bipush 40, 2) := by decide +kernel
theorem dX4_keepList_84 : decode cX4_keepList 84 = .ok (.if_icmp .ne 25, 3) := by decide +kernel
theorem dX4_keepList_87 : decode cX4_keepList 87 = .ok (.iload 7, 2) := by decide +kernel
theorem dX4_keepList_89 : decode cX4_keepList 89 = .ok (.bipush 100, 2) := by decide +kernel
theorem dX4_keepList_91 : decode cX4_keepList 91 = .ok (.if_icmp .lt 12, 3) := by decide +kernel
theorem dX4_keepList_94 : decode cX4_keepList 94 = .ok (.aload_n 1, 1) := by decide +kernel
theorem dX4_keepList_95 : decode cX4_keepList 95 = .ok (.aload_n 1, 1) := by decide +kernel
theorem dX4_keepList_96 : decode cX4_keepList 96 = .ok (.getfield 18, 3) := by decide +kernel
theorem dX4_keepList_99 : decode cX4_keepList 99 = .ok (.invokevirtual 22, 3) := by decide +kernel
theorem dX4_keepList_102 : decode cX4_keepList 102 = .ok (.ireturn, 1) := by decide +kernel
theorem dX4_keepList_103 : decode cX4_keepList 103 = .ok (.iinc 7 1, 3) := by decide +kernel
theorem dX4_keepList_106 : decode cX4_keepList 106 = .ok (.goto 13, 3) := by decide +kernel
theorem dX4_keepList_109 : decode cX4_keepList 109 = .ok (.iload 9, 2) := by decide +kernel
theorem dX4_keepList_111 : decode cX4_keepList 111 = .ok (.bipush 41, 2) := by decide +kernel
theorem dX4_keepList_113 : decode cX4_keepList 113 = .ok (.if_icmp .ne 6, 3) := by decide +kernel
theorem dX4_keepList_116 : decode cX4_keepList 116 = .ok (.iinc 7 (-1), 3) := by decide +kernel
theorem dX4_keepList_119 : decode cX4_keepList 119 = .ok (.aload_n 1, 1) := by decide +kernel
theorem dX4_keepList_120 : decode cX4_keepList 120 = .ok (.invokevirtual 32, 3) := by decide +kernel
theorem dX4_keepList_123 : decode cX4_keepList 123 = .ok (.iinc 8 1, 3) := by decide +kernel
theorem dX4_keepList_126 : decode cX4_keepList 126 = .ok (.goto (-94), 3) := by decide +kernel
theorem dX4_keepList_129 : decode cX4_keepList 129 = .ok (.iload 7, 2) := by decide +kernel
theorem dX4_keepList_131 : decode cX4_keepList 131 = .ok (.iload 6, 2) := by decide +kernel
theorem dX4_keepList_133 : decode cX4_keepList 133 = .ok (.if_icmp .le 10, 3) := by decide +kernel
theorem dX4_keepList_136 : decode cX4_keepList 136 = .ok (.aload_n 1, 1) := by decide +kernel
theorem dX4_keepList_137 : decode cX4_keepList 137 = .ok (.iload 5, 2) := by decide +kernel
theorem dX4_keepList_139 : decode cX4_keepList 139 = .ok (.invokevirtual 22, 3) := by decide +kernel
theorem dX4_keepList_142 : decode cX4_keepList 142 = .ok (.ireturn, 1) := by decide +kernel
theorem dX4_keepList_143 : decode cX4_keepList 143 = .ok (.aload_n 2, 1) := by decide +kernel
theorem dX4_keepList_144 : decode cX4_keepList 144 = .ok (.iload_n 3, 1) := by decide +kernel
theorem dX4_keepList_145 : decode cX4_keepList 145 = .ok (.aload_n 1, 1) := by decide +kernel
theorem dX4_keepList_146 : decode cX4_keepList 146 = .ok (.iload 4, 2) := by decide +kernel
theorem dX4_keepList_148 : decode cX4_keepList 148 = .ok (.aload_n 1, 1) := by decide +kernel
theorem dX4_keepList_149 : decode cX4_keepList 149 = .ok (.getfield 18, 3) := by decide +kernel
theorem dX4_keepList_152 : decode cX4_keepList 152 = .ok (.invokevirtual 87, 3) := by decide +kernel
theorem dX4_keepList_155 : decode cX4_keepList 155 = .ok (.iconst 1, 1) := by decide +kernel
theorem dX4_keepList_156 : decode cX4_keepList 156 = .ok (.ireturn, 1) := by decide +kernel
theorem dX4_passGap_0 : decode cX4_passGap 0 = .ok (.aload_n 1, 1) := by decide +kernel
theorem dX4_passGap_1 : decode cX4_passGap 1 = .ok (.getfield 18, 3) := by decide +kernel
theorem dX4_passGap_4 : decode cX4_passGap 4 = .ok (.istore_n 2, 1) := by decide +kernel
theorem dX4_passGap_5 : decode cX4_passGap 5 = .ok (.aload_n 1, 1) := by decide +kernel
theorem dX4_passGap_6 : decode cX4_passGap 6 = .ok (.invokevirtual 9, 3) := by decide +kernel
theorem dX4_passGap_9 : decode cX4_passGap 9 = .ok (.aload_n 1, 1) := by decide +kernel
theorem dX4_passGap_10 : decode cX4_passGap 10 = .ok (.getfield 18, 3) := by decide +kernel
theorem dX4_passGap_13 : decode cX4_passGap 13 = .ok (.iload_n 2, 1) := by decide +kernel
theorem dX4_passGap_14 : decode cX4_passGap 14 = .ok (.if_icmp .gt 11, 3) := by decide +kernel
theorem dX4_passGap_17 : decode cX4_passGap 17 = .ok (.aload_n 1, 1) := by decide +kernel
theorem dX4_passGap_18 : decode cX4_passGap 18 = .ok (.iload_n 2, 1) := by decide +kernel
theorem dX4_passGap_19 : decode cX4_passGap 19 = .ok (.invokevirtual 22, 3) := by decide +kernel
theorem dX4_passGap_22 : decode cX4_passGap 22 = .ok (.ifCond .eq 7, 3) := by decide +kernel
theorem dX4_passGap_25 : decode cX4_passGap 25 = .ok (.iconst 1, 1) := by decide +kernel
theorem dX4_passGap_26 : decode cX4_passGap 26 = .ok (.goto 4, 3) := by decide +kernel
theorem dX4_passGap_29 : decode cX4_passGap 29 = .ok (.iconst 0, 1) := by decide +kernel
theorem dX4_passGap_30 : decode cX4_passGap 30 = .ok (.ireturn, 1) := by decide +kernel
theorem dX4_tell_0 : decode cX4_tell 0 = .ok (.iconst 0, 1) := by decide +kernel
theorem dX4_tell_1 : decode cX4_tell 1 = .ok (.istore_n 3, 1) := by decide +kernel
theorem dX4_tell_2 : decode cX4_tell 2 = .ok (.iconst 0, 1) := by decide +kernel
theorem dX4_tell_3 : decode cX4_tell 3 = .ok (.istore 4, 2) := by decide +kernel
theorem dX4_tell_5 : decode cX4_tell 5 = .ok (.iload 4, 2) := by decide +kernel
theorem dX4_tell_7 : decode cX4_tell 7 = .ok (.sipush 200, 3) := by decide +kernel
theorem dX4_tell_10 : decode cX4_tell 10 = .ok (.if_icmp .ge 110, 3) := by decide +kernel
theorem dX4_tell_13 : decode cX4_tell 13 = .ok (.aload_n 1, 1) := by decide +kernel
theorem dX4_tell_14 : decode cX4_tell 14 = .ok (.iload_n 3, 1) := by decide +kernel
theorem dX4_tell_15 : decode cX4_tell 15 = .ok (.invokevirtual 91, 3) := by decide +kernel
theorem dX4_tell_18 : decode cX4_tell 18 = .ok (.ifCond .eq 102, 3) := by decide +kernel
theorem dX4_tell_21 : decode cX4_tell 21 = .ok (.iload_n 3, 1) := by decide +kernel
theorem dX4_tell_22 : decode cX4_tell 22 = .ok (.ifCond .le 20, 3) := by decide +kernel
theorem dX4_tell_25 : decode cX4_tell 25 = .ok (.aload_n 2, 1) := by decide +kernel
theorem dX4_tell_26 : decode cX4_tell 26 = .ok (.bipush 10, 2) := by decide +kernel
theorem dX4_tell_28 : decode cX4_tell 28 = .ok (.invokevirtual 94, 3) := by decide +kernel
theorem dX4_tell_31 : decode cX4_tell 31 = .ok (.aload_n 2, 1) := by decide +kernel
theorem dX4_tell_32 : decode cX4_tell 32 = .ok (.bipush 32, 2) := by decide +kernel
theorem dX4_tell_34 : decode cX4_tell 34 = .ok (.aload_n 1, 1) := by decide +kernel
theorem dX4_tell_35 : decode cX4_tell 35 = .ok (.iload_n 3, 1) := by decide +kernel
theorem dX4_tell_36 : decode cX4_tell 36 = .ok (.invokevirtual 48, 3) := by decide +kernel
theorem dX4_tell_39 : decode cX4_tell 39 = .ok (.invokevirtual 100, 3) := by decide +kernel
theorem dX4_tell_42 : decode cX4_tell 42 = .ok (.aload_n 1, 1) := by decide +kernel
theorem dX4_tell_43 : decode cX4_tell 43 = .ok (.iload_n 3, 1) := by decide +kernel
theorem dX4_tell_44 : decode cX4_tell 44 = .ok (.invokevirtual 104, 3) := by decide +kernel
theorem dX4_tell_47 : decode cX4_tell 47 = .ok (.istore 5, 2) := by decide +kernel
theorem dX4_tell_49 : decode cX4_tell 49 = .ok (.aload_n 1, 1) := by decide +kernel
theorem dX4_tell_50 : decode cX4_tell 50 = .ok (.iload_n 3, 1) := by decide +kernel
theorem dX4_tell_51 : decode cX4_tell 51 = .ok (.invokevirtual 48, 3) := by decide +kernel
theorem dX4_tell_54 : decode cX4_tell 54 = .ok (.aload_n 1, 1) := by decide +kernel
theorem dX4_tell_55 : decode cX4_tell 55 = .ok (.iload 5, 2) := by decide +kernel
theorem dX4_tell_57 : decode cX4_tell 57 = .ok (.invokevirtual 48, 3) := by decide +kernel
theorem dX4_tell_60 : decode cX4_tell 60 = .ok (.iconst 0, 1) := by decide +kernel
theorem dX4_tell_61 : decode cX4_tell 61 = .ok (.invokestatic 107, 3) := by decide +kernel
theorem dX4_tell_64 : decode cX4_tell 64 = .ok (.isub, 1) := by decide +kernel
theorem dX4_tell_65 : decode cX4_tell 65 = .ok (.istore 6, 2) := by decide +kernel
theorem dX4_tell_67 : decode cX4_tell 67 = .ok (.aload_n 1, 1) := by decide +kernel
theorem dX4_tell_68 : decode cX4_tell 68 = .ok (.iload_n 3, 1) := by decide +kernel
theorem dX4_tell_69 : decode cX4_tell 69 = .ok (.invokevirtual 54, 3) := by decide +kernel
theorem dX4_tell_72 : decode cX4_tell 72 = .ok (.getstatic 58, 3) := by decide +kernel
theorem dX4_tell_75 : decode cX4_tell 75 = .ok (.if_acmp .ne 12, 3) := by decide +kernel
theorem dX4_tell_78 : decode cX4_tell 78 = .ok (.aload_n 2, 1) := by decide +kernel
theorem dX4_tell_79 : decode cX4_tell 79 = .ok (.aload_n 1, 1) := by decide +kernel
theorem dX4_tell_80 : decode cX4_tell 80 = .ok (.iload_n 3, 1) := by decide +kernel
theorem dX4_tell_81 : decode cX4_tell 81 = .ok (.invokevirtual 110, 3) := by decide +kernel
theorem dX4_tell_84 : decode cX4_tell 84 = .ok (.goto 19, 3) := by decide +kernel
theorem dX4_tell_87 : decode cX4_tell 87 = .ok (.aload_n 2, 1) := by decide +kernel
theorem dX4_tell_88 : decode cX4_tell 88 = .ok (.bipush 40, 2) := by decide +kernel
theorem dX4_tell_90 : decode cX4_tell 90 = .ok (.invokevirtual 94, 3) := by decide +kernel
theorem dX4_tell_93 : decode cX4_tell 93 = .ok (.aload_n 0, 1) := by decide +kernel
theorem dX4_tell_94 : decode cX4_tell 94 = .ok (.aload_n 1, 1) := by decide +kernel
theorem dX4_tell_95 : decode cX4_tell 95 = .ok (.iload_n 3, 1) := by decide +kernel
theorem dX4_tell_96 : decode cX4_tell 96 = .ok (.aload_n 2, 1) := by decide +kernel
theorem dX4_tell_97 : decode cX4_tell 97 = .ok (.invokevirtual 114, 3) := by decide +kernel
theorem dX4_tell_100 : decode cX4_tell 100 = .ok (.iinc 6 1, 3) := by decide +kernel
theorem dX4_tell_103 : decode cX4_tell 103 = .ok (.aload_n 2, 1) := by decide +kernel
theorem dX4_tell_104 : decode cX4_tell 104 = .ok (.bipush 41, 2) := by decide +kernel
theorem dX4_tell_106 : decode cX4_tell 106 = .ok (.iload 6, 2) := by decide +kernel
theorem dX4_tell_108 : decode cX4_tell 108 = .ok (.invokevirtual 100, 3) := by decide +kernel
theorem dX4_tell_111 : decode cX4_tell 111 = .ok (.iload 5, 2) := by decide +kernel
theorem dX4_tell_113 : decode cX4_tell 113 = .ok (.istore_n 3, 1) := by decide +kernel
theorem dX4_tell_114 : decode cX4_tell 114 = .ok (.iinc 4 1, 3) := by decide +kernel
theorem dX4_tell_117 : decode cX4_tell 117 = .ok (.goto (-112), 3) := by decide +kernel
theorem dX4_tell_120 : decode cX4_tell 120 = .ok (.aload_n 2, 1) := by decide +kernel
theorem dX4_tell_121 : decode cX4_tell 121 = .ok (.bipush 10, 2) := by decide +kernel
theorem dX4_tell_123 : decode cX4_tell 123 = .ok (.invokevirtual 94, 3) := by decide +kernel
theorem dX4_tell_126 : decode cX4_tell 126 = .ok (.return_, 1) := by decide +kernel

theorem dX9_kindAt_67 : decode cX9_kindAt 67 = .ok (.iinc 5 1, 3) := by decide +kernel
theorem dX9_kindAt_70 : decode cX9_kindAt 70 = .ok (.goto (-23), 3) := by decide +kernel
theorem dX9_kindAt_73 : decode cX9_kindAt 73 = .ok (.bipush 9, 2) := by decide +kernel
theorem dX9_kindAt_75 : decode cX9_kindAt 75 = .ok (.ireturn, 1) := by decide +kernel
theorem dX9_beginObject_0 : decode cX9_beginObject 0 = .ok (.aload_n 0, 1) := by decide +kernel
theorem dX9_beginObject_1 : decode cX9_beginObject 1 = .ok (.iload_n 1, 1) := by decide +kernel
theorem dX9_beginObject_2 : decode cX9_beginObject 2 = .ok (.invokevirtual 155, 3) := by decide +kernel
theorem dX9_beginObject_5 : decode cX9_beginObject 5 = .ok (.istore 4, 2) := by decide +kernel
theorem dX9_beginObject_7 : decode cX9_beginObject 7 = .ok (.iload 4, 2) := by decide +kernel
theorem dX9_beginObject_9 : decode cX9_beginObject 9 = .ok (.iload_n 1, 1) := by decide +kernel
theorem dX9_beginObject_10 : decode cX9_beginObject 10 = .ok (.if_icmp .ne 10, 3) := by decide +kernel
theorem dX9_beginObject_13 : decode cX9_beginObject 13 = .ok (.aload_n 0, 1) := by decide +kernel
theorem dX9_beginObject_14 : decode cX9_beginObject 14 = .ok (.iload_n 1, 1) := by decide +kernel
theorem dX9_beginObject_15 : decode cX9_beginObject 15 = .ok (.invokevirtual 98, 3) := by decide +kernel
theorem dX9_beginObject_18 : decode cX9_beginObject 18 = .ok (.iconst (-1), 1) := by decide +kernel
theorem dX9_beginObject_19 : decode cX9_beginObject 19 = .ok (.ireturn, 1) := by decide +kernel
theorem dX9_beginObject_20 : decode cX9_beginObject 20 = .ok (.aload_n 0, 1) := by decide +kernel
theorem dX9_beginObject_21 : decode cX9_beginObject 21 = .ok (.iload_n 1, 1) := by decide +kernel
theorem dX9_beginObject_22 : decode cX9_beginObject 22 = .ok (.iload 4, 2) := by decide +kernel
theorem dX9_beginObject_24 : decode cX9_beginObject 24 = .ok (.invokevirtual 158, 3) := by decide +kernel
theorem dX9_beginObject_27 : decode cX9_beginObject 27 = .ok (.istore 5, 2) := by decide +kernel
theorem dX9_beginObject_29 : decode cX9_beginObject 29 = .ok (.iload_n 2, 1) := by decide +kernel
theorem dX9_beginObject_30 : decode cX9_beginObject 30 = .ok (.iconst (-1), 1) := by decide +kernel
theorem dX9_beginObject_31 : decode cX9_beginObject 31 = .ok (.if_icmp .ne 16, 3) := by decide +kernel
theorem dX9_beginObject_34 : decode cX9_beginObject 34 = .ok (.iload 5, 2) := by decide +kernel
theorem dX9_beginObject_36 : decode cX9_beginObject 36 = .ok (.ifCond .ne 7, 3) := by decide +kernel
theorem dX9_beginObject_39 : decode cX9_beginObject 39 = .ok (.iconst 1, 1) := by decide +kernel
theorem dX9_beginObject_40 : decode cX9_beginObject 40 = .ok (.goto 13, 3) := by decide +kernel
theorem dX9_beginObject_43 : decode cX9_beginObject 43 = .ok (.iconst 0, 1) := by decide +kernel
theorem dX9_beginObject_44 : decode cX9_beginObject 44 = .ok (.goto 9, 3) := by decide +kernel
theorem dX9_beginObject_47 : decode cX9_beginObject 47 = .ok (.iload 5, 2) := by decide +kernel
theorem dX9_beginObject_49 : decode cX9_beginObject 49 = .ok (.iload_n 2, 1) := by decide +kernel
theorem dX9_beginObject_50 : decode cX9_beginObject 50 = .ok (.invokestatic 161, 3) := by decide +kernel
theorem dX9_beginObject_53 : decode cX9_beginObject 53 = .ok (.istore 6, 2) := by decide +kernel
theorem dX9_beginObject_55 : decode cX9_beginObject 55 = .ok (.iload 6, 2) := by decide +kernel
theorem dX9_beginObject_57 : decode cX9_beginObject 57 = .ok (.ifCond .eq 13, 3) := by decide +kernel
theorem dX9_beginObject_60 : decode cX9_beginObject 60 = .ok (.aload_n 0, 1) := by decide +kernel
theorem dX9_beginObject_61 : decode cX9_beginObject 61 = .ok (.getfield 122, 3) := by decide +kernel
theorem dX9_beginObject_64 : decode cX9_beginObject 64 = .ok (.sipush 200, 3) := by decide +kernel
theorem dX9_beginObject_67 : decode cX9_beginObject 67 = .ok (.if_icmp .ne 10, 3) := by decide +kernel
theorem dX9_beginObject_70 : decode cX9_beginObject 70 = .ok (.aload_n 0, 1) := by decide +kernel
theorem dX9_beginObject_71 : decode cX9_beginObject 71 = .ok (.iload_n 1, 1) := by decide +kernel
theorem dX9_beginObject_72 : decode cX9_beginObject 72 = .ok (.invokevirtual 98, 3) := by decide +kernel
theorem dX9_beginObject_75 : decode cX9_beginObject 75 = .ok (.iconst (-1), 1) := by decide +kernel
theorem dX9_beginObject_76 : decode cX9_beginObject 76 = .ok (.ireturn, 1) := by decide +kernel
theorem dX9_beginObject_77 : decode cX9_beginObject 77 = .ok (.aload_n 0, 1) := by decide +kernel
theorem dX9_beginObject_78 : decode cX9_beginObject 78 = .ok (.iconst 0, 1) := by decide +kernel
theorem dX9_beginObject_79 : decode cX9_beginObject 79 = .ok (.putfield 141, 3) := by decide +kernel
theorem dX9_beginObject_82 : decode cX9_beginObject 82 = .ok (.aload_n 0, 1) := by decide +kernel
theorem dX9_beginObject_83 : decode cX9_beginObject 83 = .ok (.iconst 0, 1) := by decide +kernel
theorem dX9_beginObject_84 : decode cX9_beginObject 84 = .ok (.putfield 125, 3) := by decide +kernel
theorem dX9_beginObject_87 : decode cX9_beginObject 87 = .ok (.aload_n 0, 1) := by decide +kernel
theorem dX9_beginObject_88 : decode cX9_beginObject 88 = .ok (.getfield 119, 3) := by decide +kernel
theorem dX9_beginObject_91 : decode cX9_beginObject 91 = .ok (.ifCond .eq 23, 3) := by decide +kernel
theorem dX9_beginObject_94 : decode cX9_beginObject 94 = .ok (.aload_n 0, 1) := by decide +kernel
theorem dX9_beginObject_95 : decode cX9_beginObject 95 = .ok (.aload_n 0, 1) := by decide +kernel
theorem dX9_beginObject_96 : decode cX9_beginObject 96 = .ok (.getfield 122, 3) := by decide +kernel
theorem dX9_beginObject_99 : decode cX9_beginObject 99 = .ok (.iload 5, 2) := by decide +kernel
theorem dX9_beginObject_101 : decode cX9_beginObject 101 = .ok (.invokevirtual 165, 3) := by decide +kernel
theorem dX9_beginObject_104 : decode cX9_beginObject 104 = .ok (.aload_n 0, 1) := by decide +kernel
theorem dX9_beginObject_105 : decode cX9_beginObject 105 = .ok (.getfield 16, 3) := by decide +kernel
theorem dX9_beginObject_108 : decode cX9_beginObject 108 = .ok (.aload_n 0, 1) := by decide +kernel
theorem dX9_beginObject_109 : decode cX9_beginObject 109 = .ok (.getfield 122, 3) := by decide +kernel
theorem dX9_beginObject_112 : decode cX9_beginObject 112 = .ok (.iload_n 3, 1) := by decide +kernel
theorem dX9_beginObject_113 : decode cX9_beginObject 113 = .ok (.iastore, 1) := by decide +kernel
theorem dX9_beginObject_114 : decode cX9_beginObject 114 = .ok (.iload 5, 2) := by decide +kernel
theorem dX9_beginObject_116 : decode cX9_beginObject 116 = .ok (.ireturn, 1) := by decide +kernel
theorem dX9_keep_0 : decode cX9_keep 0 = .ok (.iload_n 1, 1) := by decide +kernel
theorem dX9_keep_1 : decode cX9_keep 1 = .ok (.istore_n 3, 1) := by decide +kernel
theorem dX9_keep_2 : decode cX9_keep 2 = .ok (.iload_n 3, 1) := by decide +kernel
theorem dX9_keep_3 : decode cX9_keep 3 = .ok (.iload_n 2, 1) := by decide +kernel
theorem dX9_keep_4 : decode cX9_keep 4 = .ok (.if_icmp .ge 80, 3) := by decide +kernel
theorem dX9_keep_7 : decode cX9_keep 7 = .ok (.aload_n 0, 1) := by decide +kernel
theorem dX9_keep_8 : decode cX9_keep 8 = .ok (.getfield 84, 3) := by decide +kernel
theorem dX9_keep_11 : decode cX9_keep 11 = .ok (.iconst (-1), 1) := by decide +kernel
theorem dX9_keep_12 : decode cX9_keep 12 = .ok (.if_icmp .ne 72, 3) := by decide +kernel
theorem dX9_keep_15 : decode cX9_keep 15 = .ok (.aload_n 0, 1) := by decide +kernel
theorem dX9_keep_16 : decode cX9_keep 16 = .ok (.getfield 169, 3) := by decide +kernel
theorem dX9_keep_19 : decode cX9_keep 19 = .ok (.sipush 2000, 3) := by decide +kernel
theorem dX9_keep_22 : decode cX9_keep 22 = .ok (.if_icmp .ne 11, 3) := by decide +kernel
theorem dX9_keep_25 : decode cX9_keep 25 = .ok (.aload_n 0, 1) := by decide +kernel
theorem dX9_keep_26 : decode cX9_keep 26 = .ok (.iload_n 3, 1) := by decide +kernel
theorem dX9_keep_27 : decode cX9_keep 27 = .ok (.invokevirtual 98, 3) := by decide +kernel
theorem dX9_keep_30 : decode cX9_keep 30 = .ok (.goto 48, 3) := by decide +kernel
theorem dX9_keep_33 : decode cX9_keep 33 = .ok (.aload_n 0, 1) := by decide +kernel
theorem dX9_keep_34 : decode cX9_keep 34 = .ok (.getfield 119, 3) := by decide +kernel
theorem dX9_keep_37 : decode cX9_keep 37 = .ok (.ifCond .eq 31, 3) := by decide +kernel
theorem dX9_keep_40 : decode cX9_keep 40 = .ok (.aload_n 0, 1) := by decide +kernel
theorem dX9_keep_41 : decode cX9_keep 41 = .ok (.getfield 35, 3) := by decide +kernel
theorem dX9_keep_44 : decode cX9_keep 44 = .ok (.aload_n 0, 1) := by decide +kernel
theorem dX9_keep_45 : decode cX9_keep 45 = .ok (.getfield 169, 3) := by decide +kernel
theorem dX9_keep_48 : decode cX9_keep 48 = .ok (.aload_n 0, 1) := by decide +kernel
theorem dX9_keep_49 : decode cX9_keep 49 = .ok (.getfield 7, 3) := by decide +kernel
theorem dX9_keep_52 : decode cX9_keep 52 = .ok (.iload_n 3, 1) := by decide +kernel
theorem dX9_keep_53 : decode cX9_keep 53 = .ok (.iaload, 1) := by decide +kernel
theorem dX9_keep_54 : decode cX9_keep 54 = .ok (.iastore, 1) := by decide +kernel
theorem dX9_keep_55 : decode cX9_keep 55 = .ok (.aload_n 0, 1) := by decide +kernel
theorem dX9_keep_56 : decode cX9_keep 56 = .ok (.getfield 32, 3) := by decide +kernel
theorem dX9_keep_59 : decode cX9_keep 59 = .ok (.aload_n 0, 1) := by decide +kernel
theorem dX9_keep_60 : decode cX9_keep 60 = .ok (.getfield 122, 3) := by decide +kernel
theorem dX9_keep_63 : decode cX9_keep 63 = .ok (.dup2, 1) := by decide +kernel
theorem dX9_keep_64 : decode cX9_keep 64 = .ok (.iaload, 1) := by decide +kernel
theorem dX9_keep_65 : decode cX9_keep 65 = .ok (.iconst 1, 1) := by decide +kernel
theorem dX9_keep_66 : decode cX9_keep 66 = .ok (.iadd, 1) := by decide +kernel
theorem dX9_keep_67 : decode cX9_keep 67 = .ok (.iastore, 1) := by decide +kernel
theorem dX9_keep_68 : decode cX9_keep 68 = .ok (.aload_n 0, 1) := by decide +kernel
theorem dX9_keep_69 : decode cX9_keep 69 = .ok (.dup, 1) := by decide +kernel
theorem dX9_keep_70 : decode cX9_keep 70 = .ok (.getfield 169, 3) := by decide +kernel
theorem dX9_keep_73 : decode cX9_keep 73 = .ok (.iconst 1, 1) := by decide +kernel
theorem dX9_keep_74 : decode cX9_keep 74 = .ok (.iadd, 1) := by decide +kernel
theorem dX9_keep_75 : decode cX9_keep 75 = .ok (.putfield 169, 3) := by decide +kernel
theorem dX9_keep_78 : decode cX9_keep 78 = .ok (.iinc 3 1, 3) := by decide +kernel
theorem dX9_keep_81 : decode cX9_keep 81 = .ok (.goto (-79), 3) := by decide +kernel
theorem dX9_keep_84 : decode cX9_keep 84 = .ok (.return_, 1) := by decide +kernel
theorem dX9_passText_0 : decode cX9_passText 0 = .ok (.iload_n 1, 1) := by decide +kernel
theorem dX9_passText_1 : decode cX9_passText 1 = .ok (.iconst 1, 1) := by decide +kernel
theorem dX9_passText_2 : decode cX9_passText 2 = .ok (.iadd, 1) := by decide +kernel
theorem dX9_passText_3 : decode cX9_passText 3 = .ok (.istore_n 2, 1) := by decide +kernel
theorem dX9_passText_4 : decode cX9_passText 4 = .ok (.aload_n 0, 1) := by decide +kernel
theorem dX9_passText_5 : decode cX9_passText 5 = .ok (.getfield 84, 3) := by decide +kernel
theorem dX9_passText_8 : decode cX9_passText 8 = .ok (.iconst (-1), 1) := by decide +kernel
theorem dX9_passText_9 : decode cX9_passText 9 = .ok (.if_icmp .ne 126, 3) := by decide +kernel
theorem dX9_passText_12 : decode cX9_passText 12 = .ok (.aload_n 0, 1) := by decide +kernel
theorem dX9_passText_13 : decode cX9_passText 13 = .ok (.iload_n 2, 1) := by decide +kernel
theorem dX9_passText_14 : decode cX9_passText 14 = .ok (.invokevirtual 87, 3) := by decide +kernel
theorem dX9_passText_17 : decode cX9_passText 17 = .ok (.bipush 34, 2) := by decide +kernel
theorem dX9_passText_19 : decode cX9_passText 19 = .ok (.if_icmp .eq 116, 3) := by decide +kernel
theorem dX9_passText_22 : decode cX9_passText 22 = .ok (.aload_n 0, 1) := by decide +kernel
theorem dX9_passText_23 : decode cX9_passText 23 = .ok (.iload_n 2, 1) := by decide +kernel
theorem dX9_passText_24 : decode cX9_passText 24 = .ok (.invokevirtual 87, 3) := by decide +kernel
theorem dX9_passText_27 : decode cX9_passText 27 = .ok (.bipush 92, 2) := by decide +kernel
theorem dX9_passText_29 : decode cX9_passText 29 = .ok (.if_icmp .ne 7, 3) := by decide +kernel
theorem dX9_passText_32 : decode cX9_passText 32 = .ok (.iconst 1, 1) := by decide +kernel
theorem dX9_passText_33 : decode cX9_passText 33 = .ok (.goto 4, 3) := by decide +kernel
theorem dX9_passText_36 : decode cX9_passText 36 = .ok (.iconst 0, 1) := by decide +kernel
theorem dX9_passText_37 : decode cX9_passText 37 = .ok (.istore_n 3, 1) := by decide +kernel
theorem dX9_passText_38 : decode cX9_passText 38 = .ok (.aload_n 0, 1) := by decide +kernel
theorem dX9_passText_39 : decode cX9_passText 39 = .ok (.iload_n 2, 1) := by decide +kernel
theorem dX9_passText_40 : decode cX9_passText 40 = .ok (.invokevirtual 87, 3) := by decide +kernel
theorem dX9_passText_43 : decode cX9_passText 43 = .ok (.iconst (-1), 1) := by decide +kernel
theorem dX9_passText_44 : decode cX9_passText 44 = .ok (.if_icmp .ne 11, 3) := by decide +kernel
theorem dX9_passText_47 : decode cX9_passText 47 = .ok (.aload_n 0, 1) := by decide +kernel
theorem dX9_passText_48 : decode cX9_passText 48 = .ok (.iload_n 2, 1) := by decide +kernel
theorem dX9_passText_49 : decode cX9_passText 49 = .ok (.invokevirtual 98, 3) := by decide +kernel
theorem dX9_passText_52 : decode cX9_passText 52 = .ok (.goto 11, 3) := by decide +kernel
theorem dX9_passText_55 : decode cX9_passText 55 = .ok (.aload_n 0, 1) := by decide +kernel
theorem dX9_passText_56 : decode cX9_passText 56 = .ok (.iload_n 2, 1) := by decide +kernel
theorem dX9_passText_57 : decode cX9_passText 57 = .ok (.iload_n 2, 1) := by decide +kernel
theorem dX9_passText_58 : decode cX9_passText 58 = .ok (.iconst 1, 1) := by decide +kernel
theorem dX9_passText_59 : decode cX9_passText 59 = .ok (.iadd, 1) := by decide +kernel
theorem dX9_passText_60 : decode cX9_passText 60 = .ok (.invokevirtual 172, 3) := by decide +kernel
theorem dX9_passText_63 : decode cX9_passText 63 = .ok (.iload_n 3, 1) := by decide +kernel
theorem dX9_passText_64 : decode cX9_passText 64 = .ok (.ifCond .eq 34, 3) := by decide +kernel
theorem dX9_passText_67 : decode cX9_passText 67 = .ok (.aload_n 0, 1) := by decide +kernel
theorem dX9_passText_68 : decode cX9_passText 68 = .ok (.iload_n 2, 1) := by decide +kernel
theorem dX9_passText_69 : decode cX9_passText 69 = .ok (.iconst 1, 1) := by decide +kernel
theorem dX9_passText_70 : decode cX9_passText 70 = .ok (.iadd, 1) := by decide +kernel
theorem dX9_passText_71 : decode cX9_passText 71 = .ok (.invokevirtual 87, 3) := by decide +kernel
theorem dX9_passText_74 : decode cX9_passText 74 = .ok (.bipush 34, 2) := by decide +kernel
theorem dX9_passText_76 : decode cX9_passText 76 = .ok (.if_icmp .eq 22, 3) := by decide +kernel
theorem dX9_passText_79 : decode cX9_passText 79 = .ok (.aload_n 0, 1) := by decide +kernel
theorem dX9_passText_80 : decode cX9_passText 80 = .ok (.iload_n 2, 1) := by decide +kernel
theorem dX9_passText_81 : decode cX9_passText 81 = .ok (.iconst 1, 1) := by decide +kernel
theorem dX9_passText_82 : decode cX9_passText 82 = .ok (.iadd, 1) := by decide +kernel
theorem dX9_passText_83 : decode cX9_passText 83 = .ok (.invokevirtual 87, 3) := by decide +kernel
theorem dX9_passText_86 : decode cX9_passText 86 = .ok (.bipush 92, 2) := by decide +kernel
theorem dX9_passText_88 : decode cX9_passText 88 = .ok (.if_icmp .eq 10, 3) := by decide +kernel
theorem dX9_passText_91 : decode cX9_passText 91 = .ok (.aload_n 0, 1) := by decide +kernel
theorem dX9_passText_92 : decode cX9_passText 92 = .ok (.iload_n 2, 1) := by decide +kernel
theorem dX9_passText_93 : decode cX9_passText 93 = .ok (.iconst 1, 1) := by decide +kernel
theorem dX9_passText_94 : decode cX9_passText 94 = .ok (.iadd, 1) := by decide +kernel
theorem dX9_passText_95 : decode cX9_passText 95 = .ok (.invokevirtual 98, 3) := by decide +kernel
theorem dX9_passText_98 : decode cX9_passText 98 = .ok (.iload_n 3, 1) := by decide +kernel
theorem dX9_passText_99 : decode cX9_passText 99 = .ok (.ifCond .eq 21, 3) := by decide +kernel
theorem dX9_passText_102 : decode cX9_passText 102 = .ok (.aload_n 0, 1) := by decide +kernel
theorem dX9_passText_103 : decode cX9_passText 103 = .ok (.getfield 84, 3) := by decide +kernel
theorem dX9_passText_106 : decode cX9_passText 106 = .ok (.iconst (-1), 1) := by decide +kernel
theorem dX9_passText_107 : decode cX9_passText 107 = .ok (.if_icmp .ne 13, 3) := by decide +kernel
theorem dX9_passText_110 : decode cX9_passText 110 = .ok (.aload_n 0, 1) := by decide +kernel
theorem dX9_passText_111 : decode cX9_passText 111 = .ok (.iload_n 2, 1) := by decide +kernel
theorem dX9_passText_112 : decode cX9_passText 112 = .ok (.iconst 1, 1) := by decide +kernel
theorem dX9_passText_113 : decode cX9_passText 113 = .ok (.iadd, 1) := by decide +kernel
theorem dX9_passText_114 : decode cX9_passText 114 = .ok (.iload_n 2, 1) := by decide +kernel
theorem dX9_passText_115 : decode cX9_passText 115 = .ok (.iconst 2, 1) := by decide +kernel
theorem dX9_passText_116 : decode cX9_passText 116 = .ok (.iadd, 1) := by decide +kernel
theorem dX9_passText_117 : decode cX9_passText 117 = .ok (.invokevirtual 172, 3) := by decide +kernel
theorem dX9_passText_120 : decode cX9_passText 120 = .ok (.iload_n 2, 1) := by decide +kernel
theorem dX9_passText_121 : decode cX9_passText 121 = .ok (.iload_n 3, 1) := by decide +kernel
theorem dX9_passText_122 : decode cX9_passText 122 = .ok (.ifCond .eq 7, 3) := by decide +kernel
theorem dX9_passText_125 : decode cX9_passText 125 = .ok (.iconst 2, 1) := by decide +kernel
theorem dX9_passText_126 : decode cX9_passText 126 = .ok (.goto 4, 3) := by decide +kernel
theorem dX9_passText_129 : decode cX9_passText 129 = .ok (.iconst 1, 1) := by decide +kernel
theorem dX9_passText_130 : decode cX9_passText 130 = .ok (.iadd, 1) := by decide +kernel
theorem dX9_passText_131 : decode cX9_passText 131 = .ok (.istore_n 2, 1) := by decide +kernel
theorem dX9_passText_132 : decode cX9_passText 132 = .ok (.goto (-128), 3) := by decide +kernel
theorem dX9_passText_135 : decode cX9_passText 135 = .ok (.aload_n 0, 1) := by decide +kernel
theorem dX9_passText_136 : decode cX9_passText 136 = .ok (.getfield 84, 3) := by decide +kernel
theorem dX9_passText_139 : decode cX9_passText 139 = .ok (.iconst (-1), 1) := by decide +kernel
theorem dX9_passText_140 : decode cX9_passText 140 = .ok (.if_icmp .ne 11, 3) := by decide +kernel
theorem dX9_passText_143 : decode cX9_passText 143 = .ok (.aload_n 0, 1) := by decide +kernel
theorem dX9_passText_144 : decode cX9_passText 144 = .ok (.iload_n 2, 1) := by decide +kernel
theorem dX9_passText_145 : decode cX9_passText 145 = .ok (.iload_n 2, 1) := by decide +kernel
theorem dX9_passText_146 : decode cX9_passText 146 = .ok (.iconst 1, 1) := by decide +kernel
theorem dX9_passText_147 : decode cX9_passText 147 = .ok (.iadd, 1) := by decide +kernel
theorem dX9_passText_148 : decode cX9_passText 148 = .ok (.invokevirtual 172, 3) := by decide +kernel
theorem dX9_passText_151 : decode cX9_passText 151 = .ok (.iload_n 2, 1) := by decide +kernel
theorem dX9_passText_152 : decode cX9_passText 152 = .ok (.iconst 1, 1) := by decide +kernel
theorem dX9_passText_153 : decode cX9_passText 153 = .ok (.iadd, 1) := by decide +kernel
theorem dX9_passText_154 : decode cX9_passText 154 = .ok (.ireturn, 1) := by decide +kernel
theorem dX9_passList_0 : decode cX9_passList 0 = .ok (.iconst 1, 1) := by decide +kernel
theorem dX9_passList_1 : decode cX9_passList 1 = .ok (.istore_n 3, 1) := by decide +kernel
theorem dX9_passList_2 : decode cX9_passList 2 = .ok (.iload_n 1, 1) := by decide +kernel
theorem dX9_passList_3 : decode cX9_passList 3 = .ok (.istore 4, 2) := by decide +kernel
theorem dX9_passList_5 : decode cX9_passList 5 = .ok (.aload_n 0, 1) := by decide +kernel
theorem dX9_passList_6 : decode cX9_passList 6 = .ok (.getfield 84, 3) := by decide +kernel
theorem dX9_passList_9 : decode cX9_passList 9 = .ok (.iconst (-1), 1) := by decide +kernel
theorem dX9_passList_10 : decode cX9_passList 10 = .ok (.if_icmp .ne 114, 3) := by decide +kernel
theorem dX9_passList_13 : decode cX9_passList 13 = .ok (.iload_n 3, 1) := by decide +kernel
theorem dX9_passList_14 : decode cX9_passList 14 = .ok (.ifCond .le 110, 3) := by decide +kernel
theorem dX9_passList_17 : decode cX9_passList 17 = .ok (.aload_n 0, 1) := by decide +kernel
theorem dX9_passList_18 : decode cX9_passList 18 = .ok (.iload 4, 2) := by decide +kernel
theorem dX9_passList_20 : decode cX9_passList 20 = .ok (.invokevirtual 87, 3) := by decide +kernel
theorem dX9_passList_23 : decode cX9_passList 23 = .ok (.istore 5, 2) := by decide +kernel
theorem dX9_passList_25 : decode cX9_passList 25 = .ok (.iload 5, 2) := by decide +kernel
theorem dX9_passList_27 : decode cX9_passList 27 = .ok (.iconst (-1), 1) := by decide +kernel
theorem dX9_passList_28 : decode cX9_passList 28 = .ok (.if_icmp .eq 18, 3) := by decide +kernel
theorem dX9_passList_31 : decode cX9_passList 31 = .ok (.iload 5, 2) := by decide +kernel
theorem dX9_passList_33 : decode cX9_passList 33 = .ok (.bipush 40, 2) := by decide +kernel
theorem dX9_passList_35 : decode cX9_passList 35 = .ok (.if_icmp .ne 20, 3) := by decide +kernel
theorem dX9_passList_38 : decode cX9_passList 38 = .ok (.iload_n 2, 1) := by decide +kernel
theorem dX9_passList_39 : decode cX9_passList 39 = .ok (.iload_n 3, 1) := by decide +kernel
theorem dX9_passList_40 : decode cX9_passList 40 = .ok (.iadd, 1) := by decide +kernel
theorem dX9_passList_41 : decode cX9_passList 41 = .ok (.bipush 100, 2) := by decide +kernel
theorem dX9_passList_43 : decode cX9_passList 43 = .ok (.if_icmp .ne 12, 3) := by decide +kernel
theorem dX9_passList_46 : decode cX9_passList 46 = .ok (.aload_n 0, 1) := by decide +kernel
theorem dX9_passList_47 : decode cX9_passList 47 = .ok (.iload 4, 2) := by decide +kernel
theorem dX9_passList_49 : decode cX9_passList 49 = .ok (.invokevirtual 98, 3) := by decide +kernel
theorem dX9_passList_52 : decode cX9_passList 52 = .ok (.iload 4, 2) := by decide +kernel
theorem dX9_passList_54 : decode cX9_passList 54 = .ok (.ireturn, 1) := by decide +kernel
theorem dX9_passList_55 : decode cX9_passList 55 = .ok (.iload_n 3, 1) := by decide +kernel
theorem dX9_passList_56 : decode cX9_passList 56 = .ok (.iload 5, 2) := by decide +kernel
theorem dX9_passList_58 : decode cX9_passList 58 = .ok (.bipush 40, 2) := by decide +kernel
theorem dX9_passList_60 : decode cX9_passList 60 = .ok (.if_icmp .ne 7, 3) := by decide +kernel
theorem dX9_passList_63 : decode cX9_passList 63 = .ok (.iconst 1, 1) := by decide +kernel
theorem dX9_passList_64 : decode cX9_passList 64 = .ok (.goto 15, 3) := by decide +kernel
theorem dX9_passList_67 : decode cX9_passList 67 = .ok (.iload 5, 2) := by decide +kernel
theorem dX9_passList_69 : decode cX9_passList 69 = .ok (.bipush 41, 2) := by decide +kernel
theorem dX9_passList_71 : decode cX9_passList 71 = .ok (.if_icmp .ne 7, 3) := by decide +kernel
theorem dX9_passList_74 : decode cX9_passList 74 = .ok (.iconst (-1), 1) := by decide +kernel
theorem dX9_passList_75 : decode cX9_passList 75 = .ok (.goto 4, 3) := by decide +kernel
theorem dX9_passList_78 : decode cX9_passList 78 = .ok (.iconst 0, 1) := by decide +kernel
theorem dX9_passList_79 : decode cX9_passList 79 = .ok (.iadd, 1) := by decide +kernel
theorem dX9_passList_80 : decode cX9_passList 80 = .ok (.istore_n 3, 1) := by decide +kernel
theorem dX9_passList_81 : decode cX9_passList 81 = .ok (.aload_n 0, 1) := by decide +kernel
theorem dX9_passList_82 : decode cX9_passList 82 = .ok (.iload 4, 2) := by decide +kernel
theorem dX9_passList_84 : decode cX9_passList 84 = .ok (.iload 4, 2) := by decide +kernel
theorem dX9_passList_86 : decode cX9_passList 86 = .ok (.iconst 1, 1) := by decide +kernel
theorem dX9_passList_87 : decode cX9_passList 87 = .ok (.iadd, 1) := by decide +kernel
theorem dX9_passList_88 : decode cX9_passList 88 = .ok (.invokevirtual 172, 3) := by decide +kernel
theorem dX9_passList_91 : decode cX9_passList 91 = .ok (.iload 5, 2) := by decide +kernel
theorem dX9_passList_93 : decode cX9_passList 93 = .ok (.bipush 34, 2) := by decide +kernel
theorem dX9_passList_95 : decode cX9_passList 95 = .ok (.if_icmp .ne 20, 3) := by decide +kernel
theorem dX9_passList_98 : decode cX9_passList 98 = .ok (.aload_n 0, 1) := by decide +kernel
theorem dX9_passList_99 : decode cX9_passList 99 = .ok (.getfield 84, 3) := by decide +kernel
theorem dX9_passList_102 : decode cX9_passList 102 = .ok (.iconst (-1), 1) := by decide +kernel
theorem dX9_passList_103 : decode cX9_passList 103 = .ok (.if_icmp .ne 12, 3) := by decide +kernel
theorem dX9_passList_106 : decode cX9_passList 106 = .ok (.aload_n 0, 1) := by decide +kernel
theorem dX9_passList_107 : decode cX9_passList 107 = .ok (.iload 4, 2) := by decide +kernel
theorem dX9_passList_109 : decode cX9_passList 109 = .ok (.invokevirtual 175, 3) := by decide +kernel
theorem dX9_passList_112 : decode cX9_passList 112 = .ok (.goto 7, 3) := by decide +kernel
theorem dX9_passList_115 : decode cX9_passList 115 = .ok (.iload 4, 2) := by decide +kernel
theorem dX9_passList_117 : decode cX9_passList 117 = .ok (.iconst 1, 1) := by decide +kernel
theorem dX9_passList_118 : decode cX9_passList 118 = .ok (.iadd, 1) := by decide +kernel
theorem dX9_passList_119 : decode cX9_passList 119 = .ok (.istore 4, 2) := by decide +kernel
theorem dX9_passList_121 : decode cX9_passList 121 = .ok (.goto (-116), 3) := by decide +kernel
theorem dX9_passList_124 : decode cX9_passList 124 = .ok (.iload 4, 2) := by decide +kernel
theorem dX9_passList_126 : decode cX9_passList 126 = .ok (.ireturn, 1) := by decide +kernel
theorem dX9_values_0 : decode cX9_values 0 = .ok (.iload_n 2, 1) := by decide +kernel
theorem dX9_values_1 : decode cX9_values 1 = .ok (.istore 4, 2) := by decide +kernel
theorem dX9_values_3 : decode cX9_values 3 = .ok (.iload_n 1, 1) := by decide +kernel
theorem dX9_values_4 : decode cX9_values 4 = .ok (.aload_n 0, 1) := by decide +kernel
theorem dX9_values_5 : decode cX9_values 5 = .ok (.getfield 178, 3) := by decide +kernel
theorem dX9_values_8 : decode cX9_values 8 = .ok (.invokestatic 181, 3) := by decide +kernel
theorem dX9_values_11 : decode cX9_values 11 = .ok (.istore 5, 2) := by decide +kernel
theorem dX9_values_13 : decode cX9_values 13 = .ok (.iconst 0, 1) := by decide +kernel
theorem dX9_values_14 : decode cX9_values 14 = .ok (.istore 6, 2) := by decide +kernel
theorem dX9_values_16 : decode cX9_values 16 = .ok (.iload 6, 2) := by decide +kernel
theorem dX9_values_18 : decode cX9_values 18 = .ok (.iload 5, 2) := by decide +kernel
theorem dX9_values_20 : decode cX9_values 20 = .ok (.if_icmp .ge 45, 3) := by decide +kernel
theorem dX9_values_23 : decode cX9_values 23 = .ok (.aload_n 0, 1) := by decide +kernel
theorem dX9_values_24 : decode cX9_values 24 = .ok (.getfield 84, 3) := by decide +kernel
theorem dX9_values_27 : decode cX9_values 27 = .ok (.iconst (-1), 1) := by decide +kernel
theorem dX9_values_28 : decode cX9_values 28 = .ok (.if_icmp .ne 37, 3) := by decide +kernel
theorem dX9_values_31 : decode cX9_values 31 = .ok (.aload_n 0, 1) := by decide +kernel
theorem dX9_values_32 : decode cX9_values 32 = .ok (.iload 4, 2) := by decide +kernel
theorem dX9_values_34 : decode cX9_values 34 = .ok (.iload_n 3, 1) := by decide +kernel
theorem dX9_values_35 : decode cX9_values 35 = .ok (.invokevirtual 184, 3) := by decide +kernel
theorem dX9_values_38 : decode cX9_values 38 = .ok (.istore 4, 2) := by decide +kernel
theorem dX9_values_40 : decode cX9_values 40 = .ok (.aload_n 0, 1) := by decide +kernel
theorem dX9_values_41 : decode cX9_values 41 = .ok (.getfield 84, 3) := by decide +kernel
theorem dX9_values_44 : decode cX9_values 44 = .ok (.iconst (-1), 1) := by decide +kernel
theorem dX9_values_45 : decode cX9_values 45 = .ok (.if_icmp .ne 14, 3) := by decide +kernel
theorem dX9_values_48 : decode cX9_values 48 = .ok (.aload_n 0, 1) := by decide +kernel
theorem dX9_values_49 : decode cX9_values 49 = .ok (.iload_n 1, 1) := by decide +kernel
theorem dX9_values_50 : decode cX9_values 50 = .ok (.iload 6, 2) := by decide +kernel
theorem dX9_values_52 : decode cX9_values 52 = .ok (.iload 4, 2) := by decide +kernel
theorem dX9_values_54 : decode cX9_values 54 = .ok (.invokevirtual 188, 3) := by decide +kernel
theorem dX9_values_57 : decode cX9_values 57 = .ok (.istore 4, 2) := by decide +kernel
theorem dX9_values_59 : decode cX9_values 59 = .ok (.iinc 6 1, 3) := by decide +kernel
theorem dX9_values_62 : decode cX9_values 62 = .ok (.goto (-46), 3) := by decide +kernel
theorem dX9_values_65 : decode cX9_values 65 = .ok (.iload 4, 2) := by decide +kernel
theorem dX9_values_67 : decode cX9_values 67 = .ok (.ireturn, 1) := by decide +kernel
theorem dX9_space_0 : decode cX9_space 0 = .ok (.aload_n 0, 1) := by decide +kernel
theorem dX9_space_1 : decode cX9_space 1 = .ok (.iload_n 1, 1) := by decide +kernel
theorem dX9_space_2 : decode cX9_space 2 = .ok (.invokevirtual 87, 3) := by decide +kernel
theorem dX9_space_5 : decode cX9_space 5 = .ok (.bipush 32, 2) := by decide +kernel
theorem dX9_space_7 : decode cX9_space 7 = .ok (.if_icmp .eq 17, 3) := by decide +kernel
theorem dX9_space_10 : decode cX9_space 10 = .ok (.iload_n 2, 1) := by decide +kernel
theorem dX9_space_11 : decode cX9_space 11 = .ok (.ifCond .eq 17, 3) := by decide +kernel
theorem dX9_space_14 : decode cX9_space 14 = .ok (.aload_n 0, 1) := by decide +kernel
theorem dX9_space_15 : decode cX9_space 15 = .ok (.iload_n 1, 1) := by decide +kernel
theorem dX9_space_16 : decode cX9_space 16 = .ok (.invokevirtual 87, 3) := by decide +kernel
theorem dX9_space_19 : decode cX9_space 19 = .ok (.bipush 10, 2) := by decide +kernel
theorem dX9_space_21 : decode cX9_space 21 = .ok (.if_icmp .ne 7, 3) := by decide +kernel
theorem dX9_space_24 : decode cX9_space 24 = .ok (.iconst 1, 1) := by decide +kernel
theorem dX9_space_25 : decode cX9_space 25 = .ok (.goto 4, 3) := by decide +kernel
theorem dX9_space_28 : decode cX9_space 28 = .ok (.iconst 0, 1) := by decide +kernel
theorem dX9_space_29 : decode cX9_space 29 = .ok (.istore_n 3, 1) := by decide +kernel
theorem dX9_space_30 : decode cX9_space 30 = .ok (.iload_n 3, 1) := by decide +kernel
theorem dX9_space_31 : decode cX9_space 31 = .ok (.ifCond .ne 8, 3) := by decide +kernel
theorem dX9_space_34 : decode cX9_space 34 = .ok (.aload_n 0, 1) := by decide +kernel
theorem dX9_space_35 : decode cX9_space 35 = .ok (.iload_n 1, 1) := by decide +kernel
theorem dX9_space_36 : decode cX9_space 36 = .ok (.invokevirtual 98, 3) := by decide +kernel
theorem dX9_space_39 : decode cX9_space 39 = .ok (.iload_n 2, 1) := by decide +kernel
theorem dX9_space_40 : decode cX9_space 40 = .ok (.ifCond .eq 11, 3) := by decide +kernel
theorem dX9_space_43 : decode cX9_space 43 = .ok (.aload_n 0, 1) := by decide +kernel
theorem dX9_space_44 : decode cX9_space 44 = .ok (.iload_n 1, 1) := by decide +kernel
theorem dX9_space_45 : decode cX9_space 45 = .ok (.invokevirtual 192, 3) := by decide +kernel
theorem dX9_space_48 : decode cX9_space 48 = .ok (.goto 6, 3) := by decide +kernel
theorem dX9_space_51 : decode cX9_space 51 = .ok (.iload_n 1, 1) := by decide +kernel
theorem dX9_space_52 : decode cX9_space 52 = .ok (.iconst 1, 1) := by decide +kernel
theorem dX9_space_53 : decode cX9_space 53 = .ok (.iadd, 1) := by decide +kernel
theorem dX9_space_54 : decode cX9_space 54 = .ok (.ireturn, 1) := by decide +kernel
theorem dX9_readVersion_0 : decode cX9_readVersion 0 = .ok (.aload_n 0, 1) := by decide +kernel
theorem dX9_readVersion_1 : decode cX9_readVersion 1 = .ok (.iload_n 1, 1) := by decide +kernel
theorem dX9_readVersion_2 : decode cX9_readVersion 2 = .ok (.iload_n 2, 1) := by decide +kernel
theorem dX9_readVersion_3 : decode cX9_readVersion 3 = .ok (.invokevirtual 184, 3) := by decide +kernel
theorem dX9_readVersion_6 : decode cX9_readVersion 6 = .ok (.istore_n 3, 1) := by decide +kernel
theorem dX9_readVersion_7 : decode cX9_readVersion 7 = .ok (.aload_n 0, 1) := by decide +kernel
theorem dX9_readVersion_8 : decode cX9_readVersion 8 = .ok (.getfield 84, 3) := by decide +kernel
theorem dX9_readVersion_11 : decode cX9_readVersion 11 = .ok (.iconst (-1), 1) := by decide +kernel
theorem dX9_readVersion_12 : decode cX9_readVersion 12 = .ok (.if_icmp .eq 5, 3) := by decide +kernel
theorem dX9_readVersion_15 : decode cX9_readVersion 15 = .ok (.iload_n 3, 1) := by decide +kernel
theorem dX9_readVersion_16 : decode cX9_readVersion 16 = .ok (.ireturn, 1) := by decide +kernel
theorem dX9_readVersion_17 : decode cX9_readVersion 17 = .ok (.aload_n 0, 1) := by decide +kernel
theorem dX9_readVersion_18 : decode cX9_readVersion 18 = .ok (.iload_n 3, 1) := by decide +kernel
theorem dX9_readVersion_19 : decode cX9_readVersion 19 = .ok (.iconst 0, 1) := by decide +kernel
theorem dX9_readVersion_20 : decode cX9_readVersion 20 = .ok (.lconst 1, 1) := by decide +kernel
theorem dX9_readVersion_21 : decode cX9_readVersion 21 = .ok (.ldc2_w 195, 3) := by decide +kernel
theorem dX9_readVersion_24 : decode cX9_readVersion 24 = .ok (.invokevirtual 137, 3) := by decide +kernel
theorem dX9_readVersion_27 : decode cX9_readVersion 27 = .ok (.istore 4, 2) := by decide +kernel
theorem dX9_readVersion_29 : decode cX9_readVersion 29 = .ok (.aload_n 0, 1) := by decide +kernel
theorem dX9_readVersion_30 : decode cX9_readVersion 30 = .ok (.aload_n 0, 1) := by decide +kernel
theorem dX9_readVersion_31 : decode cX9_readVersion 31 = .ok (.getfield 115, 3) := by decide +kernel
theorem dX9_readVersion_34 : decode cX9_readVersion 34 = .ok (.l2i, 1) := by decide +kernel
theorem dX9_readVersion_35 : decode cX9_readVersion 35 = .ok (.putfield 178, 3) := by decide +kernel
theorem dX9_readVersion_38 : decode cX9_readVersion 38 = .ok (.iload 4, 2) := by decide +kernel
theorem dX9_readVersion_40 : decode cX9_readVersion 40 = .ok (.ireturn, 1) := by decide +kernel
theorem dX9_openList_0 : decode cX9_openList 0 = .ok (.iload_n 2, 1) := by decide +kernel
theorem dX9_openList_1 : decode cX9_openList 1 = .ok (.bipush 100, 2) := by decide +kernel
theorem dX9_openList_3 : decode cX9_openList 3 = .ok (.if_icmp .ne 8, 3) := by decide +kernel
theorem dX9_openList_6 : decode cX9_openList 6 = .ok (.aload_n 0, 1) := by decide +kernel
theorem dX9_openList_7 : decode cX9_openList 7 = .ok (.iload_n 1, 1) := by decide +kernel
theorem dX9_openList_8 : decode cX9_openList 8 = .ok (.invokevirtual 98, 3) := by decide +kernel
theorem dX9_openList_11 : decode cX9_openList 11 = .ok (.aload_n 0, 1) := by decide +kernel
theorem dX9_openList_12 : decode cX9_openList 12 = .ok (.iload_n 1, 1) := by decide +kernel
theorem dX9_openList_13 : decode cX9_openList 13 = .ok (.iconst 1, 1) := by decide +kernel
theorem dX9_openList_14 : decode cX9_openList 14 = .ok (.iadd, 1) := by decide +kernel
theorem dX9_openList_15 : decode cX9_openList 15 = .ok (.invokevirtual 192, 3) := by decide +kernel
theorem dX9_openList_18 : decode cX9_openList 18 = .ok (.istore_n 3, 1) := by decide +kernel
theorem dX9_openList_19 : decode cX9_openList 19 = .ok (.aload_n 0, 1) := by decide +kernel
theorem dX9_openList_20 : decode cX9_openList 20 = .ok (.getfield 84, 3) := by decide +kernel
theorem dX9_openList_23 : decode cX9_openList 23 = .ok (.iconst (-1), 1) := by decide +kernel
theorem dX9_openList_24 : decode cX9_openList 24 = .ok (.if_icmp .eq 7, 3) := by decide +kernel
theorem dX9_openList_27 : decode cX9_openList 27 = .ok (.iconst (-1), 1) := by decide +kernel
theorem dX9_openList_28 : decode cX9_openList 28 = .ok (.goto 40, 3) := by decide +kernel
theorem dX9_openList_31 : decode cX9_openList 31 = .ok (.aload_n 0, 1) := by decide +kernel
theorem dX9_openList_32 : decode cX9_openList 32 = .ok (.iload_n 3, 1) := by decide +kernel
theorem dX9_openList_33 : decode cX9_openList 33 = .ok (.iload_n 2, 1) := by decide +kernel
theorem dX9_openList_34 : decode cX9_openList 34 = .ok (.ifCond .ne 7, 3) := by decide +kernel
theorem dX9_openList_37 : decode cX9_openList 37 = .ok (.iconst (-1), 1) := by decide +kernel
theorem dX9_openList_38 : decode cX9_openList 38 = .ok (.goto 11, 3) := by decide +kernel
theorem dX9_openList_41 : decode cX9_openList 41 = .ok (.aload_n 0, 1) := by decide +kernel
theorem dX9_openList_42 : decode cX9_openList 42 = .ok (.getfield 41, 3) := by decide +kernel
theorem dX9_openList_45 : decode cX9_openList 45 = .ok (.iload_n 2, 1) := by decide +kernel
theorem dX9_openList_46 : decode cX9_openList 46 = .ok (.iconst 1, 1) := by decide +kernel
theorem dX9_openList_47 : decode cX9_openList 47 = .ok (.isub, 1) := by decide +kernel
theorem dX9_openList_48 : decode cX9_openList 48 = .ok (.iaload, 1) := by decide +kernel
theorem dX9_openList_49 : decode cX9_openList 49 = .ok (.iload_n 2, 1) := by decide +kernel
theorem dX9_openList_50 : decode cX9_openList 50 = .ok (.ifCond .ne 7, 3) := by decide +kernel
theorem dX9_openList_53 : decode cX9_openList 53 = .ok (.iconst (-1), 1) := by decide +kernel
theorem dX9_openList_54 : decode cX9_openList 54 = .ok (.goto 11, 3) := by decide +kernel
theorem dX9_openList_57 : decode cX9_openList 57 = .ok (.aload_n 0, 1) := by decide +kernel
theorem dX9_openList_58 : decode cX9_openList 58 = .ok (.getfield 38, 3) := by decide +kernel
theorem dX9_openList_61 : decode cX9_openList 61 = .ok (.iload_n 2, 1) := by decide +kernel
theorem dX9_openList_62 : decode cX9_openList 62 = .ok (.iconst 1, 1) := by decide +kernel
theorem dX9_openList_63 : decode cX9_openList 63 = .ok (.isub, 1) := by decide +kernel
theorem dX9_openList_64 : decode cX9_openList 64 = .ok (.iaload, 1) := by decide +kernel
theorem dX9_openList_65 : decode cX9_openList 65 = .ok (.invokevirtual 197, 3) := by decide +kernel
theorem dX9_openList_68 : decode cX9_openList 68 = .ok (.istore 4, 2) := by decide +kernel
theorem dX9_openList_70 : decode cX9_openList 70 = .ok (.iload 4, 2) := by decide +kernel
theorem dX9_openList_72 : decode cX9_openList 72 = .ok (.iconst (-1), 1) := by decide +kernel
theorem dX9_openList_73 : decode cX9_openList 73 = .ok (.if_icmp .ne 5, 3) := by decide +kernel
theorem dX9_openList_76 : decode cX9_openList 76 = .ok (.iload_n 1, 1) := by decide +kernel
theorem dX9_openList_77 : decode cX9_openList 77 = .ok (.ireturn, 1) := by decide +kernel
theorem dX9_openList_78 : decode cX9_openList 78 = .ok (.aload_n 0, 1) := by decide +kernel
theorem dX9_openList_79 : decode cX9_openList 79 = .ok (.iload_n 3, 1) := by decide +kernel
theorem dX9_openList_80 : decode cX9_openList 80 = .ok (.invokevirtual 155, 3) := by decide +kernel
theorem dX9_openList_83 : decode cX9_openList 83 = .ok (.istore 5, 2) := by decide +kernel
theorem dX9_openList_85 : decode cX9_openList 85 = .ok (.iload 4, 2) := by decide +kernel
theorem dX9_openList_87 : decode cX9_openList 87 = .ok (.bipush 9, 2) := by decide +kernel
theorem dX9_openList_89 : decode cX9_openList 89 = .ok (.if_icmp .ne 52, 3) := by decide +kernel
theorem dX9_openList_92 : decode cX9_openList 92 = .ok (.aload_n 0, 1) := by decide +kernel
theorem dX9_openList_93 : decode cX9_openList 93 = .ok (.getfield 119, 3) := by decide +kernel
theorem dX9_openList_96 : decode cX9_openList 96 = .ok (.ifCond .eq 16, 3) := by decide +kernel
theorem dX9_openList_99 : decode cX9_openList 99 = .ok (.aload_n 0, 1) := by decide +kernel
theorem dX9_openList_100 : decode cX9_openList 100 = .ok (.getfield 29, 3) := by decide +kernel
theorem dX9_openList_103 : decode cX9_openList 103 = .ok (.aload_n 0, 1) := by decide +kernel
theorem dX9_openList_104 : decode cX9_openList 104 = .ok (.getfield 122, 3) := by decide +kernel
theorem dX9_openList_107 : decode cX9_openList 107 = .ok (.aload_n 0, 1) := by decide +kernel
theorem dX9_openList_108 : decode cX9_openList 108 = .ok (.getfield 169, 3) := by decide +kernel
theorem dX9_openList_111 : decode cX9_openList 111 = .ok (.iastore, 1) := by decide +kernel
theorem dX9_openList_112 : decode cX9_openList 112 = .ok (.aload_n 0, 1) := by decide +kernel
theorem dX9_openList_113 : decode cX9_openList 113 = .ok (.iload_n 1, 1) := by decide +kernel
theorem dX9_openList_114 : decode cX9_openList 114 = .ok (.iload 5, 2) := by decide +kernel
theorem dX9_openList_116 : decode cX9_openList 116 = .ok (.invokevirtual 172, 3) := by decide +kernel
theorem dX9_openList_119 : decode cX9_openList 119 = .ok (.aload_n 0, 1) := by decide +kernel
theorem dX9_openList_120 : decode cX9_openList 120 = .ok (.iload 5, 2) := by decide +kernel
theorem dX9_openList_122 : decode cX9_openList 122 = .ok (.iload_n 2, 1) := by decide +kernel
theorem dX9_openList_123 : decode cX9_openList 123 = .ok (.invokevirtual 200, 3) := by decide +kernel
theorem dX9_openList_126 : decode cX9_openList 126 = .ok (.istore 5, 2) := by decide +kernel
theorem dX9_openList_128 : decode cX9_openList 128 = .ok (.aload_n 0, 1) := by decide +kernel
theorem dX9_openList_129 : decode cX9_openList 129 = .ok (.dup, 1) := by decide +kernel
theorem dX9_openList_130 : decode cX9_openList 130 = .ok (.getfield 122, 3) := by decide +kernel
theorem dX9_openList_133 : decode cX9_openList 133 = .ok (.iconst 1, 1) := by decide +kernel
theorem dX9_openList_134 : decode cX9_openList 134 = .ok (.iadd, 1) := by decide +kernel
theorem dX9_openList_135 : decode cX9_openList 135 = .ok (.putfield 122, 3) := by decide +kernel
theorem dX9_openList_138 : decode cX9_openList 138 = .ok (.iload 5, 2) := by decide +kernel
theorem dX9_openList_140 : decode cX9_openList 140 = .ok (.ireturn, 1) := by decide +kernel
theorem dX9_openList_141 : decode cX9_openList 141 = .ok (.iload 4, 2) := by decide +kernel
theorem dX9_openList_143 : decode cX9_openList 143 = .ok (.ifCond .ne 13, 3) := by decide +kernel
theorem dX9_openList_146 : decode cX9_openList 146 = .ok (.aload_n 0, 1) := by decide +kernel
theorem dX9_openList_147 : decode cX9_openList 147 = .ok (.iload 5, 2) := by decide +kernel
theorem dX9_openList_149 : decode cX9_openList 149 = .ok (.iconst 1, 1) := by decide +kernel
theorem dX9_openList_150 : decode cX9_openList 150 = .ok (.invokevirtual 203, 3) := by decide +kernel
theorem dX9_openList_153 : decode cX9_openList 153 = .ok (.goto 12, 3) := by decide +kernel
theorem dX9_openList_156 : decode cX9_openList 156 = .ok (.aload_n 0, 1) := by decide +kernel
theorem dX9_openList_157 : decode cX9_openList 157 = .ok (.iload 4, 2) := by decide +kernel
theorem dX9_openList_159 : decode cX9_openList 159 = .ok (.iload 5, 2) := by decide +kernel
theorem dX9_openList_161 : decode cX9_openList 161 = .ok (.iconst 1, 1) := by decide +kernel
theorem dX9_openList_162 : decode cX9_openList 162 = .ok (.invokevirtual 206, 3) := by decide +kernel
theorem dX9_openList_165 : decode cX9_openList 165 = .ok (.istore 5, 2) := by decide +kernel
theorem dX9_openList_167 : decode cX9_openList 167 = .ok (.aload_n 0, 1) := by decide +kernel
theorem dX9_openList_168 : decode cX9_openList 168 = .ok (.getfield 38, 3) := by decide +kernel
theorem dX9_openList_171 : decode cX9_openList 171 = .ok (.iload_n 2, 1) := by decide +kernel
theorem dX9_openList_172 : decode cX9_openList 172 = .ok (.aload_n 0, 1) := by decide +kernel
theorem dX9_openList_173 : decode cX9_openList 173 = .ok (.getfield 122, 3) := by decide +kernel
theorem dX9_openList_176 : decode cX9_openList 176 = .ok (.iastore, 1) := by decide +kernel
theorem dX9_openList_177 : decode cX9_openList 177 = .ok (.aload_n 0, 1) := by decide +kernel
theorem dX9_openList_178 : decode cX9_openList 178 = .ok (.getfield 41, 3) := by decide +kernel
theorem dX9_openList_181 : decode cX9_openList 181 = .ok (.iload_n 2, 1) := by decide +kernel
theorem dX9_openList_182 : decode cX9_openList 182 = .ok (.iload 4, 2) := by decide +kernel
theorem dX9_openList_184 : decode cX9_openList 184 = .ok (.iastore, 1) := by decide +kernel
theorem dX9_openList_185 : decode cX9_openList 185 = .ok (.aload_n 0, 1) := by decide +kernel
theorem dX9_openList_186 : decode cX9_openList 186 = .ok (.dup, 1) := by decide +kernel
theorem dX9_openList_187 : decode cX9_openList 187 = .ok (.getfield 122, 3) := by decide +kernel
theorem dX9_openList_190 : decode cX9_openList 190 = .ok (.iconst 1, 1) := by decide +kernel
theorem dX9_openList_191 : decode cX9_openList 191 = .ok (.iadd, 1) := by decide +kernel
theorem dX9_openList_192 : decode cX9_openList 192 = .ok (.putfield 122, 3) := by decide +kernel
theorem dX9_openList_195 : decode cX9_openList 195 = .ok (.aload_n 0, 1) := by decide +kernel
theorem dX9_openList_196 : decode cX9_openList 196 = .ok (.iload_n 2, 1) := by decide +kernel
theorem dX9_openList_197 : decode cX9_openList 197 = .ok (.iconst 1, 1) := by decide +kernel
theorem dX9_openList_198 : decode cX9_openList 198 = .ok (.iadd, 1) := by decide +kernel
theorem dX9_openList_199 : decode cX9_openList 199 = .ok (.putfield 210, 3) := by decide +kernel
theorem dX9_openList_202 : decode cX9_openList 202 = .ok (.iload 5, 2) := by decide +kernel
theorem dX9_openList_204 : decode cX9_openList 204 = .ok (.ireturn, 1) := by decide +kernel
theorem dX9_readLists_0 : decode cX9_readLists 0 = .ok (.aload_n 0, 1) := by decide +kernel
theorem dX9_readLists_1 : decode cX9_readLists 1 = .ok (.iconst 0, 1) := by decide +kernel
theorem dX9_readLists_2 : decode cX9_readLists 2 = .ok (.invokevirtual 192, 3) := by decide +kernel
theorem dX9_readLists_5 : decode cX9_readLists 5 = .ok (.istore_n 1, 1) := by decide +kernel
theorem dX9_readLists_6 : decode cX9_readLists 6 = .ok (.aload_n 0, 1) := by decide +kernel
theorem dX9_readLists_7 : decode cX9_readLists 7 = .ok (.iconst 0, 1) := by decide +kernel
theorem dX9_readLists_8 : decode cX9_readLists 8 = .ok (.putfield 210, 3) := by decide +kernel
theorem dX9_readLists_11 : decode cX9_readLists 11 = .ok (.aload_n 0, 1) := by decide +kernel
theorem dX9_readLists_12 : decode cX9_readLists 12 = .ok (.iload_n 1, 1) := by decide +kernel
theorem dX9_readLists_13 : decode cX9_readLists 13 = .ok (.invokevirtual 87, 3) := by decide +kernel
theorem dX9_readLists_16 : decode cX9_readLists 16 = .ok (.bipush 40, 2) := by decide +kernel
theorem dX9_readLists_18 : decode cX9_readLists 18 = .ok (.if_icmp .eq 8, 3) := by decide +kernel
theorem dX9_readLists_21 : decode cX9_readLists 21 = .ok (.aload_n 0, 1) := by decide +kernel
theorem dX9_readLists_22 : decode cX9_readLists 22 = .ok (.iload_n 1, 1) := by decide +kernel
theorem dX9_readLists_23 : decode cX9_readLists 23 = .ok (.invokevirtual 98, 3) := by decide +kernel
theorem dX9_readLists_26 : decode cX9_readLists 26 = .ok (.aload_n 0, 1) := by decide +kernel
theorem dX9_readLists_27 : decode cX9_readLists 27 = .ok (.getfield 84, 3) := by decide +kernel
theorem dX9_readLists_30 : decode cX9_readLists 30 = .ok (.iconst (-1), 1) := by decide +kernel
theorem dX9_readLists_31 : decode cX9_readLists 31 = .ok (.if_icmp .ne 10, 3) := by decide +kernel
theorem dX9_readLists_34 : decode cX9_readLists 34 = .ok (.aload_n 0, 1) := by decide +kernel
theorem dX9_readLists_35 : decode cX9_readLists 35 = .ok (.iload_n 1, 1) := by decide +kernel
theorem dX9_readLists_36 : decode cX9_readLists 36 = .ok (.iconst 0, 1) := by decide +kernel
theorem dX9_readLists_37 : decode cX9_readLists 37 = .ok (.invokevirtual 213, 3) := by decide +kernel
theorem dX9_readLists_40 : decode cX9_readLists 40 = .ok (.istore_n 1, 1) := by decide +kernel
theorem dX9_readLists_41 : decode cX9_readLists 41 = .ok (.aload_n 0, 1) := by decide +kernel
theorem dX9_readLists_42 : decode cX9_readLists 42 = .ok (.getfield 84, 3) := by decide +kernel
theorem dX9_readLists_45 : decode cX9_readLists 45 = .ok (.iconst (-1), 1) := by decide +kernel
theorem dX9_readLists_46 : decode cX9_readLists 46 = .ok (.if_icmp .ne 73, 3) := by decide +kernel
theorem dX9_readLists_49 : decode cX9_readLists 49 = .ok (.aload_n 0, 1) := by decide +kernel
theorem dX9_readLists_50 : decode cX9_readLists 50 = .ok (.getfield 210, 3) := by decide +kernel
theorem dX9_readLists_53 : decode cX9_readLists 53 = .ok (.ifCond .le 66, 3) := by decide +kernel
theorem dX9_readLists_56 : decode cX9_readLists 56 = .ok (.aload_n 0, 1) := by decide +kernel
theorem dX9_readLists_57 : decode cX9_readLists 57 = .ok (.iload_n 1, 1) := by decide +kernel
theorem dX9_readLists_58 : decode cX9_readLists 58 = .ok (.invokevirtual 192, 3) := by decide +kernel
theorem dX9_readLists_61 : decode cX9_readLists 61 = .ok (.istore_n 1, 1) := by decide +kernel
theorem dX9_readLists_62 : decode cX9_readLists 62 = .ok (.aload_n 0, 1) := by decide +kernel
theorem dX9_readLists_63 : decode cX9_readLists 63 = .ok (.iload_n 1, 1) := by decide +kernel
theorem dX9_readLists_64 : decode cX9_readLists 64 = .ok (.invokevirtual 87, 3) := by decide +kernel
theorem dX9_readLists_67 : decode cX9_readLists 67 = .ok (.bipush 40, 2) := by decide +kernel
theorem dX9_readLists_69 : decode cX9_readLists 69 = .ok (.if_icmp .ne 16, 3) := by decide +kernel
theorem dX9_readLists_72 : decode cX9_readLists 72 = .ok (.aload_n 0, 1) := by decide +kernel
theorem dX9_readLists_73 : decode cX9_readLists 73 = .ok (.iload_n 1, 1) := by decide +kernel
theorem dX9_readLists_74 : decode cX9_readLists 74 = .ok (.aload_n 0, 1) := by decide +kernel
theorem dX9_readLists_75 : decode cX9_readLists 75 = .ok (.getfield 210, 3) := by decide +kernel
theorem dX9_readLists_78 : decode cX9_readLists 78 = .ok (.invokevirtual 213, 3) := by decide +kernel
theorem dX9_readLists_81 : decode cX9_readLists 81 = .ok (.istore_n 1, 1) := by decide +kernel
theorem dX9_readLists_82 : decode cX9_readLists 82 = .ok (.goto (-41), 3) := by decide +kernel
theorem dX9_readLists_85 : decode cX9_readLists 85 = .ok (.aload_n 0, 1) := by decide +kernel
theorem dX9_readLists_86 : decode cX9_readLists 86 = .ok (.iload_n 1, 1) := by decide +kernel
theorem dX9_readLists_87 : decode cX9_readLists 87 = .ok (.invokevirtual 87, 3) := by decide +kernel
theorem dX9_readLists_90 : decode cX9_readLists 90 = .ok (.bipush 41, 2) := by decide +kernel
theorem dX9_readLists_92 : decode cX9_readLists 92 = .ok (.if_icmp .ne 19, 3) := by decide +kernel
theorem dX9_readLists_95 : decode cX9_readLists 95 = .ok (.aload_n 0, 1) := by decide +kernel
theorem dX9_readLists_96 : decode cX9_readLists 96 = .ok (.dup, 1) := by decide +kernel
theorem dX9_readLists_97 : decode cX9_readLists 97 = .ok (.getfield 210, 3) := by decide +kernel
theorem dX9_readLists_100 : decode cX9_readLists 100 = .ok (.iconst 1, 1) := by decide +kernel
theorem dX9_readLists_101 : decode cX9_readLists 101 = .ok (.isub, 1) := by decide +kernel
theorem dX9_readLists_102 : decode cX9_readLists 102 = .ok (.putfield 210, 3) := by decide +kernel
theorem dX9_readLists_105 : decode cX9_readLists 105 = .ok (.iinc 1 1, 3) := by decide +kernel
theorem dX9_readLists_108 : decode cX9_readLists 108 = .ok (.goto (-67), 3) := by decide +kernel
theorem dX9_readLists_111 : decode cX9_readLists 111 = .ok (.aload_n 0, 1) := by decide +kernel
theorem dX9_readLists_112 : decode cX9_readLists 112 = .ok (.iload_n 1, 1) := by decide +kernel
theorem dX9_readLists_113 : decode cX9_readLists 113 = .ok (.invokevirtual 98, 3) := by decide +kernel
theorem dX9_readLists_116 : decode cX9_readLists 116 = .ok (.goto (-75), 3) := by decide +kernel
theorem dX9_readLists_119 : decode cX9_readLists 119 = .ok (.aload_n 0, 1) := by decide +kernel
theorem dX9_readLists_120 : decode cX9_readLists 120 = .ok (.iload_n 1, 1) := by decide +kernel
theorem dX9_readLists_121 : decode cX9_readLists 121 = .ok (.invokevirtual 192, 3) := by decide +kernel
theorem dX9_readLists_124 : decode cX9_readLists 124 = .ok (.istore_n 1, 1) := by decide +kernel
theorem dX9_readLists_125 : decode cX9_readLists 125 = .ok (.iload_n 1, 1) := by decide +kernel
theorem dX9_readLists_126 : decode cX9_readLists 126 = .ok (.aload_n 0, 1) := by decide +kernel
theorem dX9_readLists_127 : decode cX9_readLists 127 = .ok (.getfield 59, 3) := by decide +kernel
theorem dX9_readLists_130 : decode cX9_readLists 130 = .ok (.if_icmp .ge 8, 3) := by decide +kernel
theorem dX9_readLists_133 : decode cX9_readLists 133 = .ok (.aload_n 0, 1) := by decide +kernel
theorem dX9_readLists_134 : decode cX9_readLists 134 = .ok (.iload_n 1, 1) := by decide +kernel
theorem dX9_readLists_135 : decode cX9_readLists 135 = .ok (.invokevirtual 98, 3) := by decide +kernel
theorem dX9_readLists_138 : decode cX9_readLists 138 = .ok (.return_, 1) := by decide +kernel
theorem dX9_lineEnd_0 : decode cX9_lineEnd 0 = .ok (.iload_n 1, 1) := by decide +kernel
theorem dX9_lineEnd_1 : decode cX9_lineEnd 1 = .ok (.istore_n 2, 1) := by decide +kernel
theorem dX9_lineEnd_2 : decode cX9_lineEnd 2 = .ok (.iload_n 2, 1) := by decide +kernel
theorem dX9_lineEnd_3 : decode cX9_lineEnd 3 = .ok (.aload_n 0, 1) := by decide +kernel
theorem dX9_lineEnd_4 : decode cX9_lineEnd 4 = .ok (.getfield 59, 3) := by decide +kernel
theorem dX9_lineEnd_7 : decode cX9_lineEnd 7 = .ok (.if_icmp .ge 20, 3) := by decide +kernel
theorem dX9_lineEnd_10 : decode cX9_lineEnd 10 = .ok (.aload_n 0, 1) := by decide +kernel
theorem dX9_lineEnd_11 : decode cX9_lineEnd 11 = .ok (.getfield 7, 3) := by decide +kernel
theorem dX9_lineEnd_14 : decode cX9_lineEnd 14 = .ok (.iload_n 2, 1) := by decide +kernel
theorem dX9_lineEnd_15 : decode cX9_lineEnd 15 = .ok (.iaload, 1) := by decide +kernel
theorem dX9_lineEnd_16 : decode cX9_lineEnd 16 = .ok (.bipush 10, 2) := by decide +kernel
theorem dX9_lineEnd_18 : decode cX9_lineEnd 18 = .ok (.if_icmp .eq 9, 3) := by decide +kernel
theorem dX9_lineEnd_21 : decode cX9_lineEnd 21 = .ok (.iinc 2 1, 3) := by decide +kernel
theorem dX9_lineEnd_24 : decode cX9_lineEnd 24 = .ok (.goto (-22), 3) := by decide +kernel
theorem dX9_lineEnd_27 : decode cX9_lineEnd 27 = .ok (.iload_n 2, 1) := by decide +kernel
theorem dX9_lineEnd_28 : decode cX9_lineEnd 28 = .ok (.ireturn, 1) := by decide +kernel
theorem dX9_dots_0 : decode cX9_dots 0 = .ok (.iload_n 1, 1) := by decide +kernel
theorem dX9_dots_1 : decode cX9_dots 1 = .ok (.istore_n 2, 1) := by decide +kernel
theorem dX9_dots_2 : decode cX9_dots 2 = .ok (.aload_n 0, 1) := by decide +kernel
theorem dX9_dots_3 : decode cX9_dots 3 = .ok (.iload_n 2, 1) := by decide +kernel
theorem dX9_dots_4 : decode cX9_dots 4 = .ok (.invokevirtual 87, 3) := by decide +kernel
theorem dX9_dots_7 : decode cX9_dots 7 = .ok (.bipush 46, 2) := by decide +kernel
theorem dX9_dots_9 : decode cX9_dots 9 = .ok (.if_icmp .ne 9, 3) := by decide +kernel
theorem dX9_dots_12 : decode cX9_dots 12 = .ok (.iinc 2 1, 3) := by decide +kernel
theorem dX9_dots_15 : decode cX9_dots 15 = .ok (.goto (-13), 3) := by decide +kernel
theorem dX9_dots_18 : decode cX9_dots 18 = .ok (.iload_n 2, 1) := by decide +kernel
theorem dX9_dots_19 : decode cX9_dots 19 = .ok (.iload_n 1, 1) := by decide +kernel
theorem dX9_dots_20 : decode cX9_dots 20 = .ok (.isub, 1) := by decide +kernel
theorem dX9_dots_21 : decode cX9_dots 21 = .ok (.ireturn, 1) := by decide +kernel
theorem dX9_readLine_0 : decode cX9_readLine 0 = .ok (.iload_n 1, 1) := by decide +kernel
theorem dX9_readLine_1 : decode cX9_readLine 1 = .ok (.iload_n 2, 1) := by decide +kernel
theorem dX9_readLine_2 : decode cX9_readLine 2 = .ok (.iadd, 1) := by decide +kernel
theorem dX9_readLine_3 : decode cX9_readLine 3 = .ok (.istore_n 3, 1) := by decide +kernel
theorem dX9_readLine_4 : decode cX9_readLine 4 = .ok (.aload_n 0, 1) := by decide +kernel
theorem dX9_readLine_5 : decode cX9_readLine 5 = .ok (.iload_n 3, 1) := by decide +kernel
theorem dX9_readLine_6 : decode cX9_readLine 6 = .ok (.iload_n 2, 1) := by decide +kernel
theorem dX9_readLine_7 : decode cX9_readLine 7 = .ok (.ifCond .ne 7, 3) := by decide +kernel
theorem dX9_readLine_10 : decode cX9_readLine 10 = .ok (.iconst (-1), 1) := by decide +kernel
theorem dX9_readLine_11 : decode cX9_readLine 11 = .ok (.goto 11, 3) := by decide +kernel
theorem dX9_readLine_14 : decode cX9_readLine 14 = .ok (.aload_n 0, 1) := by decide +kernel
theorem dX9_readLine_15 : decode cX9_readLine 15 = .ok (.getfield 41, 3) := by decide +kernel
theorem dX9_readLine_18 : decode cX9_readLine 18 = .ok (.iload_n 2, 1) := by decide +kernel
theorem dX9_readLine_19 : decode cX9_readLine 19 = .ok (.iconst 1, 1) := by decide +kernel
theorem dX9_readLine_20 : decode cX9_readLine 20 = .ok (.isub, 1) := by decide +kernel
theorem dX9_readLine_21 : decode cX9_readLine 21 = .ok (.iaload, 1) := by decide +kernel
theorem dX9_readLine_22 : decode cX9_readLine 22 = .ok (.iload_n 2, 1) := by decide +kernel
theorem dX9_readLine_23 : decode cX9_readLine 23 = .ok (.ifCond .ne 7, 3) := by decide +kernel
theorem dX9_readLine_26 : decode cX9_readLine 26 = .ok (.iconst (-1), 1) := by decide +kernel
theorem dX9_readLine_27 : decode cX9_readLine 27 = .ok (.goto 11, 3) := by decide +kernel
theorem dX9_readLine_30 : decode cX9_readLine 30 = .ok (.aload_n 0, 1) := by decide +kernel
theorem dX9_readLine_31 : decode cX9_readLine 31 = .ok (.getfield 38, 3) := by decide +kernel
theorem dX9_readLine_34 : decode cX9_readLine 34 = .ok (.iload_n 2, 1) := by decide +kernel
theorem dX9_readLine_35 : decode cX9_readLine 35 = .ok (.iconst 1, 1) := by decide +kernel
theorem dX9_readLine_36 : decode cX9_readLine 36 = .ok (.isub, 1) := by decide +kernel
theorem dX9_readLine_37 : decode cX9_readLine 37 = .ok (.iaload, 1) := by decide +kernel
theorem dX9_readLine_38 : decode cX9_readLine 38 = .ok (.invokevirtual 197, 3) := by decide +kernel
theorem dX9_readLine_41 : decode cX9_readLine 41 = .ok (.istore 4, 2) := by decide +kernel
theorem dX9_readLine_43 : decode cX9_readLine 43 = .ok (.iload 4, 2) := by decide +kernel
theorem dX9_readLine_45 : decode cX9_readLine 45 = .ok (.iconst (-1), 1) := by decide +kernel
theorem dX9_readLine_46 : decode cX9_readLine 46 = .ok (.if_icmp .ne 5, 3) := by decide +kernel
theorem dX9_readLine_49 : decode cX9_readLine 49 = .ok (.iload_n 1, 1) := by decide +kernel
theorem dX9_readLine_50 : decode cX9_readLine 50 = .ok (.ireturn, 1) := by decide +kernel
theorem dX9_readLine_51 : decode cX9_readLine 51 = .ok (.aload_n 0, 1) := by decide +kernel
theorem dX9_readLine_52 : decode cX9_readLine 52 = .ok (.iload_n 3, 1) := by decide +kernel
theorem dX9_readLine_53 : decode cX9_readLine 53 = .ok (.invokevirtual 155, 3) := by decide +kernel
theorem dX9_readLine_56 : decode cX9_readLine 56 = .ok (.istore 5, 2) := by decide +kernel
theorem dX9_readLine_58 : decode cX9_readLine 58 = .ok (.iload 4, 2) := by decide +kernel
theorem dX9_readLine_60 : decode cX9_readLine 60 = .ok (.bipush 9, 2) := by decide +kernel
theorem dX9_readLine_62 : decode cX9_readLine 62 = .ok (.if_icmp .ne 10, 3) := by decide +kernel
theorem dX9_readLine_65 : decode cX9_readLine 65 = .ok (.aload_n 0, 1) := by decide +kernel
theorem dX9_readLine_66 : decode cX9_readLine 66 = .ok (.iload_n 3, 1) := by decide +kernel
theorem dX9_readLine_67 : decode cX9_readLine 67 = .ok (.iload_n 2, 1) := by decide +kernel
theorem dX9_readLine_68 : decode cX9_readLine 68 = .ok (.invokevirtual 216, 3) := by decide +kernel
theorem dX9_readLine_71 : decode cX9_readLine 71 = .ok (.ireturn, 1) := by decide +kernel
theorem dX9_readLine_72 : decode cX9_readLine 72 = .ok (.iload 4, 2) := by decide +kernel
theorem dX9_readLine_74 : decode cX9_readLine 74 = .ok (.ifCond .ne 13, 3) := by decide +kernel
theorem dX9_readLine_77 : decode cX9_readLine 77 = .ok (.aload_n 0, 1) := by decide +kernel
theorem dX9_readLine_78 : decode cX9_readLine 78 = .ok (.iload 5, 2) := by decide +kernel
theorem dX9_readLine_80 : decode cX9_readLine 80 = .ok (.iconst 0, 1) := by decide +kernel
theorem dX9_readLine_81 : decode cX9_readLine 81 = .ok (.invokevirtual 203, 3) := by decide +kernel
theorem dX9_readLine_84 : decode cX9_readLine 84 = .ok (.goto 12, 3) := by decide +kernel
theorem dX9_readLine_87 : decode cX9_readLine 87 = .ok (.aload_n 0, 1) := by decide +kernel
theorem dX9_readLine_88 : decode cX9_readLine 88 = .ok (.iload 4, 2) := by decide +kernel
theorem dX9_readLine_90 : decode cX9_readLine 90 = .ok (.iload 5, 2) := by decide +kernel
theorem dX9_readLine_92 : decode cX9_readLine 92 = .ok (.iconst 0, 1) := by decide +kernel
theorem dX9_readLine_93 : decode cX9_readLine 93 = .ok (.invokevirtual 206, 3) := by decide +kernel
theorem dX9_readLine_96 : decode cX9_readLine 96 = .ok (.istore 5, 2) := by decide +kernel
theorem dX9_readLine_98 : decode cX9_readLine 98 = .ok (.aload_n 0, 1) := by decide +kernel
theorem dX9_readLine_99 : decode cX9_readLine 99 = .ok (.iload 5, 2) := by decide +kernel
theorem dX9_readLine_101 : decode cX9_readLine 101 = .ok (.invokevirtual 87, 3) := by decide +kernel
theorem dX9_readLine_104 : decode cX9_readLine 104 = .ok (.bipush 10, 2) := by decide +kernel
theorem dX9_readLine_106 : decode cX9_readLine 106 = .ok (.if_icmp .eq 9, 3) := by decide +kernel
theorem dX9_readLine_109 : decode cX9_readLine 109 = .ok (.aload_n 0, 1) := by decide +kernel
theorem dX9_readLine_110 : decode cX9_readLine 110 = .ok (.iload 5, 2) := by decide +kernel
theorem dX9_readLine_112 : decode cX9_readLine 112 = .ok (.invokevirtual 98, 3) := by decide +kernel
theorem dX9_readLine_115 : decode cX9_readLine 115 = .ok (.aload_n 0, 1) := by decide +kernel
theorem dX9_readLine_116 : decode cX9_readLine 116 = .ok (.getfield 38, 3) := by decide +kernel
theorem dX9_readLine_119 : decode cX9_readLine 119 = .ok (.iload_n 2, 1) := by decide +kernel
theorem dX9_readLine_120 : decode cX9_readLine 120 = .ok (.aload_n 0, 1) := by decide +kernel
theorem dX9_readLine_121 : decode cX9_readLine 121 = .ok (.getfield 122, 3) := by decide +kernel
theorem dX9_readLine_124 : decode cX9_readLine 124 = .ok (.iastore, 1) := by decide +kernel
theorem dX9_readLine_125 : decode cX9_readLine 125 = .ok (.aload_n 0, 1) := by decide +kernel
theorem dX9_readLine_126 : decode cX9_readLine 126 = .ok (.getfield 41, 3) := by decide +kernel
theorem dX9_readLine_129 : decode cX9_readLine 129 = .ok (.iload_n 2, 1) := by decide +kernel
theorem dX9_readLine_130 : decode cX9_readLine 130 = .ok (.iload 4, 2) := by decide +kernel
theorem dX9_readLine_132 : decode cX9_readLine 132 = .ok (.iastore, 1) := by decide +kernel
theorem dX9_readLine_133 : decode cX9_readLine 133 = .ok (.aload_n 0, 1) := by decide +kernel
theorem dX9_readLine_134 : decode cX9_readLine 134 = .ok (.iload_n 2, 1) := by decide +kernel
theorem dX9_readLine_135 : decode cX9_readLine 135 = .ok (.putfield 219, 3) := by decide +kernel
theorem dX9_readLine_138 : decode cX9_readLine 138 = .ok (.aload_n 0, 1) := by decide +kernel
theorem dX9_readLine_139 : decode cX9_readLine 139 = .ok (.dup, 1) := by decide +kernel
theorem dX9_readLine_140 : decode cX9_readLine 140 = .ok (.getfield 122, 3) := by decide +kernel
theorem dX9_readLine_143 : decode cX9_readLine 143 = .ok (.iconst 1, 1) := by decide +kernel
theorem dX9_readLine_144 : decode cX9_readLine 144 = .ok (.iadd, 1) := by decide +kernel
theorem dX9_readLine_145 : decode cX9_readLine 145 = .ok (.putfield 122, 3) := by decide +kernel
theorem dX9_readLine_148 : decode cX9_readLine 148 = .ok (.iload 5, 2) := by decide +kernel
theorem dX9_readLine_150 : decode cX9_readLine 150 = .ok (.iconst 1, 1) := by decide +kernel
theorem dX9_readLine_151 : decode cX9_readLine 151 = .ok (.iadd, 1) := by decide +kernel
theorem dX9_readLine_152 : decode cX9_readLine 152 = .ok (.ireturn, 1) := by decide +kernel
theorem dX9_readUnknown_0 : decode cX9_readUnknown 0 = .ok (.aload_n 0, 1) := by decide +kernel
theorem dX9_readUnknown_1 : decode cX9_readUnknown 1 = .ok (.getfield 119, 3) := by decide +kernel
theorem dX9_readUnknown_4 : decode cX9_readUnknown 4 = .ok (.ifCond .eq 16, 3) := by decide +kernel
theorem dX9_readUnknown_7 : decode cX9_readUnknown 7 = .ok (.aload_n 0, 1) := by decide +kernel
theorem dX9_readUnknown_8 : decode cX9_readUnknown 8 = .ok (.getfield 29, 3) := by decide +kernel
theorem dX9_readUnknown_11 : decode cX9_readUnknown 11 = .ok (.aload_n 0, 1) := by decide +kernel
theorem dX9_readUnknown_12 : decode cX9_readUnknown 12 = .ok (.getfield 122, 3) := by decide +kernel
theorem dX9_readUnknown_15 : decode cX9_readUnknown 15 = .ok (.aload_n 0, 1) := by decide +kernel
theorem dX9_readUnknown_16 : decode cX9_readUnknown 16 = .ok (.getfield 169, 3) := by decide +kernel
theorem dX9_readUnknown_19 : decode cX9_readUnknown 19 = .ok (.iastore, 1) := by decide +kernel
theorem dX9_readUnknown_20 : decode cX9_readUnknown 20 = .ok (.aload_n 0, 1) := by decide +kernel
theorem dX9_readUnknown_21 : decode cX9_readUnknown 21 = .ok (.iload_n 1, 1) := by decide +kernel
theorem dX9_readUnknown_22 : decode cX9_readUnknown 22 = .ok (.invokevirtual 222, 3) := by decide +kernel
theorem dX9_readUnknown_25 : decode cX9_readUnknown 25 = .ok (.istore_n 3, 1) := by decide +kernel
theorem dX9_readUnknown_26 : decode cX9_readUnknown 26 = .ok (.aload_n 0, 1) := by decide +kernel
theorem dX9_readUnknown_27 : decode cX9_readUnknown 27 = .ok (.iload_n 1, 1) := by decide +kernel
theorem dX9_readUnknown_28 : decode cX9_readUnknown 28 = .ok (.iload_n 3, 1) := by decide +kernel
theorem dX9_readUnknown_29 : decode cX9_readUnknown 29 = .ok (.invokevirtual 172, 3) := by decide +kernel
theorem dX9_readUnknown_32 : decode cX9_readUnknown 32 = .ok (.aload_n 0, 1) := by decide +kernel
theorem dX9_readUnknown_33 : decode cX9_readUnknown 33 = .ok (.getfield 84, 3) := by decide +kernel
theorem dX9_readUnknown_36 : decode cX9_readUnknown 36 = .ok (.iconst (-1), 1) := by decide +kernel
theorem dX9_readUnknown_37 : decode cX9_readUnknown 37 = .ok (.if_icmp .ne 44, 3) := by decide +kernel
theorem dX9_readUnknown_40 : decode cX9_readUnknown 40 = .ok (.iload_n 3, 1) := by decide +kernel
theorem dX9_readUnknown_41 : decode cX9_readUnknown 41 = .ok (.aload_n 0, 1) := by decide +kernel
theorem dX9_readUnknown_42 : decode cX9_readUnknown 42 = .ok (.getfield 59, 3) := by decide +kernel
theorem dX9_readUnknown_45 : decode cX9_readUnknown 45 = .ok (.if_icmp .ge 36, 3) := by decide +kernel
theorem dX9_readUnknown_48 : decode cX9_readUnknown 48 = .ok (.aload_n 0, 1) := by decide +kernel
theorem dX9_readUnknown_49 : decode cX9_readUnknown 49 = .ok (.iload_n 3, 1) := by decide +kernel
theorem dX9_readUnknown_50 : decode cX9_readUnknown 50 = .ok (.iconst 1, 1) := by decide +kernel
theorem dX9_readUnknown_51 : decode cX9_readUnknown 51 = .ok (.iadd, 1) := by decide +kernel
theorem dX9_readUnknown_52 : decode cX9_readUnknown 52 = .ok (.invokevirtual 225, 3) := by decide +kernel
theorem dX9_readUnknown_55 : decode cX9_readUnknown 55 = .ok (.iload_n 2, 1) := by decide +kernel
theorem dX9_readUnknown_56 : decode cX9_readUnknown 56 = .ok (.if_icmp .le 25, 3) := by decide +kernel
theorem dX9_readUnknown_59 : decode cX9_readUnknown 59 = .ok (.aload_n 0, 1) := by decide +kernel
theorem dX9_readUnknown_60 : decode cX9_readUnknown 60 = .ok (.iload_n 3, 1) := by decide +kernel
theorem dX9_readUnknown_61 : decode cX9_readUnknown 61 = .ok (.iconst 1, 1) := by decide +kernel
theorem dX9_readUnknown_62 : decode cX9_readUnknown 62 = .ok (.iadd, 1) := by decide +kernel
theorem dX9_readUnknown_63 : decode cX9_readUnknown 63 = .ok (.invokevirtual 222, 3) := by decide +kernel
theorem dX9_readUnknown_66 : decode cX9_readUnknown 66 = .ok (.istore 4, 2) := by decide +kernel
theorem dX9_readUnknown_68 : decode cX9_readUnknown 68 = .ok (.aload_n 0, 1) := by decide +kernel
theorem dX9_readUnknown_69 : decode cX9_readUnknown 69 = .ok (.iload_n 3, 1) := by decide +kernel
theorem dX9_readUnknown_70 : decode cX9_readUnknown 70 = .ok (.iload 4, 2) := by decide +kernel
theorem dX9_readUnknown_72 : decode cX9_readUnknown 72 = .ok (.invokevirtual 172, 3) := by decide +kernel
theorem dX9_readUnknown_75 : decode cX9_readUnknown 75 = .ok (.iload 4, 2) := by decide +kernel
theorem dX9_readUnknown_77 : decode cX9_readUnknown 77 = .ok (.istore_n 3, 1) := by decide +kernel
theorem dX9_readUnknown_78 : decode cX9_readUnknown 78 = .ok (.goto (-46), 3) := by decide +kernel
theorem dX9_readUnknown_81 : decode cX9_readUnknown 81 = .ok (.iload_n 3, 1) := by decide +kernel
theorem dX9_readUnknown_82 : decode cX9_readUnknown 82 = .ok (.aload_n 0, 1) := by decide +kernel
theorem dX9_readUnknown_83 : decode cX9_readUnknown 83 = .ok (.getfield 59, 3) := by decide +kernel
theorem dX9_readUnknown_86 : decode cX9_readUnknown 86 = .ok (.if_icmp .ne 8, 3) := by decide +kernel
theorem dX9_readUnknown_89 : decode cX9_readUnknown 89 = .ok (.aload_n 0, 1) := by decide +kernel
theorem dX9_readUnknown_90 : decode cX9_readUnknown 90 = .ok (.iload_n 3, 1) := by decide +kernel
theorem dX9_readUnknown_91 : decode cX9_readUnknown 91 = .ok (.invokevirtual 98, 3) := by decide +kernel
theorem dX9_readUnknown_94 : decode cX9_readUnknown 94 = .ok (.aload_n 0, 1) := by decide +kernel
theorem dX9_readUnknown_95 : decode cX9_readUnknown 95 = .ok (.dup, 1) := by decide +kernel
theorem dX9_readUnknown_96 : decode cX9_readUnknown 96 = .ok (.getfield 122, 3) := by decide +kernel
theorem dX9_readUnknown_99 : decode cX9_readUnknown 99 = .ok (.iconst 1, 1) := by decide +kernel
theorem dX9_readUnknown_100 : decode cX9_readUnknown 100 = .ok (.iadd, 1) := by decide +kernel
theorem dX9_readUnknown_101 : decode cX9_readUnknown 101 = .ok (.putfield 122, 3) := by decide +kernel
theorem dX9_readUnknown_104 : decode cX9_readUnknown 104 = .ok (.iload_n 3, 1) := by decide +kernel
theorem dX9_readUnknown_105 : decode cX9_readUnknown 105 = .ok (.iconst 1, 1) := by decide +kernel
theorem dX9_readUnknown_106 : decode cX9_readUnknown 106 = .ok (.iadd, 1) := by decide +kernel
theorem dX9_readUnknown_107 : decode cX9_readUnknown 107 = .ok (.ireturn, 1) := by decide +kernel
theorem dX9_readLines_0 : decode cX9_readLines 0 = .ok (.iconst 0, 1) := by decide +kernel
theorem dX9_readLines_1 : decode cX9_readLines 1 = .ok (.istore_n 1, 1) := by decide +kernel
theorem dX9_readLines_2 : decode cX9_readLines 2 = .ok (.aload_n 0, 1) := by decide +kernel
theorem dX9_readLines_3 : decode cX9_readLines 3 = .ok (.iconst (-1), 1) := by decide +kernel
theorem dX9_readLines_4 : decode cX9_readLines 4 = .ok (.putfield 219, 3) := by decide +kernel
theorem dX9_readLines_7 : decode cX9_readLines 7 = .ok (.aload_n 0, 1) := by decide +kernel
theorem dX9_readLines_8 : decode cX9_readLines 8 = .ok (.getfield 84, 3) := by decide +kernel
theorem dX9_readLines_11 : decode cX9_readLines 11 = .ok (.iconst (-1), 1) := by decide +kernel
theorem dX9_readLines_12 : decode cX9_readLines 12 = .ok (.if_icmp .ne 72, 3) := by decide +kernel
theorem dX9_readLines_15 : decode cX9_readLines 15 = .ok (.iload_n 1, 1) := by decide +kernel
theorem dX9_readLines_16 : decode cX9_readLines 16 = .ok (.aload_n 0, 1) := by decide +kernel
theorem dX9_readLines_17 : decode cX9_readLines 17 = .ok (.getfield 59, 3) := by decide +kernel
theorem dX9_readLines_20 : decode cX9_readLines 20 = .ok (.if_icmp .lt 7, 3) := by decide +kernel
theorem dX9_readLines_23 : decode cX9_readLines 23 = .ok (.iload_n 1, 1) := by decide +kernel
theorem dX9_readLines_24 : decode cX9_readLines 24 = .ok (.ifCond .ne 60, 3) := by decide +kernel
theorem dX9_readLines_27 : decode cX9_readLines 27 = .ok (.aload_n 0, 1) := by decide +kernel
theorem dX9_readLines_28 : decode cX9_readLines 28 = .ok (.iload_n 1, 1) := by decide +kernel
theorem dX9_readLines_29 : decode cX9_readLines 29 = .ok (.invokevirtual 225, 3) := by decide +kernel
theorem dX9_readLines_32 : decode cX9_readLines 32 = .ok (.istore_n 2, 1) := by decide +kernel
theorem dX9_readLines_33 : decode cX9_readLines 33 = .ok (.iload_n 2, 1) := by decide +kernel
theorem dX9_readLines_34 : decode cX9_readLines 34 = .ok (.aload_n 0, 1) := by decide +kernel
theorem dX9_readLines_35 : decode cX9_readLines 35 = .ok (.getfield 219, 3) := by decide +kernel
theorem dX9_readLines_38 : decode cX9_readLines 38 = .ok (.iconst 1, 1) := by decide +kernel
theorem dX9_readLines_39 : decode cX9_readLines 39 = .ok (.iadd, 1) := by decide +kernel
theorem dX9_readLines_40 : decode cX9_readLines 40 = .ok (.if_icmp .le 18, 3) := by decide +kernel
theorem dX9_readLines_43 : decode cX9_readLines 43 = .ok (.aload_n 0, 1) := by decide +kernel
theorem dX9_readLines_44 : decode cX9_readLines 44 = .ok (.iload_n 1, 1) := by decide +kernel
theorem dX9_readLines_45 : decode cX9_readLines 45 = .ok (.aload_n 0, 1) := by decide +kernel
theorem dX9_readLines_46 : decode cX9_readLines 46 = .ok (.getfield 219, 3) := by decide +kernel
theorem dX9_readLines_49 : decode cX9_readLines 49 = .ok (.iadd, 1) := by decide +kernel
theorem dX9_readLines_50 : decode cX9_readLines 50 = .ok (.iconst 1, 1) := by decide +kernel
theorem dX9_readLines_51 : decode cX9_readLines 51 = .ok (.iadd, 1) := by decide +kernel
theorem dX9_readLines_52 : decode cX9_readLines 52 = .ok (.invokevirtual 98, 3) := by decide +kernel
theorem dX9_readLines_55 : decode cX9_readLines 55 = .ok (.goto 26, 3) := by decide +kernel
theorem dX9_readLines_58 : decode cX9_readLines 58 = .ok (.iload_n 2, 1) := by decide +kernel
theorem dX9_readLines_59 : decode cX9_readLines 59 = .ok (.ifCond .ne 15, 3) := by decide +kernel
theorem dX9_readLines_62 : decode cX9_readLines 62 = .ok (.iload_n 1, 1) := by decide +kernel
theorem dX9_readLines_63 : decode cX9_readLines 63 = .ok (.ifCond .le 11, 3) := by decide +kernel
theorem dX9_readLines_66 : decode cX9_readLines 66 = .ok (.aload_n 0, 1) := by decide +kernel
theorem dX9_readLines_67 : decode cX9_readLines 67 = .ok (.iload_n 1, 1) := by decide +kernel
theorem dX9_readLines_68 : decode cX9_readLines 68 = .ok (.invokevirtual 98, 3) := by decide +kernel
theorem dX9_readLines_71 : decode cX9_readLines 71 = .ok (.goto 10, 3) := by decide +kernel
theorem dX9_readLines_74 : decode cX9_readLines 74 = .ok (.aload_n 0, 1) := by decide +kernel
theorem dX9_readLines_75 : decode cX9_readLines 75 = .ok (.iload_n 1, 1) := by decide +kernel
theorem dX9_readLines_76 : decode cX9_readLines 76 = .ok (.iload_n 2, 1) := by decide +kernel
theorem dX9_readLines_77 : decode cX9_readLines 77 = .ok (.invokevirtual 228, 3) := by decide +kernel
theorem dX9_readLines_80 : decode cX9_readLines 80 = .ok (.istore_n 1, 1) := by decide +kernel
theorem dX9_readLines_81 : decode cX9_readLines 81 = .ok (.goto (-74), 3) := by decide +kernel
theorem dX9_readLines_84 : decode cX9_readLines 84 = .ok (.return_, 1) := by decide +kernel
theorem dX9_go_0 : decode cX9_go 0 = .ok (.aload_n 0, 1) := by decide +kernel
theorem dX9_go_1 : decode cX9_go 1 = .ok (.iload_n 1, 1) := by decide +kernel
theorem dX9_go_2 : decode cX9_go 2 = .ok (.putfield 119, 3) := by decide +kernel
theorem dX9_go_5 : decode cX9_go 5 = .ok (.aload_n 0, 1) := by decide +kernel
theorem dX9_go_6 : decode cX9_go 6 = .ok (.iconst (-1), 1) := by decide +kernel
theorem dX9_go_7 : decode cX9_go 7 = .ok (.putfield 84, 3) := by decide +kernel
theorem dX9_go_10 : decode cX9_go 10 = .ok (.aload_n 0, 1) := by decide +kernel
theorem dX9_go_11 : decode cX9_go 11 = .ok (.iconst 0, 1) := by decide +kernel
theorem dX9_go_12 : decode cX9_go 12 = .ok (.putfield 122, 3) := by decide +kernel
theorem dX9_go_15 : decode cX9_go 15 = .ok (.aload_n 0, 1) := by decide +kernel
theorem dX9_go_16 : decode cX9_go 16 = .ok (.iconst 0, 1) := by decide +kernel
theorem dX9_go_17 : decode cX9_go 17 = .ok (.putfield 169, 3) := by decide +kernel
theorem dX9_go_20 : decode cX9_go 20 = .ok (.aload_n 0, 1) := by decide +kernel
theorem dX9_go_21 : decode cX9_go 21 = .ok (.getfield 56, 3) := by decide +kernel
theorem dX9_go_24 : decode cX9_go 24 = .ok (.ifCond .ne 10, 3) := by decide +kernel
theorem dX9_go_27 : decode cX9_go 27 = .ok (.aload_n 0, 1) := by decide +kernel
theorem dX9_go_28 : decode cX9_go 28 = .ok (.invokevirtual 231, 3) := by decide +kernel
theorem dX9_go_31 : decode cX9_go 31 = .ok (.goto 7, 3) := by decide +kernel
theorem dX9_go_34 : decode cX9_go 34 = .ok (.aload_n 0, 1) := by decide +kernel
theorem dX9_go_35 : decode cX9_go 35 = .ok (.invokevirtual 234, 3) := by decide +kernel
theorem dX9_go_38 : decode cX9_go 38 = .ok (.return_, 1) := by decide +kernel
theorem dX9_read_0 : decode cX9_read 0 = .ok (.aload_n 0, 1) := by decide +kernel
theorem dX9_read_1 : decode cX9_read 1 = .ok (.iconst 0, 1) := by decide +kernel
theorem dX9_read_2 : decode cX9_read 2 = .ok (.putfield 52, 3) := by decide +kernel
theorem dX9_read_5 : decode cX9_read 5 = .ok (.aload_n 0, 1) := by decide +kernel
theorem dX9_read_6 : decode cX9_read 6 = .ok (.iconst 0, 1) := by decide +kernel
theorem dX9_read_7 : decode cX9_read 7 = .ok (.invokevirtual 237, 3) := by decide +kernel
theorem dX9_read_10 : decode cX9_read 10 = .ok (.aload_n 0, 1) := by decide +kernel
theorem dX9_read_11 : decode cX9_read 11 = .ok (.getfield 84, 3) := by decide +kernel
theorem dX9_read_14 : decode cX9_read 14 = .ok (.iconst (-1), 1) := by decide +kernel
theorem dX9_read_15 : decode cX9_read 15 = .ok (.if_icmp .eq 10, 3) := by decide +kernel
theorem dX9_read_18 : decode cX9_read 18 = .ok (.iconst (-1), 1) := by decide +kernel
theorem dX9_read_19 : decode cX9_read 19 = .ok (.aload_n 0, 1) := by decide +kernel
theorem dX9_read_20 : decode cX9_read 20 = .ok (.getfield 84, 3) := by decide +kernel
theorem dX9_read_23 : decode cX9_read 23 = .ok (.isub, 1) := by decide +kernel
theorem dX9_read_24 : decode cX9_read 24 = .ok (.ireturn, 1) := by decide +kernel
theorem dX9_read_25 : decode cX9_read 25 = .ok (.aload_n 0, 1) := by decide +kernel
theorem dX9_read_26 : decode cX9_read 26 = .ok (.iconst 1, 1) := by decide +kernel
theorem dX9_read_27 : decode cX9_read 27 = .ok (.invokevirtual 237, 3) := by decide +kernel
theorem dX9_read_30 : decode cX9_read 30 = .ok (.aload_n 0, 1) := by decide +kernel
theorem dX9_read_31 : decode cX9_read 31 = .ok (.aload_n 0, 1) := by decide +kernel
theorem dX9_read_32 : decode cX9_read 32 = .ok (.getfield 122, 3) := by decide +kernel
theorem dX9_read_35 : decode cX9_read 35 = .ok (.putfield 241, 3) := by decide +kernel
theorem dX9_read_38 : decode cX9_read 38 = .ok (.aload_n 0, 1) := by decide +kernel
theorem dX9_read_39 : decode cX9_read 39 = .ok (.aload_n 0, 1) := by decide +kernel
theorem dX9_read_40 : decode cX9_read 40 = .ok (.getfield 169, 3) := by decide +kernel
theorem dX9_read_43 : decode cX9_read 43 = .ok (.putfield 244, 3) := by decide +kernel
theorem dX9_read_46 : decode cX9_read 46 = .ok (.aload_n 0, 1) := by decide +kernel
theorem dX9_read_47 : decode cX9_read 47 = .ok (.aload_n 0, 1) := by decide +kernel
theorem dX9_read_48 : decode cX9_read 48 = .ok (.getfield 178, 3) := by decide +kernel
theorem dX9_read_51 : decode cX9_read 51 = .ok (.putfield 247, 3) := by decide +kernel
theorem dX9_read_54 : decode cX9_read 54 = .ok (.aload_n 0, 1) := by decide +kernel
theorem dX9_read_55 : decode cX9_read 55 = .ok (.iconst 1, 1) := by decide +kernel
theorem dX9_read_56 : decode cX9_read 56 = .ok (.putfield 48, 3) := by decide +kernel
theorem dX9_read_59 : decode cX9_read 59 = .ok (.aload_n 0, 1) := by decide +kernel
theorem dX9_read_60 : decode cX9_read 60 = .ok (.getfield 241, 3) := by decide +kernel
theorem dX9_read_63 : decode cX9_read 63 = .ok (.ireturn, 1) := by decide +kernel
theorem dX9_isObject_0 : decode cX9_isObject 0 = .ok (.iload_n 1, 1) := by decide +kernel
theorem dX9_isObject_1 : decode cX9_isObject 1 = .ok (.ifCond .lt 15, 3) := by decide +kernel
theorem dX9_isObject_4 : decode cX9_isObject 4 = .ok (.iload_n 1, 1) := by decide +kernel
theorem dX9_isObject_5 : decode cX9_isObject 5 = .ok (.aload_n 0, 1) := by decide +kernel
theorem dX9_isObject_6 : decode cX9_isObject 6 = .ok (.getfield 241, 3) := by decide +kernel
theorem dX9_isObject_9 : decode cX9_isObject 9 = .ok (.if_icmp .ge 7, 3) := by decide +kernel
theorem dX9_isObject_12 : decode cX9_isObject 12 = .ok (.iconst 1, 1) := by decide +kernel
theorem dX9_isObject_13 : decode cX9_isObject 13 = .ok (.goto 4, 3) := by decide +kernel
theorem dX9_isObject_16 : decode cX9_isObject 16 = .ok (.iconst 0, 1) := by decide +kernel
theorem dX9_isObject_17 : decode cX9_isObject 17 = .ok (.ireturn, 1) := by decide +kernel
theorem dX9_kind_0 : decode cX9_kind 0 = .ok (.aload_n 0, 1) := by decide +kernel
theorem dX9_kind_1 : decode cX9_kind 1 = .ok (.aload_n 0, 1) := by decide +kernel
theorem dX9_kind_2 : decode cX9_kind 2 = .ok (.iload_n 1, 1) := by decide +kernel
theorem dX9_kind_3 : decode cX9_kind 3 = .ok (.invokevirtual 250, 3) := by decide +kernel
theorem dX9_kind_6 : decode cX9_kind 6 = .ok (.ifCond .eq 7, 3) := by decide +kernel
theorem dX9_kind_9 : decode cX9_kind 9 = .ok (.iconst 0, 1) := by decide +kernel
theorem dX9_kind_10 : decode cX9_kind 10 = .ok (.goto 4, 3) := by decide +kernel
theorem dX9_kind_13 : decode cX9_kind 13 = .ok (.iconst 1, 1) := by decide +kernel
theorem dX9_kind_14 : decode cX9_kind 14 = .ok (.putfield 52, 3) := by decide +kernel
theorem dX9_kind_17 : decode cX9_kind 17 = .ok (.aload_n 0, 1) := by decide +kernel
theorem dX9_kind_18 : decode cX9_kind 18 = .ok (.getfield 52, 3) := by decide +kernel
theorem dX9_kind_21 : decode cX9_kind 21 = .ok (.ifCond .ne 12, 3) := by decide +kernel
theorem dX9_kind_24 : decode cX9_kind 24 = .ok (.aload_n 0, 1) := by decide +kernel
theorem dX9_kind_25 : decode cX9_kind 25 = .ok (.getfield 13, 3) := by decide +kernel
theorem dX9_kind_28 : decode cX9_kind 28 = .ok (.iload_n 1, 1) := by decide +kernel
theorem dX9_kind_29 : decode cX9_kind 29 = .ok (.iaload, 1) := by decide +kernel
theorem dX9_kind_30 : decode cX9_kind 30 = .ok (.goto 4, 3) := by decide +kernel
theorem dX9_kind_33 : decode cX9_kind 33 = .ok (.iconst 0, 1) := by decide +kernel
theorem dX9_kind_34 : decode cX9_kind 34 = .ok (.ireturn, 1) := by decide +kernel
theorem dX9_parent_0 : decode cX9_parent 0 = .ok (.aload_n 0, 1) := by decide +kernel
theorem dX9_parent_1 : decode cX9_parent 1 = .ok (.aload_n 0, 1) := by decide +kernel
theorem dX9_parent_2 : decode cX9_parent 2 = .ok (.iload_n 1, 1) := by decide +kernel
theorem dX9_parent_3 : decode cX9_parent 3 = .ok (.invokevirtual 250, 3) := by decide +kernel
theorem dX9_parent_6 : decode cX9_parent 6 = .ok (.ifCond .eq 7, 3) := by decide +kernel
theorem dX9_parent_9 : decode cX9_parent 9 = .ok (.iconst 0, 1) := by decide +kernel
theorem dX9_parent_10 : decode cX9_parent 10 = .ok (.goto 4, 3) := by decide +kernel
theorem dX9_parent_13 : decode cX9_parent 13 = .ok (.iconst 1, 1) := by decide +kernel
theorem dX9_parent_14 : decode cX9_parent 14 = .ok (.putfield 52, 3) := by decide +kernel
theorem dX9_parent_17 : decode cX9_parent 17 = .ok (.aload_n 0, 1) := by decide +kernel
theorem dX9_parent_18 : decode cX9_parent 18 = .ok (.getfield 52, 3) := by decide +kernel
theorem dX9_parent_21 : decode cX9_parent 21 = .ok (.ifCond .ne 12, 3) := by decide +kernel
theorem dX9_parent_24 : decode cX9_parent 24 = .ok (.aload_n 0, 1) := by decide +kernel
theorem dX9_parent_25 : decode cX9_parent 25 = .ok (.getfield 16, 3) := by decide +kernel
theorem dX9_parent_28 : decode cX9_parent 28 = .ok (.iload_n 1, 1) := by decide +kernel
theorem dX9_parent_29 : decode cX9_parent 29 = .ok (.iaload, 1) := by decide +kernel
theorem dX9_parent_30 : decode cX9_parent 30 = .ok (.goto 4, 3) := by decide +kernel
theorem dX9_parent_33 : decode cX9_parent 33 = .ok (.iconst 0, 1) := by decide +kernel
theorem dX9_parent_34 : decode cX9_parent 34 = .ok (.ireturn, 1) := by decide +kernel
theorem dX9_number_0 : decode cX9_number 0 = .ok (.aload_n 0, 1) := by decide +kernel
theorem dX9_number_1 : decode cX9_number 1 = .ok (.aload_n 0, 1) := by decide +kernel
theorem dX9_number_2 : decode cX9_number 2 = .ok (.iload_n 1, 1) := by decide +kernel
theorem dX9_number_3 : decode cX9_number 3 = .ok (.invokevirtual 250, 3) := by decide +kernel
theorem dX9_number_6 : decode cX9_number 6 = .ok (.ifCond .eq 22, 3) := by decide +kernel
theorem dX9_number_9 : decode cX9_number 9 = .ok (.aload_n 0, 1) := by decide +kernel
theorem dX9_number_10 : decode cX9_number 10 = .ok (.getfield 13, 3) := by decide +kernel
theorem dX9_number_13 : decode cX9_number 13 = .ok (.iload_n 1, 1) := by decide +kernel
theorem dX9_number_14 : decode cX9_number 14 = .ok (.iaload, 1) := by decide +kernel
theorem dX9_number_15 : decode cX9_number 15 = .ok (.iload_n 2, 1) := by decide +kernel
theorem dX9_number_16 : decode cX9_number 16 = .ok (.iconst 0, 1) := by decide +kernel
theorem dX9_number_17 : decode cX9_number 17 = .ok (.invokestatic 253, 3) := by decide +kernel
theorem dX9_number_20 : decode cX9_number 20 = .ok (.iconst (-1), 1) := by decide +kernel
theorem dX9_number_21 : decode cX9_number 21 = .ok (.if_icmp .eq 7, 3) := by decide +kernel
theorem dX9_number_24 : decode cX9_number 24 = .ok (.iconst 0, 1) := by decide +kernel
theorem dX9_number_25 : decode cX9_number 25 = .ok (.goto 4, 3) := by decide +kernel
theorem dX9_number_28 : decode cX9_number 28 = .ok (.iconst 1, 1) := by decide +kernel
theorem dX9_number_29 : decode cX9_number 29 = .ok (.putfield 52, 3) := by decide +kernel
theorem dX9_number_32 : decode cX9_number 32 = .ok (.aload_n 0, 1) := by decide +kernel
theorem dX9_number_33 : decode cX9_number 33 = .ok (.getfield 52, 3) := by decide +kernel
theorem dX9_number_36 : decode cX9_number 36 = .ok (.ifCond .ne 16, 3) := by decide +kernel
theorem dX9_number_39 : decode cX9_number 39 = .ok (.aload_n 0, 1) := by decide +kernel
theorem dX9_number_40 : decode cX9_number 40 = .ok (.getfield 19, 3) := by decide +kernel
theorem dX9_number_43 : decode cX9_number 43 = .ok (.iconst 5, 1) := by decide +kernel
theorem dX9_number_44 : decode cX9_number 44 = .ok (.iload_n 1, 1) := by decide +kernel
theorem dX9_number_45 : decode cX9_number 45 = .ok (.imul, 1) := by decide +kernel
theorem dX9_number_46 : decode cX9_number 46 = .ok (.iload_n 2, 1) := by decide +kernel
theorem dX9_number_47 : decode cX9_number 47 = .ok (.iadd, 1) := by decide +kernel
theorem dX9_number_48 : decode cX9_number 48 = .ok (.laload, 1) := by decide +kernel
theorem dX9_number_49 : decode cX9_number 49 = .ok (.goto 4, 3) := by decide +kernel
theorem dX9_number_52 : decode cX9_number 52 = .ok (.lconst 0, 1) := by decide +kernel
theorem dX9_number_53 : decode cX9_number 53 = .ok (.lreturn, 1) := by decide +kernel
theorem dX9_text_0 : decode cX9_text 0 = .ok (.aload_n 0, 1) := by decide +kernel
theorem dX9_text_1 : decode cX9_text 1 = .ok (.iload_n 1, 1) := by decide +kernel
theorem dX9_text_2 : decode cX9_text 2 = .ok (.invokevirtual 250, 3) := by decide +kernel
theorem dX9_text_5 : decode cX9_text 5 = .ok (.ifCond .eq 22, 3) := by decide +kernel
theorem dX9_text_8 : decode cX9_text 8 = .ok (.aload_n 0, 1) := by decide +kernel
theorem dX9_text_9 : decode cX9_text 9 = .ok (.getfield 13, 3) := by decide +kernel
theorem dX9_text_12 : decode cX9_text 12 = .ok (.iload_n 1, 1) := by decide +kernel
theorem dX9_text_13 : decode cX9_text 13 = .ok (.iaload, 1) := by decide +kernel
theorem dX9_text_14 : decode cX9_text 14 = .ok (.iload_n 2, 1) := by decide +kernel
theorem dX9_text_15 : decode cX9_text 15 = .ok (.iconst 1, 1) := by decide +kernel
theorem dX9_text_16 : decode cX9_text 16 = .ok (.invokestatic 253, 3) := by decide +kernel
theorem dX9_text_19 : decode cX9_text 19 = .ok (.iconst (-1), 1) := by decide +kernel
theorem dX9_text_20 : decode cX9_text 20 = .ok (.if_icmp .eq 7, 3) := by decide +kernel
theorem dX9_text_23 : decode cX9_text 23 = .ok (.iconst 1, 1) := by decide +kernel
theorem dX9_text_24 : decode cX9_text 24 = .ok (.goto 4, 3) := by decide +kernel
theorem dX9_text_27 : decode cX9_text 27 = .ok (.iconst 0, 1) := by decide +kernel
theorem dX9_text_28 : decode cX9_text 28 = .ok (.istore 4, 2) := by decide +kernel
theorem dX9_text_30 : decode cX9_text 30 = .ok (.aload_n 0, 1) := by decide +kernel
theorem dX9_text_31 : decode cX9_text 31 = .ok (.iload 4, 2) := by decide +kernel
theorem dX9_text_33 : decode cX9_text 33 = .ok (.ifCond .eq 26, 3) := by decide +kernel
theorem dX9_text_36 : decode cX9_text 36 = .ok (.iload_n 3, 1) := by decide +kernel
theorem dX9_text_37 : decode cX9_text 37 = .ok (.iconst (-1), 1) := by decide +kernel
theorem dX9_text_38 : decode cX9_text 38 = .ok (.if_icmp .lt 21, 3) := by decide +kernel
theorem dX9_text_41 : decode cX9_text 41 = .ok (.iload_n 3, 1) := by decide +kernel
theorem dX9_text_42 : decode cX9_text 42 = .ok (.aload_n 0, 1) := by decide +kernel
theorem dX9_text_43 : decode cX9_text 43 = .ok (.getfield 23, 3) := by decide +kernel
theorem dX9_text_46 : decode cX9_text 46 = .ok (.iconst 2, 1) := by decide +kernel
theorem dX9_text_47 : decode cX9_text 47 = .ok (.iload_n 1, 1) := by decide +kernel
theorem dX9_text_48 : decode cX9_text 48 = .ok (.imul, 1) := by decide +kernel
theorem dX9_text_49 : decode cX9_text 49 = .ok (.iload_n 2, 1) := by decide +kernel
theorem dX9_text_50 : decode cX9_text 50 = .ok (.iadd, 1) := by decide +kernel
theorem dX9_text_51 : decode cX9_text 51 = .ok (.iaload, 1) := by decide +kernel
theorem dX9_text_52 : decode cX9_text 52 = .ok (.if_icmp .ge 7, 3) := by decide +kernel
theorem dX9_text_55 : decode cX9_text 55 = .ok (.iconst 0, 1) := by decide +kernel
theorem dX9_text_56 : decode cX9_text 56 = .ok (.goto 4, 3) := by decide +kernel
theorem dX9_text_59 : decode cX9_text 59 = .ok (.iconst 1, 1) := by decide +kernel
theorem dX9_text_60 : decode cX9_text 60 = .ok (.putfield 52, 3) := by decide +kernel
theorem dX9_text_63 : decode cX9_text 63 = .ok (.aload_n 0, 1) := by decide +kernel
theorem dX9_text_64 : decode cX9_text 64 = .ok (.getfield 52, 3) := by decide +kernel
theorem dX9_text_67 : decode cX9_text 67 = .ok (.ifCond .eq 5, 3) := by decide +kernel
theorem dX9_text_70 : decode cX9_text 70 = .ok (.iconst 0, 1) := by decide +kernel
theorem dX9_text_71 : decode cX9_text 71 = .ok (.ireturn, 1) := by decide +kernel
theorem dX9_text_72 : decode cX9_text 72 = .ok (.iload_n 3, 1) := by decide +kernel
theorem dX9_text_73 : decode cX9_text 73 = .ok (.iconst (-1), 1) := by decide +kernel
theorem dX9_text_74 : decode cX9_text 74 = .ok (.if_icmp .ne 16, 3) := by decide +kernel
theorem dX9_text_77 : decode cX9_text 77 = .ok (.aload_n 0, 1) := by decide +kernel
theorem dX9_text_78 : decode cX9_text 78 = .ok (.getfield 23, 3) := by decide +kernel
theorem dX9_text_81 : decode cX9_text 81 = .ok (.iconst 2, 1) := by decide +kernel
theorem dX9_text_82 : decode cX9_text 82 = .ok (.iload_n 1, 1) := by decide +kernel
theorem dX9_text_83 : decode cX9_text 83 = .ok (.imul, 1) := by decide +kernel
theorem dX9_text_84 : decode cX9_text 84 = .ok (.iload_n 2, 1) := by decide +kernel
theorem dX9_text_85 : decode cX9_text 85 = .ok (.iadd, 1) := by decide +kernel
theorem dX9_text_86 : decode cX9_text 86 = .ok (.iaload, 1) := by decide +kernel
theorem dX9_text_87 : decode cX9_text 87 = .ok (.goto 19, 3) := by decide +kernel
theorem dX9_text_90 : decode cX9_text 90 = .ok (.aload_n 0, 1) := by decide +kernel
theorem dX9_text_91 : decode cX9_text 91 = .ok (.getfield 26, 3) := by decide +kernel
theorem dX9_text_94 : decode cX9_text 94 = .ok (.bipush 80, 2) := by decide +kernel
theorem dX9_text_96 : decode cX9_text 96 = .ok (.iload_n 1, 1) := by decide +kernel
theorem dX9_text_97 : decode cX9_text 97 = .ok (.imul, 1) := by decide +kernel
theorem dX9_text_98 : decode cX9_text 98 = .ok (.bipush 40, 2) := by decide +kernel
theorem dX9_text_100 : decode cX9_text 100 = .ok (.iload_n 2, 1) := by decide +kernel
theorem dX9_text_101 : decode cX9_text 101 = .ok (.imul, 1) := by decide +kernel
theorem dX9_text_102 : decode cX9_text 102 = .ok (.iadd, 1) := by decide +kernel
theorem dX9_text_103 : decode cX9_text 103 = .ok (.iload_n 3, 1) := by decide +kernel
theorem dX9_text_104 : decode cX9_text 104 = .ok (.iadd, 1) := by decide +kernel
theorem dX9_text_105 : decode cX9_text 105 = .ok (.iaload, 1) := by decide +kernel
theorem dX9_text_106 : decode cX9_text 106 = .ok (.ireturn, 1) := by decide +kernel
theorem dX9_version_0 : decode cX9_version 0 = .ok (.aload_n 0, 1) := by decide +kernel
theorem dX9_version_1 : decode cX9_version 1 = .ok (.iconst 0, 1) := by decide +kernel
theorem dX9_version_2 : decode cX9_version 2 = .ok (.putfield 52, 3) := by decide +kernel

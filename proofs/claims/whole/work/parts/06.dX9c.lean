theorem dX9_version_5 : decode cX9_version 5 = .ok (.aload_n 0, 1) := by decide +kernel
theorem dX9_version_6 : decode cX9_version 6 = .ok (.getfield 247, 3) := by decide +kernel
theorem dX9_version_9 : decode cX9_version 9 = .ok (.ireturn, 1) := by decide +kernel
theorem dX9_unknown_0 : decode cX9_unknown 0 = .ok (.aload_n 0, 1) := by decide +kernel
theorem dX9_unknown_1 : decode cX9_unknown 1 = .ok (.aload_n 0, 1) := by decide +kernel
theorem dX9_unknown_2 : decode cX9_unknown 2 = .ok (.iload_n 1, 1) := by decide +kernel
theorem dX9_unknown_3 : decode cX9_unknown 3 = .ok (.invokevirtual 250, 3) := by decide +kernel
theorem dX9_unknown_6 : decode cX9_unknown 6 = .ok (.ifCond .ne 7, 3) := by decide +kernel
theorem dX9_unknown_9 : decode cX9_unknown 9 = .ok (.iconst 1, 1) := by decide +kernel
theorem dX9_unknown_10 : decode cX9_unknown 10 = .ok (.goto 38, 3) := by decide +kernel
theorem dX9_unknown_13 : decode cX9_unknown 13 = .ok (.aload_n 0, 1) := by decide +kernel
theorem dX9_unknown_14 : decode cX9_unknown 14 = .ok (.getfield 13, 3) := by decide +kernel
theorem dX9_unknown_17 : decode cX9_unknown 17 = .ok (.iload_n 1, 1) := by decide +kernel
theorem dX9_unknown_18 : decode cX9_unknown 18 = .ok (.iaload, 1) := by decide +kernel
theorem dX9_unknown_19 : decode cX9_unknown 19 = .ok (.bipush 9, 2) := by decide +kernel
theorem dX9_unknown_21 : decode cX9_unknown 21 = .ok (.if_icmp .eq 7, 3) := by decide +kernel
theorem dX9_unknown_24 : decode cX9_unknown 24 = .ok (.iconst 2, 1) := by decide +kernel
theorem dX9_unknown_25 : decode cX9_unknown 25 = .ok (.goto 23, 3) := by decide +kernel
theorem dX9_unknown_28 : decode cX9_unknown 28 = .ok (.iload_n 2, 1) := by decide +kernel
theorem dX9_unknown_29 : decode cX9_unknown 29 = .ok (.iconst (-1), 1) := by decide +kernel
theorem dX9_unknown_30 : decode cX9_unknown 30 = .ok (.if_icmp .lt 13, 3) := by decide +kernel
theorem dX9_unknown_33 : decode cX9_unknown 33 = .ok (.iload_n 2, 1) := by decide +kernel
theorem dX9_unknown_34 : decode cX9_unknown 34 = .ok (.aload_n 0, 1) := by decide +kernel
theorem dX9_unknown_35 : decode cX9_unknown 35 = .ok (.getfield 32, 3) := by decide +kernel
theorem dX9_unknown_38 : decode cX9_unknown 38 = .ok (.iload_n 1, 1) := by decide +kernel
theorem dX9_unknown_39 : decode cX9_unknown 39 = .ok (.iaload, 1) := by decide +kernel
theorem dX9_unknown_40 : decode cX9_unknown 40 = .ok (.if_icmp .lt 7, 3) := by decide +kernel
theorem dX9_unknown_43 : decode cX9_unknown 43 = .ok (.iconst 1, 1) := by decide +kernel
theorem dX9_unknown_44 : decode cX9_unknown 44 = .ok (.goto 4, 3) := by decide +kernel
theorem dX9_unknown_47 : decode cX9_unknown 47 = .ok (.iconst 0, 1) := by decide +kernel
theorem dX9_unknown_48 : decode cX9_unknown 48 = .ok (.putfield 52, 3) := by decide +kernel
theorem dX9_unknown_51 : decode cX9_unknown 51 = .ok (.aload_n 0, 1) := by decide +kernel
theorem dX9_unknown_52 : decode cX9_unknown 52 = .ok (.getfield 52, 3) := by decide +kernel
theorem dX9_unknown_55 : decode cX9_unknown 55 = .ok (.ifCond .eq 5, 3) := by decide +kernel
theorem dX9_unknown_58 : decode cX9_unknown 58 = .ok (.iconst 0, 1) := by decide +kernel
theorem dX9_unknown_59 : decode cX9_unknown 59 = .ok (.ireturn, 1) := by decide +kernel
theorem dX9_unknown_60 : decode cX9_unknown 60 = .ok (.iload_n 2, 1) := by decide +kernel
theorem dX9_unknown_61 : decode cX9_unknown 61 = .ok (.iconst (-1), 1) := by decide +kernel
theorem dX9_unknown_62 : decode cX9_unknown 62 = .ok (.if_icmp .ne 12, 3) := by decide +kernel
theorem dX9_unknown_65 : decode cX9_unknown 65 = .ok (.aload_n 0, 1) := by decide +kernel
theorem dX9_unknown_66 : decode cX9_unknown 66 = .ok (.getfield 32, 3) := by decide +kernel
theorem dX9_unknown_69 : decode cX9_unknown 69 = .ok (.iload_n 1, 1) := by decide +kernel
theorem dX9_unknown_70 : decode cX9_unknown 70 = .ok (.iaload, 1) := by decide +kernel
theorem dX9_unknown_71 : decode cX9_unknown 71 = .ok (.goto 16, 3) := by decide +kernel
theorem dX9_unknown_74 : decode cX9_unknown 74 = .ok (.aload_n 0, 1) := by decide +kernel
theorem dX9_unknown_75 : decode cX9_unknown 75 = .ok (.getfield 35, 3) := by decide +kernel
theorem dX9_unknown_78 : decode cX9_unknown 78 = .ok (.aload_n 0, 1) := by decide +kernel
theorem dX9_unknown_79 : decode cX9_unknown 79 = .ok (.getfield 29, 3) := by decide +kernel
theorem dX9_unknown_82 : decode cX9_unknown 82 = .ok (.iload_n 1, 1) := by decide +kernel
theorem dX9_unknown_83 : decode cX9_unknown 83 = .ok (.iaload, 1) := by decide +kernel
theorem dX9_unknown_84 : decode cX9_unknown 84 = .ok (.iload_n 2, 1) := by decide +kernel
theorem dX9_unknown_85 : decode cX9_unknown 85 = .ok (.iadd, 1) := by decide +kernel
theorem dX9_unknown_86 : decode cX9_unknown 86 = .ok (.iaload, 1) := by decide +kernel
theorem dX9_unknown_87 : decode cX9_unknown 87 = .ok (.ireturn, 1) := by decide +kernel
theorem dX9_object_0 : decode cX9_object 0 = .ok (.iload_n 1, 1) := by decide +kernel
theorem dX9_object_1 : decode cX9_object 1 = .ok (.iconst (-1), 1) := by decide +kernel
theorem dX9_object_2 : decode cX9_object 2 = .ok (.if_icmp .eq 11, 3) := by decide +kernel
theorem dX9_object_5 : decode cX9_object 5 = .ok (.aload_n 0, 1) := by decide +kernel
theorem dX9_object_6 : decode cX9_object 6 = .ok (.iload_n 1, 1) := by decide +kernel
theorem dX9_object_7 : decode cX9_object 7 = .ok (.invokevirtual 250, 3) := by decide +kernel
theorem dX9_object_10 : decode cX9_object 10 = .ok (.ifCond .eq 7, 3) := by decide +kernel
theorem dX9_object_13 : decode cX9_object 13 = .ok (.iconst 1, 1) := by decide +kernel
theorem dX9_object_14 : decode cX9_object 14 = .ok (.goto 4, 3) := by decide +kernel
theorem dX9_object_17 : decode cX9_object 17 = .ok (.iconst 0, 1) := by decide +kernel
theorem dX9_object_18 : decode cX9_object 18 = .ok (.istore_n 3, 1) := by decide +kernel
theorem dX9_object_19 : decode cX9_object 19 = .ok (.aload_n 0, 1) := by decide +kernel
theorem dX9_object_20 : decode cX9_object 20 = .ok (.iload_n 3, 1) := by decide +kernel
theorem dX9_object_21 : decode cX9_object 21 = .ok (.ifCond .ne 7, 3) := by decide +kernel
theorem dX9_object_24 : decode cX9_object 24 = .ok (.iconst 1, 1) := by decide +kernel
theorem dX9_object_25 : decode cX9_object 25 = .ok (.goto 18, 3) := by decide +kernel
theorem dX9_object_28 : decode cX9_object 28 = .ok (.iload_n 2, 1) := by decide +kernel
theorem dX9_object_29 : decode cX9_object 29 = .ok (.ifCond .lt 9, 3) := by decide +kernel
theorem dX9_object_32 : decode cX9_object 32 = .ok (.iload_n 2, 1) := by decide +kernel
theorem dX9_object_33 : decode cX9_object 33 = .ok (.bipush 9, 2) := by decide +kernel
theorem dX9_object_35 : decode cX9_object 35 = .ok (.if_icmp .le 7, 3) := by decide +kernel
theorem dX9_object_38 : decode cX9_object 38 = .ok (.iconst 2, 1) := by decide +kernel
theorem dX9_object_39 : decode cX9_object 39 = .ok (.goto 4, 3) := by decide +kernel
theorem dX9_object_42 : decode cX9_object 42 = .ok (.iconst 0, 1) := by decide +kernel
theorem dX9_object_43 : decode cX9_object 43 = .ok (.putfield 52, 3) := by decide +kernel
theorem dX9_object_46 : decode cX9_object 46 = .ok (.aload_n 0, 1) := by decide +kernel
theorem dX9_object_47 : decode cX9_object 47 = .ok (.getfield 52, 3) := by decide +kernel
theorem dX9_object_50 : decode cX9_object 50 = .ok (.ifCond .eq 5, 3) := by decide +kernel
theorem dX9_object_53 : decode cX9_object 53 = .ok (.iconst 0, 1) := by decide +kernel
theorem dX9_object_54 : decode cX9_object 54 = .ok (.ireturn, 1) := by decide +kernel
theorem dX9_object_55 : decode cX9_object 55 = .ok (.iload_n 1, 1) := by decide +kernel
theorem dX9_object_56 : decode cX9_object 56 = .ok (.iconst (-1), 1) := by decide +kernel
theorem dX9_object_57 : decode cX9_object 57 = .ok (.if_icmp .ne 22, 3) := by decide +kernel
theorem dX9_object_60 : decode cX9_object 60 = .ok (.iload_n 2, 1) := by decide +kernel
theorem dX9_object_61 : decode cX9_object 61 = .ok (.ifCond .ne 14, 3) := by decide +kernel
theorem dX9_object_64 : decode cX9_object 64 = .ok (.aload_n 0, 1) := by decide +kernel
theorem dX9_object_65 : decode cX9_object 65 = .ok (.getfield 241, 3) := by decide +kernel
theorem dX9_object_68 : decode cX9_object 68 = .ok (.ifCond .ne 7, 3) := by decide +kernel
theorem dX9_object_71 : decode cX9_object 71 = .ok (.iconst 1, 1) := by decide +kernel
theorem dX9_object_72 : decode cX9_object 72 = .ok (.goto 31, 3) := by decide +kernel
theorem dX9_object_75 : decode cX9_object 75 = .ok (.iconst 0, 1) := by decide +kernel
theorem dX9_object_76 : decode cX9_object 76 = .ok (.goto 27, 3) := by decide +kernel
theorem dX9_object_79 : decode cX9_object 79 = .ok (.iload_n 2, 1) := by decide +kernel
theorem dX9_object_80 : decode cX9_object 80 = .ok (.bipush 9, 2) := by decide +kernel
theorem dX9_object_82 : decode cX9_object 82 = .ok (.if_icmp .eq 20, 3) := by decide +kernel
theorem dX9_object_85 : decode cX9_object 85 = .ok (.iload_n 2, 1) := by decide +kernel
theorem dX9_object_86 : decode cX9_object 86 = .ok (.aload_n 0, 1) := by decide +kernel
theorem dX9_object_87 : decode cX9_object 87 = .ok (.getfield 13, 3) := by decide +kernel
theorem dX9_object_90 : decode cX9_object 90 = .ok (.iload_n 1, 1) := by decide +kernel
theorem dX9_object_91 : decode cX9_object 91 = .ok (.iaload, 1) := by decide +kernel
theorem dX9_object_92 : decode cX9_object 92 = .ok (.invokestatic 161, 3) := by decide +kernel
theorem dX9_object_95 : decode cX9_object 95 = .ok (.ifCond .eq 7, 3) := by decide +kernel
theorem dX9_object_98 : decode cX9_object 98 = .ok (.iconst 1, 1) := by decide +kernel
theorem dX9_object_99 : decode cX9_object 99 = .ok (.goto 4, 3) := by decide +kernel
theorem dX9_object_102 : decode cX9_object 102 = .ok (.iconst 0, 1) := by decide +kernel
theorem dX9_object_103 : decode cX9_object 103 = .ok (.istore 4, 2) := by decide +kernel
theorem dX9_object_105 : decode cX9_object 105 = .ok (.iload 4, 2) := by decide +kernel
theorem dX9_object_107 : decode cX9_object 107 = .ok (.ifCond .eq 13, 3) := by decide +kernel
theorem dX9_object_110 : decode cX9_object 110 = .ok (.aload_n 0, 1) := by decide +kernel
theorem dX9_object_111 : decode cX9_object 111 = .ok (.getfield 241, 3) := by decide +kernel
theorem dX9_object_114 : decode cX9_object 114 = .ok (.sipush 200, 3) := by decide +kernel
theorem dX9_object_117 : decode cX9_object 117 = .ok (.if_icmp .ne 5, 3) := by decide +kernel
theorem dX9_object_120 : decode cX9_object 120 = .ok (.iconst (-1), 1) := by decide +kernel
theorem dX9_object_121 : decode cX9_object 121 = .ok (.ireturn, 1) := by decide +kernel
theorem dX9_object_122 : decode cX9_object 122 = .ok (.aload_n 0, 1) := by decide +kernel
theorem dX9_object_123 : decode cX9_object 123 = .ok (.aload_n 0, 1) := by decide +kernel
theorem dX9_object_124 : decode cX9_object 124 = .ok (.getfield 241, 3) := by decide +kernel
theorem dX9_object_127 : decode cX9_object 127 = .ok (.iload_n 2, 1) := by decide +kernel
theorem dX9_object_128 : decode cX9_object 128 = .ok (.invokevirtual 165, 3) := by decide +kernel
theorem dX9_object_131 : decode cX9_object 131 = .ok (.aload_n 0, 1) := by decide +kernel
theorem dX9_object_132 : decode cX9_object 132 = .ok (.getfield 16, 3) := by decide +kernel
theorem dX9_object_135 : decode cX9_object 135 = .ok (.aload_n 0, 1) := by decide +kernel
theorem dX9_object_136 : decode cX9_object 136 = .ok (.getfield 241, 3) := by decide +kernel
theorem dX9_object_139 : decode cX9_object 139 = .ok (.iload_n 1, 1) := by decide +kernel
theorem dX9_object_140 : decode cX9_object 140 = .ok (.iastore, 1) := by decide +kernel
theorem dX9_object_141 : decode cX9_object 141 = .ok (.aload_n 0, 1) := by decide +kernel
theorem dX9_object_142 : decode cX9_object 142 = .ok (.dup, 1) := by decide +kernel
theorem dX9_object_143 : decode cX9_object 143 = .ok (.getfield 241, 3) := by decide +kernel
theorem dX9_object_146 : decode cX9_object 146 = .ok (.iconst 1, 1) := by decide +kernel
theorem dX9_object_147 : decode cX9_object 147 = .ok (.iadd, 1) := by decide +kernel
theorem dX9_object_148 : decode cX9_object 148 = .ok (.putfield 241, 3) := by decide +kernel
theorem dX9_object_151 : decode cX9_object 151 = .ok (.aload_n 0, 1) := by decide +kernel
theorem dX9_object_152 : decode cX9_object 152 = .ok (.iconst 1, 1) := by decide +kernel
theorem dX9_object_153 : decode cX9_object 153 = .ok (.putfield 48, 3) := by decide +kernel
theorem dX9_object_156 : decode cX9_object 156 = .ok (.aload_n 0, 1) := by decide +kernel
theorem dX9_object_157 : decode cX9_object 157 = .ok (.getfield 241, 3) := by decide +kernel
theorem dX9_object_160 : decode cX9_object 160 = .ok (.iconst 1, 1) := by decide +kernel
theorem dX9_object_161 : decode cX9_object 161 = .ok (.isub, 1) := by decide +kernel
theorem dX9_object_162 : decode cX9_object 162 = .ok (.ireturn, 1) := by decide +kernel
theorem dX9_setText_0 : decode cX9_setText 0 = .ok (.iconst 0, 1) := by decide +kernel
theorem dX9_setText_1 : decode cX9_setText 1 = .ok (.istore 5, 2) := by decide +kernel
theorem dX9_setText_3 : decode cX9_setText 3 = .ok (.bipush 56, 2) := by decide +kernel
theorem dX9_setText_5 : decode cX9_setText 5 = .ok (.istore 6, 2) := by decide +kernel
theorem dX9_setText_7 : decode cX9_setText 7 = .ok (.iload 6, 2) := by decide +kernel
theorem dX9_setText_9 : decode cX9_setText 9 = .ok (.ifCond .lt 56, 3) := by decide +kernel
theorem dX9_setText_12 : decode cX9_setText 12 = .ok (.lload_n 3, 1) := by decide +kernel
theorem dX9_setText_13 : decode cX9_setText 13 = .ok (.iload 6, 2) := by decide +kernel
theorem dX9_setText_15 : decode cX9_setText 15 = .ok (.lshr, 1) := by decide +kernel
theorem dX9_setText_16 : decode cX9_setText 16 = .ok (.ldc2_w 256, 3) := by decide +kernel
theorem dX9_setText_19 : decode cX9_setText 19 = .ok (.land, 1) := by decide +kernel
theorem dX9_setText_20 : decode cX9_setText 20 = .ok (.l2i, 1) := by decide +kernel
theorem dX9_setText_21 : decode cX9_setText 21 = .ok (.istore 7, 2) := by decide +kernel
theorem dX9_setText_23 : decode cX9_setText 23 = .ok (.iload 7, 2) := by decide +kernel
theorem dX9_setText_25 : decode cX9_setText 25 = .ok (.ifCond .eq 19, 3) := by decide +kernel
theorem dX9_setText_28 : decode cX9_setText 28 = .ok (.iload 7, 2) := by decide +kernel
theorem dX9_setText_30 : decode cX9_setText 30 = .ok (.bipush 32, 2) := by decide +kernel
theorem dX9_setText_32 : decode cX9_setText 32 = .ok (.if_icmp .lt 10, 3) := by decide +kernel
theorem dX9_setText_35 : decode cX9_setText 35 = .ok (.iload 7, 2) := by decide +kernel
theorem dX9_setText_37 : decode cX9_setText 37 = .ok (.bipush 126, 2) := by decide +kernel
theorem dX9_setText_39 : decode cX9_setText 39 = .ok (.if_icmp .le 5, 3) := by decide +kernel
theorem dX9_setText_42 : decode cX9_setText 42 = .ok (.iconst 0, 1) := by decide +kernel
theorem dX9_setText_43 : decode cX9_setText 43 = .ok (.ireturn, 1) := by decide +kernel
theorem dX9_setText_44 : decode cX9_setText 44 = .ok (.iload 5, 2) := by decide +kernel
theorem dX9_setText_46 : decode cX9_setText 46 = .ok (.iload 7, 2) := by decide +kernel
theorem dX9_setText_48 : decode cX9_setText 48 = .ok (.ifCond .eq 7, 3) := by decide +kernel
theorem dX9_setText_51 : decode cX9_setText 51 = .ok (.iconst 1, 1) := by decide +kernel
theorem dX9_setText_52 : decode cX9_setText 52 = .ok (.goto 4, 3) := by decide +kernel
theorem dX9_setText_55 : decode cX9_setText 55 = .ok (.iconst 0, 1) := by decide +kernel
theorem dX9_setText_56 : decode cX9_setText 56 = .ok (.iadd, 1) := by decide +kernel
theorem dX9_setText_57 : decode cX9_setText 57 = .ok (.istore 5, 2) := by decide +kernel
theorem dX9_setText_59 : decode cX9_setText 59 = .ok (.iinc 6 (-8), 3) := by decide +kernel
theorem dX9_setText_62 : decode cX9_setText 62 = .ok (.goto (-55), 3) := by decide +kernel
theorem dX9_setText_65 : decode cX9_setText 65 = .ok (.aload_n 0, 1) := by decide +kernel
theorem dX9_setText_66 : decode cX9_setText 66 = .ok (.getfield 23, 3) := by decide +kernel
theorem dX9_setText_69 : decode cX9_setText 69 = .ok (.iconst 2, 1) := by decide +kernel
theorem dX9_setText_70 : decode cX9_setText 70 = .ok (.iload_n 1, 1) := by decide +kernel
theorem dX9_setText_71 : decode cX9_setText 71 = .ok (.imul, 1) := by decide +kernel
theorem dX9_setText_72 : decode cX9_setText 72 = .ok (.iload_n 2, 1) := by decide +kernel
theorem dX9_setText_73 : decode cX9_setText 73 = .ok (.iadd, 1) := by decide +kernel
theorem dX9_setText_74 : decode cX9_setText 74 = .ok (.iaload, 1) := by decide +kernel
theorem dX9_setText_75 : decode cX9_setText 75 = .ok (.istore 6, 2) := by decide +kernel
theorem dX9_setText_77 : decode cX9_setText 77 = .ok (.iload 6, 2) := by decide +kernel
theorem dX9_setText_79 : decode cX9_setText 79 = .ok (.iload 5, 2) := by decide +kernel
theorem dX9_setText_81 : decode cX9_setText 81 = .ok (.iadd, 1) := by decide +kernel
theorem dX9_setText_82 : decode cX9_setText 82 = .ok (.bipush 40, 2) := by decide +kernel
theorem dX9_setText_84 : decode cX9_setText 84 = .ok (.if_icmp .le 5, 3) := by decide +kernel
theorem dX9_setText_87 : decode cX9_setText 87 = .ok (.iconst 0, 1) := by decide +kernel
theorem dX9_setText_88 : decode cX9_setText 88 = .ok (.ireturn, 1) := by decide +kernel
theorem dX9_setText_89 : decode cX9_setText 89 = .ok (.bipush 56, 2) := by decide +kernel
theorem dX9_setText_91 : decode cX9_setText 91 = .ok (.istore 7, 2) := by decide +kernel
theorem dX9_setText_93 : decode cX9_setText 93 = .ok (.iload 7, 2) := by decide +kernel
theorem dX9_setText_95 : decode cX9_setText 95 = .ok (.ifCond .lt 50, 3) := by decide +kernel
theorem dX9_setText_98 : decode cX9_setText 98 = .ok (.lload_n 3, 1) := by decide +kernel
theorem dX9_setText_99 : decode cX9_setText 99 = .ok (.iload 7, 2) := by decide +kernel
theorem dX9_setText_101 : decode cX9_setText 101 = .ok (.lshr, 1) := by decide +kernel
theorem dX9_setText_102 : decode cX9_setText 102 = .ok (.ldc2_w 256, 3) := by decide +kernel
theorem dX9_setText_105 : decode cX9_setText 105 = .ok (.land, 1) := by decide +kernel
theorem dX9_setText_106 : decode cX9_setText 106 = .ok (.l2i, 1) := by decide +kernel
theorem dX9_setText_107 : decode cX9_setText 107 = .ok (.istore 8, 2) := by decide +kernel
theorem dX9_setText_109 : decode cX9_setText 109 = .ok (.iload 8, 2) := by decide +kernel
theorem dX9_setText_111 : decode cX9_setText 111 = .ok (.ifCond .ne 6, 3) := by decide +kernel
theorem dX9_setText_114 : decode cX9_setText 114 = .ok (.goto 25, 3) := by decide +kernel
theorem dX9_setText_117 : decode cX9_setText 117 = .ok (.aload_n 0, 1) := by decide +kernel
theorem dX9_setText_118 : decode cX9_setText 118 = .ok (.getfield 26, 3) := by decide +kernel
theorem dX9_setText_121 : decode cX9_setText 121 = .ok (.bipush 80, 2) := by decide +kernel
theorem dX9_setText_123 : decode cX9_setText 123 = .ok (.iload_n 1, 1) := by decide +kernel
theorem dX9_setText_124 : decode cX9_setText 124 = .ok (.imul, 1) := by decide +kernel
theorem dX9_setText_125 : decode cX9_setText 125 = .ok (.bipush 40, 2) := by decide +kernel
theorem dX9_setText_127 : decode cX9_setText 127 = .ok (.iload_n 2, 1) := by decide +kernel
theorem dX9_setText_128 : decode cX9_setText 128 = .ok (.imul, 1) := by decide +kernel
theorem dX9_setText_129 : decode cX9_setText 129 = .ok (.iadd, 1) := by decide +kernel
theorem dX9_setText_130 : decode cX9_setText 130 = .ok (.iload 6, 2) := by decide +kernel
theorem dX9_setText_132 : decode cX9_setText 132 = .ok (.iadd, 1) := by decide +kernel
theorem dX9_setText_133 : decode cX9_setText 133 = .ok (.iload 8, 2) := by decide +kernel
theorem dX9_setText_135 : decode cX9_setText 135 = .ok (.iastore, 1) := by decide +kernel
theorem dX9_setText_136 : decode cX9_setText 136 = .ok (.iinc 6 1, 3) := by decide +kernel
theorem dX9_setText_139 : decode cX9_setText 139 = .ok (.iinc 7 (-8), 3) := by decide +kernel
theorem dX9_setText_142 : decode cX9_setText 142 = .ok (.goto (-49), 3) := by decide +kernel
theorem dX9_setText_145 : decode cX9_setText 145 = .ok (.aload_n 0, 1) := by decide +kernel
theorem dX9_setText_146 : decode cX9_setText 146 = .ok (.getfield 23, 3) := by decide +kernel
theorem dX9_setText_149 : decode cX9_setText 149 = .ok (.iconst 2, 1) := by decide +kernel
theorem dX9_setText_150 : decode cX9_setText 150 = .ok (.iload_n 1, 1) := by decide +kernel
theorem dX9_setText_151 : decode cX9_setText 151 = .ok (.imul, 1) := by decide +kernel
theorem dX9_setText_152 : decode cX9_setText 152 = .ok (.iload_n 2, 1) := by decide +kernel
theorem dX9_setText_153 : decode cX9_setText 153 = .ok (.iadd, 1) := by decide +kernel
theorem dX9_setText_154 : decode cX9_setText 154 = .ok (.lload_n 3, 1) := by decide +kernel
theorem dX9_setText_155 : decode cX9_setText 155 = .ok (.lconst 0, 1) := by decide +kernel
theorem dX9_setText_156 : decode cX9_setText 156 = .ok (.lcmp, 1) := by decide +kernel
theorem dX9_setText_157 : decode cX9_setText 157 = .ok (.ifCond .ne 7, 3) := by decide +kernel
theorem dX9_setText_160 : decode cX9_setText 160 = .ok (.iconst 0, 1) := by decide +kernel
theorem dX9_setText_161 : decode cX9_setText 161 = .ok (.goto 5, 3) := by decide +kernel
theorem dX9_setText_164 : decode cX9_setText 164 = .ok (.iload 6, 2) := by decide +kernel
theorem dX9_setText_166 : decode cX9_setText 166 = .ok (.iastore, 1) := by decide +kernel
theorem dX9_setText_167 : decode cX9_setText 167 = .ok (.iconst 1, 1) := by decide +kernel
theorem dX9_setText_168 : decode cX9_setText 168 = .ok (.ireturn, 1) := by decide +kernel
theorem dX9_set_0 : decode cX9_set 0 = .ok (.iload_n 2, 1) := by decide +kernel
theorem dX9_set_1 : decode cX9_set 1 = .ok (.ifCond .ge 7, 3) := by decide +kernel
theorem dX9_set_4 : decode cX9_set 4 = .ok (.iconst 1, 1) := by decide +kernel
theorem dX9_set_5 : decode cX9_set 5 = .ok (.goto 4, 3) := by decide +kernel
theorem dX9_set_8 : decode cX9_set 8 = .ok (.iconst 0, 1) := by decide +kernel
theorem dX9_set_9 : decode cX9_set 9 = .ok (.istore 5, 2) := by decide +kernel
theorem dX9_set_11 : decode cX9_set 11 = .ok (.aload_n 0, 1) := by decide +kernel
theorem dX9_set_12 : decode cX9_set 12 = .ok (.iload_n 1, 1) := by decide +kernel
theorem dX9_set_13 : decode cX9_set 13 = .ok (.invokevirtual 250, 3) := by decide +kernel
theorem dX9_set_16 : decode cX9_set 16 = .ok (.ifCond .ne 7, 3) := by decide +kernel
theorem dX9_set_19 : decode cX9_set 19 = .ok (.iconst (-1), 1) := by decide +kernel
theorem dX9_set_20 : decode cX9_set 20 = .ok (.goto 26, 3) := by decide +kernel
theorem dX9_set_23 : decode cX9_set 23 = .ok (.aload_n 0, 1) := by decide +kernel
theorem dX9_set_24 : decode cX9_set 24 = .ok (.getfield 13, 3) := by decide +kernel
theorem dX9_set_27 : decode cX9_set 27 = .ok (.iload_n 1, 1) := by decide +kernel
theorem dX9_set_28 : decode cX9_set 28 = .ok (.iaload, 1) := by decide +kernel
theorem dX9_set_29 : decode cX9_set 29 = .ok (.iload 5, 2) := by decide +kernel
theorem dX9_set_31 : decode cX9_set 31 = .ok (.ifCond .eq 9, 3) := by decide +kernel
theorem dX9_set_34 : decode cX9_set 34 = .ok (.iconst (-1), 1) := by decide +kernel
theorem dX9_set_35 : decode cX9_set 35 = .ok (.iload_n 2, 1) := by decide +kernel
theorem dX9_set_36 : decode cX9_set 36 = .ok (.isub, 1) := by decide +kernel
theorem dX9_set_37 : decode cX9_set 37 = .ok (.goto 4, 3) := by decide +kernel
theorem dX9_set_40 : decode cX9_set 40 = .ok (.iload_n 2, 1) := by decide +kernel
theorem dX9_set_41 : decode cX9_set 41 = .ok (.iload 5, 2) := by decide +kernel
theorem dX9_set_43 : decode cX9_set 43 = .ok (.invokestatic 253, 3) := by decide +kernel
theorem dX9_set_46 : decode cX9_set 46 = .ok (.istore 6, 2) := by decide +kernel
theorem dX9_set_48 : decode cX9_set 48 = .ok (.aload_n 0, 1) := by decide +kernel
theorem dX9_set_49 : decode cX9_set 49 = .ok (.iload 6, 2) := by decide +kernel
theorem dX9_set_51 : decode cX9_set 51 = .ok (.iconst (-1), 1) := by decide +kernel
theorem dX9_set_52 : decode cX9_set 52 = .ok (.if_icmp .ne 7, 3) := by decide +kernel
theorem dX9_set_55 : decode cX9_set 55 = .ok (.iconst 1, 1) := by decide +kernel
theorem dX9_set_56 : decode cX9_set 56 = .ok (.goto 4, 3) := by decide +kernel
theorem dX9_set_59 : decode cX9_set 59 = .ok (.iconst 0, 1) := by decide +kernel
theorem dX9_set_60 : decode cX9_set 60 = .ok (.putfield 52, 3) := by decide +kernel
theorem dX9_set_63 : decode cX9_set 63 = .ok (.aload_n 0, 1) := by decide +kernel
theorem dX9_set_64 : decode cX9_set 64 = .ok (.getfield 52, 3) := by decide +kernel
theorem dX9_set_67 : decode cX9_set 67 = .ok (.ifCond .eq 5, 3) := by decide +kernel
theorem dX9_set_70 : decode cX9_set 70 = .ok (.iconst 0, 1) := by decide +kernel
theorem dX9_set_71 : decode cX9_set 71 = .ok (.ireturn, 1) := by decide +kernel
theorem dX9_set_72 : decode cX9_set 72 = .ok (.iload 5, 2) := by decide +kernel
theorem dX9_set_74 : decode cX9_set 74 = .ok (.ifCond .eq 15, 3) := by decide +kernel
theorem dX9_set_77 : decode cX9_set 77 = .ok (.aload_n 0, 1) := by decide +kernel
theorem dX9_set_78 : decode cX9_set 78 = .ok (.iload_n 1, 1) := by decide +kernel
theorem dX9_set_79 : decode cX9_set 79 = .ok (.iconst (-1), 1) := by decide +kernel
theorem dX9_set_80 : decode cX9_set 80 = .ok (.iload_n 2, 1) := by decide +kernel
theorem dX9_set_81 : decode cX9_set 81 = .ok (.isub, 1) := by decide +kernel
theorem dX9_set_82 : decode cX9_set 82 = .ok (.lload_n 3, 1) := by decide +kernel
theorem dX9_set_83 : decode cX9_set 83 = .ok (.invokevirtual 258, 3) := by decide +kernel
theorem dX9_set_86 : decode cX9_set 86 = .ok (.goto 40, 3) := by decide +kernel
theorem dX9_set_89 : decode cX9_set 89 = .ok (.lload_n 3, 1) := by decide +kernel
theorem dX9_set_90 : decode cX9_set 90 = .ok (.aload_n 0, 1) := by decide +kernel
theorem dX9_set_91 : decode cX9_set 91 = .ok (.getfield 13, 3) := by decide +kernel
theorem dX9_set_94 : decode cX9_set 94 = .ok (.iload_n 1, 1) := by decide +kernel
theorem dX9_set_95 : decode cX9_set 95 = .ok (.iaload, 1) := by decide +kernel
theorem dX9_set_96 : decode cX9_set 96 = .ok (.iload 6, 2) := by decide +kernel
theorem dX9_set_98 : decode cX9_set 98 = .ok (.invokestatic 131, 3) := by decide +kernel
theorem dX9_set_101 : decode cX9_set 101 = .ok (.lcmp, 1) := by decide +kernel
theorem dX9_set_102 : decode cX9_set 102 = .ok (.ifCond .lt 23, 3) := by decide +kernel
theorem dX9_set_105 : decode cX9_set 105 = .ok (.lload_n 3, 1) := by decide +kernel
theorem dX9_set_106 : decode cX9_set 106 = .ok (.aload_n 0, 1) := by decide +kernel
theorem dX9_set_107 : decode cX9_set 107 = .ok (.getfield 13, 3) := by decide +kernel
theorem dX9_set_110 : decode cX9_set 110 = .ok (.iload_n 1, 1) := by decide +kernel
theorem dX9_set_111 : decode cX9_set 111 = .ok (.iaload, 1) := by decide +kernel
theorem dX9_set_112 : decode cX9_set 112 = .ok (.iload 6, 2) := by decide +kernel
theorem dX9_set_114 : decode cX9_set 114 = .ok (.invokestatic 134, 3) := by decide +kernel
theorem dX9_set_117 : decode cX9_set 117 = .ok (.lcmp, 1) := by decide +kernel
theorem dX9_set_118 : decode cX9_set 118 = .ok (.ifCond .gt 7, 3) := by decide +kernel
theorem dX9_set_121 : decode cX9_set 121 = .ok (.iconst 1, 1) := by decide +kernel
theorem dX9_set_122 : decode cX9_set 122 = .ok (.goto 4, 3) := by decide +kernel
theorem dX9_set_125 : decode cX9_set 125 = .ok (.iconst 0, 1) := by decide +kernel
theorem dX9_set_126 : decode cX9_set 126 = .ok (.istore 7, 2) := by decide +kernel
theorem dX9_set_128 : decode cX9_set 128 = .ok (.iload 7, 2) := by decide +kernel
theorem dX9_set_130 : decode cX9_set 130 = .ok (.ifCond .eq 19, 3) := by decide +kernel
theorem dX9_set_133 : decode cX9_set 133 = .ok (.iload 5, 2) := by decide +kernel
theorem dX9_set_135 : decode cX9_set 135 = .ok (.ifCond .ne 14, 3) := by decide +kernel
theorem dX9_set_138 : decode cX9_set 138 = .ok (.aload_n 0, 1) := by decide +kernel
theorem dX9_set_139 : decode cX9_set 139 = .ok (.getfield 19, 3) := by decide +kernel
theorem dX9_set_142 : decode cX9_set 142 = .ok (.iconst 5, 1) := by decide +kernel
theorem dX9_set_143 : decode cX9_set 143 = .ok (.iload_n 1, 1) := by decide +kernel
theorem dX9_set_144 : decode cX9_set 144 = .ok (.imul, 1) := by decide +kernel
theorem dX9_set_145 : decode cX9_set 145 = .ok (.iload_n 2, 1) := by decide +kernel
theorem dX9_set_146 : decode cX9_set 146 = .ok (.iadd, 1) := by decide +kernel
theorem dX9_set_147 : decode cX9_set 147 = .ok (.lload_n 3, 1) := by decide +kernel
theorem dX9_set_148 : decode cX9_set 148 = .ok (.lastore, 1) := by decide +kernel
theorem dX9_set_149 : decode cX9_set 149 = .ok (.aload_n 0, 1) := by decide +kernel
theorem dX9_set_150 : decode cX9_set 150 = .ok (.aload_n 0, 1) := by decide +kernel
theorem dX9_set_151 : decode cX9_set 151 = .ok (.getfield 48, 3) := by decide +kernel
theorem dX9_set_154 : decode cX9_set 154 = .ok (.ifCond .ne 8, 3) := by decide +kernel
theorem dX9_set_157 : decode cX9_set 157 = .ok (.iload 7, 2) := by decide +kernel
theorem dX9_set_159 : decode cX9_set 159 = .ok (.ifCond .eq 7, 3) := by decide +kernel
theorem dX9_set_162 : decode cX9_set 162 = .ok (.iconst 1, 1) := by decide +kernel
theorem dX9_set_163 : decode cX9_set 163 = .ok (.goto 4, 3) := by decide +kernel
theorem dX9_set_166 : decode cX9_set 166 = .ok (.iconst 0, 1) := by decide +kernel
theorem dX9_set_167 : decode cX9_set 167 = .ok (.putfield 48, 3) := by decide +kernel
theorem dX9_set_170 : decode cX9_set 170 = .ok (.iload 7, 2) := by decide +kernel
theorem dX9_set_172 : decode cX9_set 172 = .ok (.ireturn, 1) := by decide +kernel
theorem dX9_depthOf_0 : decode cX9_depthOf 0 = .ok (.iconst 0, 1) := by decide +kernel
theorem dX9_depthOf_1 : decode cX9_depthOf 1 = .ok (.istore_n 2, 1) := by decide +kernel
theorem dX9_depthOf_2 : decode cX9_depthOf 2 = .ok (.aload_n 0, 1) := by decide +kernel
theorem dX9_depthOf_3 : decode cX9_depthOf 3 = .ok (.getfield 16, 3) := by decide +kernel
theorem dX9_depthOf_6 : decode cX9_depthOf 6 = .ok (.iload_n 1, 1) := by decide +kernel
theorem dX9_depthOf_7 : decode cX9_depthOf 7 = .ok (.iaload, 1) := by decide +kernel
theorem dX9_depthOf_8 : decode cX9_depthOf 8 = .ok (.istore_n 3, 1) := by decide +kernel
theorem dX9_depthOf_9 : decode cX9_depthOf 9 = .ok (.iload_n 3, 1) := by decide +kernel
theorem dX9_depthOf_10 : decode cX9_depthOf 10 = .ok (.iconst (-1), 1) := by decide +kernel
theorem dX9_depthOf_11 : decode cX9_depthOf 11 = .ok (.if_icmp .eq 16, 3) := by decide +kernel
theorem dX9_depthOf_14 : decode cX9_depthOf 14 = .ok (.iinc 2 1, 3) := by decide +kernel
theorem dX9_depthOf_17 : decode cX9_depthOf 17 = .ok (.aload_n 0, 1) := by decide +kernel
theorem dX9_depthOf_18 : decode cX9_depthOf 18 = .ok (.getfield 16, 3) := by decide +kernel
theorem dX9_depthOf_21 : decode cX9_depthOf 21 = .ok (.iload_n 3, 1) := by decide +kernel
theorem dX9_depthOf_22 : decode cX9_depthOf 22 = .ok (.iaload, 1) := by decide +kernel
theorem dX9_depthOf_23 : decode cX9_depthOf 23 = .ok (.istore_n 3, 1) := by decide +kernel
theorem dX9_depthOf_24 : decode cX9_depthOf 24 = .ok (.goto (-15), 3) := by decide +kernel
theorem dX9_depthOf_27 : decode cX9_depthOf 27 = .ok (.iload_n 2, 1) := by decide +kernel
theorem dX9_depthOf_28 : decode cX9_depthOf 28 = .ok (.ireturn, 1) := by decide +kernel
theorem dX9_depth_0 : decode cX9_depth 0 = .ok (.aload_n 0, 1) := by decide +kernel
theorem dX9_depth_1 : decode cX9_depth 1 = .ok (.iconst 0, 1) := by decide +kernel
theorem dX9_depth_2 : decode cX9_depth 2 = .ok (.putfield 52, 3) := by decide +kernel
theorem dX9_depth_5 : decode cX9_depth 5 = .ok (.iconst 0, 1) := by decide +kernel
theorem dX9_depth_6 : decode cX9_depth 6 = .ok (.istore_n 1, 1) := by decide +kernel
theorem dX9_depth_7 : decode cX9_depth 7 = .ok (.iconst 0, 1) := by decide +kernel
theorem dX9_depth_8 : decode cX9_depth 8 = .ok (.istore_n 2, 1) := by decide +kernel
theorem dX9_depth_9 : decode cX9_depth 9 = .ok (.iload_n 2, 1) := by decide +kernel
theorem dX9_depth_10 : decode cX9_depth 10 = .ok (.aload_n 0, 1) := by decide +kernel
theorem dX9_depth_11 : decode cX9_depth 11 = .ok (.getfield 241, 3) := by decide +kernel
theorem dX9_depth_14 : decode cX9_depth 14 = .ok (.if_icmp .ge 28, 3) := by decide +kernel
theorem dX9_depth_17 : decode cX9_depth 17 = .ok (.aload_n 0, 1) := by decide +kernel
theorem dX9_depth_18 : decode cX9_depth 18 = .ok (.iload_n 2, 1) := by decide +kernel
theorem dX9_depth_19 : decode cX9_depth 19 = .ok (.invokevirtual 262, 3) := by decide +kernel
theorem dX9_depth_22 : decode cX9_depth 22 = .ok (.iconst 1, 1) := by decide +kernel
theorem dX9_depth_23 : decode cX9_depth 23 = .ok (.iadd, 1) := by decide +kernel
theorem dX9_depth_24 : decode cX9_depth 24 = .ok (.istore_n 3, 1) := by decide +kernel
theorem dX9_depth_25 : decode cX9_depth 25 = .ok (.iload_n 3, 1) := by decide +kernel
theorem dX9_depth_26 : decode cX9_depth 26 = .ok (.iload_n 1, 1) := by decide +kernel
theorem dX9_depth_27 : decode cX9_depth 27 = .ok (.if_icmp .le 7, 3) := by decide +kernel
theorem dX9_depth_30 : decode cX9_depth 30 = .ok (.iload_n 3, 1) := by decide +kernel
theorem dX9_depth_31 : decode cX9_depth 31 = .ok (.goto 4, 3) := by decide +kernel
theorem dX9_depth_34 : decode cX9_depth 34 = .ok (.iload_n 1, 1) := by decide +kernel
theorem dX9_depth_35 : decode cX9_depth 35 = .ok (.istore_n 1, 1) := by decide +kernel
theorem dX9_depth_36 : decode cX9_depth 36 = .ok (.iinc 2 1, 3) := by decide +kernel
theorem dX9_depth_39 : decode cX9_depth 39 = .ok (.goto (-30), 3) := by decide +kernel
theorem dX9_depth_42 : decode cX9_depth 42 = .ok (.iload_n 1, 1) := by decide +kernel
theorem dX9_depth_43 : decode cX9_depth 43 = .ok (.ireturn, 1) := by decide +kernel
theorem dX9_say_0 : decode cX9_say 0 = .ok (.aload_n 0, 1) := by decide +kernel
theorem dX9_say_1 : decode cX9_say 1 = .ok (.getfield 45, 3) := by decide +kernel
theorem dX9_say_4 : decode cX9_say 4 = .ok (.aload_n 0, 1) := by decide +kernel
theorem dX9_say_5 : decode cX9_say 5 = .ok (.getfield 265, 3) := by decide +kernel
theorem dX9_say_8 : decode cX9_say 8 = .ok (.iload_n 1, 1) := by decide +kernel
theorem dX9_say_9 : decode cX9_say 9 = .ok (.iastore, 1) := by decide +kernel
theorem dX9_say_10 : decode cX9_say 10 = .ok (.aload_n 0, 1) := by decide +kernel
theorem dX9_say_11 : decode cX9_say 11 = .ok (.dup, 1) := by decide +kernel
theorem dX9_say_12 : decode cX9_say 12 = .ok (.getfield 265, 3) := by decide +kernel
theorem dX9_say_15 : decode cX9_say 15 = .ok (.iconst 1, 1) := by decide +kernel
theorem dX9_say_16 : decode cX9_say 16 = .ok (.iadd, 1) := by decide +kernel
theorem dX9_say_17 : decode cX9_say 17 = .ok (.putfield 265, 3) := by decide +kernel
theorem dX9_say_20 : decode cX9_say 20 = .ok (.return_, 1) := by decide +kernel
theorem dX9_sayName_0 : decode cX9_sayName 0 = .ok (.iload_n 1, 1) := by decide +kernel
theorem dX9_sayName_1 : decode cX9_sayName 1 = .ok (.invokestatic 151, 3) := by decide +kernel
theorem dX9_sayName_4 : decode cX9_sayName 4 = .ok (.lstore_n 2, 1) := by decide +kernel
theorem dX9_sayName_5 : decode cX9_sayName 5 = .ok (.lconst 1, 1) := by decide +kernel
theorem dX9_sayName_6 : decode cX9_sayName 6 = .ok (.lstore 4, 2) := by decide +kernel
theorem dX9_sayName_8 : decode cX9_sayName 8 = .ok (.lload_n 2, 1) := by decide +kernel
theorem dX9_sayName_9 : decode cX9_sayName 9 = .ok (.lload 4, 2) := by decide +kernel
theorem dX9_sayName_11 : decode cX9_sayName 11 = .ok (.ldiv, 1) := by decide +kernel
theorem dX9_sayName_12 : decode cX9_sayName 12 = .ok (.ldc2_w 66, 3) := by decide +kernel
theorem dX9_sayName_15 : decode cX9_sayName 15 = .ok (.lcmp, 1) := by decide +kernel
theorem dX9_sayName_16 : decode cX9_sayName 16 = .ok (.ifCond .lt 14, 3) := by decide +kernel
theorem dX9_sayName_19 : decode cX9_sayName 19 = .ok (.ldc2_w 66, 3) := by decide +kernel
theorem dX9_sayName_22 : decode cX9_sayName 22 = .ok (.lload 4, 2) := by decide +kernel
theorem dX9_sayName_24 : decode cX9_sayName 24 = .ok (.lmul, 1) := by decide +kernel
theorem dX9_sayName_25 : decode cX9_sayName 25 = .ok (.lstore 4, 2) := by decide +kernel
theorem dX9_sayName_27 : decode cX9_sayName 27 = .ok (.goto (-19), 3) := by decide +kernel
theorem dX9_sayName_30 : decode cX9_sayName 30 = .ok (.lload 4, 2) := by decide +kernel
theorem dX9_sayName_32 : decode cX9_sayName 32 = .ok (.lconst 0, 1) := by decide +kernel
theorem dX9_sayName_33 : decode cX9_sayName 33 = .ok (.lcmp, 1) := by decide +kernel
theorem dX9_sayName_34 : decode cX9_sayName 34 = .ok (.ifCond .le 30, 3) := by decide +kernel
theorem dX9_sayName_37 : decode cX9_sayName 37 = .ok (.aload_n 0, 1) := by decide +kernel
theorem dX9_sayName_38 : decode cX9_sayName 38 = .ok (.lload_n 2, 1) := by decide +kernel
theorem dX9_sayName_39 : decode cX9_sayName 39 = .ok (.lload 4, 2) := by decide +kernel
theorem dX9_sayName_41 : decode cX9_sayName 41 = .ok (.ldiv, 1) := by decide +kernel
theorem dX9_sayName_42 : decode cX9_sayName 42 = .ok (.ldc2_w 66, 3) := by decide +kernel
theorem dX9_sayName_45 : decode cX9_sayName 45 = .ok (.lrem, 1) := by decide +kernel
theorem dX9_sayName_46 : decode cX9_sayName 46 = .ok (.l2i, 1) := by decide +kernel
theorem dX9_sayName_47 : decode cX9_sayName 47 = .ok (.bipush 96, 2) := by decide +kernel
theorem dX9_sayName_49 : decode cX9_sayName 49 = .ok (.iadd, 1) := by decide +kernel
theorem dX9_sayName_50 : decode cX9_sayName 50 = .ok (.invokevirtual 268, 3) := by decide +kernel
theorem dX9_sayName_53 : decode cX9_sayName 53 = .ok (.lload 4, 2) := by decide +kernel
theorem dX9_sayName_55 : decode cX9_sayName 55 = .ok (.ldc2_w 66, 3) := by decide +kernel
theorem dX9_sayName_58 : decode cX9_sayName 58 = .ok (.ldiv, 1) := by decide +kernel
theorem dX9_sayName_59 : decode cX9_sayName 59 = .ok (.lstore 4, 2) := by decide +kernel
theorem dX9_sayName_61 : decode cX9_sayName 61 = .ok (.goto (-31), 3) := by decide +kernel
theorem dX9_sayName_64 : decode cX9_sayName 64 = .ok (.return_, 1) := by decide +kernel
theorem dX9_sayWhole_0 : decode cX9_sayWhole 0 = .ok (.lconst 1, 1) := by decide +kernel
theorem dX9_sayWhole_1 : decode cX9_sayWhole 1 = .ok (.lstore_n 3, 1) := by decide +kernel
theorem dX9_sayWhole_2 : decode cX9_sayWhole 2 = .ok (.lload_n 1, 1) := by decide +kernel
theorem dX9_sayWhole_3 : decode cX9_sayWhole 3 = .ok (.lload_n 3, 1) := by decide +kernel
theorem dX9_sayWhole_4 : decode cX9_sayWhole 4 = .ok (.ldiv, 1) := by decide +kernel
theorem dX9_sayWhole_5 : decode cX9_sayWhole 5 = .ok (.ldc2_w 102, 3) := by decide +kernel
theorem dX9_sayWhole_8 : decode cX9_sayWhole 8 = .ok (.lcmp, 1) := by decide +kernel
theorem dX9_sayWhole_9 : decode cX9_sayWhole 9 = .ok (.ifCond .lt 12, 3) := by decide +kernel
theorem dX9_sayWhole_12 : decode cX9_sayWhole 12 = .ok (.ldc2_w 102, 3) := by decide +kernel
theorem dX9_sayWhole_15 : decode cX9_sayWhole 15 = .ok (.lload_n 3, 1) := by decide +kernel
theorem dX9_sayWhole_16 : decode cX9_sayWhole 16 = .ok (.lmul, 1) := by decide +kernel
theorem dX9_sayWhole_17 : decode cX9_sayWhole 17 = .ok (.lstore_n 3, 1) := by decide +kernel
theorem dX9_sayWhole_18 : decode cX9_sayWhole 18 = .ok (.goto (-16), 3) := by decide +kernel
theorem dX9_sayWhole_21 : decode cX9_sayWhole 21 = .ok (.lload_n 3, 1) := by decide +kernel
theorem dX9_sayWhole_22 : decode cX9_sayWhole 22 = .ok (.lconst 0, 1) := by decide +kernel
theorem dX9_sayWhole_23 : decode cX9_sayWhole 23 = .ok (.lcmp, 1) := by decide +kernel
theorem dX9_sayWhole_24 : decode cX9_sayWhole 24 = .ok (.ifCond .le 27, 3) := by decide +kernel
theorem dX9_sayWhole_27 : decode cX9_sayWhole 27 = .ok (.aload_n 0, 1) := by decide +kernel
theorem dX9_sayWhole_28 : decode cX9_sayWhole 28 = .ok (.lload_n 1, 1) := by decide +kernel
theorem dX9_sayWhole_29 : decode cX9_sayWhole 29 = .ok (.lload_n 3, 1) := by decide +kernel
theorem dX9_sayWhole_30 : decode cX9_sayWhole 30 = .ok (.ldiv, 1) := by decide +kernel
theorem dX9_sayWhole_31 : decode cX9_sayWhole 31 = .ok (.ldc2_w 102, 3) := by decide +kernel
theorem dX9_sayWhole_34 : decode cX9_sayWhole 34 = .ok (.lrem, 1) := by decide +kernel
theorem dX9_sayWhole_35 : decode cX9_sayWhole 35 = .ok (.l2i, 1) := by decide +kernel
theorem dX9_sayWhole_36 : decode cX9_sayWhole 36 = .ok (.bipush 48, 2) := by decide +kernel
theorem dX9_sayWhole_38 : decode cX9_sayWhole 38 = .ok (.iadd, 1) := by decide +kernel
theorem dX9_sayWhole_39 : decode cX9_sayWhole 39 = .ok (.invokevirtual 268, 3) := by decide +kernel
theorem dX9_sayWhole_42 : decode cX9_sayWhole 42 = .ok (.lload_n 3, 1) := by decide +kernel
theorem dX9_sayWhole_43 : decode cX9_sayWhole 43 = .ok (.ldc2_w 102, 3) := by decide +kernel
theorem dX9_sayWhole_46 : decode cX9_sayWhole 46 = .ok (.ldiv, 1) := by decide +kernel
theorem dX9_sayWhole_47 : decode cX9_sayWhole 47 = .ok (.lstore_n 3, 1) := by decide +kernel
theorem dX9_sayWhole_48 : decode cX9_sayWhole 48 = .ok (.goto (-27), 3) := by decide +kernel
theorem dX9_sayWhole_51 : decode cX9_sayWhole 51 = .ok (.return_, 1) := by decide +kernel
theorem dX9_sayLength_0 : decode cX9_sayLength 0 = .ok (.lload_n 1, 1) := by decide +kernel
theorem dX9_sayLength_1 : decode cX9_sayLength 1 = .ok (.lconst 0, 1) := by decide +kernel
theorem dX9_sayLength_2 : decode cX9_sayLength 2 = .ok (.lcmp, 1) := by decide +kernel
theorem dX9_sayLength_3 : decode cX9_sayLength 3 = .ok (.ifCond .ge 9, 3) := by decide +kernel
theorem dX9_sayLength_6 : decode cX9_sayLength 6 = .ok (.lconst 0, 1) := by decide +kernel
theorem dX9_sayLength_7 : decode cX9_sayLength 7 = .ok (.lload_n 1, 1) := by decide +kernel
theorem dX9_sayLength_8 : decode cX9_sayLength 8 = .ok (.lsub, 1) := by decide +kernel
theorem dX9_sayLength_9 : decode cX9_sayLength 9 = .ok (.goto 4, 3) := by decide +kernel
theorem dX9_sayLength_12 : decode cX9_sayLength 12 = .ok (.lload_n 1, 1) := by decide +kernel
theorem dX9_sayLength_13 : decode cX9_sayLength 13 = .ok (.lstore_n 3, 1) := by decide +kernel
theorem dX9_sayLength_14 : decode cX9_sayLength 14 = .ok (.aload_n 0, 1) := by decide +kernel
theorem dX9_sayLength_15 : decode cX9_sayLength 15 = .ok (.lload_n 3, 1) := by decide +kernel
theorem dX9_sayLength_16 : decode cX9_sayLength 16 = .ok (.ldc2_w 113, 3) := by decide +kernel
theorem dX9_sayLength_19 : decode cX9_sayLength 19 = .ok (.ldiv, 1) := by decide +kernel
theorem dX9_sayLength_20 : decode cX9_sayLength 20 = .ok (.invokevirtual 271, 3) := by decide +kernel
theorem dX9_sayLength_23 : decode cX9_sayLength 23 = .ok (.lload_n 3, 1) := by decide +kernel
theorem dX9_sayLength_24 : decode cX9_sayLength 24 = .ok (.ldc2_w 113, 3) := by decide +kernel
theorem dX9_sayLength_27 : decode cX9_sayLength 27 = .ok (.lrem, 1) := by decide +kernel
theorem dX9_sayLength_28 : decode cX9_sayLength 28 = .ok (.lstore_n 3, 1) := by decide +kernel
theorem dX9_sayLength_29 : decode cX9_sayLength 29 = .ok (.lload_n 3, 1) := by decide +kernel
theorem dX9_sayLength_30 : decode cX9_sayLength 30 = .ok (.lconst 0, 1) := by decide +kernel
theorem dX9_sayLength_31 : decode cX9_sayLength 31 = .ok (.lcmp, 1) := by decide +kernel
theorem dX9_sayLength_32 : decode cX9_sayLength 32 = .ok (.ifCond .le 9, 3) := by decide +kernel
theorem dX9_sayLength_35 : decode cX9_sayLength 35 = .ok (.aload_n 0, 1) := by decide +kernel
theorem dX9_sayLength_36 : decode cX9_sayLength 36 = .ok (.bipush 46, 2) := by decide +kernel
theorem dX9_sayLength_38 : decode cX9_sayLength 38 = .ok (.invokevirtual 268, 3) := by decide +kernel
theorem dX9_sayLength_41 : decode cX9_sayLength 41 = .ok (.ldc2_w 275, 3) := by decide +kernel
theorem dX9_sayLength_44 : decode cX9_sayLength 44 = .ok (.lstore 5, 2) := by decide +kernel
theorem dX9_sayLength_46 : decode cX9_sayLength 46 = .ok (.lload_n 3, 1) := by decide +kernel
theorem dX9_sayLength_47 : decode cX9_sayLength 47 = .ok (.lconst 0, 1) := by decide +kernel
theorem dX9_sayLength_48 : decode cX9_sayLength 48 = .ok (.lcmp, 1) := by decide +kernel
theorem dX9_sayLength_49 : decode cX9_sayLength 49 = .ok (.ifCond .le 31, 3) := by decide +kernel
theorem dX9_sayLength_52 : decode cX9_sayLength 52 = .ok (.aload_n 0, 1) := by decide +kernel
theorem dX9_sayLength_53 : decode cX9_sayLength 53 = .ok (.lload_n 3, 1) := by decide +kernel
theorem dX9_sayLength_54 : decode cX9_sayLength 54 = .ok (.lload 5, 2) := by decide +kernel
theorem dX9_sayLength_56 : decode cX9_sayLength 56 = .ok (.ldiv, 1) := by decide +kernel
theorem dX9_sayLength_57 : decode cX9_sayLength 57 = .ok (.l2i, 1) := by decide +kernel
theorem dX9_sayLength_58 : decode cX9_sayLength 58 = .ok (.bipush 48, 2) := by decide +kernel
theorem dX9_sayLength_60 : decode cX9_sayLength 60 = .ok (.iadd, 1) := by decide +kernel
theorem dX9_sayLength_61 : decode cX9_sayLength 61 = .ok (.invokevirtual 268, 3) := by decide +kernel
theorem dX9_sayLength_64 : decode cX9_sayLength 64 = .ok (.lload_n 3, 1) := by decide +kernel
theorem dX9_sayLength_65 : decode cX9_sayLength 65 = .ok (.lload 5, 2) := by decide +kernel
theorem dX9_sayLength_67 : decode cX9_sayLength 67 = .ok (.lrem, 1) := by decide +kernel
theorem dX9_sayLength_68 : decode cX9_sayLength 68 = .ok (.lstore_n 3, 1) := by decide +kernel
theorem dX9_sayLength_69 : decode cX9_sayLength 69 = .ok (.lload 5, 2) := by decide +kernel
theorem dX9_sayLength_71 : decode cX9_sayLength 71 = .ok (.ldc2_w 102, 3) := by decide +kernel
theorem dX9_sayLength_74 : decode cX9_sayLength 74 = .ok (.ldiv, 1) := by decide +kernel
theorem dX9_sayLength_75 : decode cX9_sayLength 75 = .ok (.lstore 5, 2) := by decide +kernel
theorem dX9_sayLength_77 : decode cX9_sayLength 77 = .ok (.goto (-31), 3) := by decide +kernel
theorem dX9_sayLength_80 : decode cX9_sayLength 80 = .ok (.return_, 1) := by decide +kernel
theorem dX9_sayText_0 : decode cX9_sayText 0 = .ok (.aload_n 0, 1) := by decide +kernel
theorem dX9_sayText_1 : decode cX9_sayText 1 = .ok (.bipush 34, 2) := by decide +kernel
theorem dX9_sayText_3 : decode cX9_sayText 3 = .ok (.invokevirtual 268, 3) := by decide +kernel
theorem dX9_sayText_6 : decode cX9_sayText 6 = .ok (.iconst 0, 1) := by decide +kernel
theorem dX9_sayText_7 : decode cX9_sayText 7 = .ok (.istore_n 3, 1) := by decide +kernel
theorem dX9_sayText_8 : decode cX9_sayText 8 = .ok (.iload_n 3, 1) := by decide +kernel
theorem dX9_sayText_9 : decode cX9_sayText 9 = .ok (.aload_n 0, 1) := by decide +kernel
theorem dX9_sayText_10 : decode cX9_sayText 10 = .ok (.getfield 23, 3) := by decide +kernel
theorem dX9_sayText_13 : decode cX9_sayText 13 = .ok (.iconst 2, 1) := by decide +kernel
theorem dX9_sayText_14 : decode cX9_sayText 14 = .ok (.iload_n 1, 1) := by decide +kernel
theorem dX9_sayText_15 : decode cX9_sayText 15 = .ok (.imul, 1) := by decide +kernel
theorem dX9_sayText_16 : decode cX9_sayText 16 = .ok (.iload_n 2, 1) := by decide +kernel
theorem dX9_sayText_17 : decode cX9_sayText 17 = .ok (.iadd, 1) := by decide +kernel
theorem dX9_sayText_18 : decode cX9_sayText 18 = .ok (.iaload, 1) := by decide +kernel
theorem dX9_sayText_19 : decode cX9_sayText 19 = .ok (.if_icmp .ge 53, 3) := by decide +kernel
theorem dX9_sayText_22 : decode cX9_sayText 22 = .ok (.aload_n 0, 1) := by decide +kernel
theorem dX9_sayText_23 : decode cX9_sayText 23 = .ok (.getfield 26, 3) := by decide +kernel
theorem dX9_sayText_26 : decode cX9_sayText 26 = .ok (.bipush 80, 2) := by decide +kernel
theorem dX9_sayText_28 : decode cX9_sayText 28 = .ok (.iload_n 1, 1) := by decide +kernel
theorem dX9_sayText_29 : decode cX9_sayText 29 = .ok (.imul, 1) := by decide +kernel
theorem dX9_sayText_30 : decode cX9_sayText 30 = .ok (.bipush 40, 2) := by decide +kernel
theorem dX9_sayText_32 : decode cX9_sayText 32 = .ok (.iload_n 2, 1) := by decide +kernel
theorem dX9_sayText_33 : decode cX9_sayText 33 = .ok (.imul, 1) := by decide +kernel
theorem dX9_sayText_34 : decode cX9_sayText 34 = .ok (.iadd, 1) := by decide +kernel
theorem dX9_sayText_35 : decode cX9_sayText 35 = .ok (.iload_n 3, 1) := by decide +kernel
theorem dX9_sayText_36 : decode cX9_sayText 36 = .ok (.iadd, 1) := by decide +kernel
theorem dX9_sayText_37 : decode cX9_sayText 37 = .ok (.iaload, 1) := by decide +kernel
theorem dX9_sayText_38 : decode cX9_sayText 38 = .ok (.istore 4, 2) := by decide +kernel
theorem dX9_sayText_40 : decode cX9_sayText 40 = .ok (.iload 4, 2) := by decide +kernel
theorem dX9_sayText_42 : decode cX9_sayText 42 = .ok (.bipush 34, 2) := by decide +kernel
theorem dX9_sayText_44 : decode cX9_sayText 44 = .ok (.if_icmp .eq 10, 3) := by decide +kernel
theorem dX9_sayText_47 : decode cX9_sayText 47 = .ok (.iload 4, 2) := by decide +kernel
theorem dX9_sayText_49 : decode cX9_sayText 49 = .ok (.bipush 92, 2) := by decide +kernel
theorem dX9_sayText_51 : decode cX9_sayText 51 = .ok (.if_icmp .ne 9, 3) := by decide +kernel
theorem dX9_sayText_54 : decode cX9_sayText 54 = .ok (.aload_n 0, 1) := by decide +kernel
theorem dX9_sayText_55 : decode cX9_sayText 55 = .ok (.bipush 92, 2) := by decide +kernel
theorem dX9_sayText_57 : decode cX9_sayText 57 = .ok (.invokevirtual 268, 3) := by decide +kernel
theorem dX9_sayText_60 : decode cX9_sayText 60 = .ok (.aload_n 0, 1) := by decide +kernel
theorem dX9_sayText_61 : decode cX9_sayText 61 = .ok (.iload 4, 2) := by decide +kernel
theorem dX9_sayText_63 : decode cX9_sayText 63 = .ok (.invokevirtual 268, 3) := by decide +kernel
theorem dX9_sayText_66 : decode cX9_sayText 66 = .ok (.iinc 3 1, 3) := by decide +kernel
theorem dX9_sayText_69 : decode cX9_sayText 69 = .ok (.goto (-61), 3) := by decide +kernel
theorem dX9_sayText_72 : decode cX9_sayText 72 = .ok (.aload_n 0, 1) := by decide +kernel
theorem dX9_sayText_73 : decode cX9_sayText 73 = .ok (.bipush 34, 2) := by decide +kernel
theorem dX9_sayText_75 : decode cX9_sayText 75 = .ok (.invokevirtual 268, 3) := by decide +kernel
theorem dX9_sayText_78 : decode cX9_sayText 78 = .ok (.return_, 1) := by decide +kernel
theorem dX9_sayOwn_0 : decode cX9_sayOwn 0 = .ok (.aload_n 0, 1) := by decide +kernel
theorem dX9_sayOwn_1 : decode cX9_sayOwn 1 = .ok (.getfield 13, 3) := by decide +kernel
theorem dX9_sayOwn_4 : decode cX9_sayOwn 4 = .ok (.iload_n 1, 1) := by decide +kernel
theorem dX9_sayOwn_5 : decode cX9_sayOwn 5 = .ok (.iaload, 1) := by decide +kernel
theorem dX9_sayOwn_6 : decode cX9_sayOwn 6 = .ok (.bipush 9, 2) := by decide +kernel
theorem dX9_sayOwn_8 : decode cX9_sayOwn 8 = .ok (.if_icmp .ne 39, 3) := by decide +kernel
theorem dX9_sayOwn_11 : decode cX9_sayOwn 11 = .ok (.iconst 0, 1) := by decide +kernel
theorem dX9_sayOwn_12 : decode cX9_sayOwn 12 = .ok (.istore_n 2, 1) := by decide +kernel
theorem dX9_sayOwn_13 : decode cX9_sayOwn 13 = .ok (.iload_n 2, 1) := by decide +kernel
theorem dX9_sayOwn_14 : decode cX9_sayOwn 14 = .ok (.aload_n 0, 1) := by decide +kernel
theorem dX9_sayOwn_15 : decode cX9_sayOwn 15 = .ok (.getfield 32, 3) := by decide +kernel
theorem dX9_sayOwn_18 : decode cX9_sayOwn 18 = .ok (.iload_n 1, 1) := by decide +kernel
theorem dX9_sayOwn_19 : decode cX9_sayOwn 19 = .ok (.iaload, 1) := by decide +kernel
theorem dX9_sayOwn_20 : decode cX9_sayOwn 20 = .ok (.if_icmp .ge 26, 3) := by decide +kernel
theorem dX9_sayOwn_23 : decode cX9_sayOwn 23 = .ok (.aload_n 0, 1) := by decide +kernel
theorem dX9_sayOwn_24 : decode cX9_sayOwn 24 = .ok (.aload_n 0, 1) := by decide +kernel
theorem dX9_sayOwn_25 : decode cX9_sayOwn 25 = .ok (.getfield 35, 3) := by decide +kernel
theorem dX9_sayOwn_28 : decode cX9_sayOwn 28 = .ok (.aload_n 0, 1) := by decide +kernel
theorem dX9_sayOwn_29 : decode cX9_sayOwn 29 = .ok (.getfield 29, 3) := by decide +kernel
theorem dX9_sayOwn_32 : decode cX9_sayOwn 32 = .ok (.iload_n 1, 1) := by decide +kernel
theorem dX9_sayOwn_33 : decode cX9_sayOwn 33 = .ok (.iaload, 1) := by decide +kernel
theorem dX9_sayOwn_34 : decode cX9_sayOwn 34 = .ok (.iload_n 2, 1) := by decide +kernel
theorem dX9_sayOwn_35 : decode cX9_sayOwn 35 = .ok (.iadd, 1) := by decide +kernel
theorem dX9_sayOwn_36 : decode cX9_sayOwn 36 = .ok (.iaload, 1) := by decide +kernel
theorem dX9_sayOwn_37 : decode cX9_sayOwn 37 = .ok (.invokevirtual 268, 3) := by decide +kernel
theorem dX9_sayOwn_40 : decode cX9_sayOwn 40 = .ok (.iinc 2 1, 3) := by decide +kernel
theorem dX9_sayOwn_43 : decode cX9_sayOwn 43 = .ok (.goto (-30), 3) := by decide +kernel
theorem dX9_sayOwn_46 : decode cX9_sayOwn 46 = .ok (.return_, 1) := by decide +kernel
theorem dX9_sayOwn_47 : decode cX9_sayOwn 47 = .ok (.aload_n 0, 1) := by decide +kernel
theorem dX9_sayOwn_48 : decode cX9_sayOwn 48 = .ok (.getfield 56, 3) := by decide +kernel
theorem dX9_sayOwn_51 : decode cX9_sayOwn 51 = .ok (.ifCond .ne 9, 3) := by decide +kernel
theorem dX9_sayOwn_54 : decode cX9_sayOwn 54 = .ok (.aload_n 0, 1) := by decide +kernel
theorem dX9_sayOwn_55 : decode cX9_sayOwn 55 = .ok (.bipush 40, 2) := by decide +kernel
theorem dX9_sayOwn_57 : decode cX9_sayOwn 57 = .ok (.invokevirtual 268, 3) := by decide +kernel
theorem dX9_sayOwn_60 : decode cX9_sayOwn 60 = .ok (.aload_n 0, 1) := by decide +kernel
theorem dX9_sayOwn_61 : decode cX9_sayOwn 61 = .ok (.aload_n 0, 1) := by decide +kernel
theorem dX9_sayOwn_62 : decode cX9_sayOwn 62 = .ok (.getfield 13, 3) := by decide +kernel
theorem dX9_sayOwn_65 : decode cX9_sayOwn 65 = .ok (.iload_n 1, 1) := by decide +kernel
theorem dX9_sayOwn_66 : decode cX9_sayOwn 66 = .ok (.iaload, 1) := by decide +kernel
theorem dX9_sayOwn_67 : decode cX9_sayOwn 67 = .ok (.invokevirtual 277, 3) := by decide +kernel
theorem dX9_sayOwn_70 : decode cX9_sayOwn 70 = .ok (.aload_n 0, 1) := by decide +kernel
theorem dX9_sayOwn_71 : decode cX9_sayOwn 71 = .ok (.getfield 13, 3) := by decide +kernel
theorem dX9_sayOwn_74 : decode cX9_sayOwn 74 = .ok (.iload_n 1, 1) := by decide +kernel
theorem dX9_sayOwn_75 : decode cX9_sayOwn 75 = .ok (.iaload, 1) := by decide +kernel
theorem dX9_sayOwn_76 : decode cX9_sayOwn 76 = .ok (.ifCond .ne 15, 3) := by decide +kernel
theorem dX9_sayOwn_79 : decode cX9_sayOwn 79 = .ok (.aload_n 0, 1) := by decide +kernel
theorem dX9_sayOwn_80 : decode cX9_sayOwn 80 = .ok (.bipush 32, 2) := by decide +kernel
theorem dX9_sayOwn_82 : decode cX9_sayOwn 82 = .ok (.invokevirtual 268, 3) := by decide +kernel
theorem dX9_sayOwn_85 : decode cX9_sayOwn 85 = .ok (.aload_n 0, 1) := by decide +kernel
theorem dX9_sayOwn_86 : decode cX9_sayOwn 86 = .ok (.bipush 51, 2) := by decide +kernel
theorem dX9_sayOwn_88 : decode cX9_sayOwn 88 = .ok (.invokevirtual 268, 3) := by decide +kernel
theorem dX9_sayOwn_91 : decode cX9_sayOwn 91 = .ok (.iconst 0, 1) := by decide +kernel
theorem dX9_sayOwn_92 : decode cX9_sayOwn 92 = .ok (.istore_n 2, 1) := by decide +kernel
theorem dX9_sayOwn_93 : decode cX9_sayOwn 93 = .ok (.iconst 0, 1) := by decide +kernel
theorem dX9_sayOwn_94 : decode cX9_sayOwn 94 = .ok (.istore_n 3, 1) := by decide +kernel
theorem dX9_sayOwn_95 : decode cX9_sayOwn 95 = .ok (.iconst 0, 1) := by decide +kernel
theorem dX9_sayOwn_96 : decode cX9_sayOwn 96 = .ok (.istore 4, 2) := by decide +kernel
theorem dX9_sayOwn_98 : decode cX9_sayOwn 98 = .ok (.aload_n 0, 1) := by decide +kernel
theorem dX9_sayOwn_99 : decode cX9_sayOwn 99 = .ok (.getfield 13, 3) := by decide +kernel
theorem dX9_sayOwn_102 : decode cX9_sayOwn 102 = .ok (.iload_n 1, 1) := by decide +kernel
theorem dX9_sayOwn_103 : decode cX9_sayOwn 103 = .ok (.iaload, 1) := by decide +kernel
theorem dX9_sayOwn_104 : decode cX9_sayOwn 104 = .ok (.iload 4, 2) := by decide +kernel
theorem dX9_sayOwn_106 : decode cX9_sayOwn 106 = .ok (.invokestatic 68, 3) := by decide +kernel
theorem dX9_sayOwn_109 : decode cX9_sayOwn 109 = .ok (.ifCond .eq 109, 3) := by decide +kernel
theorem dX9_sayOwn_112 : decode cX9_sayOwn 112 = .ok (.aload_n 0, 1) := by decide +kernel
theorem dX9_sayOwn_113 : decode cX9_sayOwn 113 = .ok (.bipush 32, 2) := by decide +kernel
theorem dX9_sayOwn_115 : decode cX9_sayOwn 115 = .ok (.invokevirtual 268, 3) := by decide +kernel
theorem dX9_sayOwn_118 : decode cX9_sayOwn 118 = .ok (.aload_n 0, 1) := by decide +kernel
theorem dX9_sayOwn_119 : decode cX9_sayOwn 119 = .ok (.getfield 13, 3) := by decide +kernel
theorem dX9_sayOwn_122 : decode cX9_sayOwn 122 = .ok (.iload_n 1, 1) := by decide +kernel
theorem dX9_sayOwn_123 : decode cX9_sayOwn 123 = .ok (.iaload, 1) := by decide +kernel
theorem dX9_sayOwn_124 : decode cX9_sayOwn 124 = .ok (.iload 4, 2) := by decide +kernel
theorem dX9_sayOwn_126 : decode cX9_sayOwn 126 = .ok (.invokestatic 68, 3) := by decide +kernel
theorem dX9_sayOwn_129 : decode cX9_sayOwn 129 = .ok (.istore 5, 2) := by decide +kernel
theorem dX9_sayOwn_131 : decode cX9_sayOwn 131 = .ok (.iload 5, 2) := by decide +kernel
theorem dX9_sayOwn_133 : decode cX9_sayOwn 133 = .ok (.iconst 3, 1) := by decide +kernel
theorem dX9_sayOwn_134 : decode cX9_sayOwn 134 = .ok (.if_icmp .ne 15, 3) := by decide +kernel
theorem dX9_sayOwn_137 : decode cX9_sayOwn 137 = .ok (.aload_n 0, 1) := by decide +kernel
theorem dX9_sayOwn_138 : decode cX9_sayOwn 138 = .ok (.iload_n 1, 1) := by decide +kernel
theorem dX9_sayOwn_139 : decode cX9_sayOwn 139 = .ok (.iload_n 3, 1) := by decide +kernel
theorem dX9_sayOwn_140 : decode cX9_sayOwn 140 = .ok (.invokevirtual 280, 3) := by decide +kernel
theorem dX9_sayOwn_143 : decode cX9_sayOwn 143 = .ok (.iinc 3 1, 3) := by decide +kernel
theorem dX9_sayOwn_146 : decode cX9_sayOwn 146 = .ok (.goto 66, 3) := by decide +kernel
theorem dX9_sayOwn_149 : decode cX9_sayOwn 149 = .ok (.aload_n 0, 1) := by decide +kernel
theorem dX9_sayOwn_150 : decode cX9_sayOwn 150 = .ok (.getfield 19, 3) := by decide +kernel
theorem dX9_sayOwn_153 : decode cX9_sayOwn 153 = .ok (.iconst 5, 1) := by decide +kernel
theorem dX9_sayOwn_154 : decode cX9_sayOwn 154 = .ok (.iload_n 1, 1) := by decide +kernel
theorem dX9_sayOwn_155 : decode cX9_sayOwn 155 = .ok (.imul, 1) := by decide +kernel
theorem dX9_sayOwn_156 : decode cX9_sayOwn 156 = .ok (.iload_n 2, 1) := by decide +kernel
theorem dX9_sayOwn_157 : decode cX9_sayOwn 157 = .ok (.iadd, 1) := by decide +kernel
theorem dX9_sayOwn_158 : decode cX9_sayOwn 158 = .ok (.laload, 1) := by decide +kernel
theorem dX9_sayOwn_159 : decode cX9_sayOwn 159 = .ok (.lstore 6, 2) := by decide +kernel
theorem dX9_sayOwn_161 : decode cX9_sayOwn 161 = .ok (.lload 6, 2) := by decide +kernel
theorem dX9_sayOwn_163 : decode cX9_sayOwn 163 = .ok (.lconst 0, 1) := by decide +kernel
theorem dX9_sayOwn_164 : decode cX9_sayOwn 164 = .ok (.lcmp, 1) := by decide +kernel
theorem dX9_sayOwn_165 : decode cX9_sayOwn 165 = .ok (.ifCond .ge 9, 3) := by decide +kernel
theorem dX9_sayOwn_168 : decode cX9_sayOwn 168 = .ok (.aload_n 0, 1) := by decide +kernel
theorem dX9_sayOwn_169 : decode cX9_sayOwn 169 = .ok (.bipush 45, 2) := by decide +kernel
theorem dX9_sayOwn_171 : decode cX9_sayOwn 171 = .ok (.invokevirtual 268, 3) := by decide +kernel
theorem dX9_sayOwn_174 : decode cX9_sayOwn 174 = .ok (.iload 5, 2) := by decide +kernel
theorem dX9_sayOwn_176 : decode cX9_sayOwn 176 = .ok (.iconst 1, 1) := by decide +kernel
theorem dX9_sayOwn_177 : decode cX9_sayOwn 177 = .ok (.if_icmp .ne 12, 3) := by decide +kernel
theorem dX9_sayOwn_180 : decode cX9_sayOwn 180 = .ok (.aload_n 0, 1) := by decide +kernel
theorem dX9_sayOwn_181 : decode cX9_sayOwn 181 = .ok (.lload 6, 2) := by decide +kernel
theorem dX9_sayOwn_183 : decode cX9_sayOwn 183 = .ok (.invokevirtual 283, 3) := by decide +kernel
theorem dX9_sayOwn_186 : decode cX9_sayOwn 186 = .ok (.goto 23, 3) := by decide +kernel
theorem dX9_sayOwn_189 : decode cX9_sayOwn 189 = .ok (.aload_n 0, 1) := by decide +kernel
theorem dX9_sayOwn_190 : decode cX9_sayOwn 190 = .ok (.lload 6, 2) := by decide +kernel
theorem dX9_sayOwn_192 : decode cX9_sayOwn 192 = .ok (.lconst 0, 1) := by decide +kernel
theorem dX9_sayOwn_193 : decode cX9_sayOwn 193 = .ok (.lcmp, 1) := by decide +kernel
theorem dX9_sayOwn_194 : decode cX9_sayOwn 194 = .ok (.ifCond .ge 10, 3) := by decide +kernel
theorem dX9_sayOwn_197 : decode cX9_sayOwn 197 = .ok (.lconst 0, 1) := by decide +kernel
theorem dX9_sayOwn_198 : decode cX9_sayOwn 198 = .ok (.lload 6, 2) := by decide +kernel
theorem dX9_sayOwn_200 : decode cX9_sayOwn 200 = .ok (.lsub, 1) := by decide +kernel
theorem dX9_sayOwn_201 : decode cX9_sayOwn 201 = .ok (.goto 5, 3) := by decide +kernel
theorem dX9_sayOwn_204 : decode cX9_sayOwn 204 = .ok (.lload 6, 2) := by decide +kernel
theorem dX9_sayOwn_206 : decode cX9_sayOwn 206 = .ok (.invokevirtual 271, 3) := by decide +kernel
theorem dX9_sayOwn_209 : decode cX9_sayOwn 209 = .ok (.iinc 2 1, 3) := by decide +kernel
theorem dX9_sayOwn_212 : decode cX9_sayOwn 212 = .ok (.iinc 4 1, 3) := by decide +kernel
theorem dX9_sayOwn_215 : decode cX9_sayOwn 215 = .ok (.goto (-117), 3) := by decide +kernel
theorem dX9_sayOwn_218 : decode cX9_sayOwn 218 = .ok (.return_, 1) := by decide +kernel
theorem dX9_childFrom_0 : decode cX9_childFrom 0 = .ok (.iload_n 2, 1) := by decide +kernel
theorem dX9_childFrom_1 : decode cX9_childFrom 1 = .ok (.istore_n 3, 1) := by decide +kernel
theorem dX9_childFrom_2 : decode cX9_childFrom 2 = .ok (.iload_n 3, 1) := by decide +kernel
theorem dX9_childFrom_3 : decode cX9_childFrom 3 = .ok (.aload_n 0, 1) := by decide +kernel
theorem dX9_childFrom_4 : decode cX9_childFrom 4 = .ok (.getfield 241, 3) := by decide +kernel
theorem dX9_childFrom_7 : decode cX9_childFrom 7 = .ok (.if_icmp .ge 21, 3) := by decide +kernel
theorem dX9_childFrom_10 : decode cX9_childFrom 10 = .ok (.aload_n 0, 1) := by decide +kernel
theorem dX9_childFrom_11 : decode cX9_childFrom 11 = .ok (.getfield 16, 3) := by decide +kernel
theorem dX9_childFrom_14 : decode cX9_childFrom 14 = .ok (.iload_n 3, 1) := by decide +kernel
theorem dX9_childFrom_15 : decode cX9_childFrom 15 = .ok (.iaload, 1) := by decide +kernel
theorem dX9_childFrom_16 : decode cX9_childFrom 16 = .ok (.iload_n 1, 1) := by decide +kernel
theorem dX9_childFrom_17 : decode cX9_childFrom 17 = .ok (.if_icmp .ne 5, 3) := by decide +kernel
theorem dX9_childFrom_20 : decode cX9_childFrom 20 = .ok (.iload_n 3, 1) := by decide +kernel
theorem dX9_childFrom_21 : decode cX9_childFrom 21 = .ok (.ireturn, 1) := by decide +kernel
theorem dX9_childFrom_22 : decode cX9_childFrom 22 = .ok (.iinc 3 1, 3) := by decide +kernel
theorem dX9_childFrom_25 : decode cX9_childFrom 25 = .ok (.goto (-23), 3) := by decide +kernel
theorem dX9_childFrom_28 : decode cX9_childFrom 28 = .ok (.iconst (-1), 1) := by decide +kernel
theorem dX9_childFrom_29 : decode cX9_childFrom 29 = .ok (.ireturn, 1) := by decide +kernel
theorem dX9_sayAhead_0 : decode cX9_sayAhead 0 = .ok (.iconst 0, 1) := by decide +kernel
theorem dX9_sayAhead_1 : decode cX9_sayAhead 1 = .ok (.istore_n 2, 1) := by decide +kernel
theorem dX9_sayAhead_2 : decode cX9_sayAhead 2 = .ok (.iload_n 2, 1) := by decide +kernel
theorem dX9_sayAhead_3 : decode cX9_sayAhead 3 = .ok (.iload_n 1, 1) := by decide +kernel
theorem dX9_sayAhead_4 : decode cX9_sayAhead 4 = .ok (.if_icmp .ge 27, 3) := by decide +kernel
theorem dX9_sayAhead_7 : decode cX9_sayAhead 7 = .ok (.aload_n 0, 1) := by decide +kernel
theorem dX9_sayAhead_8 : decode cX9_sayAhead 8 = .ok (.aload_n 0, 1) := by decide +kernel
theorem dX9_sayAhead_9 : decode cX9_sayAhead 9 = .ok (.getfield 56, 3) := by decide +kernel
theorem dX9_sayAhead_12 : decode cX9_sayAhead 12 = .ok (.ifCond .ne 8, 3) := by decide +kernel
theorem dX9_sayAhead_15 : decode cX9_sayAhead 15 = .ok (.bipush 32, 2) := by decide +kernel
theorem dX9_sayAhead_17 : decode cX9_sayAhead 17 = .ok (.goto 5, 3) := by decide +kernel
theorem dX9_sayAhead_20 : decode cX9_sayAhead 20 = .ok (.bipush 46, 2) := by decide +kernel
theorem dX9_sayAhead_22 : decode cX9_sayAhead 22 = .ok (.invokevirtual 268, 3) := by decide +kernel
theorem dX9_sayAhead_25 : decode cX9_sayAhead 25 = .ok (.iinc 2 1, 3) := by decide +kernel
theorem dX9_sayAhead_28 : decode cX9_sayAhead 28 = .ok (.goto (-26), 3) := by decide +kernel
theorem dX9_sayAhead_31 : decode cX9_sayAhead 31 = .ok (.return_, 1) := by decide +kernel
theorem dX9_writeAll_0 : decode cX9_writeAll 0 = .ok (.aload_n 0, 1) := by decide +kernel
theorem dX9_writeAll_1 : decode cX9_writeAll 1 = .ok (.iconst 0, 1) := by decide +kernel
theorem dX9_writeAll_2 : decode cX9_writeAll 2 = .ok (.putfield 265, 3) := by decide +kernel
theorem dX9_writeAll_5 : decode cX9_writeAll 5 = .ok (.iconst 0, 1) := by decide +kernel
theorem dX9_writeAll_6 : decode cX9_writeAll 6 = .ok (.istore_n 1, 1) := by decide +kernel
theorem dX9_writeAll_7 : decode cX9_writeAll 7 = .ok (.iconst 0, 1) := by decide +kernel
theorem dX9_writeAll_8 : decode cX9_writeAll 8 = .ok (.istore_n 2, 1) := by decide +kernel
theorem dX9_writeAll_9 : decode cX9_writeAll 9 = .ok (.aload_n 0, 1) := by decide +kernel
theorem dX9_writeAll_10 : decode cX9_writeAll 10 = .ok (.iconst 0, 1) := by decide +kernel
theorem dX9_writeAll_11 : decode cX9_writeAll 11 = .ok (.invokevirtual 286, 3) := by decide +kernel
theorem dX9_writeAll_14 : decode cX9_writeAll 14 = .ok (.iconst 1, 1) := by decide +kernel
theorem dX9_writeAll_15 : decode cX9_writeAll 15 = .ok (.istore_n 3, 1) := by decide +kernel
theorem dX9_writeAll_16 : decode cX9_writeAll 16 = .ok (.iload_n 1, 1) := by decide +kernel
theorem dX9_writeAll_17 : decode cX9_writeAll 17 = .ok (.iconst (-1), 1) := by decide +kernel
theorem dX9_writeAll_18 : decode cX9_writeAll 18 = .ok (.if_icmp .eq 89, 3) := by decide +kernel
theorem dX9_writeAll_21 : decode cX9_writeAll 21 = .ok (.aload_n 0, 1) := by decide +kernel
theorem dX9_writeAll_22 : decode cX9_writeAll 22 = .ok (.iload_n 1, 1) := by decide +kernel
theorem dX9_writeAll_23 : decode cX9_writeAll 23 = .ok (.iload_n 3, 1) := by decide +kernel
theorem dX9_writeAll_24 : decode cX9_writeAll 24 = .ok (.invokevirtual 289, 3) := by decide +kernel
theorem dX9_writeAll_27 : decode cX9_writeAll 27 = .ok (.istore 4, 2) := by decide +kernel
theorem dX9_writeAll_29 : decode cX9_writeAll 29 = .ok (.iload 4, 2) := by decide +kernel
theorem dX9_writeAll_31 : decode cX9_writeAll 31 = .ok (.iconst (-1), 1) := by decide +kernel
theorem dX9_writeAll_32 : decode cX9_writeAll 32 = .ok (.if_icmp .eq 34, 3) := by decide +kernel
theorem dX9_writeAll_35 : decode cX9_writeAll 35 = .ok (.aload_n 0, 1) := by decide +kernel
theorem dX9_writeAll_36 : decode cX9_writeAll 36 = .ok (.bipush 10, 2) := by decide +kernel
theorem dX9_writeAll_38 : decode cX9_writeAll 38 = .ok (.invokevirtual 268, 3) := by decide +kernel
theorem dX9_writeAll_41 : decode cX9_writeAll 41 = .ok (.iinc 2 1, 3) := by decide +kernel
theorem dX9_writeAll_44 : decode cX9_writeAll 44 = .ok (.aload_n 0, 1) := by decide +kernel
theorem dX9_writeAll_45 : decode cX9_writeAll 45 = .ok (.iload_n 2, 1) := by decide +kernel
theorem dX9_writeAll_46 : decode cX9_writeAll 46 = .ok (.invokevirtual 292, 3) := by decide +kernel
theorem dX9_writeAll_49 : decode cX9_writeAll 49 = .ok (.aload_n 0, 1) := by decide +kernel
theorem dX9_writeAll_50 : decode cX9_writeAll 50 = .ok (.iload 4, 2) := by decide +kernel
theorem dX9_writeAll_52 : decode cX9_writeAll 52 = .ok (.invokevirtual 286, 3) := by decide +kernel
theorem dX9_writeAll_55 : decode cX9_writeAll 55 = .ok (.iload 4, 2) := by decide +kernel
theorem dX9_writeAll_57 : decode cX9_writeAll 57 = .ok (.istore_n 1, 1) := by decide +kernel
theorem dX9_writeAll_58 : decode cX9_writeAll 58 = .ok (.iload 4, 2) := by decide +kernel
theorem dX9_writeAll_60 : decode cX9_writeAll 60 = .ok (.iconst 1, 1) := by decide +kernel
theorem dX9_writeAll_61 : decode cX9_writeAll 61 = .ok (.iadd, 1) := by decide +kernel
theorem dX9_writeAll_62 : decode cX9_writeAll 62 = .ok (.istore_n 3, 1) := by decide +kernel
theorem dX9_writeAll_63 : decode cX9_writeAll 63 = .ok (.goto 41, 3) := by decide +kernel
theorem dX9_writeAll_66 : decode cX9_writeAll 66 = .ok (.aload_n 0, 1) := by decide +kernel
theorem dX9_writeAll_67 : decode cX9_writeAll 67 = .ok (.getfield 56, 3) := by decide +kernel
theorem dX9_writeAll_70 : decode cX9_writeAll 70 = .ok (.ifCond .ne 20, 3) := by decide +kernel
theorem dX9_writeAll_73 : decode cX9_writeAll 73 = .ok (.aload_n 0, 1) := by decide +kernel
theorem dX9_writeAll_74 : decode cX9_writeAll 74 = .ok (.getfield 13, 3) := by decide +kernel
theorem dX9_writeAll_77 : decode cX9_writeAll 77 = .ok (.iload_n 1, 1) := by decide +kernel
theorem dX9_writeAll_78 : decode cX9_writeAll 78 = .ok (.iaload, 1) := by decide +kernel
theorem dX9_writeAll_79 : decode cX9_writeAll 79 = .ok (.bipush 9, 2) := by decide +kernel
theorem dX9_writeAll_81 : decode cX9_writeAll 81 = .ok (.if_icmp .eq 9, 3) := by decide +kernel
theorem dX9_writeAll_84 : decode cX9_writeAll 84 = .ok (.aload_n 0, 1) := by decide +kernel
theorem dX9_writeAll_85 : decode cX9_writeAll 85 = .ok (.bipush 41, 2) := by decide +kernel
theorem dX9_writeAll_87 : decode cX9_writeAll 87 = .ok (.invokevirtual 268, 3) := by decide +kernel
theorem dX9_writeAll_90 : decode cX9_writeAll 90 = .ok (.iload_n 1, 1) := by decide +kernel
theorem dX9_writeAll_91 : decode cX9_writeAll 91 = .ok (.iconst 1, 1) := by decide +kernel
theorem dX9_writeAll_92 : decode cX9_writeAll 92 = .ok (.iadd, 1) := by decide +kernel
theorem dX9_writeAll_93 : decode cX9_writeAll 93 = .ok (.istore_n 3, 1) := by decide +kernel
theorem dX9_writeAll_94 : decode cX9_writeAll 94 = .ok (.aload_n 0, 1) := by decide +kernel
theorem dX9_writeAll_95 : decode cX9_writeAll 95 = .ok (.getfield 16, 3) := by decide +kernel
theorem dX9_writeAll_98 : decode cX9_writeAll 98 = .ok (.iload_n 1, 1) := by decide +kernel
theorem dX9_writeAll_99 : decode cX9_writeAll 99 = .ok (.iaload, 1) := by decide +kernel
theorem dX9_writeAll_100 : decode cX9_writeAll 100 = .ok (.istore_n 1, 1) := by decide +kernel
theorem dX9_writeAll_101 : decode cX9_writeAll 101 = .ok (.iinc 2 (-1), 3) := by decide +kernel
theorem dX9_writeAll_104 : decode cX9_writeAll 104 = .ok (.goto (-88), 3) := by decide +kernel
theorem dX9_writeAll_107 : decode cX9_writeAll 107 = .ok (.aload_n 0, 1) := by decide +kernel
theorem dX9_writeAll_108 : decode cX9_writeAll 108 = .ok (.bipush 10, 2) := by decide +kernel
theorem dX9_writeAll_110 : decode cX9_writeAll 110 = .ok (.invokevirtual 268, 3) := by decide +kernel
theorem dX9_writeAll_113 : decode cX9_writeAll 113 = .ok (.aload_n 0, 1) := by decide +kernel
theorem dX9_writeAll_114 : decode cX9_writeAll 114 = .ok (.iconst 0, 1) := by decide +kernel
theorem dX9_writeAll_115 : decode cX9_writeAll 115 = .ok (.putfield 48, 3) := by decide +kernel
theorem dX9_writeAll_118 : decode cX9_writeAll 118 = .ok (.return_, 1) := by decide +kernel
theorem dX9_write_0 : decode cX9_write 0 = .ok (.aload_n 0, 1) := by decide +kernel
theorem dX9_write_1 : decode cX9_write 1 = .ok (.iload_n 1, 1) := by decide +kernel
theorem dX9_write_2 : decode cX9_write 2 = .ok (.ifCond .ge 7, 3) := by decide +kernel
theorem dX9_write_5 : decode cX9_write 5 = .ok (.iconst 1, 1) := by decide +kernel
theorem dX9_write_6 : decode cX9_write 6 = .ok (.goto 15, 3) := by decide +kernel
theorem dX9_write_9 : decode cX9_write 9 = .ok (.aload_n 0, 1) := by decide +kernel
theorem dX9_write_10 : decode cX9_write 10 = .ok (.getfield 241, 3) := by decide +kernel
theorem dX9_write_13 : decode cX9_write 13 = .ok (.ifCond .ne 7, 3) := by decide +kernel
theorem dX9_write_16 : decode cX9_write 16 = .ok (.iconst 2, 1) := by decide +kernel
theorem dX9_write_17 : decode cX9_write 17 = .ok (.goto 4, 3) := by decide +kernel
theorem dX9_write_20 : decode cX9_write 20 = .ok (.iconst 0, 1) := by decide +kernel
theorem dX9_write_21 : decode cX9_write 21 = .ok (.putfield 52, 3) := by decide +kernel
theorem dX9_write_24 : decode cX9_write 24 = .ok (.aload_n 0, 1) := by decide +kernel
theorem dX9_write_25 : decode cX9_write 25 = .ok (.getfield 52, 3) := by decide +kernel
theorem dX9_write_28 : decode cX9_write 28 = .ok (.ifCond .eq 5, 3) := by decide +kernel
theorem dX9_write_31 : decode cX9_write 31 = .ok (.iconst 0, 1) := by decide +kernel
theorem dX9_write_32 : decode cX9_write 32 = .ok (.ireturn, 1) := by decide +kernel
theorem dX9_write_33 : decode cX9_write 33 = .ok (.aload_n 0, 1) := by decide +kernel
theorem dX9_write_34 : decode cX9_write 34 = .ok (.getfield 48, 3) := by decide +kernel
theorem dX9_write_37 : decode cX9_write 37 = .ok (.ifCond .eq 7, 3) := by decide +kernel
theorem dX9_write_40 : decode cX9_write 40 = .ok (.aload_n 0, 1) := by decide +kernel
theorem dX9_write_41 : decode cX9_write 41 = .ok (.invokevirtual 295, 3) := by decide +kernel
theorem dX9_write_44 : decode cX9_write 44 = .ok (.iload_n 1, 1) := by decide +kernel
theorem dX9_write_45 : decode cX9_write 45 = .ok (.aload_n 0, 1) := by decide +kernel
theorem dX9_write_46 : decode cX9_write 46 = .ok (.getfield 265, 3) := by decide +kernel
theorem dX9_write_49 : decode cX9_write 49 = .ok (.if_icmp .ge 12, 3) := by decide +kernel
theorem dX9_write_52 : decode cX9_write 52 = .ok (.aload_n 0, 1) := by decide +kernel
theorem dX9_write_53 : decode cX9_write 53 = .ok (.getfield 45, 3) := by decide +kernel
theorem dX9_write_56 : decode cX9_write 56 = .ok (.iload_n 1, 1) := by decide +kernel
theorem dX9_write_57 : decode cX9_write 57 = .ok (.iaload, 1) := by decide +kernel
theorem dX9_write_58 : decode cX9_write 58 = .ok (.goto 4, 3) := by decide +kernel
theorem dX9_write_61 : decode cX9_write 61 = .ok (.iconst (-1), 1) := by decide +kernel
theorem dX9_write_62 : decode cX9_write 62 = .ok (.ireturn, 1) := by decide +kernel

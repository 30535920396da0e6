theorem dX9_init_0 : decode cX9_init 0 = .ok (.aload_n 0, 1) := by decide +kernel
theorem dX9_init_1 : decode cX9_init 1 = .ok (.invokespecial 1, 3) := by decide +kernel
theorem dX9_init_4 : decode cX9_init 4 = .ok (.aload_n 0, 1) := by decide +kernel
theorem dX9_init_5 : decode cX9_init 5 = .ok (.sipush 4000, 3) := by decide +kernel
theorem dX9_init_8 : decode cX9_init 8 = .ok (.newarray .int, 2) := by decide +kernel
theorem dX9_init_10 : decode cX9_init 10 = .ok (.putfield 7, 3) := by decide +kernel
theorem dX9_init_13 : decode cX9_init 13 = .ok (.aload_n 0, 1) := by decide +kernel
theorem dX9_init_14 : decode cX9_init 14 = .ok (.sipush 200, 3) := by decide +kernel
theorem dX9_init_17 : decode cX9_init 17 = .ok (.newarray .int, 2) := by decide +kernel
theorem dX9_init_19 : decode cX9_init 19 = .ok (.putfield 13, 3) := by decide +kernel
theorem dX9_init_22 : decode cX9_init 22 = .ok (.aload_n 0, 1) := by decide +kernel
theorem dX9_init_23 : decode cX9_init 23 = .ok (.sipush 200, 3) := by decide +kernel
theorem dX9_init_26 : decode cX9_init 26 = .ok (.newarray .int, 2) := by decide +kernel
theorem dX9_init_28 : decode cX9_init 28 = .ok (.putfield 16, 3) := by decide +kernel
theorem dX9_init_31 : decode cX9_init 31 = .ok (.aload_n 0, 1) := by decide +kernel
theorem dX9_init_32 : decode cX9_init 32 = .ok (.sipush 1000, 3) := by decide +kernel
theorem dX9_init_35 : decode cX9_init 35 = .ok (.newarray .long, 2) := by decide +kernel
theorem dX9_init_37 : decode cX9_init 37 = .ok (.putfield 19, 3) := by decide +kernel
theorem dX9_init_40 : decode cX9_init 40 = .ok (.aload_n 0, 1) := by decide +kernel
theorem dX9_init_41 : decode cX9_init 41 = .ok (.sipush 400, 3) := by decide +kernel
theorem dX9_init_44 : decode cX9_init 44 = .ok (.newarray .int, 2) := by decide +kernel
theorem dX9_init_46 : decode cX9_init 46 = .ok (.putfield 23, 3) := by decide +kernel
theorem dX9_init_49 : decode cX9_init 49 = .ok (.aload_n 0, 1) := by decide +kernel
theorem dX9_init_50 : decode cX9_init 50 = .ok (.sipush 16000, 3) := by decide +kernel
theorem dX9_init_53 : decode cX9_init 53 = .ok (.newarray .int, 2) := by decide +kernel
theorem dX9_init_55 : decode cX9_init 55 = .ok (.putfield 26, 3) := by decide +kernel
theorem dX9_init_58 : decode cX9_init 58 = .ok (.aload_n 0, 1) := by decide +kernel
theorem dX9_init_59 : decode cX9_init 59 = .ok (.sipush 200, 3) := by decide +kernel
theorem dX9_init_62 : decode cX9_init 62 = .ok (.newarray .int, 2) := by decide +kernel
theorem dX9_init_64 : decode cX9_init 64 = .ok (.putfield 29, 3) := by decide +kernel
theorem dX9_init_67 : decode cX9_init 67 = .ok (.aload_n 0, 1) := by decide +kernel
theorem dX9_init_68 : decode cX9_init 68 = .ok (.sipush 200, 3) := by decide +kernel
theorem dX9_init_71 : decode cX9_init 71 = .ok (.newarray .int, 2) := by decide +kernel
theorem dX9_init_73 : decode cX9_init 73 = .ok (.putfield 32, 3) := by decide +kernel
theorem dX9_init_76 : decode cX9_init 76 = .ok (.aload_n 0, 1) := by decide +kernel
theorem dX9_init_77 : decode cX9_init 77 = .ok (.sipush 2000, 3) := by decide +kernel
theorem dX9_init_80 : decode cX9_init 80 = .ok (.newarray .int, 2) := by decide +kernel
theorem dX9_init_82 : decode cX9_init 82 = .ok (.putfield 35, 3) := by decide +kernel
theorem dX9_init_85 : decode cX9_init 85 = .ok (.aload_n 0, 1) := by decide +kernel
theorem dX9_init_86 : decode cX9_init 86 = .ok (.sipush 201, 3) := by decide +kernel
theorem dX9_init_89 : decode cX9_init 89 = .ok (.newarray .int, 2) := by decide +kernel
theorem dX9_init_91 : decode cX9_init 91 = .ok (.putfield 38, 3) := by decide +kernel
theorem dX9_init_94 : decode cX9_init 94 = .ok (.aload_n 0, 1) := by decide +kernel
theorem dX9_init_95 : decode cX9_init 95 = .ok (.sipush 201, 3) := by decide +kernel
theorem dX9_init_98 : decode cX9_init 98 = .ok (.newarray .int, 2) := by decide +kernel
theorem dX9_init_100 : decode cX9_init 100 = .ok (.putfield 41, 3) := by decide +kernel
theorem dX9_init_103 : decode cX9_init 103 = .ok (.aload_n 0, 1) := by decide +kernel
theorem dX9_init_104 : decode cX9_init 104 = .ok (.ldc 44, 2) := by decide +kernel
theorem dX9_init_106 : decode cX9_init 106 = .ok (.newarray .int, 2) := by decide +kernel
theorem dX9_init_108 : decode cX9_init 108 = .ok (.putfield 45, 3) := by decide +kernel
theorem dX9_init_111 : decode cX9_init 111 = .ok (.aload_n 0, 1) := by decide +kernel
theorem dX9_init_112 : decode cX9_init 112 = .ok (.iconst 1, 1) := by decide +kernel
theorem dX9_init_113 : decode cX9_init 113 = .ok (.putfield 48, 3) := by decide +kernel
theorem dX9_init_116 : decode cX9_init 116 = .ok (.aload_n 0, 1) := by decide +kernel
theorem dX9_init_117 : decode cX9_init 117 = .ok (.iconst 0, 1) := by decide +kernel
theorem dX9_init_118 : decode cX9_init 118 = .ok (.putfield 52, 3) := by decide +kernel
theorem dX9_init_121 : decode cX9_init 121 = .ok (.aload_n 0, 1) := by decide +kernel
theorem dX9_init_122 : decode cX9_init 122 = .ok (.iload_n 1, 1) := by decide +kernel
theorem dX9_init_123 : decode cX9_init 123 = .ok (.iconst 1, 1) := by decide +kernel
theorem dX9_init_124 : decode cX9_init 124 = .ok (.if_icmp .ge 7, 3) := by decide +kernel
theorem dX9_init_127 : decode cX9_init 127 = .ok (.iconst 0, 1) := by decide +kernel
theorem dX9_init_128 : decode cX9_init 128 = .ok (.goto 4, 3) := by decide +kernel
theorem dX9_init_131 : decode cX9_init 131 = .ok (.iconst 1, 1) := by decide +kernel
theorem dX9_init_132 : decode cX9_init 132 = .ok (.putfield 56, 3) := by decide +kernel
theorem dX9_init_135 : decode cX9_init 135 = .ok (.return_, 1) := by decide +kernel
theorem dX9_thrown_0 : decode cX9_thrown 0 = .ok (.aload_n 0, 1) := by decide +kernel
theorem dX9_thrown_1 : decode cX9_thrown 1 = .ok (.getfield 52, 3) := by decide +kernel
theorem dX9_thrown_4 : decode cX9_thrown 4 = .ok (.ireturn, 1) := by decide +kernel
theorem dX9_unit_0 : decode cX9_unit 0 = .ok (.aload_n 0, 1) := by decide +kernel
theorem dX9_unit_1 : decode cX9_unit 1 = .ok (.iconst 0, 1) := by decide +kernel
theorem dX9_unit_2 : decode cX9_unit 2 = .ok (.putfield 52, 3) := by decide +kernel
theorem dX9_unit_5 : decode cX9_unit 5 = .ok (.iload_n 1, 1) := by decide +kernel
theorem dX9_unit_6 : decode cX9_unit 6 = .ok (.bipush 32, 2) := by decide +kernel
theorem dX9_unit_8 : decode cX9_unit 8 = .ok (.if_icmp .lt 9, 3) := by decide +kernel
theorem dX9_unit_11 : decode cX9_unit 11 = .ok (.iload_n 1, 1) := by decide +kernel
theorem dX9_unit_12 : decode cX9_unit 12 = .ok (.bipush 126, 2) := by decide +kernel
theorem dX9_unit_14 : decode cX9_unit 14 = .ok (.if_icmp .le 9, 3) := by decide +kernel
theorem dX9_unit_17 : decode cX9_unit 17 = .ok (.iload_n 1, 1) := by decide +kernel
theorem dX9_unit_18 : decode cX9_unit 18 = .ok (.bipush 10, 2) := by decide +kernel
theorem dX9_unit_20 : decode cX9_unit 20 = .ok (.if_icmp .ne 7, 3) := by decide +kernel
theorem dX9_unit_23 : decode cX9_unit 23 = .ok (.iconst 1, 1) := by decide +kernel
theorem dX9_unit_24 : decode cX9_unit 24 = .ok (.goto 4, 3) := by decide +kernel
theorem dX9_unit_27 : decode cX9_unit 27 = .ok (.iconst 0, 1) := by decide +kernel
theorem dX9_unit_28 : decode cX9_unit 28 = .ok (.istore_n 2, 1) := by decide +kernel
theorem dX9_unit_29 : decode cX9_unit 29 = .ok (.iload_n 2, 1) := by decide +kernel
theorem dX9_unit_30 : decode cX9_unit 30 = .ok (.ifCond .eq 13, 3) := by decide +kernel
theorem dX9_unit_33 : decode cX9_unit 33 = .ok (.aload_n 0, 1) := by decide +kernel
theorem dX9_unit_34 : decode cX9_unit 34 = .ok (.getfield 59, 3) := by decide +kernel
theorem dX9_unit_37 : decode cX9_unit 37 = .ok (.sipush 4000, 3) := by decide +kernel
theorem dX9_unit_40 : decode cX9_unit 40 = .ok (.if_icmp .ne 5, 3) := by decide +kernel
theorem dX9_unit_43 : decode cX9_unit 43 = .ok (.iconst 0, 1) := by decide +kernel
theorem dX9_unit_44 : decode cX9_unit 44 = .ok (.ireturn, 1) := by decide +kernel
theorem dX9_unit_45 : decode cX9_unit 45 = .ok (.aload_n 0, 1) := by decide +kernel
theorem dX9_unit_46 : decode cX9_unit 46 = .ok (.getfield 7, 3) := by decide +kernel
theorem dX9_unit_49 : decode cX9_unit 49 = .ok (.aload_n 0, 1) := by decide +kernel
theorem dX9_unit_50 : decode cX9_unit 50 = .ok (.getfield 59, 3) := by decide +kernel
theorem dX9_unit_53 : decode cX9_unit 53 = .ok (.iload_n 1, 1) := by decide +kernel
theorem dX9_unit_54 : decode cX9_unit 54 = .ok (.iastore, 1) := by decide +kernel
theorem dX9_unit_55 : decode cX9_unit 55 = .ok (.aload_n 0, 1) := by decide +kernel
theorem dX9_unit_56 : decode cX9_unit 56 = .ok (.dup, 1) := by decide +kernel
theorem dX9_unit_57 : decode cX9_unit 57 = .ok (.getfield 59, 3) := by decide +kernel
theorem dX9_unit_60 : decode cX9_unit 60 = .ok (.iconst 1, 1) := by decide +kernel
theorem dX9_unit_61 : decode cX9_unit 61 = .ok (.iadd, 1) := by decide +kernel
theorem dX9_unit_62 : decode cX9_unit 62 = .ok (.putfield 59, 3) := by decide +kernel
theorem dX9_unit_65 : decode cX9_unit 65 = .ok (.iconst 1, 1) := by decide +kernel
theorem dX9_unit_66 : decode cX9_unit 66 = .ok (.ireturn, 1) := by decide +kernel
theorem dX9_clear_0 : decode cX9_clear 0 = .ok (.aload_n 0, 1) := by decide +kernel
theorem dX9_clear_1 : decode cX9_clear 1 = .ok (.iconst 0, 1) := by decide +kernel
theorem dX9_clear_2 : decode cX9_clear 2 = .ok (.putfield 52, 3) := by decide +kernel
theorem dX9_clear_5 : decode cX9_clear 5 = .ok (.aload_n 0, 1) := by decide +kernel
theorem dX9_clear_6 : decode cX9_clear 6 = .ok (.iconst 0, 1) := by decide +kernel
theorem dX9_clear_7 : decode cX9_clear 7 = .ok (.putfield 59, 3) := by decide +kernel
theorem dX9_clear_10 : decode cX9_clear 10 = .ok (.return_, 1) := by decide +kernel
theorem dX9_nameOf_0 : decode cX9_nameOf 0 = .ok (.iload_n 0, 1) := by decide +kernel
theorem dX9_nameOf_1 : decode cX9_nameOf 1 = .ok (.tableswitch 153 0 7 #[47, 61, 74, 89, 103, 116, 127, 140], 47) := by decide +kernel
theorem dX9_nameOf_48 : decode cX9_nameOf 48 = .ok (.iconst 4, 1) := by decide +kernel
theorem dX9_nameOf_49 : decode cX9_nameOf 49 = .ok (.iconst 5, 1) := by decide +kernel
theorem dX9_nameOf_50 : decode cX9_nameOf 50 = .ok (.bipush 19, 2) := by decide +kernel
theorem dX9_nameOf_52 : decode cX9_nameOf 52 = .ok (.bipush 9, 2) := by decide +kernel
theorem dX9_nameOf_54 : decode cX9_nameOf 54 = .ok (.bipush 7, 2) := by decide +kernel
theorem dX9_nameOf_56 : decode cX9_nameOf 56 = .ok (.bipush 14, 2) := by decide +kernel
theorem dX9_nameOf_58 : decode cX9_nameOf 58 = .ok (.invokestatic 62, 3) := by decide +kernel
theorem dX9_nameOf_61 : decode cX9_nameOf 61 = .ok (.lreturn, 1) := by decide +kernel
theorem dX9_nameOf_62 : decode cX9_nameOf 62 = .ok (.bipush 19, 2) := by decide +kernel
theorem dX9_nameOf_64 : decode cX9_nameOf 64 = .ok (.bipush 8, 2) := by decide +kernel
theorem dX9_nameOf_66 : decode cX9_nameOf 66 = .ok (.iconst 5, 1) := by decide +kernel
theorem dX9_nameOf_67 : decode cX9_nameOf 67 = .ok (.iconst 5, 1) := by decide +kernel
theorem dX9_nameOf_68 : decode cX9_nameOf 68 = .ok (.bipush 20, 2) := by decide +kernel
theorem dX9_nameOf_70 : decode cX9_nameOf 70 = .ok (.iconst 0, 1) := by decide +kernel
theorem dX9_nameOf_71 : decode cX9_nameOf 71 = .ok (.invokestatic 62, 3) := by decide +kernel
theorem dX9_nameOf_74 : decode cX9_nameOf 74 = .ok (.lreturn, 1) := by decide +kernel
theorem dX9_nameOf_75 : decode cX9_nameOf 75 = .ok (.bipush 19, 2) := by decide +kernel
theorem dX9_nameOf_77 : decode cX9_nameOf 77 = .ok (.bipush 25, 2) := by decide +kernel
theorem dX9_nameOf_79 : decode cX9_nameOf 79 = .ok (.bipush 13, 2) := by decide +kernel
theorem dX9_nameOf_81 : decode cX9_nameOf 81 = .ok (.iconst 2, 1) := by decide +kernel
theorem dX9_nameOf_82 : decode cX9_nameOf 82 = .ok (.bipush 15, 2) := by decide +kernel
theorem dX9_nameOf_84 : decode cX9_nameOf 84 = .ok (.bipush 12, 2) := by decide +kernel
theorem dX9_nameOf_86 : decode cX9_nameOf 86 = .ok (.invokestatic 62, 3) := by decide +kernel
theorem dX9_nameOf_89 : decode cX9_nameOf 89 = .ok (.lreturn, 1) := by decide +kernel
theorem dX9_nameOf_90 : decode cX9_nameOf 90 = .ok (.bipush 21, 2) := by decide +kernel
theorem dX9_nameOf_92 : decode cX9_nameOf 92 = .ok (.bipush 14, 2) := by decide +kernel
theorem dX9_nameOf_94 : decode cX9_nameOf 94 = .ok (.bipush 9, 2) := by decide +kernel
theorem dX9_nameOf_96 : decode cX9_nameOf 96 = .ok (.bipush 20, 2) := by decide +kernel
theorem dX9_nameOf_98 : decode cX9_nameOf 98 = .ok (.iconst 0, 1) := by decide +kernel
theorem dX9_nameOf_99 : decode cX9_nameOf 99 = .ok (.iconst 0, 1) := by decide +kernel
theorem dX9_nameOf_100 : decode cX9_nameOf 100 = .ok (.invokestatic 62, 3) := by decide +kernel
theorem dX9_nameOf_103 : decode cX9_nameOf 103 = .ok (.lreturn, 1) := by decide +kernel
theorem dX9_nameOf_104 : decode cX9_nameOf 104 = .ok (.bipush 16, 2) := by decide +kernel
theorem dX9_nameOf_106 : decode cX9_nameOf 106 = .ok (.bipush 9, 2) := by decide +kernel
theorem dX9_nameOf_108 : decode cX9_nameOf 108 = .ok (.bipush 14, 2) := by decide +kernel
theorem dX9_nameOf_110 : decode cX9_nameOf 110 = .ok (.iconst 0, 1) := by decide +kernel
theorem dX9_nameOf_111 : decode cX9_nameOf 111 = .ok (.iconst 0, 1) := by decide +kernel
theorem dX9_nameOf_112 : decode cX9_nameOf 112 = .ok (.iconst 0, 1) := by decide +kernel
theorem dX9_nameOf_113 : decode cX9_nameOf 113 = .ok (.invokestatic 62, 3) := by decide +kernel
theorem dX9_nameOf_116 : decode cX9_nameOf 116 = .ok (.lreturn, 1) := by decide +kernel
theorem dX9_nameOf_117 : decode cX9_nameOf 117 = .ok (.iconst 1, 1) := by decide +kernel
theorem dX9_nameOf_118 : decode cX9_nameOf 118 = .ok (.bipush 18, 2) := by decide +kernel
theorem dX9_nameOf_120 : decode cX9_nameOf 120 = .ok (.iconst 3, 1) := by decide +kernel
theorem dX9_nameOf_121 : decode cX9_nameOf 121 = .ok (.iconst 0, 1) := by decide +kernel
theorem dX9_nameOf_122 : decode cX9_nameOf 122 = .ok (.iconst 0, 1) := by decide +kernel
theorem dX9_nameOf_123 : decode cX9_nameOf 123 = .ok (.iconst 0, 1) := by decide +kernel
theorem dX9_nameOf_124 : decode cX9_nameOf 124 = .ok (.invokestatic 62, 3) := by decide +kernel
theorem dX9_nameOf_127 : decode cX9_nameOf 127 = .ok (.lreturn, 1) := by decide +kernel
theorem dX9_nameOf_128 : decode cX9_nameOf 128 = .ok (.bipush 14, 2) := by decide +kernel
theorem dX9_nameOf_130 : decode cX9_nameOf 130 = .ok (.bipush 15, 2) := by decide +kernel
theorem dX9_nameOf_132 : decode cX9_nameOf 132 = .ok (.bipush 20, 2) := by decide +kernel
theorem dX9_nameOf_134 : decode cX9_nameOf 134 = .ok (.iconst 5, 1) := by decide +kernel
theorem dX9_nameOf_135 : decode cX9_nameOf 135 = .ok (.iconst 0, 1) := by decide +kernel
theorem dX9_nameOf_136 : decode cX9_nameOf 136 = .ok (.iconst 0, 1) := by decide +kernel
theorem dX9_nameOf_137 : decode cX9_nameOf 137 = .ok (.invokestatic 62, 3) := by decide +kernel
theorem dX9_nameOf_140 : decode cX9_nameOf 140 = .ok (.lreturn, 1) := by decide +kernel
theorem dX9_nameOf_141 : decode cX9_nameOf 141 = .ok (.bipush 23, 2) := by decide +kernel
theorem dX9_nameOf_143 : decode cX9_nameOf 143 = .ok (.bipush 9, 2) := by decide +kernel
theorem dX9_nameOf_145 : decode cX9_nameOf 145 = .ok (.bipush 18, 2) := by decide +kernel
theorem dX9_nameOf_147 : decode cX9_nameOf 147 = .ok (.iconst 5, 1) := by decide +kernel
theorem dX9_nameOf_148 : decode cX9_nameOf 148 = .ok (.iconst 0, 1) := by decide +kernel
theorem dX9_nameOf_149 : decode cX9_nameOf 149 = .ok (.iconst 0, 1) := by decide +kernel
theorem dX9_nameOf_150 : decode cX9_nameOf 150 = .ok (.invokestatic 62, 3) := by decide +kernel
theorem dX9_nameOf_153 : decode cX9_nameOf 153 = .ok (.lreturn, 1) := by decide +kernel
theorem dX9_nameOf_154 : decode cX9_nameOf 154 = .ok (.bipush 6, 2) := by decide +kernel
theorem dX9_nameOf_156 : decode cX9_nameOf 156 = .ok (.bipush 9, 2) := by decide +kernel
theorem dX9_nameOf_158 : decode cX9_nameOf 158 = .ok (.iconst 5, 1) := by decide +kernel
theorem dX9_nameOf_159 : decode cX9_nameOf 159 = .ok (.bipush 12, 2) := by decide +kernel
theorem dX9_nameOf_161 : decode cX9_nameOf 161 = .ok (.iconst 4, 1) := by decide +kernel
theorem dX9_nameOf_162 : decode cX9_nameOf 162 = .ok (.iconst 0, 1) := by decide +kernel
theorem dX9_nameOf_163 : decode cX9_nameOf 163 = .ok (.invokestatic 62, 3) := by decide +kernel
theorem dX9_nameOf_166 : decode cX9_nameOf 166 = .ok (.lreturn, 1) := by decide +kernel
theorem dX9_spelt_0 : decode cX9_spelt 0 = .ok (.ldc2_w 66, 3) := by decide +kernel
theorem dX9_spelt_3 : decode cX9_spelt 3 = .ok (.iload_n 0, 1) := by decide +kernel
theorem dX9_spelt_4 : decode cX9_spelt 4 = .ok (.i2l, 1) := by decide +kernel
theorem dX9_spelt_5 : decode cX9_spelt 5 = .ok (.lmul, 1) := by decide +kernel
theorem dX9_spelt_6 : decode cX9_spelt 6 = .ok (.iload_n 1, 1) := by decide +kernel
theorem dX9_spelt_7 : decode cX9_spelt 7 = .ok (.i2l, 1) := by decide +kernel
theorem dX9_spelt_8 : decode cX9_spelt 8 = .ok (.ladd, 1) := by decide +kernel
theorem dX9_spelt_9 : decode cX9_spelt 9 = .ok (.lstore 6, 2) := by decide +kernel
theorem dX9_spelt_11 : decode cX9_spelt 11 = .ok (.iload_n 2, 1) := by decide +kernel
theorem dX9_spelt_12 : decode cX9_spelt 12 = .ok (.ifCond .le 15, 3) := by decide +kernel
theorem dX9_spelt_15 : decode cX9_spelt 15 = .ok (.ldc2_w 66, 3) := by decide +kernel
theorem dX9_spelt_18 : decode cX9_spelt 18 = .ok (.lload 6, 2) := by decide +kernel
theorem dX9_spelt_20 : decode cX9_spelt 20 = .ok (.lmul, 1) := by decide +kernel
theorem dX9_spelt_21 : decode cX9_spelt 21 = .ok (.iload_n 2, 1) := by decide +kernel
theorem dX9_spelt_22 : decode cX9_spelt 22 = .ok (.i2l, 1) := by decide +kernel
theorem dX9_spelt_23 : decode cX9_spelt 23 = .ok (.ladd, 1) := by decide +kernel
theorem dX9_spelt_24 : decode cX9_spelt 24 = .ok (.goto 5, 3) := by decide +kernel
theorem dX9_spelt_27 : decode cX9_spelt 27 = .ok (.lload 6, 2) := by decide +kernel
theorem dX9_spelt_29 : decode cX9_spelt 29 = .ok (.lstore 6, 2) := by decide +kernel
theorem dX9_spelt_31 : decode cX9_spelt 31 = .ok (.iload_n 3, 1) := by decide +kernel
theorem dX9_spelt_32 : decode cX9_spelt 32 = .ok (.ifCond .le 15, 3) := by decide +kernel
theorem dX9_spelt_35 : decode cX9_spelt 35 = .ok (.ldc2_w 66, 3) := by decide +kernel
theorem dX9_spelt_38 : decode cX9_spelt 38 = .ok (.lload 6, 2) := by decide +kernel
theorem dX9_spelt_40 : decode cX9_spelt 40 = .ok (.lmul, 1) := by decide +kernel
theorem dX9_spelt_41 : decode cX9_spelt 41 = .ok (.iload_n 3, 1) := by decide +kernel
theorem dX9_spelt_42 : decode cX9_spelt 42 = .ok (.i2l, 1) := by decide +kernel
theorem dX9_spelt_43 : decode cX9_spelt 43 = .ok (.ladd, 1) := by decide +kernel
theorem dX9_spelt_44 : decode cX9_spelt 44 = .ok (.goto 5, 3) := by decide +kernel
theorem dX9_spelt_47 : decode cX9_spelt 47 = .ok (.lload 6, 2) := by decide +kernel
theorem dX9_spelt_49 : decode cX9_spelt 49 = .ok (.lstore 6, 2) := by decide +kernel
theorem dX9_spelt_51 : decode cX9_spelt 51 = .ok (.iload 4, 2) := by decide +kernel
theorem dX9_spelt_53 : decode cX9_spelt 53 = .ok (.ifCond .le 16, 3) := by decide +kernel
theorem dX9_spelt_56 : decode cX9_spelt 56 = .ok (.ldc2_w 66, 3) := by decide +kernel
theorem dX9_spelt_59 : decode cX9_spelt 59 = .ok (.lload 6, 2) := by decide +kernel
theorem dX9_spelt_61 : decode cX9_spelt 61 = .ok (.lmul, 1) := by decide +kernel
theorem dX9_spelt_62 : decode cX9_spelt 62 = .ok (.iload 4, 2) := by decide +kernel
theorem dX9_spelt_64 : decode cX9_spelt 64 = .ok (.i2l, 1) := by decide +kernel
theorem dX9_spelt_65 : decode cX9_spelt 65 = .ok (.ladd, 1) := by decide +kernel
theorem dX9_spelt_66 : decode cX9_spelt 66 = .ok (.goto 5, 3) := by decide +kernel
theorem dX9_spelt_69 : decode cX9_spelt 69 = .ok (.lload 6, 2) := by decide +kernel
theorem dX9_spelt_71 : decode cX9_spelt 71 = .ok (.lstore 6, 2) := by decide +kernel
theorem dX9_spelt_73 : decode cX9_spelt 73 = .ok (.iload 5, 2) := by decide +kernel
theorem dX9_spelt_75 : decode cX9_spelt 75 = .ok (.ifCond .le 16, 3) := by decide +kernel
theorem dX9_spelt_78 : decode cX9_spelt 78 = .ok (.ldc2_w 66, 3) := by decide +kernel
theorem dX9_spelt_81 : decode cX9_spelt 81 = .ok (.lload 6, 2) := by decide +kernel
theorem dX9_spelt_83 : decode cX9_spelt 83 = .ok (.lmul, 1) := by decide +kernel
theorem dX9_spelt_84 : decode cX9_spelt 84 = .ok (.iload 5, 2) := by decide +kernel
theorem dX9_spelt_86 : decode cX9_spelt 86 = .ok (.i2l, 1) := by decide +kernel
theorem dX9_spelt_87 : decode cX9_spelt 87 = .ok (.ladd, 1) := by decide +kernel
theorem dX9_spelt_88 : decode cX9_spelt 88 = .ok (.goto 5, 3) := by decide +kernel
theorem dX9_spelt_91 : decode cX9_spelt 91 = .ok (.lload 6, 2) := by decide +kernel
theorem dX9_spelt_93 : decode cX9_spelt 93 = .ok (.lreturn, 1) := by decide +kernel
theorem dX9_field_0 : decode cX9_field 0 = .ok (.iload_n 0, 1) := by decide +kernel
theorem dX9_field_1 : decode cX9_field 1 = .ok (.tableswitch 192 1 8 #[47, 66, 86, 96, 125, 145, 170, 181], 47) := by decide +kernel
theorem dX9_field_48 : decode cX9_field 48 = .ok (.iload_n 1, 1) := by decide +kernel
theorem dX9_field_49 : decode cX9_field 49 = .ok (.ifCond .ne 7, 3) := by decide +kernel
theorem dX9_field_52 : decode cX9_field 52 = .ok (.iconst 2, 1) := by decide +kernel
theorem dX9_field_53 : decode cX9_field 53 = .ok (.goto 13, 3) := by decide +kernel
theorem dX9_field_56 : decode cX9_field 56 = .ok (.iload_n 1, 1) := by decide +kernel
theorem dX9_field_57 : decode cX9_field 57 = .ok (.iconst 1, 1) := by decide +kernel
theorem dX9_field_58 : decode cX9_field 58 = .ok (.if_icmp .ne 7, 3) := by decide +kernel
theorem dX9_field_61 : decode cX9_field 61 = .ok (.iconst 3, 1) := by decide +kernel
theorem dX9_field_62 : decode cX9_field 62 = .ok (.goto 4, 3) := by decide +kernel
theorem dX9_field_65 : decode cX9_field 65 = .ok (.iconst 0, 1) := by decide +kernel
theorem dX9_field_66 : decode cX9_field 66 = .ok (.ireturn, 1) := by decide +kernel
theorem dX9_field_67 : decode cX9_field 67 = .ok (.iload_n 1, 1) := by decide +kernel
theorem dX9_field_68 : decode cX9_field 68 = .ok (.iconst 2, 1) := by decide +kernel
theorem dX9_field_69 : decode cX9_field 69 = .ok (.if_icmp .ge 7, 3) := by decide +kernel
theorem dX9_field_72 : decode cX9_field 72 = .ok (.iconst 1, 1) := by decide +kernel
theorem dX9_field_73 : decode cX9_field 73 = .ok (.goto 13, 3) := by decide +kernel
theorem dX9_field_76 : decode cX9_field 76 = .ok (.iload_n 1, 1) := by decide +kernel
theorem dX9_field_77 : decode cX9_field 77 = .ok (.iconst 2, 1) := by decide +kernel
theorem dX9_field_78 : decode cX9_field 78 = .ok (.if_icmp .ne 7, 3) := by decide +kernel
theorem dX9_field_81 : decode cX9_field 81 = .ok (.iconst 3, 1) := by decide +kernel
theorem dX9_field_82 : decode cX9_field 82 = .ok (.goto 4, 3) := by decide +kernel
theorem dX9_field_85 : decode cX9_field 85 = .ok (.iconst 0, 1) := by decide +kernel
theorem dX9_field_86 : decode cX9_field 86 = .ok (.ireturn, 1) := by decide +kernel
theorem dX9_field_87 : decode cX9_field 87 = .ok (.iload_n 1, 1) := by decide +kernel
theorem dX9_field_88 : decode cX9_field 88 = .ok (.ifCond .ne 7, 3) := by decide +kernel
theorem dX9_field_91 : decode cX9_field 91 = .ok (.iconst 2, 1) := by decide +kernel
theorem dX9_field_92 : decode cX9_field 92 = .ok (.goto 4, 3) := by decide +kernel
theorem dX9_field_95 : decode cX9_field 95 = .ok (.iconst 0, 1) := by decide +kernel
theorem dX9_field_96 : decode cX9_field 96 = .ok (.ireturn, 1) := by decide +kernel
theorem dX9_field_97 : decode cX9_field 97 = .ok (.iload_n 1, 1) := by decide +kernel
theorem dX9_field_98 : decode cX9_field 98 = .ok (.iconst 2, 1) := by decide +kernel
theorem dX9_field_99 : decode cX9_field 99 = .ok (.if_icmp .ge 7, 3) := by decide +kernel
theorem dX9_field_102 : decode cX9_field 102 = .ok (.iconst 1, 1) := by decide +kernel
theorem dX9_field_103 : decode cX9_field 103 = .ok (.goto 22, 3) := by decide +kernel
theorem dX9_field_106 : decode cX9_field 106 = .ok (.iload_n 1, 1) := by decide +kernel
theorem dX9_field_107 : decode cX9_field 107 = .ok (.iconst 2, 1) := by decide +kernel
theorem dX9_field_108 : decode cX9_field 108 = .ok (.if_icmp .ne 7, 3) := by decide +kernel
theorem dX9_field_111 : decode cX9_field 111 = .ok (.iconst 3, 1) := by decide +kernel
theorem dX9_field_112 : decode cX9_field 112 = .ok (.goto 13, 3) := by decide +kernel
theorem dX9_field_115 : decode cX9_field 115 = .ok (.iload_n 1, 1) := by decide +kernel
theorem dX9_field_116 : decode cX9_field 116 = .ok (.iconst 3, 1) := by decide +kernel
theorem dX9_field_117 : decode cX9_field 117 = .ok (.if_icmp .ne 7, 3) := by decide +kernel
theorem dX9_field_120 : decode cX9_field 120 = .ok (.iconst 2, 1) := by decide +kernel
theorem dX9_field_121 : decode cX9_field 121 = .ok (.goto 4, 3) := by decide +kernel
theorem dX9_field_124 : decode cX9_field 124 = .ok (.iconst 0, 1) := by decide +kernel
theorem dX9_field_125 : decode cX9_field 125 = .ok (.ireturn, 1) := by decide +kernel
theorem dX9_field_126 : decode cX9_field 126 = .ok (.iload_n 1, 1) := by decide +kernel
theorem dX9_field_127 : decode cX9_field 127 = .ok (.iconst 3, 1) := by decide +kernel
theorem dX9_field_128 : decode cX9_field 128 = .ok (.if_icmp .ge 7, 3) := by decide +kernel
theorem dX9_field_131 : decode cX9_field 131 = .ok (.iconst 1, 1) := by decide +kernel
theorem dX9_field_132 : decode cX9_field 132 = .ok (.goto 13, 3) := by decide +kernel
theorem dX9_field_135 : decode cX9_field 135 = .ok (.iload_n 1, 1) := by decide +kernel
theorem dX9_field_136 : decode cX9_field 136 = .ok (.iconst 5, 1) := by decide +kernel
theorem dX9_field_137 : decode cX9_field 137 = .ok (.if_icmp .ge 7, 3) := by decide +kernel
theorem dX9_field_140 : decode cX9_field 140 = .ok (.iconst 2, 1) := by decide +kernel
theorem dX9_field_141 : decode cX9_field 141 = .ok (.goto 4, 3) := by decide +kernel
theorem dX9_field_144 : decode cX9_field 144 = .ok (.iconst 0, 1) := by decide +kernel
theorem dX9_field_145 : decode cX9_field 145 = .ok (.ireturn, 1) := by decide +kernel
theorem dX9_field_146 : decode cX9_field 146 = .ok (.iload_n 1, 1) := by decide +kernel
theorem dX9_field_147 : decode cX9_field 147 = .ok (.iconst 2, 1) := by decide +kernel
theorem dX9_field_148 : decode cX9_field 148 = .ok (.if_icmp .lt 8, 3) := by decide +kernel
theorem dX9_field_151 : decode cX9_field 151 = .ok (.iload_n 1, 1) := by decide +kernel
theorem dX9_field_152 : decode cX9_field 152 = .ok (.iconst 3, 1) := by decide +kernel
theorem dX9_field_153 : decode cX9_field 153 = .ok (.if_icmp .ne 7, 3) := by decide +kernel
theorem dX9_field_156 : decode cX9_field 156 = .ok (.iconst 1, 1) := by decide +kernel
theorem dX9_field_157 : decode cX9_field 157 = .ok (.goto 13, 3) := by decide +kernel
theorem dX9_field_160 : decode cX9_field 160 = .ok (.iload_n 1, 1) := by decide +kernel
theorem dX9_field_161 : decode cX9_field 161 = .ok (.iconst 2, 1) := by decide +kernel
theorem dX9_field_162 : decode cX9_field 162 = .ok (.if_icmp .ne 7, 3) := by decide +kernel
theorem dX9_field_165 : decode cX9_field 165 = .ok (.iconst 3, 1) := by decide +kernel
theorem dX9_field_166 : decode cX9_field 166 = .ok (.goto 4, 3) := by decide +kernel
theorem dX9_field_169 : decode cX9_field 169 = .ok (.iconst 0, 1) := by decide +kernel
theorem dX9_field_170 : decode cX9_field 170 = .ok (.ireturn, 1) := by decide +kernel
theorem dX9_field_171 : decode cX9_field 171 = .ok (.iload_n 1, 1) := by decide +kernel
theorem dX9_field_172 : decode cX9_field 172 = .ok (.iconst 4, 1) := by decide +kernel
theorem dX9_field_173 : decode cX9_field 173 = .ok (.if_icmp .ge 7, 3) := by decide +kernel
theorem dX9_field_176 : decode cX9_field 176 = .ok (.iconst 1, 1) := by decide +kernel
theorem dX9_field_177 : decode cX9_field 177 = .ok (.goto 4, 3) := by decide +kernel
theorem dX9_field_180 : decode cX9_field 180 = .ok (.iconst 0, 1) := by decide +kernel
theorem dX9_field_181 : decode cX9_field 181 = .ok (.ireturn, 1) := by decide +kernel
theorem dX9_field_182 : decode cX9_field 182 = .ok (.iload_n 1, 1) := by decide +kernel
theorem dX9_field_183 : decode cX9_field 183 = .ok (.iconst 2, 1) := by decide +kernel
theorem dX9_field_184 : decode cX9_field 184 = .ok (.if_icmp .ge 7, 3) := by decide +kernel
theorem dX9_field_187 : decode cX9_field 187 = .ok (.iconst 3, 1) := by decide +kernel
theorem dX9_field_188 : decode cX9_field 188 = .ok (.goto 4, 3) := by decide +kernel
theorem dX9_field_191 : decode cX9_field 191 = .ok (.iconst 0, 1) := by decide +kernel
theorem dX9_field_192 : decode cX9_field 192 = .ok (.ireturn, 1) := by decide +kernel
theorem dX9_field_193 : decode cX9_field 193 = .ok (.iconst 0, 1) := by decide +kernel
theorem dX9_field_194 : decode cX9_field 194 = .ok (.ireturn, 1) := by decide +kernel
theorem dX9_fieldsIn_0 : decode cX9_fieldsIn 0 = .ok (.iconst 0, 1) := by decide +kernel
theorem dX9_fieldsIn_1 : decode cX9_fieldsIn 1 = .ok (.istore_n 2, 1) := by decide +kernel
theorem dX9_fieldsIn_2 : decode cX9_fieldsIn 2 = .ok (.iload_n 0, 1) := by decide +kernel
theorem dX9_fieldsIn_3 : decode cX9_fieldsIn 3 = .ok (.iload_n 2, 1) := by decide +kernel
theorem dX9_fieldsIn_4 : decode cX9_fieldsIn 4 = .ok (.invokestatic 68, 3) := by decide +kernel
theorem dX9_fieldsIn_7 : decode cX9_fieldsIn 7 = .ok (.ifCond .eq 9, 3) := by decide +kernel
theorem dX9_fieldsIn_10 : decode cX9_fieldsIn 10 = .ok (.iinc 2 1, 3) := by decide +kernel
theorem dX9_fieldsIn_13 : decode cX9_fieldsIn 13 = .ok (.goto (-11), 3) := by decide +kernel
theorem dX9_fieldsIn_16 : decode cX9_fieldsIn 16 = .ok (.iload_n 0, 1) := by decide +kernel
theorem dX9_fieldsIn_17 : decode cX9_fieldsIn 17 = .ok (.iconst 4, 1) := by decide +kernel
theorem dX9_fieldsIn_18 : decode cX9_fieldsIn 18 = .ok (.if_icmp .ne 8, 3) := by decide +kernel
theorem dX9_fieldsIn_21 : decode cX9_fieldsIn 21 = .ok (.iload_n 1, 1) := by decide +kernel
theorem dX9_fieldsIn_22 : decode cX9_fieldsIn 22 = .ok (.iconst 2, 1) := by decide +kernel
theorem dX9_fieldsIn_23 : decode cX9_fieldsIn 23 = .ok (.if_icmp .lt 14, 3) := by decide +kernel
theorem dX9_fieldsIn_26 : decode cX9_fieldsIn 26 = .ok (.iload_n 0, 1) := by decide +kernel
theorem dX9_fieldsIn_27 : decode cX9_fieldsIn 27 = .ok (.bipush 6, 2) := by decide +kernel
theorem dX9_fieldsIn_29 : decode cX9_fieldsIn 29 = .ok (.if_icmp .ne 14, 3) := by decide +kernel
theorem dX9_fieldsIn_32 : decode cX9_fieldsIn 32 = .ok (.iload_n 1, 1) := by decide +kernel
theorem dX9_fieldsIn_33 : decode cX9_fieldsIn 33 = .ok (.iconst 3, 1) := by decide +kernel
theorem dX9_fieldsIn_34 : decode cX9_fieldsIn 34 = .ok (.if_icmp .ge 9, 3) := by decide +kernel
theorem dX9_fieldsIn_37 : decode cX9_fieldsIn 37 = .ok (.iload_n 2, 1) := by decide +kernel
theorem dX9_fieldsIn_38 : decode cX9_fieldsIn 38 = .ok (.iconst 1, 1) := by decide +kernel
theorem dX9_fieldsIn_39 : decode cX9_fieldsIn 39 = .ok (.isub, 1) := by decide +kernel
theorem dX9_fieldsIn_40 : decode cX9_fieldsIn 40 = .ok (.goto 4, 3) := by decide +kernel
theorem dX9_fieldsIn_43 : decode cX9_fieldsIn 43 = .ok (.iload_n 2, 1) := by decide +kernel
theorem dX9_fieldsIn_44 : decode cX9_fieldsIn 44 = .ok (.ireturn, 1) := by decide +kernel
theorem dX9_canBe_0 : decode cX9_canBe 0 = .ok (.iload_n 0, 1) := by decide +kernel
theorem dX9_canBe_1 : decode cX9_canBe 1 = .ok (.tableswitch 142 1 9 #[51, 66, 77, 88, 88, 99, 66, 115, 131], 51) := by decide +kernel
theorem dX9_canBe_52 : decode cX9_canBe 52 = .ok (.iload_n 1, 1) := by decide +kernel
theorem dX9_canBe_53 : decode cX9_canBe 53 = .ok (.ifCond .eq 8, 3) := by decide +kernel
theorem dX9_canBe_56 : decode cX9_canBe 56 = .ok (.iload_n 1, 1) := by decide +kernel
theorem dX9_canBe_57 : decode cX9_canBe 57 = .ok (.iconst 1, 1) := by decide +kernel
theorem dX9_canBe_58 : decode cX9_canBe 58 = .ok (.if_icmp .ne 7, 3) := by decide +kernel
theorem dX9_canBe_61 : decode cX9_canBe 61 = .ok (.iconst 1, 1) := by decide +kernel
theorem dX9_canBe_62 : decode cX9_canBe 62 = .ok (.goto 4, 3) := by decide +kernel
theorem dX9_canBe_65 : decode cX9_canBe 65 = .ok (.iconst 0, 1) := by decide +kernel
theorem dX9_canBe_66 : decode cX9_canBe 66 = .ok (.ireturn, 1) := by decide +kernel
theorem dX9_canBe_67 : decode cX9_canBe 67 = .ok (.iload_n 1, 1) := by decide +kernel
theorem dX9_canBe_68 : decode cX9_canBe 68 = .ok (.iconst 1, 1) := by decide +kernel
theorem dX9_canBe_69 : decode cX9_canBe 69 = .ok (.if_icmp .ne 7, 3) := by decide +kernel
theorem dX9_canBe_72 : decode cX9_canBe 72 = .ok (.iconst 1, 1) := by decide +kernel
theorem dX9_canBe_73 : decode cX9_canBe 73 = .ok (.goto 4, 3) := by decide +kernel
theorem dX9_canBe_76 : decode cX9_canBe 76 = .ok (.iconst 0, 1) := by decide +kernel
theorem dX9_canBe_77 : decode cX9_canBe 77 = .ok (.ireturn, 1) := by decide +kernel
theorem dX9_canBe_78 : decode cX9_canBe 78 = .ok (.iload_n 1, 1) := by decide +kernel
theorem dX9_canBe_79 : decode cX9_canBe 79 = .ok (.iconst 2, 1) := by decide +kernel
theorem dX9_canBe_80 : decode cX9_canBe 80 = .ok (.if_icmp .ne 7, 3) := by decide +kernel
theorem dX9_canBe_83 : decode cX9_canBe 83 = .ok (.iconst 1, 1) := by decide +kernel
theorem dX9_canBe_84 : decode cX9_canBe 84 = .ok (.goto 4, 3) := by decide +kernel
theorem dX9_canBe_87 : decode cX9_canBe 87 = .ok (.iconst 0, 1) := by decide +kernel
theorem dX9_canBe_88 : decode cX9_canBe 88 = .ok (.ireturn, 1) := by decide +kernel
theorem dX9_canBe_89 : decode cX9_canBe 89 = .ok (.iload_n 1, 1) := by decide +kernel
theorem dX9_canBe_90 : decode cX9_canBe 90 = .ok (.iconst 3, 1) := by decide +kernel
theorem dX9_canBe_91 : decode cX9_canBe 91 = .ok (.if_icmp .ne 7, 3) := by decide +kernel
theorem dX9_canBe_94 : decode cX9_canBe 94 = .ok (.iconst 1, 1) := by decide +kernel
theorem dX9_canBe_95 : decode cX9_canBe 95 = .ok (.goto 4, 3) := by decide +kernel
theorem dX9_canBe_98 : decode cX9_canBe 98 = .ok (.iconst 0, 1) := by decide +kernel
theorem dX9_canBe_99 : decode cX9_canBe 99 = .ok (.ireturn, 1) := by decide +kernel
theorem dX9_canBe_100 : decode cX9_canBe 100 = .ok (.iload_n 1, 1) := by decide +kernel
theorem dX9_canBe_101 : decode cX9_canBe 101 = .ok (.iconst 3, 1) := by decide +kernel
theorem dX9_canBe_102 : decode cX9_canBe 102 = .ok (.if_icmp .eq 8, 3) := by decide +kernel
theorem dX9_canBe_105 : decode cX9_canBe 105 = .ok (.iload_n 1, 1) := by decide +kernel
theorem dX9_canBe_106 : decode cX9_canBe 106 = .ok (.iconst 1, 1) := by decide +kernel
theorem dX9_canBe_107 : decode cX9_canBe 107 = .ok (.if_icmp .ne 7, 3) := by decide +kernel
theorem dX9_canBe_110 : decode cX9_canBe 110 = .ok (.iconst 1, 1) := by decide +kernel
theorem dX9_canBe_111 : decode cX9_canBe 111 = .ok (.goto 4, 3) := by decide +kernel
theorem dX9_canBe_114 : decode cX9_canBe 114 = .ok (.iconst 0, 1) := by decide +kernel
theorem dX9_canBe_115 : decode cX9_canBe 115 = .ok (.ireturn, 1) := by decide +kernel
theorem dX9_canBe_116 : decode cX9_canBe 116 = .ok (.iload_n 1, 1) := by decide +kernel
theorem dX9_canBe_117 : decode cX9_canBe 117 = .ok (.iconst 1, 1) := by decide +kernel
theorem dX9_canBe_118 : decode cX9_canBe 118 = .ok (.if_icmp .eq 8, 3) := by decide +kernel
theorem dX9_canBe_121 : decode cX9_canBe 121 = .ok (.iload_n 1, 1) := by decide +kernel
theorem dX9_canBe_122 : decode cX9_canBe 122 = .ok (.iconst 2, 1) := by decide +kernel
theorem dX9_canBe_123 : decode cX9_canBe 123 = .ok (.if_icmp .ne 7, 3) := by decide +kernel
theorem dX9_canBe_126 : decode cX9_canBe 126 = .ok (.iconst 1, 1) := by decide +kernel
theorem dX9_canBe_127 : decode cX9_canBe 127 = .ok (.goto 4, 3) := by decide +kernel
theorem dX9_canBe_130 : decode cX9_canBe 130 = .ok (.iconst 0, 1) := by decide +kernel
theorem dX9_canBe_131 : decode cX9_canBe 131 = .ok (.ireturn, 1) := by decide +kernel
theorem dX9_canBe_132 : decode cX9_canBe 132 = .ok (.iload_n 1, 1) := by decide +kernel
theorem dX9_canBe_133 : decode cX9_canBe 133 = .ok (.iconst 4, 1) := by decide +kernel
theorem dX9_canBe_134 : decode cX9_canBe 134 = .ok (.if_icmp .ge 7, 3) := by decide +kernel
theorem dX9_canBe_137 : decode cX9_canBe 137 = .ok (.iconst 1, 1) := by decide +kernel
theorem dX9_canBe_138 : decode cX9_canBe 138 = .ok (.goto 4, 3) := by decide +kernel
theorem dX9_canBe_141 : decode cX9_canBe 141 = .ok (.iconst 0, 1) := by decide +kernel
theorem dX9_canBe_142 : decode cX9_canBe 142 = .ok (.ireturn, 1) := by decide +kernel
theorem dX9_canBe_143 : decode cX9_canBe 143 = .ok (.iconst 0, 1) := by decide +kernel
theorem dX9_canBe_144 : decode cX9_canBe 144 = .ok (.ireturn, 1) := by decide +kernel
theorem dX9_least_0 : decode cX9_least 0 = .ok (.iload_n 0, 1) := by decide +kernel
theorem dX9_least_1 : decode cX9_least 1 = .ok (.iload_n 1, 1) := by decide +kernel
theorem dX9_least_2 : decode cX9_least 2 = .ok (.invokestatic 68, 3) := by decide +kernel
theorem dX9_least_5 : decode cX9_least 5 = .ok (.iconst 1, 1) := by decide +kernel
theorem dX9_least_6 : decode cX9_least 6 = .ok (.if_icmp .ne 7, 3) := by decide +kernel
theorem dX9_least_9 : decode cX9_least 9 = .ok (.ldc2_w 72, 3) := by decide +kernel
theorem dX9_least_12 : decode cX9_least 12 = .ok (.lreturn, 1) := by decide +kernel
theorem dX9_least_13 : decode cX9_least 13 = .ok (.iload_n 0, 1) := by decide +kernel
theorem dX9_least_14 : decode cX9_least 14 = .ok (.iconst 3, 1) := by decide +kernel
theorem dX9_least_15 : decode cX9_least 15 = .ok (.if_icmp .ne 7, 3) := by decide +kernel
theorem dX9_least_18 : decode cX9_least 18 = .ok (.lconst 1, 1) := by decide +kernel
theorem dX9_least_19 : decode cX9_least 19 = .ok (.goto 15, 3) := by decide +kernel
theorem dX9_least_22 : decode cX9_least 22 = .ok (.iload_n 0, 1) := by decide +kernel
theorem dX9_least_23 : decode cX9_least 23 = .ok (.iconst 5, 1) := by decide +kernel
theorem dX9_least_24 : decode cX9_least 24 = .ok (.if_icmp .ne 9, 3) := by decide +kernel
theorem dX9_least_27 : decode cX9_least 27 = .ok (.ldc2_w 74, 3) := by decide +kernel
theorem dX9_least_30 : decode cX9_least 30 = .ok (.goto 4, 3) := by decide +kernel
theorem dX9_least_33 : decode cX9_least 33 = .ok (.lconst 0, 1) := by decide +kernel
theorem dX9_least_34 : decode cX9_least 34 = .ok (.lreturn, 1) := by decide +kernel
theorem dX9_most_0 : decode cX9_most 0 = .ok (.iload_n 0, 1) := by decide +kernel
theorem dX9_most_1 : decode cX9_most 1 = .ok (.iload_n 1, 1) := by decide +kernel
theorem dX9_most_2 : decode cX9_most 2 = .ok (.invokestatic 68, 3) := by decide +kernel
theorem dX9_most_5 : decode cX9_most 5 = .ok (.iconst 1, 1) := by decide +kernel
theorem dX9_most_6 : decode cX9_most 6 = .ok (.if_icmp .ne 7, 3) := by decide +kernel
theorem dX9_most_9 : decode cX9_most 9 = .ok (.ldc2_w 76, 3) := by decide +kernel
theorem dX9_most_12 : decode cX9_most 12 = .ok (.lreturn, 1) := by decide +kernel
theorem dX9_most_13 : decode cX9_most 13 = .ok (.iload_n 0, 1) := by decide +kernel
theorem dX9_most_14 : decode cX9_most 14 = .ok (.iconst 4, 1) := by decide +kernel
theorem dX9_most_15 : decode cX9_most 15 = .ok (.if_icmp .ne 9, 3) := by decide +kernel
theorem dX9_most_18 : decode cX9_most 18 = .ok (.ldc2_w 78, 3) := by decide +kernel
theorem dX9_most_21 : decode cX9_most 21 = .ok (.goto 17, 3) := by decide +kernel
theorem dX9_most_24 : decode cX9_most 24 = .ok (.iload_n 0, 1) := by decide +kernel
theorem dX9_most_25 : decode cX9_most 25 = .ok (.iconst 5, 1) := by decide +kernel
theorem dX9_most_26 : decode cX9_most 26 = .ok (.if_icmp .ne 9, 3) := by decide +kernel
theorem dX9_most_29 : decode cX9_most 29 = .ok (.ldc2_w 80, 3) := by decide +kernel
theorem dX9_most_32 : decode cX9_most 32 = .ok (.goto 6, 3) := by decide +kernel
theorem dX9_most_35 : decode cX9_most 35 = .ok (.ldc2_w 82, 3) := by decide +kernel
theorem dX9_most_38 : decode cX9_most 38 = .ok (.lreturn, 1) := by decide +kernel
theorem dX9_fieldOf_0 : decode cX9_fieldOf 0 = .ok (.iload_n 1, 1) := by decide +kernel
theorem dX9_fieldOf_1 : decode cX9_fieldOf 1 = .ok (.istore_n 3, 1) := by decide +kernel
theorem dX9_fieldOf_2 : decode cX9_fieldOf 2 = .ok (.iconst 0, 1) := by decide +kernel
theorem dX9_fieldOf_3 : decode cX9_fieldOf 3 = .ok (.istore 4, 2) := by decide +kernel
theorem dX9_fieldOf_5 : decode cX9_fieldOf 5 = .ok (.iload_n 0, 1) := by decide +kernel
theorem dX9_fieldOf_6 : decode cX9_fieldOf 6 = .ok (.iload 4, 2) := by decide +kernel
theorem dX9_fieldOf_8 : decode cX9_fieldOf 8 = .ok (.invokestatic 68, 3) := by decide +kernel
theorem dX9_fieldOf_11 : decode cX9_fieldOf 11 = .ok (.ifCond .eq 45, 3) := by decide +kernel
theorem dX9_fieldOf_14 : decode cX9_fieldOf 14 = .ok (.iload_n 1, 1) := by decide +kernel
theorem dX9_fieldOf_15 : decode cX9_fieldOf 15 = .ok (.ifCond .lt 41, 3) := by decide +kernel
theorem dX9_fieldOf_18 : decode cX9_fieldOf 18 = .ok (.iload_n 0, 1) := by decide +kernel
theorem dX9_fieldOf_19 : decode cX9_fieldOf 19 = .ok (.iload 4, 2) := by decide +kernel
theorem dX9_fieldOf_21 : decode cX9_fieldOf 21 = .ok (.invokestatic 68, 3) := by decide +kernel
theorem dX9_fieldOf_24 : decode cX9_fieldOf 24 = .ok (.iconst 3, 1) := by decide +kernel
theorem dX9_fieldOf_25 : decode cX9_fieldOf 25 = .ok (.if_icmp .ne 7, 3) := by decide +kernel
theorem dX9_fieldOf_28 : decode cX9_fieldOf 28 = .ok (.iconst 1, 1) := by decide +kernel
theorem dX9_fieldOf_29 : decode cX9_fieldOf 29 = .ok (.goto 4, 3) := by decide +kernel
theorem dX9_fieldOf_32 : decode cX9_fieldOf 32 = .ok (.iconst 0, 1) := by decide +kernel
theorem dX9_fieldOf_33 : decode cX9_fieldOf 33 = .ok (.iload_n 2, 1) := by decide +kernel
theorem dX9_fieldOf_34 : decode cX9_fieldOf 34 = .ok (.if_icmp .eq 6, 3) := by decide +kernel
theorem dX9_fieldOf_37 : decode cX9_fieldOf 37 = .ok (.goto 13, 3) := by decide +kernel
theorem dX9_fieldOf_40 : decode cX9_fieldOf 40 = .ok (.iload_n 3, 1) := by decide +kernel
theorem dX9_fieldOf_41 : decode cX9_fieldOf 41 = .ok (.ifCond .ne 6, 3) := by decide +kernel
theorem dX9_fieldOf_44 : decode cX9_fieldOf 44 = .ok (.iload 4, 2) := by decide +kernel
theorem dX9_fieldOf_46 : decode cX9_fieldOf 46 = .ok (.ireturn, 1) := by decide +kernel
theorem dX9_fieldOf_47 : decode cX9_fieldOf 47 = .ok (.iinc 3 (-1), 3) := by decide +kernel
theorem dX9_fieldOf_50 : decode cX9_fieldOf 50 = .ok (.iinc 4 1, 3) := by decide +kernel
theorem dX9_fieldOf_53 : decode cX9_fieldOf 53 = .ok (.goto (-48), 3) := by decide +kernel
theorem dX9_fieldOf_56 : decode cX9_fieldOf 56 = .ok (.iconst (-1), 1) := by decide +kernel
theorem dX9_fieldOf_57 : decode cX9_fieldOf 57 = .ok (.ireturn, 1) := by decide +kernel
theorem dX9_c_0 : decode cX9_c 0 = .ok (.iload_n 1, 1) := by decide +kernel
theorem dX9_c_1 : decode cX9_c 1 = .ok (.aload_n 0, 1) := by decide +kernel
theorem dX9_c_2 : decode cX9_c 2 = .ok (.getfield 59, 3) := by decide +kernel
theorem dX9_c_5 : decode cX9_c 5 = .ok (.if_icmp .ge 12, 3) := by decide +kernel
theorem dX9_c_8 : decode cX9_c 8 = .ok (.aload_n 0, 1) := by decide +kernel
theorem dX9_c_9 : decode cX9_c 9 = .ok (.getfield 7, 3) := by decide +kernel
theorem dX9_c_12 : decode cX9_c 12 = .ok (.iload_n 1, 1) := by decide +kernel
theorem dX9_c_13 : decode cX9_c 13 = .ok (.iaload, 1) := by decide +kernel
theorem dX9_c_14 : decode cX9_c 14 = .ok (.goto 4, 3) := by decide +kernel
theorem dX9_c_17 : decode cX9_c 17 = .ok (.iconst (-1), 1) := by decide +kernel
theorem dX9_c_18 : decode cX9_c 18 = .ok (.ireturn, 1) := by decide +kernel
theorem dX9_fail_0 : decode cX9_fail 0 = .ok (.aload_n 0, 1) := by decide +kernel
theorem dX9_fail_1 : decode cX9_fail 1 = .ok (.getfield 84, 3) := by decide +kernel
theorem dX9_fail_4 : decode cX9_fail 4 = .ok (.iconst (-1), 1) := by decide +kernel
theorem dX9_fail_5 : decode cX9_fail 5 = .ok (.if_icmp .ne 8, 3) := by decide +kernel
theorem dX9_fail_8 : decode cX9_fail 8 = .ok (.aload_n 0, 1) := by decide +kernel
theorem dX9_fail_9 : decode cX9_fail 9 = .ok (.iload_n 1, 1) := by decide +kernel
theorem dX9_fail_10 : decode cX9_fail 10 = .ok (.putfield 84, 3) := by decide +kernel
theorem dX9_fail_13 : decode cX9_fail 13 = .ok (.return_, 1) := by decide +kernel
theorem dX9_isBlank_0 : decode cX9_isBlank 0 = .ok (.iload_n 0, 1) := by decide +kernel
theorem dX9_isBlank_1 : decode cX9_isBlank 1 = .ok (.bipush 32, 2) := by decide +kernel
theorem dX9_isBlank_3 : decode cX9_isBlank 3 = .ok (.if_icmp .eq 9, 3) := by decide +kernel
theorem dX9_isBlank_6 : decode cX9_isBlank 6 = .ok (.iload_n 0, 1) := by decide +kernel
theorem dX9_isBlank_7 : decode cX9_isBlank 7 = .ok (.bipush 10, 2) := by decide +kernel
theorem dX9_isBlank_9 : decode cX9_isBlank 9 = .ok (.if_icmp .ne 7, 3) := by decide +kernel
theorem dX9_isBlank_12 : decode cX9_isBlank 12 = .ok (.iconst 1, 1) := by decide +kernel
theorem dX9_isBlank_13 : decode cX9_isBlank 13 = .ok (.goto 4, 3) := by decide +kernel
theorem dX9_isBlank_16 : decode cX9_isBlank 16 = .ok (.iconst 0, 1) := by decide +kernel
theorem dX9_isBlank_17 : decode cX9_isBlank 17 = .ok (.ireturn, 1) := by decide +kernel
theorem dX9_isDigit_0 : decode cX9_isDigit 0 = .ok (.iload_n 0, 1) := by decide +kernel
theorem dX9_isDigit_1 : decode cX9_isDigit 1 = .ok (.bipush 48, 2) := by decide +kernel
theorem dX9_isDigit_3 : decode cX9_isDigit 3 = .ok (.if_icmp .lt 13, 3) := by decide +kernel
theorem dX9_isDigit_6 : decode cX9_isDigit 6 = .ok (.iload_n 0, 1) := by decide +kernel
theorem dX9_isDigit_7 : decode cX9_isDigit 7 = .ok (.bipush 57, 2) := by decide +kernel
theorem dX9_isDigit_9 : decode cX9_isDigit 9 = .ok (.if_icmp .gt 7, 3) := by decide +kernel
theorem dX9_isDigit_12 : decode cX9_isDigit 12 = .ok (.iconst 1, 1) := by decide +kernel
theorem dX9_isDigit_13 : decode cX9_isDigit 13 = .ok (.goto 4, 3) := by decide +kernel
theorem dX9_isDigit_16 : decode cX9_isDigit 16 = .ok (.iconst 0, 1) := by decide +kernel
theorem dX9_isDigit_17 : decode cX9_isDigit 17 = .ok (.ireturn, 1) := by decide +kernel
theorem dX9_isSmall_0 : decode cX9_isSmall 0 = .ok (.iload_n 0, 1) := by decide +kernel
theorem dX9_isSmall_1 : decode cX9_isSmall 1 = .ok (.bipush 97, 2) := by decide +kernel
theorem dX9_isSmall_3 : decode cX9_isSmall 3 = .ok (.if_icmp .lt 13, 3) := by decide +kernel
theorem dX9_isSmall_6 : decode cX9_isSmall 6 = .ok (.iload_n 0, 1) := by decide +kernel
theorem dX9_isSmall_7 : decode cX9_isSmall 7 = .ok (.bipush 122, 2) := by decide +kernel
theorem dX9_isSmall_9 : decode cX9_isSmall 9 = .ok (.if_icmp .gt 7, 3) := by decide +kernel
theorem dX9_isSmall_12 : decode cX9_isSmall 12 = .ok (.iconst 1, 1) := by decide +kernel
theorem dX9_isSmall_13 : decode cX9_isSmall 13 = .ok (.goto 4, 3) := by decide +kernel
theorem dX9_isSmall_16 : decode cX9_isSmall 16 = .ok (.iconst 0, 1) := by decide +kernel
theorem dX9_isSmall_17 : decode cX9_isSmall 17 = .ok (.ireturn, 1) := by decide +kernel
theorem dX9_blanks_0 : decode cX9_blanks 0 = .ok (.iload_n 1, 1) := by decide +kernel
theorem dX9_blanks_1 : decode cX9_blanks 1 = .ok (.istore_n 2, 1) := by decide +kernel
theorem dX9_blanks_2 : decode cX9_blanks 2 = .ok (.aload_n 0, 1) := by decide +kernel
theorem dX9_blanks_3 : decode cX9_blanks 3 = .ok (.iload_n 2, 1) := by decide +kernel
theorem dX9_blanks_4 : decode cX9_blanks 4 = .ok (.invokevirtual 87, 3) := by decide +kernel
theorem dX9_blanks_7 : decode cX9_blanks 7 = .ok (.invokestatic 91, 3) := by decide +kernel
theorem dX9_blanks_10 : decode cX9_blanks 10 = .ok (.ifCond .eq 9, 3) := by decide +kernel
theorem dX9_blanks_13 : decode cX9_blanks 13 = .ok (.iinc 2 1, 3) := by decide +kernel
theorem dX9_blanks_16 : decode cX9_blanks 16 = .ok (.goto (-14), 3) := by decide +kernel
theorem dX9_blanks_19 : decode cX9_blanks 19 = .ok (.iload_n 2, 1) := by decide +kernel
theorem dX9_blanks_20 : decode cX9_blanks 20 = .ok (.ireturn, 1) := by decide +kernel
theorem dX9_digits_0 : decode cX9_digits 0 = .ok (.iload_n 1, 1) := by decide +kernel
theorem dX9_digits_1 : decode cX9_digits 1 = .ok (.istore_n 3, 1) := by decide +kernel
theorem dX9_digits_2 : decode cX9_digits 2 = .ok (.aload_n 0, 1) := by decide +kernel
theorem dX9_digits_3 : decode cX9_digits 3 = .ok (.iload_n 3, 1) := by decide +kernel
theorem dX9_digits_4 : decode cX9_digits 4 = .ok (.invokevirtual 87, 3) := by decide +kernel
theorem dX9_digits_7 : decode cX9_digits 7 = .ok (.invokestatic 95, 3) := by decide +kernel
theorem dX9_digits_10 : decode cX9_digits 10 = .ok (.ifCond .eq 16, 3) := by decide +kernel
theorem dX9_digits_13 : decode cX9_digits 13 = .ok (.iload_n 3, 1) := by decide +kernel
theorem dX9_digits_14 : decode cX9_digits 14 = .ok (.iload_n 1, 1) := by decide +kernel
theorem dX9_digits_15 : decode cX9_digits 15 = .ok (.isub, 1) := by decide +kernel
theorem dX9_digits_16 : decode cX9_digits 16 = .ok (.iload_n 2, 1) := by decide +kernel
theorem dX9_digits_17 : decode cX9_digits 17 = .ok (.if_icmp .ge 9, 3) := by decide +kernel
theorem dX9_digits_20 : decode cX9_digits 20 = .ok (.iinc 3 1, 3) := by decide +kernel
theorem dX9_digits_23 : decode cX9_digits 23 = .ok (.goto (-21), 3) := by decide +kernel
theorem dX9_digits_26 : decode cX9_digits 26 = .ok (.iload_n 3, 1) := by decide +kernel
theorem dX9_digits_27 : decode cX9_digits 27 = .ok (.iload_n 1, 1) := by decide +kernel
theorem dX9_digits_28 : decode cX9_digits 28 = .ok (.if_icmp .eq 14, 3) := by decide +kernel
theorem dX9_digits_31 : decode cX9_digits 31 = .ok (.aload_n 0, 1) := by decide +kernel
theorem dX9_digits_32 : decode cX9_digits 32 = .ok (.iload_n 3, 1) := by decide +kernel
theorem dX9_digits_33 : decode cX9_digits 33 = .ok (.invokevirtual 87, 3) := by decide +kernel
theorem dX9_digits_36 : decode cX9_digits 36 = .ok (.invokestatic 95, 3) := by decide +kernel
theorem dX9_digits_39 : decode cX9_digits 39 = .ok (.ifCond .eq 8, 3) := by decide +kernel
theorem dX9_digits_42 : decode cX9_digits 42 = .ok (.aload_n 0, 1) := by decide +kernel
theorem dX9_digits_43 : decode cX9_digits 43 = .ok (.iload_n 3, 1) := by decide +kernel
theorem dX9_digits_44 : decode cX9_digits 44 = .ok (.invokevirtual 98, 3) := by decide +kernel
theorem dX9_digits_47 : decode cX9_digits 47 = .ok (.iload_n 3, 1) := by decide +kernel
theorem dX9_digits_48 : decode cX9_digits 48 = .ok (.ireturn, 1) := by decide +kernel
theorem dX9_valueOf_0 : decode cX9_valueOf 0 = .ok (.lconst 0, 1) := by decide +kernel
theorem dX9_valueOf_1 : decode cX9_valueOf 1 = .ok (.lstore_n 3, 1) := by decide +kernel
theorem dX9_valueOf_2 : decode cX9_valueOf 2 = .ok (.iload_n 1, 1) := by decide +kernel
theorem dX9_valueOf_3 : decode cX9_valueOf 3 = .ok (.istore 5, 2) := by decide +kernel
theorem dX9_valueOf_5 : decode cX9_valueOf 5 = .ok (.iload 5, 2) := by decide +kernel
theorem dX9_valueOf_7 : decode cX9_valueOf 7 = .ok (.iload_n 2, 1) := by decide +kernel
theorem dX9_valueOf_8 : decode cX9_valueOf 8 = .ok (.if_icmp .ge 45, 3) := by decide +kernel
theorem dX9_valueOf_11 : decode cX9_valueOf 11 = .ok (.aload_n 0, 1) := by decide +kernel
theorem dX9_valueOf_12 : decode cX9_valueOf 12 = .ok (.getfield 7, 3) := by decide +kernel
theorem dX9_valueOf_15 : decode cX9_valueOf 15 = .ok (.iload 5, 2) := by decide +kernel
theorem dX9_valueOf_17 : decode cX9_valueOf 17 = .ok (.iaload, 1) := by decide +kernel
theorem dX9_valueOf_18 : decode cX9_valueOf 18 = .ok (.invokestatic 95, 3) := by decide +kernel
theorem dX9_valueOf_21 : decode cX9_valueOf 21 = .ok (.ifCond .eq 24, 3) := by decide +kernel
theorem dX9_valueOf_24 : decode cX9_valueOf 24 = .ok (.ldc2_w 102, 3) := by decide +kernel
theorem dX9_valueOf_27 : decode cX9_valueOf 27 = .ok (.lload_n 3, 1) := by decide +kernel
theorem dX9_valueOf_28 : decode cX9_valueOf 28 = .ok (.lmul, 1) := by decide +kernel
theorem dX9_valueOf_29 : decode cX9_valueOf 29 = .ok (.aload_n 0, 1) := by decide +kernel
theorem dX9_valueOf_30 : decode cX9_valueOf 30 = .ok (.getfield 7, 3) := by decide +kernel
theorem dX9_valueOf_33 : decode cX9_valueOf 33 = .ok (.iload 5, 2) := by decide +kernel
theorem dX9_valueOf_35 : decode cX9_valueOf 35 = .ok (.iaload, 1) := by decide +kernel
theorem dX9_valueOf_36 : decode cX9_valueOf 36 = .ok (.i2l, 1) := by decide +kernel
theorem dX9_valueOf_37 : decode cX9_valueOf 37 = .ok (.ladd, 1) := by decide +kernel
theorem dX9_valueOf_38 : decode cX9_valueOf 38 = .ok (.ldc2_w 104, 3) := by decide +kernel
theorem dX9_valueOf_41 : decode cX9_valueOf 41 = .ok (.lsub, 1) := by decide +kernel
theorem dX9_valueOf_42 : decode cX9_valueOf 42 = .ok (.goto 4, 3) := by decide +kernel
theorem dX9_valueOf_45 : decode cX9_valueOf 45 = .ok (.lload_n 3, 1) := by decide +kernel
theorem dX9_valueOf_46 : decode cX9_valueOf 46 = .ok (.lstore_n 3, 1) := by decide +kernel
theorem dX9_valueOf_47 : decode cX9_valueOf 47 = .ok (.iinc 5 1, 3) := by decide +kernel
theorem dX9_valueOf_50 : decode cX9_valueOf 50 = .ok (.goto (-45), 3) := by decide +kernel
theorem dX9_valueOf_53 : decode cX9_valueOf 53 = .ok (.lload_n 3, 1) := by decide +kernel
theorem dX9_valueOf_54 : decode cX9_valueOf 54 = .ok (.lreturn, 1) := by decide +kernel
theorem dX9_readNumber_0 : decode cX9_readNumber 0 = .ok (.aload_n 0, 1) := by decide +kernel
theorem dX9_readNumber_1 : decode cX9_readNumber 1 = .ok (.iload_n 1, 1) := by decide +kernel
theorem dX9_readNumber_2 : decode cX9_readNumber 2 = .ok (.invokevirtual 87, 3) := by decide +kernel
theorem dX9_readNumber_5 : decode cX9_readNumber 5 = .ok (.bipush 45, 2) := by decide +kernel
theorem dX9_readNumber_7 : decode cX9_readNumber 7 = .ok (.if_icmp .ne 9, 3) := by decide +kernel
theorem dX9_readNumber_10 : decode cX9_readNumber 10 = .ok (.iload_n 1, 1) := by decide +kernel
theorem dX9_readNumber_11 : decode cX9_readNumber 11 = .ok (.iconst 1, 1) := by decide +kernel
theorem dX9_readNumber_12 : decode cX9_readNumber 12 = .ok (.iadd, 1) := by decide +kernel
theorem dX9_readNumber_13 : decode cX9_readNumber 13 = .ok (.goto 4, 3) := by decide +kernel
theorem dX9_readNumber_16 : decode cX9_readNumber 16 = .ok (.iload_n 1, 1) := by decide +kernel
theorem dX9_readNumber_17 : decode cX9_readNumber 17 = .ok (.istore 7, 2) := by decide +kernel
theorem dX9_readNumber_19 : decode cX9_readNumber 19 = .ok (.aload_n 0, 1) := by decide +kernel
theorem dX9_readNumber_20 : decode cX9_readNumber 20 = .ok (.iload 7, 2) := by decide +kernel
theorem dX9_readNumber_22 : decode cX9_readNumber 22 = .ok (.iconst 4, 1) := by decide +kernel
theorem dX9_readNumber_23 : decode cX9_readNumber 23 = .ok (.invokevirtual 106, 3) := by decide +kernel
theorem dX9_readNumber_26 : decode cX9_readNumber 26 = .ok (.istore 8, 2) := by decide +kernel
theorem dX9_readNumber_28 : decode cX9_readNumber 28 = .ok (.aload_n 0, 1) := by decide +kernel
theorem dX9_readNumber_29 : decode cX9_readNumber 29 = .ok (.getfield 84, 3) := by decide +kernel
theorem dX9_readNumber_32 : decode cX9_readNumber 32 = .ok (.iconst (-1), 1) := by decide +kernel
theorem dX9_readNumber_33 : decode cX9_readNumber 33 = .ok (.if_icmp .ne 14, 3) := by decide +kernel
theorem dX9_readNumber_36 : decode cX9_readNumber 36 = .ok (.aload_n 0, 1) := by decide +kernel
theorem dX9_readNumber_37 : decode cX9_readNumber 37 = .ok (.iload 7, 2) := by decide +kernel
theorem dX9_readNumber_39 : decode cX9_readNumber 39 = .ok (.iload 8, 2) := by decide +kernel
theorem dX9_readNumber_41 : decode cX9_readNumber 41 = .ok (.invokevirtual 109, 3) := by decide +kernel
theorem dX9_readNumber_44 : decode cX9_readNumber 44 = .ok (.goto 4, 3) := by decide +kernel
theorem dX9_readNumber_47 : decode cX9_readNumber 47 = .ok (.lconst 0, 1) := by decide +kernel
theorem dX9_readNumber_48 : decode cX9_readNumber 48 = .ok (.lstore 9, 2) := by decide +kernel
theorem dX9_readNumber_50 : decode cX9_readNumber 50 = .ok (.iload_n 2, 1) := by decide +kernel
theorem dX9_readNumber_51 : decode cX9_readNumber 51 = .ok (.ifCond .eq 11, 3) := by decide +kernel
theorem dX9_readNumber_54 : decode cX9_readNumber 54 = .ok (.ldc2_w 113, 3) := by decide +kernel
theorem dX9_readNumber_57 : decode cX9_readNumber 57 = .ok (.lload 9, 2) := by decide +kernel
theorem dX9_readNumber_59 : decode cX9_readNumber 59 = .ok (.lmul, 1) := by decide +kernel
theorem dX9_readNumber_60 : decode cX9_readNumber 60 = .ok (.lstore 9, 2) := by decide +kernel
theorem dX9_readNumber_62 : decode cX9_readNumber 62 = .ok (.iload_n 2, 1) := by decide +kernel
theorem dX9_readNumber_63 : decode cX9_readNumber 63 = .ok (.ifCond .eq 95, 3) := by decide +kernel
theorem dX9_readNumber_66 : decode cX9_readNumber 66 = .ok (.aload_n 0, 1) := by decide +kernel
theorem dX9_readNumber_67 : decode cX9_readNumber 67 = .ok (.getfield 84, 3) := by decide +kernel
theorem dX9_readNumber_70 : decode cX9_readNumber 70 = .ok (.iconst (-1), 1) := by decide +kernel
theorem dX9_readNumber_71 : decode cX9_readNumber 71 = .ok (.if_icmp .ne 87, 3) := by decide +kernel
theorem dX9_readNumber_74 : decode cX9_readNumber 74 = .ok (.aload_n 0, 1) := by decide +kernel
theorem dX9_readNumber_75 : decode cX9_readNumber 75 = .ok (.iload 8, 2) := by decide +kernel
theorem dX9_readNumber_77 : decode cX9_readNumber 77 = .ok (.invokevirtual 87, 3) := by decide +kernel
theorem dX9_readNumber_80 : decode cX9_readNumber 80 = .ok (.bipush 46, 2) := by decide +kernel
theorem dX9_readNumber_82 : decode cX9_readNumber 82 = .ok (.if_icmp .ne 76, 3) := by decide +kernel
theorem dX9_readNumber_85 : decode cX9_readNumber 85 = .ok (.aload_n 0, 1) := by decide +kernel
theorem dX9_readNumber_86 : decode cX9_readNumber 86 = .ok (.iload 8, 2) := by decide +kernel
theorem dX9_readNumber_88 : decode cX9_readNumber 88 = .ok (.iconst 1, 1) := by decide +kernel
theorem dX9_readNumber_89 : decode cX9_readNumber 89 = .ok (.iadd, 1) := by decide +kernel
theorem dX9_readNumber_90 : decode cX9_readNumber 90 = .ok (.bipush 6, 2) := by decide +kernel
theorem dX9_readNumber_92 : decode cX9_readNumber 92 = .ok (.invokevirtual 106, 3) := by decide +kernel
theorem dX9_readNumber_95 : decode cX9_readNumber 95 = .ok (.istore 11, 2) := by decide +kernel
theorem dX9_readNumber_97 : decode cX9_readNumber 97 = .ok (.aload_n 0, 1) := by decide +kernel
theorem dX9_readNumber_98 : decode cX9_readNumber 98 = .ok (.getfield 84, 3) := by decide +kernel
theorem dX9_readNumber_101 : decode cX9_readNumber 101 = .ok (.iconst (-1), 1) := by decide +kernel
theorem dX9_readNumber_102 : decode cX9_readNumber 102 = .ok (.if_icmp .ne 52, 3) := by decide +kernel
theorem dX9_readNumber_105 : decode cX9_readNumber 105 = .ok (.aload_n 0, 1) := by decide +kernel
theorem dX9_readNumber_106 : decode cX9_readNumber 106 = .ok (.iload 8, 2) := by decide +kernel
theorem dX9_readNumber_108 : decode cX9_readNumber 108 = .ok (.iconst 1, 1) := by decide +kernel
theorem dX9_readNumber_109 : decode cX9_readNumber 109 = .ok (.iadd, 1) := by decide +kernel
theorem dX9_readNumber_110 : decode cX9_readNumber 110 = .ok (.iload 11, 2) := by decide +kernel
theorem dX9_readNumber_112 : decode cX9_readNumber 112 = .ok (.invokevirtual 109, 3) := by decide +kernel
theorem dX9_readNumber_115 : decode cX9_readNumber 115 = .ok (.lstore 12, 2) := by decide +kernel
theorem dX9_readNumber_117 : decode cX9_readNumber 117 = .ok (.iload 11, 2) := by decide +kernel
theorem dX9_readNumber_119 : decode cX9_readNumber 119 = .ok (.iload 8, 2) := by decide +kernel
theorem dX9_readNumber_121 : decode cX9_readNumber 121 = .ok (.isub, 1) := by decide +kernel
theorem dX9_readNumber_122 : decode cX9_readNumber 122 = .ok (.iconst 1, 1) := by decide +kernel
theorem dX9_readNumber_123 : decode cX9_readNumber 123 = .ok (.isub, 1) := by decide +kernel
theorem dX9_readNumber_124 : decode cX9_readNumber 124 = .ok (.istore 14, 2) := by decide +kernel
theorem dX9_readNumber_126 : decode cX9_readNumber 126 = .ok (.iload 14, 2) := by decide +kernel
theorem dX9_readNumber_128 : decode cX9_readNumber 128 = .ok (.bipush 6, 2) := by decide +kernel
theorem dX9_readNumber_130 : decode cX9_readNumber 130 = .ok (.if_icmp .ge 17, 3) := by decide +kernel
theorem dX9_readNumber_133 : decode cX9_readNumber 133 = .ok (.ldc2_w 102, 3) := by decide +kernel
theorem dX9_readNumber_136 : decode cX9_readNumber 136 = .ok (.lload 12, 2) := by decide +kernel
theorem dX9_readNumber_138 : decode cX9_readNumber 138 = .ok (.lmul, 1) := by decide +kernel
theorem dX9_readNumber_139 : decode cX9_readNumber 139 = .ok (.lstore 12, 2) := by decide +kernel
theorem dX9_readNumber_141 : decode cX9_readNumber 141 = .ok (.iinc 14 1, 3) := by decide +kernel
theorem dX9_readNumber_144 : decode cX9_readNumber 144 = .ok (.goto (-18), 3) := by decide +kernel
theorem dX9_readNumber_147 : decode cX9_readNumber 147 = .ok (.lload 9, 2) := by decide +kernel
theorem dX9_readNumber_149 : decode cX9_readNumber 149 = .ok (.lload 12, 2) := by decide +kernel
theorem dX9_readNumber_151 : decode cX9_readNumber 151 = .ok (.ladd, 1) := by decide +kernel
theorem dX9_readNumber_152 : decode cX9_readNumber 152 = .ok (.lstore 9, 2) := by decide +kernel
theorem dX9_readNumber_154 : decode cX9_readNumber 154 = .ok (.iload 11, 2) := by decide +kernel
theorem dX9_readNumber_156 : decode cX9_readNumber 156 = .ok (.istore 8, 2) := by decide +kernel
theorem dX9_readNumber_158 : decode cX9_readNumber 158 = .ok (.iload 7, 2) := by decide +kernel
theorem dX9_readNumber_160 : decode cX9_readNumber 160 = .ok (.iload_n 1, 1) := by decide +kernel
theorem dX9_readNumber_161 : decode cX9_readNumber 161 = .ok (.if_icmp .le 10, 3) := by decide +kernel
theorem dX9_readNumber_164 : decode cX9_readNumber 164 = .ok (.lconst 0, 1) := by decide +kernel
theorem dX9_readNumber_165 : decode cX9_readNumber 165 = .ok (.lload 9, 2) := by decide +kernel
theorem dX9_readNumber_167 : decode cX9_readNumber 167 = .ok (.lsub, 1) := by decide +kernel
theorem dX9_readNumber_168 : decode cX9_readNumber 168 = .ok (.goto 5, 3) := by decide +kernel
theorem dX9_readNumber_171 : decode cX9_readNumber 171 = .ok (.lload 9, 2) := by decide +kernel
theorem dX9_readNumber_173 : decode cX9_readNumber 173 = .ok (.lstore 9, 2) := by decide +kernel
theorem dX9_readNumber_175 : decode cX9_readNumber 175 = .ok (.lload 9, 2) := by decide +kernel
theorem dX9_readNumber_177 : decode cX9_readNumber 177 = .ok (.lload_n 3, 1) := by decide +kernel
theorem dX9_readNumber_178 : decode cX9_readNumber 178 = .ok (.lcmp, 1) := by decide +kernel
theorem dX9_readNumber_179 : decode cX9_readNumber 179 = .ok (.ifCond .lt 11, 3) := by decide +kernel
theorem dX9_readNumber_182 : decode cX9_readNumber 182 = .ok (.lload 9, 2) := by decide +kernel
theorem dX9_readNumber_184 : decode cX9_readNumber 184 = .ok (.lload 5, 2) := by decide +kernel
theorem dX9_readNumber_186 : decode cX9_readNumber 186 = .ok (.lcmp, 1) := by decide +kernel
theorem dX9_readNumber_187 : decode cX9_readNumber 187 = .ok (.ifCond .le 8, 3) := by decide +kernel
theorem dX9_readNumber_190 : decode cX9_readNumber 190 = .ok (.aload_n 0, 1) := by decide +kernel
theorem dX9_readNumber_191 : decode cX9_readNumber 191 = .ok (.iload_n 1, 1) := by decide +kernel
theorem dX9_readNumber_192 : decode cX9_readNumber 192 = .ok (.invokevirtual 98, 3) := by decide +kernel
theorem dX9_readNumber_195 : decode cX9_readNumber 195 = .ok (.aload_n 0, 1) := by decide +kernel
theorem dX9_readNumber_196 : decode cX9_readNumber 196 = .ok (.lload 9, 2) := by decide +kernel
theorem dX9_readNumber_198 : decode cX9_readNumber 198 = .ok (.putfield 115, 3) := by decide +kernel
theorem dX9_readNumber_201 : decode cX9_readNumber 201 = .ok (.iload 8, 2) := by decide +kernel
theorem dX9_readNumber_203 : decode cX9_readNumber 203 = .ok (.ireturn, 1) := by decide +kernel
theorem dX9_readText_0 : decode cX9_readText 0 = .ok (.aload_n 0, 1) := by decide +kernel
theorem dX9_readText_1 : decode cX9_readText 1 = .ok (.iload_n 1, 1) := by decide +kernel
theorem dX9_readText_2 : decode cX9_readText 2 = .ok (.invokevirtual 87, 3) := by decide +kernel
theorem dX9_readText_5 : decode cX9_readText 5 = .ok (.bipush 34, 2) := by decide +kernel
theorem dX9_readText_7 : decode cX9_readText 7 = .ok (.if_icmp .eq 10, 3) := by decide +kernel
theorem dX9_readText_10 : decode cX9_readText 10 = .ok (.aload_n 0, 1) := by decide +kernel
theorem dX9_readText_11 : decode cX9_readText 11 = .ok (.iload_n 1, 1) := by decide +kernel
theorem dX9_readText_12 : decode cX9_readText 12 = .ok (.invokevirtual 98, 3) := by decide +kernel
theorem dX9_readText_15 : decode cX9_readText 15 = .ok (.iload_n 1, 1) := by decide +kernel
theorem dX9_readText_16 : decode cX9_readText 16 = .ok (.ireturn, 1) := by decide +kernel
theorem dX9_readText_17 : decode cX9_readText 17 = .ok (.iload_n 1, 1) := by decide +kernel
theorem dX9_readText_18 : decode cX9_readText 18 = .ok (.iconst 1, 1) := by decide +kernel
theorem dX9_readText_19 : decode cX9_readText 19 = .ok (.iadd, 1) := by decide +kernel
theorem dX9_readText_20 : decode cX9_readText 20 = .ok (.istore_n 2, 1) := by decide +kernel
theorem dX9_readText_21 : decode cX9_readText 21 = .ok (.iconst 0, 1) := by decide +kernel
theorem dX9_readText_22 : decode cX9_readText 22 = .ok (.istore_n 3, 1) := by decide +kernel
theorem dX9_readText_23 : decode cX9_readText 23 = .ok (.aload_n 0, 1) := by decide +kernel
theorem dX9_readText_24 : decode cX9_readText 24 = .ok (.getfield 84, 3) := by decide +kernel
theorem dX9_readText_27 : decode cX9_readText 27 = .ok (.iconst (-1), 1) := by decide +kernel
theorem dX9_readText_28 : decode cX9_readText 28 = .ok (.if_icmp .ne 155, 3) := by decide +kernel
theorem dX9_readText_31 : decode cX9_readText 31 = .ok (.aload_n 0, 1) := by decide +kernel
theorem dX9_readText_32 : decode cX9_readText 32 = .ok (.iload_n 2, 1) := by decide +kernel
theorem dX9_readText_33 : decode cX9_readText 33 = .ok (.invokevirtual 87, 3) := by decide +kernel
theorem dX9_readText_36 : decode cX9_readText 36 = .ok (.bipush 34, 2) := by decide +kernel
theorem dX9_readText_38 : decode cX9_readText 38 = .ok (.if_icmp .eq 145, 3) := by decide +kernel
theorem dX9_readText_41 : decode cX9_readText 41 = .ok (.aload_n 0, 1) := by decide +kernel
theorem dX9_readText_42 : decode cX9_readText 42 = .ok (.iload_n 2, 1) := by decide +kernel
theorem dX9_readText_43 : decode cX9_readText 43 = .ok (.invokevirtual 87, 3) := by decide +kernel
theorem dX9_readText_46 : decode cX9_readText 46 = .ok (.bipush 92, 2) := by decide +kernel
theorem dX9_readText_48 : decode cX9_readText 48 = .ok (.if_icmp .ne 7, 3) := by decide +kernel
theorem dX9_readText_51 : decode cX9_readText 51 = .ok (.iconst 1, 1) := by decide +kernel
theorem dX9_readText_52 : decode cX9_readText 52 = .ok (.goto 4, 3) := by decide +kernel
theorem dX9_readText_55 : decode cX9_readText 55 = .ok (.iconst 0, 1) := by decide +kernel
theorem dX9_readText_56 : decode cX9_readText 56 = .ok (.istore 4, 2) := by decide +kernel
theorem dX9_readText_58 : decode cX9_readText 58 = .ok (.iload 4, 2) := by decide +kernel
theorem dX9_readText_60 : decode cX9_readText 60 = .ok (.ifCond .eq 13, 3) := by decide +kernel
theorem dX9_readText_63 : decode cX9_readText 63 = .ok (.aload_n 0, 1) := by decide +kernel
theorem dX9_readText_64 : decode cX9_readText 64 = .ok (.iload_n 2, 1) := by decide +kernel
theorem dX9_readText_65 : decode cX9_readText 65 = .ok (.iconst 1, 1) := by decide +kernel
theorem dX9_readText_66 : decode cX9_readText 66 = .ok (.iadd, 1) := by decide +kernel
theorem dX9_readText_67 : decode cX9_readText 67 = .ok (.invokevirtual 87, 3) := by decide +kernel
theorem dX9_readText_70 : decode cX9_readText 70 = .ok (.goto 8, 3) := by decide +kernel
theorem dX9_readText_73 : decode cX9_readText 73 = .ok (.aload_n 0, 1) := by decide +kernel
theorem dX9_readText_74 : decode cX9_readText 74 = .ok (.iload_n 2, 1) := by decide +kernel
theorem dX9_readText_75 : decode cX9_readText 75 = .ok (.invokevirtual 87, 3) := by decide +kernel
theorem dX9_readText_78 : decode cX9_readText 78 = .ok (.istore 5, 2) := by decide +kernel
theorem dX9_readText_80 : decode cX9_readText 80 = .ok (.iload_n 3, 1) := by decide +kernel
theorem dX9_readText_81 : decode cX9_readText 81 = .ok (.bipush 40, 2) := by decide +kernel
theorem dX9_readText_83 : decode cX9_readText 83 = .ok (.if_icmp .eq 13, 3) := by decide +kernel
theorem dX9_readText_86 : decode cX9_readText 86 = .ok (.aload_n 0, 1) := by decide +kernel
theorem dX9_readText_87 : decode cX9_readText 87 = .ok (.iload_n 2, 1) := by decide +kernel
theorem dX9_readText_88 : decode cX9_readText 88 = .ok (.invokevirtual 87, 3) := by decide +kernel
theorem dX9_readText_91 : decode cX9_readText 91 = .ok (.bipush 32, 2) := by decide +kernel
theorem dX9_readText_93 : decode cX9_readText 93 = .ok (.if_icmp .ge 11, 3) := by decide +kernel
theorem dX9_readText_96 : decode cX9_readText 96 = .ok (.aload_n 0, 1) := by decide +kernel
theorem dX9_readText_97 : decode cX9_readText 97 = .ok (.iload_n 2, 1) := by decide +kernel
theorem dX9_readText_98 : decode cX9_readText 98 = .ok (.invokevirtual 98, 3) := by decide +kernel
theorem dX9_readText_101 : decode cX9_readText 101 = .ok (.goto 79, 3) := by decide +kernel
theorem dX9_readText_104 : decode cX9_readText 104 = .ok (.iload 4, 2) := by decide +kernel
theorem dX9_readText_106 : decode cX9_readText 106 = .ok (.ifCond .eq 27, 3) := by decide +kernel
theorem dX9_readText_109 : decode cX9_readText 109 = .ok (.iload 5, 2) := by decide +kernel
theorem dX9_readText_111 : decode cX9_readText 111 = .ok (.bipush 34, 2) := by decide +kernel
theorem dX9_readText_113 : decode cX9_readText 113 = .ok (.if_icmp .eq 20, 3) := by decide +kernel
theorem dX9_readText_116 : decode cX9_readText 116 = .ok (.iload 5, 2) := by decide +kernel
theorem dX9_readText_118 : decode cX9_readText 118 = .ok (.bipush 92, 2) := by decide +kernel
theorem dX9_readText_120 : decode cX9_readText 120 = .ok (.if_icmp .eq 13, 3) := by decide +kernel
theorem dX9_readText_123 : decode cX9_readText 123 = .ok (.aload_n 0, 1) := by decide +kernel
theorem dX9_readText_124 : decode cX9_readText 124 = .ok (.iload_n 2, 1) := by decide +kernel
theorem dX9_readText_125 : decode cX9_readText 125 = .ok (.iconst 1, 1) := by decide +kernel
theorem dX9_readText_126 : decode cX9_readText 126 = .ok (.iadd, 1) := by decide +kernel
theorem dX9_readText_127 : decode cX9_readText 127 = .ok (.invokevirtual 98, 3) := by decide +kernel
theorem dX9_readText_130 : decode cX9_readText 130 = .ok (.goto 50, 3) := by decide +kernel
theorem dX9_readText_133 : decode cX9_readText 133 = .ok (.aload_n 0, 1) := by decide +kernel
theorem dX9_readText_134 : decode cX9_readText 134 = .ok (.getfield 119, 3) := by decide +kernel
theorem dX9_readText_137 : decode cX9_readText 137 = .ok (.ifCond .eq 27, 3) := by decide +kernel
theorem dX9_readText_140 : decode cX9_readText 140 = .ok (.aload_n 0, 1) := by decide +kernel
theorem dX9_readText_141 : decode cX9_readText 141 = .ok (.getfield 26, 3) := by decide +kernel
theorem dX9_readText_144 : decode cX9_readText 144 = .ok (.bipush 80, 2) := by decide +kernel
theorem dX9_readText_146 : decode cX9_readText 146 = .ok (.aload_n 0, 1) := by decide +kernel
theorem dX9_readText_147 : decode cX9_readText 147 = .ok (.getfield 122, 3) := by decide +kernel
theorem dX9_readText_150 : decode cX9_readText 150 = .ok (.imul, 1) := by decide +kernel
theorem dX9_readText_151 : decode cX9_readText 151 = .ok (.bipush 40, 2) := by decide +kernel
theorem dX9_readText_153 : decode cX9_readText 153 = .ok (.aload_n 0, 1) := by decide +kernel
theorem dX9_readText_154 : decode cX9_readText 154 = .ok (.getfield 125, 3) := by decide +kernel
theorem dX9_readText_157 : decode cX9_readText 157 = .ok (.imul, 1) := by decide +kernel
theorem dX9_readText_158 : decode cX9_readText 158 = .ok (.iadd, 1) := by decide +kernel
theorem dX9_readText_159 : decode cX9_readText 159 = .ok (.iload_n 3, 1) := by decide +kernel
theorem dX9_readText_160 : decode cX9_readText 160 = .ok (.iadd, 1) := by decide +kernel
theorem dX9_readText_161 : decode cX9_readText 161 = .ok (.iload 5, 2) := by decide +kernel
theorem dX9_readText_163 : decode cX9_readText 163 = .ok (.iastore, 1) := by decide +kernel
theorem dX9_readText_164 : decode cX9_readText 164 = .ok (.iinc 3 1, 3) := by decide +kernel
theorem dX9_readText_167 : decode cX9_readText 167 = .ok (.iload_n 2, 1) := by decide +kernel
theorem dX9_readText_168 : decode cX9_readText 168 = .ok (.iload 4, 2) := by decide +kernel
theorem dX9_readText_170 : decode cX9_readText 170 = .ok (.ifCond .eq 7, 3) := by decide +kernel
theorem dX9_readText_173 : decode cX9_readText 173 = .ok (.iconst 2, 1) := by decide +kernel
theorem dX9_readText_174 : decode cX9_readText 174 = .ok (.goto 4, 3) := by decide +kernel
theorem dX9_readText_177 : decode cX9_readText 177 = .ok (.iconst 1, 1) := by decide +kernel
theorem dX9_readText_178 : decode cX9_readText 178 = .ok (.iadd, 1) := by decide +kernel
theorem dX9_readText_179 : decode cX9_readText 179 = .ok (.istore_n 2, 1) := by decide +kernel
theorem dX9_readText_180 : decode cX9_readText 180 = .ok (.goto (-157), 3) := by decide +kernel
theorem dX9_readText_183 : decode cX9_readText 183 = .ok (.aload_n 0, 1) := by decide +kernel
theorem dX9_readText_184 : decode cX9_readText 184 = .ok (.getfield 119, 3) := by decide +kernel
theorem dX9_readText_187 : decode cX9_readText 187 = .ok (.ifCond .eq 20, 3) := by decide +kernel
theorem dX9_readText_190 : decode cX9_readText 190 = .ok (.aload_n 0, 1) := by decide +kernel
theorem dX9_readText_191 : decode cX9_readText 191 = .ok (.getfield 23, 3) := by decide +kernel
theorem dX9_readText_194 : decode cX9_readText 194 = .ok (.iconst 2, 1) := by decide +kernel
theorem dX9_readText_195 : decode cX9_readText 195 = .ok (.aload_n 0, 1) := by decide +kernel
theorem dX9_readText_196 : decode cX9_readText 196 = .ok (.getfield 122, 3) := by decide +kernel
theorem dX9_readText_199 : decode cX9_readText 199 = .ok (.imul, 1) := by decide +kernel
theorem dX9_readText_200 : decode cX9_readText 200 = .ok (.aload_n 0, 1) := by decide +kernel
theorem dX9_readText_201 : decode cX9_readText 201 = .ok (.getfield 125, 3) := by decide +kernel
theorem dX9_readText_204 : decode cX9_readText 204 = .ok (.iadd, 1) := by decide +kernel
theorem dX9_readText_205 : decode cX9_readText 205 = .ok (.iload_n 3, 1) := by decide +kernel
theorem dX9_readText_206 : decode cX9_readText 206 = .ok (.iastore, 1) := by decide +kernel
theorem dX9_readText_207 : decode cX9_readText 207 = .ok (.iload_n 2, 1) := by decide +kernel
theorem dX9_readText_208 : decode cX9_readText 208 = .ok (.iconst 1, 1) := by decide +kernel
theorem dX9_readText_209 : decode cX9_readText 209 = .ok (.iadd, 1) := by decide +kernel
theorem dX9_readText_210 : decode cX9_readText 210 = .ok (.ireturn, 1) := by decide +kernel
theorem dX9_readValue_0 : decode cX9_readValue 0 = .ok (.iload_n 1, 1) := by decide +kernel
theorem dX9_readValue_1 : decode cX9_readValue 1 = .ok (.iload_n 2, 1) := by decide +kernel
theorem dX9_readValue_2 : decode cX9_readValue 2 = .ok (.invokestatic 68, 3) := by decide +kernel
theorem dX9_readValue_5 : decode cX9_readValue 5 = .ok (.istore 4, 2) := by decide +kernel
theorem dX9_readValue_7 : decode cX9_readValue 7 = .ok (.iload 4, 2) := by decide +kernel
theorem dX9_readValue_9 : decode cX9_readValue 9 = .ok (.iconst 3, 1) := by decide +kernel
theorem dX9_readValue_10 : decode cX9_readValue 10 = .ok (.if_icmp .ne 23, 3) := by decide +kernel
theorem dX9_readValue_13 : decode cX9_readValue 13 = .ok (.aload_n 0, 1) := by decide +kernel
theorem dX9_readValue_14 : decode cX9_readValue 14 = .ok (.iload_n 3, 1) := by decide +kernel
theorem dX9_readValue_15 : decode cX9_readValue 15 = .ok (.invokevirtual 128, 3) := by decide +kernel
theorem dX9_readValue_18 : decode cX9_readValue 18 = .ok (.istore 5, 2) := by decide +kernel
theorem dX9_readValue_20 : decode cX9_readValue 20 = .ok (.aload_n 0, 1) := by decide +kernel
theorem dX9_readValue_21 : decode cX9_readValue 21 = .ok (.dup, 1) := by decide +kernel
theorem dX9_readValue_22 : decode cX9_readValue 22 = .ok (.getfield 125, 3) := by decide +kernel
theorem dX9_readValue_25 : decode cX9_readValue 25 = .ok (.iconst 1, 1) := by decide +kernel
theorem dX9_readValue_26 : decode cX9_readValue 26 = .ok (.iadd, 1) := by decide +kernel
theorem dX9_readValue_27 : decode cX9_readValue 27 = .ok (.putfield 125, 3) := by decide +kernel
theorem dX9_readValue_30 : decode cX9_readValue 30 = .ok (.goto 68, 3) := by decide +kernel
theorem dX9_readValue_33 : decode cX9_readValue 33 = .ok (.aload_n 0, 1) := by decide +kernel
theorem dX9_readValue_34 : decode cX9_readValue 34 = .ok (.iload_n 3, 1) := by decide +kernel
theorem dX9_readValue_35 : decode cX9_readValue 35 = .ok (.iload 4, 2) := by decide +kernel
theorem dX9_readValue_37 : decode cX9_readValue 37 = .ok (.iconst 1, 1) := by decide +kernel
theorem dX9_readValue_38 : decode cX9_readValue 38 = .ok (.if_icmp .ne 7, 3) := by decide +kernel
theorem dX9_readValue_41 : decode cX9_readValue 41 = .ok (.iconst 1, 1) := by decide +kernel
theorem dX9_readValue_42 : decode cX9_readValue 42 = .ok (.goto 4, 3) := by decide +kernel
theorem dX9_readValue_45 : decode cX9_readValue 45 = .ok (.iconst 0, 1) := by decide +kernel
theorem dX9_readValue_46 : decode cX9_readValue 46 = .ok (.iload_n 1, 1) := by decide +kernel
theorem dX9_readValue_47 : decode cX9_readValue 47 = .ok (.iload_n 2, 1) := by decide +kernel
theorem dX9_readValue_48 : decode cX9_readValue 48 = .ok (.invokestatic 131, 3) := by decide +kernel
theorem dX9_readValue_51 : decode cX9_readValue 51 = .ok (.iload_n 1, 1) := by decide +kernel
theorem dX9_readValue_52 : decode cX9_readValue 52 = .ok (.iload_n 2, 1) := by decide +kernel
theorem dX9_readValue_53 : decode cX9_readValue 53 = .ok (.invokestatic 134, 3) := by decide +kernel
theorem dX9_readValue_56 : decode cX9_readValue 56 = .ok (.invokevirtual 137, 3) := by decide +kernel
theorem dX9_readValue_59 : decode cX9_readValue 59 = .ok (.istore 5, 2) := by decide +kernel
theorem dX9_readValue_61 : decode cX9_readValue 61 = .ok (.aload_n 0, 1) := by decide +kernel
theorem dX9_readValue_62 : decode cX9_readValue 62 = .ok (.getfield 119, 3) := by decide +kernel
theorem dX9_readValue_65 : decode cX9_readValue 65 = .ok (.ifCond .eq 23, 3) := by decide +kernel
theorem dX9_readValue_68 : decode cX9_readValue 68 = .ok (.aload_n 0, 1) := by decide +kernel
theorem dX9_readValue_69 : decode cX9_readValue 69 = .ok (.getfield 19, 3) := by decide +kernel
theorem dX9_readValue_72 : decode cX9_readValue 72 = .ok (.iconst 5, 1) := by decide +kernel
theorem dX9_readValue_73 : decode cX9_readValue 73 = .ok (.aload_n 0, 1) := by decide +kernel
theorem dX9_readValue_74 : decode cX9_readValue 74 = .ok (.getfield 122, 3) := by decide +kernel
theorem dX9_readValue_77 : decode cX9_readValue 77 = .ok (.imul, 1) := by decide +kernel
theorem dX9_readValue_78 : decode cX9_readValue 78 = .ok (.aload_n 0, 1) := by decide +kernel
theorem dX9_readValue_79 : decode cX9_readValue 79 = .ok (.getfield 141, 3) := by decide +kernel
theorem dX9_readValue_82 : decode cX9_readValue 82 = .ok (.iadd, 1) := by decide +kernel
theorem dX9_readValue_83 : decode cX9_readValue 83 = .ok (.aload_n 0, 1) := by decide +kernel
theorem dX9_readValue_84 : decode cX9_readValue 84 = .ok (.getfield 115, 3) := by decide +kernel
theorem dX9_readValue_87 : decode cX9_readValue 87 = .ok (.lastore, 1) := by decide +kernel
theorem dX9_readValue_88 : decode cX9_readValue 88 = .ok (.aload_n 0, 1) := by decide +kernel
theorem dX9_readValue_89 : decode cX9_readValue 89 = .ok (.dup, 1) := by decide +kernel
theorem dX9_readValue_90 : decode cX9_readValue 90 = .ok (.getfield 141, 3) := by decide +kernel
theorem dX9_readValue_93 : decode cX9_readValue 93 = .ok (.iconst 1, 1) := by decide +kernel
theorem dX9_readValue_94 : decode cX9_readValue 94 = .ok (.iadd, 1) := by decide +kernel
theorem dX9_readValue_95 : decode cX9_readValue 95 = .ok (.putfield 141, 3) := by decide +kernel
theorem dX9_readValue_98 : decode cX9_readValue 98 = .ok (.iload 5, 2) := by decide +kernel
theorem dX9_readValue_100 : decode cX9_readValue 100 = .ok (.ireturn, 1) := by decide +kernel
theorem dX9_blank_0 : decode cX9_blank 0 = .ok (.iconst 0, 1) := by decide +kernel
theorem dX9_blank_1 : decode cX9_blank 1 = .ok (.istore_n 3, 1) := by decide +kernel
theorem dX9_blank_2 : decode cX9_blank 2 = .ok (.iload_n 3, 1) := by decide +kernel
theorem dX9_blank_3 : decode cX9_blank 3 = .ok (.iconst 5, 1) := by decide +kernel
theorem dX9_blank_4 : decode cX9_blank 4 = .ok (.if_icmp .ge 20, 3) := by decide +kernel
theorem dX9_blank_7 : decode cX9_blank 7 = .ok (.aload_n 0, 1) := by decide +kernel
theorem dX9_blank_8 : decode cX9_blank 8 = .ok (.getfield 19, 3) := by decide +kernel
theorem dX9_blank_11 : decode cX9_blank 11 = .ok (.iconst 5, 1) := by decide +kernel
theorem dX9_blank_12 : decode cX9_blank 12 = .ok (.iload_n 1, 1) := by decide +kernel
theorem dX9_blank_13 : decode cX9_blank 13 = .ok (.imul, 1) := by decide +kernel
theorem dX9_blank_14 : decode cX9_blank 14 = .ok (.iload_n 3, 1) := by decide +kernel
theorem dX9_blank_15 : decode cX9_blank 15 = .ok (.iadd, 1) := by decide +kernel
theorem dX9_blank_16 : decode cX9_blank 16 = .ok (.lconst 0, 1) := by decide +kernel
theorem dX9_blank_17 : decode cX9_blank 17 = .ok (.lastore, 1) := by decide +kernel
theorem dX9_blank_18 : decode cX9_blank 18 = .ok (.iinc 3 1, 3) := by decide +kernel
theorem dX9_blank_21 : decode cX9_blank 21 = .ok (.goto (-19), 3) := by decide +kernel
theorem dX9_blank_24 : decode cX9_blank 24 = .ok (.iload_n 2, 1) := by decide +kernel
theorem dX9_blank_25 : decode cX9_blank 25 = .ok (.iconst 3, 1) := by decide +kernel
theorem dX9_blank_26 : decode cX9_blank 26 = .ok (.if_icmp .ne 12, 3) := by decide +kernel
theorem dX9_blank_29 : decode cX9_blank 29 = .ok (.aload_n 0, 1) := by decide +kernel
theorem dX9_blank_30 : decode cX9_blank 30 = .ok (.getfield 19, 3) := by decide +kernel
theorem dX9_blank_33 : decode cX9_blank 33 = .ok (.iconst 5, 1) := by decide +kernel
theorem dX9_blank_34 : decode cX9_blank 34 = .ok (.iload_n 1, 1) := by decide +kernel
theorem dX9_blank_35 : decode cX9_blank 35 = .ok (.imul, 1) := by decide +kernel
theorem dX9_blank_36 : decode cX9_blank 36 = .ok (.lconst 1, 1) := by decide +kernel
theorem dX9_blank_37 : decode cX9_blank 37 = .ok (.lastore, 1) := by decide +kernel
theorem dX9_blank_38 : decode cX9_blank 38 = .ok (.iload_n 2, 1) := by decide +kernel
theorem dX9_blank_39 : decode cX9_blank 39 = .ok (.bipush 6, 2) := by decide +kernel
theorem dX9_blank_41 : decode cX9_blank 41 = .ok (.if_icmp .ne 16, 3) := by decide +kernel
theorem dX9_blank_44 : decode cX9_blank 44 = .ok (.aload_n 0, 1) := by decide +kernel
theorem dX9_blank_45 : decode cX9_blank 45 = .ok (.getfield 19, 3) := by decide +kernel
theorem dX9_blank_48 : decode cX9_blank 48 = .ok (.iconst 5, 1) := by decide +kernel
theorem dX9_blank_49 : decode cX9_blank 49 = .ok (.iload_n 1, 1) := by decide +kernel
theorem dX9_blank_50 : decode cX9_blank 50 = .ok (.imul, 1) := by decide +kernel
theorem dX9_blank_51 : decode cX9_blank 51 = .ok (.iconst 2, 1) := by decide +kernel
theorem dX9_blank_52 : decode cX9_blank 52 = .ok (.iadd, 1) := by decide +kernel
theorem dX9_blank_53 : decode cX9_blank 53 = .ok (.ldc2_w 144, 3) := by decide +kernel
theorem dX9_blank_56 : decode cX9_blank 56 = .ok (.lastore, 1) := by decide +kernel
theorem dX9_blank_57 : decode cX9_blank 57 = .ok (.aload_n 0, 1) := by decide +kernel
theorem dX9_blank_58 : decode cX9_blank 58 = .ok (.getfield 23, 3) := by decide +kernel
theorem dX9_blank_61 : decode cX9_blank 61 = .ok (.iconst 2, 1) := by decide +kernel
theorem dX9_blank_62 : decode cX9_blank 62 = .ok (.iload_n 1, 1) := by decide +kernel
theorem dX9_blank_63 : decode cX9_blank 63 = .ok (.imul, 1) := by decide +kernel
theorem dX9_blank_64 : decode cX9_blank 64 = .ok (.iconst 0, 1) := by decide +kernel
theorem dX9_blank_65 : decode cX9_blank 65 = .ok (.iastore, 1) := by decide +kernel
theorem dX9_blank_66 : decode cX9_blank 66 = .ok (.aload_n 0, 1) := by decide +kernel
theorem dX9_blank_67 : decode cX9_blank 67 = .ok (.getfield 23, 3) := by decide +kernel
theorem dX9_blank_70 : decode cX9_blank 70 = .ok (.iconst 2, 1) := by decide +kernel
theorem dX9_blank_71 : decode cX9_blank 71 = .ok (.iload_n 1, 1) := by decide +kernel
theorem dX9_blank_72 : decode cX9_blank 72 = .ok (.imul, 1) := by decide +kernel
theorem dX9_blank_73 : decode cX9_blank 73 = .ok (.iconst 1, 1) := by decide +kernel
theorem dX9_blank_74 : decode cX9_blank 74 = .ok (.iadd, 1) := by decide +kernel
theorem dX9_blank_75 : decode cX9_blank 75 = .ok (.iconst 0, 1) := by decide +kernel
theorem dX9_blank_76 : decode cX9_blank 76 = .ok (.iastore, 1) := by decide +kernel
theorem dX9_blank_77 : decode cX9_blank 77 = .ok (.aload_n 0, 1) := by decide +kernel
theorem dX9_blank_78 : decode cX9_blank 78 = .ok (.getfield 13, 3) := by decide +kernel
theorem dX9_blank_81 : decode cX9_blank 81 = .ok (.iload_n 1, 1) := by decide +kernel
theorem dX9_blank_82 : decode cX9_blank 82 = .ok (.iload_n 2, 1) := by decide +kernel
theorem dX9_blank_83 : decode cX9_blank 83 = .ok (.iastore, 1) := by decide +kernel
theorem dX9_blank_84 : decode cX9_blank 84 = .ok (.aload_n 0, 1) := by decide +kernel
theorem dX9_blank_85 : decode cX9_blank 85 = .ok (.getfield 32, 3) := by decide +kernel
theorem dX9_blank_88 : decode cX9_blank 88 = .ok (.iload_n 1, 1) := by decide +kernel
theorem dX9_blank_89 : decode cX9_blank 89 = .ok (.iconst 0, 1) := by decide +kernel
theorem dX9_blank_90 : decode cX9_blank 90 = .ok (.iastore, 1) := by decide +kernel
theorem dX9_blank_91 : decode cX9_blank 91 = .ok (.return_, 1) := by decide +kernel
theorem dX9_nameEnd_0 : decode cX9_nameEnd 0 = .ok (.iload_n 1, 1) := by decide +kernel
theorem dX9_nameEnd_1 : decode cX9_nameEnd 1 = .ok (.istore_n 2, 1) := by decide +kernel
theorem dX9_nameEnd_2 : decode cX9_nameEnd 2 = .ok (.aload_n 0, 1) := by decide +kernel
theorem dX9_nameEnd_3 : decode cX9_nameEnd 3 = .ok (.iload_n 2, 1) := by decide +kernel
theorem dX9_nameEnd_4 : decode cX9_nameEnd 4 = .ok (.invokevirtual 87, 3) := by decide +kernel
theorem dX9_nameEnd_7 : decode cX9_nameEnd 7 = .ok (.invokestatic 146, 3) := by decide +kernel
theorem dX9_nameEnd_10 : decode cX9_nameEnd 10 = .ok (.ifCond .eq 9, 3) := by decide +kernel
theorem dX9_nameEnd_13 : decode cX9_nameEnd 13 = .ok (.iinc 2 1, 3) := by decide +kernel
theorem dX9_nameEnd_16 : decode cX9_nameEnd 16 = .ok (.goto (-14), 3) := by decide +kernel
theorem dX9_nameEnd_19 : decode cX9_nameEnd 19 = .ok (.iload_n 2, 1) := by decide +kernel
theorem dX9_nameEnd_20 : decode cX9_nameEnd 20 = .ok (.ireturn, 1) := by decide +kernel
theorem dX9_kindAt_0 : decode cX9_kindAt 0 = .ok (.lconst 0, 1) := by decide +kernel
theorem dX9_kindAt_1 : decode cX9_kindAt 1 = .ok (.lstore_n 3, 1) := by decide +kernel
theorem dX9_kindAt_2 : decode cX9_kindAt 2 = .ok (.iload_n 1, 1) := by decide +kernel
theorem dX9_kindAt_3 : decode cX9_kindAt 3 = .ok (.istore 5, 2) := by decide +kernel
theorem dX9_kindAt_5 : decode cX9_kindAt 5 = .ok (.iload 5, 2) := by decide +kernel
theorem dX9_kindAt_7 : decode cX9_kindAt 7 = .ok (.iload_n 2, 1) := by decide +kernel
theorem dX9_kindAt_8 : decode cX9_kindAt 8 = .ok (.if_icmp .ge 36, 3) := by decide +kernel
theorem dX9_kindAt_11 : decode cX9_kindAt 11 = .ok (.iload_n 2, 1) := by decide +kernel
theorem dX9_kindAt_12 : decode cX9_kindAt 12 = .ok (.iload_n 1, 1) := by decide +kernel
theorem dX9_kindAt_13 : decode cX9_kindAt 13 = .ok (.isub, 1) := by decide +kernel
theorem dX9_kindAt_14 : decode cX9_kindAt 14 = .ok (.bipush 7, 2) := by decide +kernel
theorem dX9_kindAt_16 : decode cX9_kindAt 16 = .ok (.if_icmp .ge 28, 3) := by decide +kernel
theorem dX9_kindAt_19 : decode cX9_kindAt 19 = .ok (.ldc2_w 66, 3) := by decide +kernel
theorem dX9_kindAt_22 : decode cX9_kindAt 22 = .ok (.lload_n 3, 1) := by decide +kernel
theorem dX9_kindAt_23 : decode cX9_kindAt 23 = .ok (.lmul, 1) := by decide +kernel
theorem dX9_kindAt_24 : decode cX9_kindAt 24 = .ok (.aload_n 0, 1) := by decide +kernel
theorem dX9_kindAt_25 : decode cX9_kindAt 25 = .ok (.getfield 7, 3) := by decide +kernel
theorem dX9_kindAt_28 : decode cX9_kindAt 28 = .ok (.iload 5, 2) := by decide +kernel
theorem dX9_kindAt_30 : decode cX9_kindAt 30 = .ok (.iaload, 1) := by decide +kernel
theorem dX9_kindAt_31 : decode cX9_kindAt 31 = .ok (.i2l, 1) := by decide +kernel
theorem dX9_kindAt_32 : decode cX9_kindAt 32 = .ok (.ladd, 1) := by decide +kernel
theorem dX9_kindAt_33 : decode cX9_kindAt 33 = .ok (.ldc2_w 149, 3) := by decide +kernel
theorem dX9_kindAt_36 : decode cX9_kindAt 36 = .ok (.lsub, 1) := by decide +kernel
theorem dX9_kindAt_37 : decode cX9_kindAt 37 = .ok (.lstore_n 3, 1) := by decide +kernel
theorem dX9_kindAt_38 : decode cX9_kindAt 38 = .ok (.iinc 5 1, 3) := by decide +kernel
theorem dX9_kindAt_41 : decode cX9_kindAt 41 = .ok (.goto (-36), 3) := by decide +kernel
theorem dX9_kindAt_44 : decode cX9_kindAt 44 = .ok (.iconst 0, 1) := by decide +kernel
theorem dX9_kindAt_45 : decode cX9_kindAt 45 = .ok (.istore 5, 2) := by decide +kernel
theorem dX9_kindAt_47 : decode cX9_kindAt 47 = .ok (.iload 5, 2) := by decide +kernel
theorem dX9_kindAt_49 : decode cX9_kindAt 49 = .ok (.bipush 9, 2) := by decide +kernel
theorem dX9_kindAt_51 : decode cX9_kindAt 51 = .ok (.if_icmp .ge 22, 3) := by decide +kernel
theorem dX9_kindAt_54 : decode cX9_kindAt 54 = .ok (.iload 5, 2) := by decide +kernel
theorem dX9_kindAt_56 : decode cX9_kindAt 56 = .ok (.invokestatic 151, 3) := by decide +kernel
theorem dX9_kindAt_59 : decode cX9_kindAt 59 = .ok (.lload_n 3, 1) := by decide +kernel
theorem dX9_kindAt_60 : decode cX9_kindAt 60 = .ok (.lcmp, 1) := by decide +kernel
theorem dX9_kindAt_61 : decode cX9_kindAt 61 = .ok (.ifCond .ne 6, 3) := by decide +kernel
theorem dX9_kindAt_64 : decode cX9_kindAt 64 = .ok (.iload 5, 2) := by decide +kernel
theorem dX9_kindAt_66 : decode cX9_kindAt 66 = .ok (.ireturn, 1) := by decide +kernel

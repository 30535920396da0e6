theorem dX7_init_0 : decode cX7_init 0 = .ok (.aload_n 0, 1) := by decide +kernel
theorem dX7_init_1 : decode cX7_init 1 = .ok (.invokespecial 3, 3) := by decide +kernel
theorem dX7_init_4 : decode cX7_init 4 = .ok (.aload_n 0, 1) := by decide +kernel
theorem dX7_init_5 : decode cX7_init 5 = .ok (.sipush 200, 3) := by decide +kernel
theorem dX7_init_8 : decode cX7_init 8 = .ok (.newarray .int, 2) := by decide +kernel
theorem dX7_init_10 : decode cX7_init 10 = .ok (.putfield 9, 3) := by decide +kernel
theorem dX7_init_13 : decode cX7_init 13 = .ok (.aload_n 0, 1) := by decide +kernel
theorem dX7_init_14 : decode cX7_init 14 = .ok (.sipush 200, 3) := by decide +kernel
theorem dX7_init_17 : decode cX7_init 17 = .ok (.newarray .int, 2) := by decide +kernel
theorem dX7_init_19 : decode cX7_init 19 = .ok (.putfield 15, 3) := by decide +kernel
theorem dX7_init_22 : decode cX7_init 22 = .ok (.aload_n 0, 1) := by decide +kernel
theorem dX7_init_23 : decode cX7_init 23 = .ok (.sipush 200, 3) := by decide +kernel
theorem dX7_init_26 : decode cX7_init 26 = .ok (.newarray .int, 2) := by decide +kernel
theorem dX7_init_28 : decode cX7_init 28 = .ok (.putfield 18, 3) := by decide +kernel
theorem dX7_init_31 : decode cX7_init 31 = .ok (.aload_n 0, 1) := by decide +kernel
theorem dX7_init_32 : decode cX7_init 32 = .ok (.sipush 200, 3) := by decide +kernel
theorem dX7_init_35 : decode cX7_init 35 = .ok (.newarray .int, 2) := by decide +kernel
theorem dX7_init_37 : decode cX7_init 37 = .ok (.putfield 21, 3) := by decide +kernel
theorem dX7_init_40 : decode cX7_init 40 = .ok (.aload_n 0, 1) := by decide +kernel
theorem dX7_init_41 : decode cX7_init 41 = .ok (.sipush 200, 3) := by decide +kernel
theorem dX7_init_44 : decode cX7_init 44 = .ok (.newarray .int, 2) := by decide +kernel
theorem dX7_init_46 : decode cX7_init 46 = .ok (.putfield 24, 3) := by decide +kernel
theorem dX7_init_49 : decode cX7_init 49 = .ok (.aload_n 0, 1) := by decide +kernel
theorem dX7_init_50 : decode cX7_init 50 = .ok (.sipush 200, 3) := by decide +kernel
theorem dX7_init_53 : decode cX7_init 53 = .ok (.newarray .int, 2) := by decide +kernel
theorem dX7_init_55 : decode cX7_init 55 = .ok (.putfield 27, 3) := by decide +kernel
theorem dX7_init_58 : decode cX7_init 58 = .ok (.aload_n 0, 1) := by decide +kernel
theorem dX7_init_59 : decode cX7_init 59 = .ok (.sipush 1000, 3) := by decide +kernel
theorem dX7_init_62 : decode cX7_init 62 = .ok (.newarray .long, 2) := by decide +kernel
theorem dX7_init_64 : decode cX7_init 64 = .ok (.putfield 30, 3) := by decide +kernel
theorem dX7_init_67 : decode cX7_init 67 = .ok (.aload_n 0, 1) := by decide +kernel
theorem dX7_init_68 : decode cX7_init 68 = .ok (.sipush 400, 3) := by decide +kernel
theorem dX7_init_71 : decode cX7_init 71 = .ok (.newarray .int, 2) := by decide +kernel
theorem dX7_init_73 : decode cX7_init 73 = .ok (.putfield 34, 3) := by decide +kernel
theorem dX7_init_76 : decode cX7_init 76 = .ok (.aload_n 0, 1) := by decide +kernel
theorem dX7_init_77 : decode cX7_init 77 = .ok (.sipush 16000, 3) := by decide +kernel
theorem dX7_init_80 : decode cX7_init 80 = .ok (.newarray .char, 2) := by decide +kernel
theorem dX7_init_82 : decode cX7_init 82 = .ok (.putfield 37, 3) := by decide +kernel
theorem dX7_init_85 : decode cX7_init 85 = .ok (.aload_n 0, 1) := by decide +kernel
theorem dX7_init_86 : decode cX7_init 86 = .ok (.sipush 200, 3) := by decide +kernel
theorem dX7_init_89 : decode cX7_init 89 = .ok (.newarray .int, 2) := by decide +kernel
theorem dX7_init_91 : decode cX7_init 91 = .ok (.putfield 41, 3) := by decide +kernel
theorem dX7_init_94 : decode cX7_init 94 = .ok (.aload_n 0, 1) := by decide +kernel
theorem dX7_init_95 : decode cX7_init 95 = .ok (.sipush 200, 3) := by decide +kernel
theorem dX7_init_98 : decode cX7_init 98 = .ok (.newarray .int, 2) := by decide +kernel
theorem dX7_init_100 : decode cX7_init 100 = .ok (.putfield 44, 3) := by decide +kernel
theorem dX7_init_103 : decode cX7_init 103 = .ok (.aload_n 0, 1) := by decide +kernel
theorem dX7_init_104 : decode cX7_init 104 = .ok (.sipush 2000, 3) := by decide +kernel
theorem dX7_init_107 : decode cX7_init 107 = .ok (.newarray .char, 2) := by decide +kernel
theorem dX7_init_109 : decode cX7_init 109 = .ok (.putfield 47, 3) := by decide +kernel
theorem dX7_init_112 : decode cX7_init 112 = .ok (.aload_n 0, 1) := by decide +kernel
theorem dX7_init_113 : decode cX7_init 113 = .ok (.iconst 0, 1) := by decide +kernel
theorem dX7_init_114 : decode cX7_init 114 = .ok (.putfield 50, 3) := by decide +kernel
theorem dX7_init_117 : decode cX7_init 117 = .ok (.aload_n 0, 1) := by decide +kernel
theorem dX7_init_118 : decode cX7_init 118 = .ok (.iconst 0, 1) := by decide +kernel
theorem dX7_init_119 : decode cX7_init 119 = .ok (.putfield 54, 3) := by decide +kernel
theorem dX7_init_122 : decode cX7_init 122 = .ok (.aload_n 0, 1) := by decide +kernel
theorem dX7_init_123 : decode cX7_init 123 = .ok (.iconst 0, 1) := by decide +kernel
theorem dX7_init_124 : decode cX7_init 124 = .ok (.putfield 57, 3) := by decide +kernel
theorem dX7_init_127 : decode cX7_init 127 = .ok (.aload_n 0, 1) := by decide +kernel
theorem dX7_init_128 : decode cX7_init 128 = .ok (.iconst 0, 1) := by decide +kernel
theorem dX7_init_129 : decode cX7_init 129 = .ok (.putfield 60, 3) := by decide +kernel
theorem dX7_init_132 : decode cX7_init 132 = .ok (.return_, 1) := by decide +kernel
theorem dX7_forget_0 : decode cX7_forget 0 = .ok (.aload_n 0, 1) := by decide +kernel
theorem dX7_forget_1 : decode cX7_forget 1 = .ok (.iconst 0, 1) := by decide +kernel
theorem dX7_forget_2 : decode cX7_forget 2 = .ok (.putfield 50, 3) := by decide +kernel
theorem dX7_forget_5 : decode cX7_forget 5 = .ok (.aload_n 0, 1) := by decide +kernel
theorem dX7_forget_6 : decode cX7_forget 6 = .ok (.iconst 0, 1) := by decide +kernel
theorem dX7_forget_7 : decode cX7_forget 7 = .ok (.putfield 54, 3) := by decide +kernel
theorem dX7_forget_10 : decode cX7_forget 10 = .ok (.aload_n 0, 1) := by decide +kernel
theorem dX7_forget_11 : decode cX7_forget 11 = .ok (.iconst 0, 1) := by decide +kernel
theorem dX7_forget_12 : decode cX7_forget 12 = .ok (.putfield 57, 3) := by decide +kernel
theorem dX7_forget_15 : decode cX7_forget 15 = .ok (.aload_n 0, 1) := by decide +kernel
theorem dX7_forget_16 : decode cX7_forget 16 = .ok (.iconst 0, 1) := by decide +kernel
theorem dX7_forget_17 : decode cX7_forget 17 = .ok (.putfield 60, 3) := by decide +kernel
theorem dX7_forget_20 : decode cX7_forget 20 = .ok (.return_, 1) := by decide +kernel
theorem dX7_has_0 : decode cX7_has 0 = .ok (.iload_n 1, 1) := by decide +kernel
theorem dX7_has_1 : decode cX7_has 1 = .ok (.ifCond .lt 15, 3) := by decide +kernel
theorem dX7_has_4 : decode cX7_has 4 = .ok (.iload_n 1, 1) := by decide +kernel
theorem dX7_has_5 : decode cX7_has 5 = .ok (.aload_n 0, 1) := by decide +kernel
theorem dX7_has_6 : decode cX7_has 6 = .ok (.getfield 54, 3) := by decide +kernel
theorem dX7_has_9 : decode cX7_has 9 = .ok (.if_icmp .ge 7, 3) := by decide +kernel
theorem dX7_has_12 : decode cX7_has 12 = .ok (.iconst 1, 1) := by decide +kernel
theorem dX7_has_13 : decode cX7_has 13 = .ok (.goto 4, 3) := by decide +kernel
theorem dX7_has_16 : decode cX7_has 16 = .ok (.iconst 0, 1) := by decide +kernel
theorem dX7_has_17 : decode cX7_has 17 = .ok (.ireturn, 1) := by decide +kernel
theorem dX7_kindOf_0 : decode cX7_kindOf 0 = .ok (.aload_n 0, 1) := by decide +kernel
theorem dX7_kindOf_1 : decode cX7_kindOf 1 = .ok (.iload_n 1, 1) := by decide +kernel
theorem dX7_kindOf_2 : decode cX7_kindOf 2 = .ok (.invokevirtual 63, 3) := by decide +kernel
theorem dX7_kindOf_5 : decode cX7_kindOf 5 = .ok (.ifCond .eq 12, 3) := by decide +kernel
theorem dX7_kindOf_8 : decode cX7_kindOf 8 = .ok (.aload_n 0, 1) := by decide +kernel
theorem dX7_kindOf_9 : decode cX7_kindOf 9 = .ok (.getfield 9, 3) := by decide +kernel
theorem dX7_kindOf_12 : decode cX7_kindOf 12 = .ok (.iload_n 1, 1) := by decide +kernel
theorem dX7_kindOf_13 : decode cX7_kindOf 13 = .ok (.iaload, 1) := by decide +kernel
theorem dX7_kindOf_14 : decode cX7_kindOf 14 = .ok (.goto 4, 3) := by decide +kernel
theorem dX7_kindOf_17 : decode cX7_kindOf 17 = .ok (.iconst (-1), 1) := by decide +kernel
theorem dX7_kindOf_18 : decode cX7_kindOf 18 = .ok (.invokestatic 67, 3) := by decide +kernel
theorem dX7_kindOf_21 : decode cX7_kindOf 21 = .ok (.areturn, 1) := by decide +kernel
theorem dX7_parentOf_0 : decode cX7_parentOf 0 = .ok (.aload_n 0, 1) := by decide +kernel
theorem dX7_parentOf_1 : decode cX7_parentOf 1 = .ok (.iload_n 1, 1) := by decide +kernel
theorem dX7_parentOf_2 : decode cX7_parentOf 2 = .ok (.invokevirtual 63, 3) := by decide +kernel
theorem dX7_parentOf_5 : decode cX7_parentOf 5 = .ok (.ifCond .eq 12, 3) := by decide +kernel
theorem dX7_parentOf_8 : decode cX7_parentOf 8 = .ok (.aload_n 0, 1) := by decide +kernel
theorem dX7_parentOf_9 : decode cX7_parentOf 9 = .ok (.getfield 15, 3) := by decide +kernel
theorem dX7_parentOf_12 : decode cX7_parentOf 12 = .ok (.iload_n 1, 1) := by decide +kernel
theorem dX7_parentOf_13 : decode cX7_parentOf 13 = .ok (.iaload, 1) := by decide +kernel
theorem dX7_parentOf_14 : decode cX7_parentOf 14 = .ok (.goto 4, 3) := by decide +kernel
theorem dX7_parentOf_17 : decode cX7_parentOf 17 = .ok (.iconst (-1), 1) := by decide +kernel
theorem dX7_parentOf_18 : decode cX7_parentOf 18 = .ok (.ireturn, 1) := by decide +kernel
theorem dX7_depthOf_0 : decode cX7_depthOf 0 = .ok (.aload_n 0, 1) := by decide +kernel
theorem dX7_depthOf_1 : decode cX7_depthOf 1 = .ok (.iload_n 1, 1) := by decide +kernel
theorem dX7_depthOf_2 : decode cX7_depthOf 2 = .ok (.invokevirtual 63, 3) := by decide +kernel
theorem dX7_depthOf_5 : decode cX7_depthOf 5 = .ok (.ifCond .eq 12, 3) := by decide +kernel
theorem dX7_depthOf_8 : decode cX7_depthOf 8 = .ok (.aload_n 0, 1) := by decide +kernel
theorem dX7_depthOf_9 : decode cX7_depthOf 9 = .ok (.getfield 18, 3) := by decide +kernel
theorem dX7_depthOf_12 : decode cX7_depthOf 12 = .ok (.iload_n 1, 1) := by decide +kernel
theorem dX7_depthOf_13 : decode cX7_depthOf 13 = .ok (.iaload, 1) := by decide +kernel
theorem dX7_depthOf_14 : decode cX7_depthOf 14 = .ok (.goto 4, 3) := by decide +kernel
theorem dX7_depthOf_17 : decode cX7_depthOf 17 = .ok (.iconst (-1), 1) := by decide +kernel
theorem dX7_depthOf_18 : decode cX7_depthOf 18 = .ok (.ireturn, 1) := by decide +kernel
theorem dX7_mayHold_0 : decode cX7_mayHold 0 = .ok (.aload_n 0, 1) := by decide +kernel
theorem dX7_mayHold_1 : decode cX7_mayHold 1 = .ok (.iload_n 1, 1) := by decide +kernel
theorem dX7_mayHold_2 : decode cX7_mayHold 2 = .ok (.invokevirtual 63, 3) := by decide +kernel
theorem dX7_mayHold_5 : decode cX7_mayHold 5 = .ok (.ifCond .eq 13, 3) := by decide +kernel
theorem dX7_mayHold_8 : decode cX7_mayHold 8 = .ok (.aload_n 2, 1) := by decide +kernel
theorem dX7_mayHold_9 : decode cX7_mayHold 9 = .ok (.aload_n 0, 1) := by decide +kernel
theorem dX7_mayHold_10 : decode cX7_mayHold 10 = .ok (.iload_n 1, 1) := by decide +kernel
theorem dX7_mayHold_11 : decode cX7_mayHold 11 = .ok (.invokevirtual 73, 3) := by decide +kernel
theorem dX7_mayHold_14 : decode cX7_mayHold 14 = .ok (.invokevirtual 76, 3) := by decide +kernel
theorem dX7_mayHold_17 : decode cX7_mayHold 17 = .ok (.ireturn, 1) := by decide +kernel
theorem dX7_mayHold_18 : decode cX7_mayHold 18 = .ok (.aload_n 0, 1) := by decide +kernel
theorem dX7_mayHold_19 : decode cX7_mayHold 19 = .ok (.getfield 54, 3) := by decide +kernel
theorem dX7_mayHold_22 : decode cX7_mayHold 22 = .ok (.ifCond .ne 14, 3) := by decide +kernel
theorem dX7_mayHold_25 : decode cX7_mayHold 25 = .ok (.aload_n 2, 1) := by decide +kernel
theorem dX7_mayHold_26 : decode cX7_mayHold 26 = .ok (.getstatic 80, 3) := by decide +kernel
theorem dX7_mayHold_29 : decode cX7_mayHold 29 = .ok (.if_acmp .ne 7, 3) := by decide +kernel
theorem dX7_mayHold_32 : decode cX7_mayHold 32 = .ok (.iconst 1, 1) := by decide +kernel
theorem dX7_mayHold_33 : decode cX7_mayHold 33 = .ok (.goto 4, 3) := by decide +kernel
theorem dX7_mayHold_36 : decode cX7_mayHold 36 = .ok (.iconst 0, 1) := by decide +kernel
theorem dX7_mayHold_37 : decode cX7_mayHold 37 = .ok (.ireturn, 1) := by decide +kernel
theorem dX7_grow_0 : decode cX7_grow 0 = .ok (.aload_n 0, 1) := by decide +kernel
theorem dX7_grow_1 : decode cX7_grow 1 = .ok (.getfield 54, 3) := by decide +kernel
theorem dX7_grow_4 : decode cX7_grow 4 = .ok (.istore_n 3, 1) := by decide +kernel
theorem dX7_grow_5 : decode cX7_grow 5 = .ok (.iload_n 3, 1) := by decide +kernel
theorem dX7_grow_6 : decode cX7_grow 6 = .ok (.ifCond .lt 10, 3) := by decide +kernel
theorem dX7_grow_9 : decode cX7_grow 9 = .ok (.iload_n 3, 1) := by decide +kernel
theorem dX7_grow_10 : decode cX7_grow 10 = .ok (.sipush 200, 3) := by decide +kernel
theorem dX7_grow_13 : decode cX7_grow 13 = .ok (.if_icmp .lt 5, 3) := by decide +kernel
theorem dX7_grow_16 : decode cX7_grow 16 = .ok (.iconst (-1), 1) := by decide +kernel
theorem dX7_grow_17 : decode cX7_grow 17 = .ok (.ireturn, 1) := by decide +kernel
theorem dX7_grow_18 : decode cX7_grow 18 = .ok (.aload_n 0, 1) := by decide +kernel
theorem dX7_grow_19 : decode cX7_grow 19 = .ok (.dup, 1) := by decide +kernel
theorem dX7_grow_20 : decode cX7_grow 20 = .ok (.getfield 54, 3) := by decide +kernel
theorem dX7_grow_23 : decode cX7_grow 23 = .ok (.iconst 1, 1) := by decide +kernel
theorem dX7_grow_24 : decode cX7_grow 24 = .ok (.iadd, 1) := by decide +kernel
theorem dX7_grow_25 : decode cX7_grow 25 = .ok (.putfield 54, 3) := by decide +kernel
theorem dX7_grow_28 : decode cX7_grow 28 = .ok (.aload_n 0, 1) := by decide +kernel
theorem dX7_grow_29 : decode cX7_grow 29 = .ok (.getfield 9, 3) := by decide +kernel
theorem dX7_grow_32 : decode cX7_grow 32 = .ok (.iload_n 3, 1) := by decide +kernel
theorem dX7_grow_33 : decode cX7_grow 33 = .ok (.aload_n 2, 1) := by decide +kernel
theorem dX7_grow_34 : decode cX7_grow 34 = .ok (.getfield 84, 3) := by decide +kernel
theorem dX7_grow_37 : decode cX7_grow 37 = .ok (.iastore, 1) := by decide +kernel
theorem dX7_grow_38 : decode cX7_grow 38 = .ok (.aload_n 0, 1) := by decide +kernel
theorem dX7_grow_39 : decode cX7_grow 39 = .ok (.getfield 15, 3) := by decide +kernel
theorem dX7_grow_42 : decode cX7_grow 42 = .ok (.iload_n 3, 1) := by decide +kernel
theorem dX7_grow_43 : decode cX7_grow 43 = .ok (.iload_n 1, 1) := by decide +kernel
theorem dX7_grow_44 : decode cX7_grow 44 = .ok (.iastore, 1) := by decide +kernel
theorem dX7_grow_45 : decode cX7_grow 45 = .ok (.aload_n 0, 1) := by decide +kernel
theorem dX7_grow_46 : decode cX7_grow 46 = .ok (.getfield 18, 3) := by decide +kernel
theorem dX7_grow_49 : decode cX7_grow 49 = .ok (.iload_n 3, 1) := by decide +kernel
theorem dX7_grow_50 : decode cX7_grow 50 = .ok (.aload_n 0, 1) := by decide +kernel
theorem dX7_grow_51 : decode cX7_grow 51 = .ok (.iload_n 1, 1) := by decide +kernel
theorem dX7_grow_52 : decode cX7_grow 52 = .ok (.invokevirtual 87, 3) := by decide +kernel
theorem dX7_grow_55 : decode cX7_grow 55 = .ok (.iconst 1, 1) := by decide +kernel
theorem dX7_grow_56 : decode cX7_grow 56 = .ok (.iadd, 1) := by decide +kernel
theorem dX7_grow_57 : decode cX7_grow 57 = .ok (.iastore, 1) := by decide +kernel
theorem dX7_grow_58 : decode cX7_grow 58 = .ok (.aload_n 0, 1) := by decide +kernel
theorem dX7_grow_59 : decode cX7_grow 59 = .ok (.aload_n 0, 1) := by decide +kernel
theorem dX7_grow_60 : decode cX7_grow 60 = .ok (.getfield 57, 3) := by decide +kernel
theorem dX7_grow_63 : decode cX7_grow 63 = .ok (.aload_n 0, 1) := by decide +kernel
theorem dX7_grow_64 : decode cX7_grow 64 = .ok (.getfield 18, 3) := by decide +kernel
theorem dX7_grow_67 : decode cX7_grow 67 = .ok (.iload_n 3, 1) := by decide +kernel
theorem dX7_grow_68 : decode cX7_grow 68 = .ok (.iaload, 1) := by decide +kernel
theorem dX7_grow_69 : decode cX7_grow 69 = .ok (.iconst 1, 1) := by decide +kernel
theorem dX7_grow_70 : decode cX7_grow 70 = .ok (.iadd, 1) := by decide +kernel
theorem dX7_grow_71 : decode cX7_grow 71 = .ok (.invokestatic 91, 3) := by decide +kernel
theorem dX7_grow_74 : decode cX7_grow 74 = .ok (.putfield 57, 3) := by decide +kernel
theorem dX7_grow_77 : decode cX7_grow 77 = .ok (.aload_n 0, 1) := by decide +kernel
theorem dX7_grow_78 : decode cX7_grow 78 = .ok (.getfield 21, 3) := by decide +kernel
theorem dX7_grow_81 : decode cX7_grow 81 = .ok (.iload_n 3, 1) := by decide +kernel
theorem dX7_grow_82 : decode cX7_grow 82 = .ok (.iconst (-1), 1) := by decide +kernel
theorem dX7_grow_83 : decode cX7_grow 83 = .ok (.iastore, 1) := by decide +kernel
theorem dX7_grow_84 : decode cX7_grow 84 = .ok (.aload_n 0, 1) := by decide +kernel
theorem dX7_grow_85 : decode cX7_grow 85 = .ok (.getfield 24, 3) := by decide +kernel
theorem dX7_grow_88 : decode cX7_grow 88 = .ok (.iload_n 3, 1) := by decide +kernel
theorem dX7_grow_89 : decode cX7_grow 89 = .ok (.iconst (-1), 1) := by decide +kernel
theorem dX7_grow_90 : decode cX7_grow 90 = .ok (.iastore, 1) := by decide +kernel
theorem dX7_grow_91 : decode cX7_grow 91 = .ok (.aload_n 0, 1) := by decide +kernel
theorem dX7_grow_92 : decode cX7_grow 92 = .ok (.getfield 27, 3) := by decide +kernel
theorem dX7_grow_95 : decode cX7_grow 95 = .ok (.iload_n 3, 1) := by decide +kernel
theorem dX7_grow_96 : decode cX7_grow 96 = .ok (.iconst (-1), 1) := by decide +kernel
theorem dX7_grow_97 : decode cX7_grow 97 = .ok (.iastore, 1) := by decide +kernel
theorem dX7_grow_98 : decode cX7_grow 98 = .ok (.aload_n 0, 1) := by decide +kernel
theorem dX7_grow_99 : decode cX7_grow 99 = .ok (.getfield 41, 3) := by decide +kernel
theorem dX7_grow_102 : decode cX7_grow 102 = .ok (.iload_n 3, 1) := by decide +kernel
theorem dX7_grow_103 : decode cX7_grow 103 = .ok (.iconst 0, 1) := by decide +kernel
theorem dX7_grow_104 : decode cX7_grow 104 = .ok (.iastore, 1) := by decide +kernel
theorem dX7_grow_105 : decode cX7_grow 105 = .ok (.aload_n 0, 1) := by decide +kernel
theorem dX7_grow_106 : decode cX7_grow 106 = .ok (.getfield 44, 3) := by decide +kernel
theorem dX7_grow_109 : decode cX7_grow 109 = .ok (.iload_n 3, 1) := by decide +kernel
theorem dX7_grow_110 : decode cX7_grow 110 = .ok (.iconst 0, 1) := by decide +kernel
theorem dX7_grow_111 : decode cX7_grow 111 = .ok (.iastore, 1) := by decide +kernel
theorem dX7_grow_112 : decode cX7_grow 112 = .ok (.aload_n 0, 1) := by decide +kernel
theorem dX7_grow_113 : decode cX7_grow 113 = .ok (.iload_n 3, 1) := by decide +kernel
theorem dX7_grow_114 : decode cX7_grow 114 = .ok (.iload_n 1, 1) := by decide +kernel
theorem dX7_grow_115 : decode cX7_grow 115 = .ok (.invokevirtual 97, 3) := by decide +kernel
theorem dX7_grow_118 : decode cX7_grow 118 = .ok (.aload_n 0, 1) := by decide +kernel
theorem dX7_grow_119 : decode cX7_grow 119 = .ok (.iload_n 3, 1) := by decide +kernel
theorem dX7_grow_120 : decode cX7_grow 120 = .ok (.aload_n 2, 1) := by decide +kernel
theorem dX7_grow_121 : decode cX7_grow 121 = .ok (.invokevirtual 101, 3) := by decide +kernel
theorem dX7_grow_124 : decode cX7_grow 124 = .ok (.iload_n 3, 1) := by decide +kernel
theorem dX7_grow_125 : decode cX7_grow 125 = .ok (.ireturn, 1) := by decide +kernel
theorem dX7_hang_0 : decode cX7_hang 0 = .ok (.aload_n 0, 1) := by decide +kernel
theorem dX7_hang_1 : decode cX7_hang 1 = .ok (.iload_n 1, 1) := by decide +kernel
theorem dX7_hang_2 : decode cX7_hang 2 = .ok (.invokevirtual 63, 3) := by decide +kernel
theorem dX7_hang_5 : decode cX7_hang 5 = .ok (.ifCond .eq 11, 3) := by decide +kernel
theorem dX7_hang_8 : decode cX7_hang 8 = .ok (.aload_n 0, 1) := by decide +kernel
theorem dX7_hang_9 : decode cX7_hang 9 = .ok (.iload_n 2, 1) := by decide +kernel
theorem dX7_hang_10 : decode cX7_hang 10 = .ok (.invokevirtual 63, 3) := by decide +kernel
theorem dX7_hang_13 : decode cX7_hang 13 = .ok (.ifCond .ne 4, 3) := by decide +kernel
theorem dX7_hang_16 : decode cX7_hang 16 = .ok (.return_, 1) := by decide +kernel
theorem dX7_hang_17 : decode cX7_hang 17 = .ok (.aload_n 0, 1) := by decide +kernel
theorem dX7_hang_18 : decode cX7_hang 18 = .ok (.getfield 24, 3) := by decide +kernel
theorem dX7_hang_21 : decode cX7_hang 21 = .ok (.iload_n 2, 1) := by decide +kernel
theorem dX7_hang_22 : decode cX7_hang 22 = .ok (.iaload, 1) := by decide +kernel
theorem dX7_hang_23 : decode cX7_hang 23 = .ok (.istore_n 3, 1) := by decide +kernel
theorem dX7_hang_24 : decode cX7_hang 24 = .ok (.aload_n 0, 1) := by decide +kernel
theorem dX7_hang_25 : decode cX7_hang 25 = .ok (.iload_n 3, 1) := by decide +kernel
theorem dX7_hang_26 : decode cX7_hang 26 = .ok (.invokevirtual 63, 3) := by decide +kernel
theorem dX7_hang_29 : decode cX7_hang 29 = .ok (.ifCond .eq 13, 3) := by decide +kernel
theorem dX7_hang_32 : decode cX7_hang 32 = .ok (.aload_n 0, 1) := by decide +kernel
theorem dX7_hang_33 : decode cX7_hang 33 = .ok (.getfield 27, 3) := by decide +kernel
theorem dX7_hang_36 : decode cX7_hang 36 = .ok (.iload_n 3, 1) := by decide +kernel
theorem dX7_hang_37 : decode cX7_hang 37 = .ok (.iload_n 1, 1) := by decide +kernel
theorem dX7_hang_38 : decode cX7_hang 38 = .ok (.iastore, 1) := by decide +kernel
theorem dX7_hang_39 : decode cX7_hang 39 = .ok (.goto 10, 3) := by decide +kernel
theorem dX7_hang_42 : decode cX7_hang 42 = .ok (.aload_n 0, 1) := by decide +kernel
theorem dX7_hang_43 : decode cX7_hang 43 = .ok (.getfield 21, 3) := by decide +kernel
theorem dX7_hang_46 : decode cX7_hang 46 = .ok (.iload_n 2, 1) := by decide +kernel
theorem dX7_hang_47 : decode cX7_hang 47 = .ok (.iload_n 1, 1) := by decide +kernel
theorem dX7_hang_48 : decode cX7_hang 48 = .ok (.iastore, 1) := by decide +kernel
theorem dX7_hang_49 : decode cX7_hang 49 = .ok (.aload_n 0, 1) := by decide +kernel
theorem dX7_hang_50 : decode cX7_hang 50 = .ok (.getfield 24, 3) := by decide +kernel
theorem dX7_hang_53 : decode cX7_hang 53 = .ok (.iload_n 2, 1) := by decide +kernel
theorem dX7_hang_54 : decode cX7_hang 54 = .ok (.iload_n 1, 1) := by decide +kernel
theorem dX7_hang_55 : decode cX7_hang 55 = .ok (.iastore, 1) := by decide +kernel
theorem dX7_hang_56 : decode cX7_hang 56 = .ok (.return_, 1) := by decide +kernel
theorem dX7_fillAsMade_0 : decode cX7_fillAsMade 0 = .ok (.iconst 0, 1) := by decide +kernel
theorem dX7_fillAsMade_1 : decode cX7_fillAsMade 1 = .ok (.istore_n 3, 1) := by decide +kernel
theorem dX7_fillAsMade_2 : decode cX7_fillAsMade 2 = .ok (.iconst 0, 1) := by decide +kernel
theorem dX7_fillAsMade_3 : decode cX7_fillAsMade 3 = .ok (.istore 4, 2) := by decide +kernel
theorem dX7_fillAsMade_5 : decode cX7_fillAsMade 5 = .ok (.iload 4, 2) := by decide +kernel
theorem dX7_fillAsMade_7 : decode cX7_fillAsMade 7 = .ok (.aload_n 2, 1) := by decide +kernel
theorem dX7_fillAsMade_8 : decode cX7_fillAsMade 8 = .ok (.invokevirtual 105, 3) := by decide +kernel
theorem dX7_fillAsMade_11 : decode cX7_fillAsMade 11 = .ok (.if_icmp .ge 39, 3) := by decide +kernel
theorem dX7_fillAsMade_14 : decode cX7_fillAsMade 14 = .ok (.aload_n 2, 1) := by decide +kernel
theorem dX7_fillAsMade_15 : decode cX7_fillAsMade 15 = .ok (.iload 4, 2) := by decide +kernel
theorem dX7_fillAsMade_17 : decode cX7_fillAsMade 17 = .ok (.invokevirtual 109, 3) := by decide +kernel
theorem dX7_fillAsMade_20 : decode cX7_fillAsMade 20 = .ok (.astore 5, 2) := by decide +kernel
theorem dX7_fillAsMade_22 : decode cX7_fillAsMade 22 = .ok (.aload 5, 2) := by decide +kernel
theorem dX7_fillAsMade_24 : decode cX7_fillAsMade 24 = .ok (.invokevirtual 113, 3) := by decide +kernel
theorem dX7_fillAsMade_27 : decode cX7_fillAsMade 27 = .ok (.ifCond .ne 17, 3) := by decide +kernel
theorem dX7_fillAsMade_30 : decode cX7_fillAsMade 30 = .ok (.aload_n 0, 1) := by decide +kernel
theorem dX7_fillAsMade_31 : decode cX7_fillAsMade 31 = .ok (.iload_n 1, 1) := by decide +kernel
theorem dX7_fillAsMade_32 : decode cX7_fillAsMade 32 = .ok (.iload_n 3, 1) := by decide +kernel
theorem dX7_fillAsMade_33 : decode cX7_fillAsMade 33 = .ok (.aload 5, 2) := by decide +kernel
theorem dX7_fillAsMade_35 : decode cX7_fillAsMade 35 = .ok (.getfield 119, 3) := by decide +kernel
theorem dX7_fillAsMade_38 : decode cX7_fillAsMade 38 = .ok (.invokevirtual 123, 3) := by decide +kernel
theorem dX7_fillAsMade_41 : decode cX7_fillAsMade 41 = .ok (.iinc 3 1, 3) := by decide +kernel
theorem dX7_fillAsMade_44 : decode cX7_fillAsMade 44 = .ok (.iinc 4 1, 3) := by decide +kernel
theorem dX7_fillAsMade_47 : decode cX7_fillAsMade 47 = .ok (.goto (-42), 3) := by decide +kernel
theorem dX7_fillAsMade_50 : decode cX7_fillAsMade 50 = .ok (.iconst 0, 1) := by decide +kernel
theorem dX7_fillAsMade_51 : decode cX7_fillAsMade 51 = .ok (.istore 4, 2) := by decide +kernel
theorem dX7_fillAsMade_53 : decode cX7_fillAsMade 53 = .ok (.iload 4, 2) := by decide +kernel
theorem dX7_fillAsMade_55 : decode cX7_fillAsMade 55 = .ok (.iconst 2, 1) := by decide +kernel
theorem dX7_fillAsMade_56 : decode cX7_fillAsMade 56 = .ok (.if_icmp .ge 16, 3) := by decide +kernel
theorem dX7_fillAsMade_59 : decode cX7_fillAsMade 59 = .ok (.aload_n 0, 1) := by decide +kernel
theorem dX7_fillAsMade_60 : decode cX7_fillAsMade 60 = .ok (.iload_n 1, 1) := by decide +kernel
theorem dX7_fillAsMade_61 : decode cX7_fillAsMade 61 = .ok (.iload 4, 2) := by decide +kernel
theorem dX7_fillAsMade_63 : decode cX7_fillAsMade 63 = .ok (.invokevirtual 127, 3) := by decide +kernel
theorem dX7_fillAsMade_66 : decode cX7_fillAsMade 66 = .ok (.iinc 4 1, 3) := by decide +kernel
theorem dX7_fillAsMade_69 : decode cX7_fillAsMade 69 = .ok (.goto (-16), 3) := by decide +kernel
theorem dX7_fillAsMade_72 : decode cX7_fillAsMade 72 = .ok (.return_, 1) := by decide +kernel
theorem dX7_follower_0 : decode cX7_follower 0 = .ok (.aload_n 0, 1) := by decide +kernel
theorem dX7_follower_1 : decode cX7_follower 1 = .ok (.iload_n 1, 1) := by decide +kernel
theorem dX7_follower_2 : decode cX7_follower 2 = .ok (.invokevirtual 63, 3) := by decide +kernel
theorem dX7_follower_5 : decode cX7_follower 5 = .ok (.ifCond .ne 5, 3) := by decide +kernel
theorem dX7_follower_8 : decode cX7_follower 8 = .ok (.iconst (-1), 1) := by decide +kernel
theorem dX7_follower_9 : decode cX7_follower 9 = .ok (.ireturn, 1) := by decide +kernel
theorem dX7_follower_10 : decode cX7_follower 10 = .ok (.aload_n 0, 1) := by decide +kernel
theorem dX7_follower_11 : decode cX7_follower 11 = .ok (.getfield 21, 3) := by decide +kernel
theorem dX7_follower_14 : decode cX7_follower 14 = .ok (.iload_n 1, 1) := by decide +kernel
theorem dX7_follower_15 : decode cX7_follower 15 = .ok (.iaload, 1) := by decide +kernel
theorem dX7_follower_16 : decode cX7_follower 16 = .ok (.iconst (-1), 1) := by decide +kernel
theorem dX7_follower_17 : decode cX7_follower 17 = .ok (.if_icmp .eq 10, 3) := by decide +kernel
theorem dX7_follower_20 : decode cX7_follower 20 = .ok (.aload_n 0, 1) := by decide +kernel
theorem dX7_follower_21 : decode cX7_follower 21 = .ok (.getfield 21, 3) := by decide +kernel
theorem dX7_follower_24 : decode cX7_follower 24 = .ok (.iload_n 1, 1) := by decide +kernel
theorem dX7_follower_25 : decode cX7_follower 25 = .ok (.iaload, 1) := by decide +kernel
theorem dX7_follower_26 : decode cX7_follower 26 = .ok (.ireturn, 1) := by decide +kernel
theorem dX7_follower_27 : decode cX7_follower 27 = .ok (.iload_n 1, 1) := by decide +kernel
theorem dX7_follower_28 : decode cX7_follower 28 = .ok (.istore_n 2, 1) := by decide +kernel
theorem dX7_follower_29 : decode cX7_follower 29 = .ok (.iconst 0, 1) := by decide +kernel
theorem dX7_follower_30 : decode cX7_follower 30 = .ok (.istore_n 3, 1) := by decide +kernel
theorem dX7_follower_31 : decode cX7_follower 31 = .ok (.iload_n 3, 1) := by decide +kernel
theorem dX7_follower_32 : decode cX7_follower 32 = .ok (.sipush 200, 3) := by decide +kernel
theorem dX7_follower_35 : decode cX7_follower 35 = .ok (.if_icmp .ge 41, 3) := by decide +kernel
theorem dX7_follower_38 : decode cX7_follower 38 = .ok (.aload_n 0, 1) := by decide +kernel
theorem dX7_follower_39 : decode cX7_follower 39 = .ok (.iload_n 2, 1) := by decide +kernel
theorem dX7_follower_40 : decode cX7_follower 40 = .ok (.invokevirtual 63, 3) := by decide +kernel
theorem dX7_follower_43 : decode cX7_follower 43 = .ok (.ifCond .eq 33, 3) := by decide +kernel
theorem dX7_follower_46 : decode cX7_follower 46 = .ok (.aload_n 0, 1) := by decide +kernel
theorem dX7_follower_47 : decode cX7_follower 47 = .ok (.getfield 27, 3) := by decide +kernel
theorem dX7_follower_50 : decode cX7_follower 50 = .ok (.iload_n 2, 1) := by decide +kernel
theorem dX7_follower_51 : decode cX7_follower 51 = .ok (.iaload, 1) := by decide +kernel
theorem dX7_follower_52 : decode cX7_follower 52 = .ok (.iconst (-1), 1) := by decide +kernel
theorem dX7_follower_53 : decode cX7_follower 53 = .ok (.if_icmp .eq 10, 3) := by decide +kernel
theorem dX7_follower_56 : decode cX7_follower 56 = .ok (.aload_n 0, 1) := by decide +kernel
theorem dX7_follower_57 : decode cX7_follower 57 = .ok (.getfield 27, 3) := by decide +kernel
theorem dX7_follower_60 : decode cX7_follower 60 = .ok (.iload_n 2, 1) := by decide +kernel
theorem dX7_follower_61 : decode cX7_follower 61 = .ok (.iaload, 1) := by decide +kernel
theorem dX7_follower_62 : decode cX7_follower 62 = .ok (.ireturn, 1) := by decide +kernel
theorem dX7_follower_63 : decode cX7_follower 63 = .ok (.aload_n 0, 1) := by decide +kernel
theorem dX7_follower_64 : decode cX7_follower 64 = .ok (.getfield 15, 3) := by decide +kernel
theorem dX7_follower_67 : decode cX7_follower 67 = .ok (.iload_n 2, 1) := by decide +kernel
theorem dX7_follower_68 : decode cX7_follower 68 = .ok (.iaload, 1) := by decide +kernel
theorem dX7_follower_69 : decode cX7_follower 69 = .ok (.istore_n 2, 1) := by decide +kernel
theorem dX7_follower_70 : decode cX7_follower 70 = .ok (.iinc 3 1, 3) := by decide +kernel
theorem dX7_follower_73 : decode cX7_follower 73 = .ok (.goto (-42), 3) := by decide +kernel
theorem dX7_follower_76 : decode cX7_follower 76 = .ok (.iconst (-1), 1) := by decide +kernel
theorem dX7_follower_77 : decode cX7_follower 77 = .ok (.ireturn, 1) := by decide +kernel
theorem dX7_hasNumber_0 : decode cX7_hasNumber 0 = .ok (.iload_n 1, 1) := by decide +kernel
theorem dX7_hasNumber_1 : decode cX7_hasNumber 1 = .ok (.ifCond .lt 24, 3) := by decide +kernel
theorem dX7_hasNumber_4 : decode cX7_hasNumber 4 = .ok (.iload_n 1, 1) := by decide +kernel
theorem dX7_hasNumber_5 : decode cX7_hasNumber 5 = .ok (.aload_n 0, 1) := by decide +kernel
theorem dX7_hasNumber_6 : decode cX7_hasNumber 6 = .ok (.getfield 54, 3) := by decide +kernel
theorem dX7_hasNumber_9 : decode cX7_hasNumber 9 = .ok (.if_icmp .ge 16, 3) := by decide +kernel
theorem dX7_hasNumber_12 : decode cX7_hasNumber 12 = .ok (.iload_n 2, 1) := by decide +kernel
theorem dX7_hasNumber_13 : decode cX7_hasNumber 13 = .ok (.ifCond .lt 12, 3) := by decide +kernel
theorem dX7_hasNumber_16 : decode cX7_hasNumber 16 = .ok (.iload_n 2, 1) := by decide +kernel
theorem dX7_hasNumber_17 : decode cX7_hasNumber 17 = .ok (.iconst 5, 1) := by decide +kernel
theorem dX7_hasNumber_18 : decode cX7_hasNumber 18 = .ok (.if_icmp .ge 7, 3) := by decide +kernel
theorem dX7_hasNumber_21 : decode cX7_hasNumber 21 = .ok (.iconst 1, 1) := by decide +kernel
theorem dX7_hasNumber_22 : decode cX7_hasNumber 22 = .ok (.goto 4, 3) := by decide +kernel
theorem dX7_hasNumber_25 : decode cX7_hasNumber 25 = .ok (.iconst 0, 1) := by decide +kernel
theorem dX7_hasNumber_26 : decode cX7_hasNumber 26 = .ok (.ireturn, 1) := by decide +kernel
theorem dX7_numberOf_0 : decode cX7_numberOf 0 = .ok (.aload_n 0, 1) := by decide +kernel
theorem dX7_numberOf_1 : decode cX7_numberOf 1 = .ok (.iload_n 1, 1) := by decide +kernel
theorem dX7_numberOf_2 : decode cX7_numberOf 2 = .ok (.iload_n 2, 1) := by decide +kernel
theorem dX7_numberOf_3 : decode cX7_numberOf 3 = .ok (.invokevirtual 130, 3) := by decide +kernel
theorem dX7_numberOf_6 : decode cX7_numberOf 6 = .ok (.ifCond .eq 16, 3) := by decide +kernel
theorem dX7_numberOf_9 : decode cX7_numberOf 9 = .ok (.aload_n 0, 1) := by decide +kernel
theorem dX7_numberOf_10 : decode cX7_numberOf 10 = .ok (.getfield 30, 3) := by decide +kernel
theorem dX7_numberOf_13 : decode cX7_numberOf 13 = .ok (.iload_n 1, 1) := by decide +kernel
theorem dX7_numberOf_14 : decode cX7_numberOf 14 = .ok (.iconst 5, 1) := by decide +kernel
theorem dX7_numberOf_15 : decode cX7_numberOf 15 = .ok (.imul, 1) := by decide +kernel
theorem dX7_numberOf_16 : decode cX7_numberOf 16 = .ok (.iload_n 2, 1) := by decide +kernel
theorem dX7_numberOf_17 : decode cX7_numberOf 17 = .ok (.iadd, 1) := by decide +kernel
theorem dX7_numberOf_18 : decode cX7_numberOf 18 = .ok (.laload, 1) := by decide +kernel
theorem dX7_numberOf_19 : decode cX7_numberOf 19 = .ok (.goto 4, 3) := by decide +kernel
theorem dX7_numberOf_22 : decode cX7_numberOf 22 = .ok (.lconst 0, 1) := by decide +kernel
theorem dX7_numberOf_23 : decode cX7_numberOf 23 = .ok (.lreturn, 1) := by decide +kernel
theorem dX7_putNumber_0 : decode cX7_putNumber 0 = .ok (.aload_n 0, 1) := by decide +kernel
theorem dX7_putNumber_1 : decode cX7_putNumber 1 = .ok (.iload_n 1, 1) := by decide +kernel
theorem dX7_putNumber_2 : decode cX7_putNumber 2 = .ok (.iload_n 2, 1) := by decide +kernel
theorem dX7_putNumber_3 : decode cX7_putNumber 3 = .ok (.invokevirtual 130, 3) := by decide +kernel
theorem dX7_putNumber_6 : decode cX7_putNumber 6 = .ok (.ifCond .eq 14, 3) := by decide +kernel
theorem dX7_putNumber_9 : decode cX7_putNumber 9 = .ok (.aload_n 0, 1) := by decide +kernel
theorem dX7_putNumber_10 : decode cX7_putNumber 10 = .ok (.getfield 30, 3) := by decide +kernel
theorem dX7_putNumber_13 : decode cX7_putNumber 13 = .ok (.iload_n 1, 1) := by decide +kernel
theorem dX7_putNumber_14 : decode cX7_putNumber 14 = .ok (.iconst 5, 1) := by decide +kernel
theorem dX7_putNumber_15 : decode cX7_putNumber 15 = .ok (.imul, 1) := by decide +kernel
theorem dX7_putNumber_16 : decode cX7_putNumber 16 = .ok (.iload_n 2, 1) := by decide +kernel
theorem dX7_putNumber_17 : decode cX7_putNumber 17 = .ok (.iadd, 1) := by decide +kernel
theorem dX7_putNumber_18 : decode cX7_putNumber 18 = .ok (.lload_n 3, 1) := by decide +kernel
theorem dX7_putNumber_19 : decode cX7_putNumber 19 = .ok (.lastore, 1) := by decide +kernel
theorem dX7_putNumber_20 : decode cX7_putNumber 20 = .ok (.return_, 1) := by decide +kernel
theorem dX7_hasText_0 : decode cX7_hasText 0 = .ok (.iload_n 1, 1) := by decide +kernel
theorem dX7_hasText_1 : decode cX7_hasText 1 = .ok (.ifCond .lt 24, 3) := by decide +kernel
theorem dX7_hasText_4 : decode cX7_hasText 4 = .ok (.iload_n 1, 1) := by decide +kernel
theorem dX7_hasText_5 : decode cX7_hasText 5 = .ok (.aload_n 0, 1) := by decide +kernel
theorem dX7_hasText_6 : decode cX7_hasText 6 = .ok (.getfield 54, 3) := by decide +kernel
theorem dX7_hasText_9 : decode cX7_hasText 9 = .ok (.if_icmp .ge 16, 3) := by decide +kernel
theorem dX7_hasText_12 : decode cX7_hasText 12 = .ok (.iload_n 2, 1) := by decide +kernel
theorem dX7_hasText_13 : decode cX7_hasText 13 = .ok (.ifCond .lt 12, 3) := by decide +kernel
theorem dX7_hasText_16 : decode cX7_hasText 16 = .ok (.iload_n 2, 1) := by decide +kernel
theorem dX7_hasText_17 : decode cX7_hasText 17 = .ok (.iconst 2, 1) := by decide +kernel
theorem dX7_hasText_18 : decode cX7_hasText 18 = .ok (.if_icmp .ge 7, 3) := by decide +kernel
theorem dX7_hasText_21 : decode cX7_hasText 21 = .ok (.iconst 1, 1) := by decide +kernel
theorem dX7_hasText_22 : decode cX7_hasText 22 = .ok (.goto 4, 3) := by decide +kernel
theorem dX7_hasText_25 : decode cX7_hasText 25 = .ok (.iconst 0, 1) := by decide +kernel
theorem dX7_hasText_26 : decode cX7_hasText 26 = .ok (.ireturn, 1) := by decide +kernel
theorem dX7_textSize_0 : decode cX7_textSize 0 = .ok (.aload_n 0, 1) := by decide +kernel
theorem dX7_textSize_1 : decode cX7_textSize 1 = .ok (.iload_n 1, 1) := by decide +kernel
theorem dX7_textSize_2 : decode cX7_textSize 2 = .ok (.iload_n 2, 1) := by decide +kernel
theorem dX7_textSize_3 : decode cX7_textSize 3 = .ok (.invokevirtual 134, 3) := by decide +kernel
theorem dX7_textSize_6 : decode cX7_textSize 6 = .ok (.ifCond .eq 16, 3) := by decide +kernel
theorem dX7_textSize_9 : decode cX7_textSize 9 = .ok (.aload_n 0, 1) := by decide +kernel
theorem dX7_textSize_10 : decode cX7_textSize 10 = .ok (.getfield 34, 3) := by decide +kernel
theorem dX7_textSize_13 : decode cX7_textSize 13 = .ok (.iload_n 1, 1) := by decide +kernel
theorem dX7_textSize_14 : decode cX7_textSize 14 = .ok (.iconst 2, 1) := by decide +kernel
theorem dX7_textSize_15 : decode cX7_textSize 15 = .ok (.imul, 1) := by decide +kernel
theorem dX7_textSize_16 : decode cX7_textSize 16 = .ok (.iload_n 2, 1) := by decide +kernel
theorem dX7_textSize_17 : decode cX7_textSize 17 = .ok (.iadd, 1) := by decide +kernel
theorem dX7_textSize_18 : decode cX7_textSize 18 = .ok (.iaload, 1) := by decide +kernel
theorem dX7_textSize_19 : decode cX7_textSize 19 = .ok (.goto 4, 3) := by decide +kernel
theorem dX7_textSize_22 : decode cX7_textSize 22 = .ok (.iconst 0, 1) := by decide +kernel
theorem dX7_textSize_23 : decode cX7_textSize 23 = .ok (.ireturn, 1) := by decide +kernel
theorem dX7_textMark_0 : decode cX7_textMark 0 = .ok (.iload_n 3, 1) := by decide +kernel
theorem dX7_textMark_1 : decode cX7_textMark 1 = .ok (.ifCond .lt 19, 3) := by decide +kernel
theorem dX7_textMark_4 : decode cX7_textMark 4 = .ok (.iload_n 3, 1) := by decide +kernel
theorem dX7_textMark_5 : decode cX7_textMark 5 = .ok (.bipush 40, 2) := by decide +kernel
theorem dX7_textMark_7 : decode cX7_textMark 7 = .ok (.if_icmp .ge 13, 3) := by decide +kernel
theorem dX7_textMark_10 : decode cX7_textMark 10 = .ok (.iload_n 3, 1) := by decide +kernel
theorem dX7_textMark_11 : decode cX7_textMark 11 = .ok (.aload_n 0, 1) := by decide +kernel
theorem dX7_textMark_12 : decode cX7_textMark 12 = .ok (.iload_n 1, 1) := by decide +kernel
theorem dX7_textMark_13 : decode cX7_textMark 13 = .ok (.iload_n 2, 1) := by decide +kernel
theorem dX7_textMark_14 : decode cX7_textMark 14 = .ok (.invokevirtual 137, 3) := by decide +kernel
theorem dX7_textMark_17 : decode cX7_textMark 17 = .ok (.if_icmp .lt 5, 3) := by decide +kernel
theorem dX7_textMark_20 : decode cX7_textMark 20 = .ok (.iconst (-1), 1) := by decide +kernel
theorem dX7_textMark_21 : decode cX7_textMark 21 = .ok (.ireturn, 1) := by decide +kernel
theorem dX7_textMark_22 : decode cX7_textMark 22 = .ok (.aload_n 0, 1) := by decide +kernel
theorem dX7_textMark_23 : decode cX7_textMark 23 = .ok (.getfield 37, 3) := by decide +kernel
theorem dX7_textMark_26 : decode cX7_textMark 26 = .ok (.iload_n 1, 1) := by decide +kernel
theorem dX7_textMark_27 : decode cX7_textMark 27 = .ok (.iconst 2, 1) := by decide +kernel
theorem dX7_textMark_28 : decode cX7_textMark 28 = .ok (.imul, 1) := by decide +kernel
theorem dX7_textMark_29 : decode cX7_textMark 29 = .ok (.iload_n 2, 1) := by decide +kernel
theorem dX7_textMark_30 : decode cX7_textMark 30 = .ok (.iadd, 1) := by decide +kernel
theorem dX7_textMark_31 : decode cX7_textMark 31 = .ok (.bipush 40, 2) := by decide +kernel
theorem dX7_textMark_33 : decode cX7_textMark 33 = .ok (.imul, 1) := by decide +kernel
theorem dX7_textMark_34 : decode cX7_textMark 34 = .ok (.iload_n 3, 1) := by decide +kernel
theorem dX7_textMark_35 : decode cX7_textMark 35 = .ok (.iadd, 1) := by decide +kernel
theorem dX7_textMark_36 : decode cX7_textMark 36 = .ok (.caload, 1) := by decide +kernel
theorem dX7_textMark_37 : decode cX7_textMark 37 = .ok (.ireturn, 1) := by decide +kernel
theorem dX7_emptyText_0 : decode cX7_emptyText 0 = .ok (.aload_n 0, 1) := by decide +kernel
theorem dX7_emptyText_1 : decode cX7_emptyText 1 = .ok (.iload_n 1, 1) := by decide +kernel
theorem dX7_emptyText_2 : decode cX7_emptyText 2 = .ok (.iload_n 2, 1) := by decide +kernel
theorem dX7_emptyText_3 : decode cX7_emptyText 3 = .ok (.invokevirtual 134, 3) := by decide +kernel
theorem dX7_emptyText_6 : decode cX7_emptyText 6 = .ok (.ifCond .eq 14, 3) := by decide +kernel
theorem dX7_emptyText_9 : decode cX7_emptyText 9 = .ok (.aload_n 0, 1) := by decide +kernel
theorem dX7_emptyText_10 : decode cX7_emptyText 10 = .ok (.getfield 34, 3) := by decide +kernel
theorem dX7_emptyText_13 : decode cX7_emptyText 13 = .ok (.iload_n 1, 1) := by decide +kernel
theorem dX7_emptyText_14 : decode cX7_emptyText 14 = .ok (.iconst 2, 1) := by decide +kernel
theorem dX7_emptyText_15 : decode cX7_emptyText 15 = .ok (.imul, 1) := by decide +kernel
theorem dX7_emptyText_16 : decode cX7_emptyText 16 = .ok (.iload_n 2, 1) := by decide +kernel
theorem dX7_emptyText_17 : decode cX7_emptyText 17 = .ok (.iadd, 1) := by decide +kernel
theorem dX7_emptyText_18 : decode cX7_emptyText 18 = .ok (.iconst 0, 1) := by decide +kernel
theorem dX7_emptyText_19 : decode cX7_emptyText 19 = .ok (.iastore, 1) := by decide +kernel
theorem dX7_emptyText_20 : decode cX7_emptyText 20 = .ok (.return_, 1) := by decide +kernel
theorem dX7_appendToText_0 : decode cX7_appendToText 0 = .ok (.aload_n 0, 1) := by decide +kernel
theorem dX7_appendToText_1 : decode cX7_appendToText 1 = .ok (.iload_n 1, 1) := by decide +kernel
theorem dX7_appendToText_2 : decode cX7_appendToText 2 = .ok (.iload_n 2, 1) := by decide +kernel
theorem dX7_appendToText_3 : decode cX7_appendToText 3 = .ok (.invokevirtual 134, 3) := by decide +kernel
theorem dX7_appendToText_6 : decode cX7_appendToText 6 = .ok (.ifCond .ne 4, 3) := by decide +kernel
theorem dX7_appendToText_9 : decode cX7_appendToText 9 = .ok (.return_, 1) := by decide +kernel
theorem dX7_appendToText_10 : decode cX7_appendToText 10 = .ok (.iload_n 1, 1) := by decide +kernel
theorem dX7_appendToText_11 : decode cX7_appendToText 11 = .ok (.iconst 2, 1) := by decide +kernel
theorem dX7_appendToText_12 : decode cX7_appendToText 12 = .ok (.imul, 1) := by decide +kernel
theorem dX7_appendToText_13 : decode cX7_appendToText 13 = .ok (.iload_n 2, 1) := by decide +kernel
theorem dX7_appendToText_14 : decode cX7_appendToText 14 = .ok (.iadd, 1) := by decide +kernel
theorem dX7_appendToText_15 : decode cX7_appendToText 15 = .ok (.istore 4, 2) := by decide +kernel
theorem dX7_appendToText_17 : decode cX7_appendToText 17 = .ok (.aload_n 0, 1) := by decide +kernel
theorem dX7_appendToText_18 : decode cX7_appendToText 18 = .ok (.getfield 34, 3) := by decide +kernel
theorem dX7_appendToText_21 : decode cX7_appendToText 21 = .ok (.iload 4, 2) := by decide +kernel
theorem dX7_appendToText_23 : decode cX7_appendToText 23 = .ok (.iaload, 1) := by decide +kernel
theorem dX7_appendToText_24 : decode cX7_appendToText 24 = .ok (.istore 5, 2) := by decide +kernel
theorem dX7_appendToText_26 : decode cX7_appendToText 26 = .ok (.iload 5, 2) := by decide +kernel
theorem dX7_appendToText_28 : decode cX7_appendToText 28 = .ok (.ifCond .lt 36, 3) := by decide +kernel
theorem dX7_appendToText_31 : decode cX7_appendToText 31 = .ok (.iload 5, 2) := by decide +kernel
theorem dX7_appendToText_33 : decode cX7_appendToText 33 = .ok (.bipush 40, 2) := by decide +kernel
theorem dX7_appendToText_35 : decode cX7_appendToText 35 = .ok (.if_icmp .ge 29, 3) := by decide +kernel
theorem dX7_appendToText_38 : decode cX7_appendToText 38 = .ok (.aload_n 0, 1) := by decide +kernel
theorem dX7_appendToText_39 : decode cX7_appendToText 39 = .ok (.getfield 37, 3) := by decide +kernel
theorem dX7_appendToText_42 : decode cX7_appendToText 42 = .ok (.iload 4, 2) := by decide +kernel
theorem dX7_appendToText_44 : decode cX7_appendToText 44 = .ok (.bipush 40, 2) := by decide +kernel
theorem dX7_appendToText_46 : decode cX7_appendToText 46 = .ok (.imul, 1) := by decide +kernel
theorem dX7_appendToText_47 : decode cX7_appendToText 47 = .ok (.iload 5, 2) := by decide +kernel
theorem dX7_appendToText_49 : decode cX7_appendToText 49 = .ok (.iadd, 1) := by decide +kernel
theorem dX7_appendToText_50 : decode cX7_appendToText 50 = .ok (.iload_n 3, 1) := by decide +kernel
theorem dX7_appendToText_51 : decode cX7_appendToText 51 = .ok (.i2c, 1) := by decide +kernel
theorem dX7_appendToText_52 : decode cX7_appendToText 52 = .ok (.castore, 1) := by decide +kernel
theorem dX7_appendToText_53 : decode cX7_appendToText 53 = .ok (.aload_n 0, 1) := by decide +kernel
theorem dX7_appendToText_54 : decode cX7_appendToText 54 = .ok (.getfield 34, 3) := by decide +kernel
theorem dX7_appendToText_57 : decode cX7_appendToText 57 = .ok (.iload 4, 2) := by decide +kernel
theorem dX7_appendToText_59 : decode cX7_appendToText 59 = .ok (.iload 5, 2) := by decide +kernel
theorem dX7_appendToText_61 : decode cX7_appendToText 61 = .ok (.iconst 1, 1) := by decide +kernel
theorem dX7_appendToText_62 : decode cX7_appendToText 62 = .ok (.iadd, 1) := by decide +kernel
theorem dX7_appendToText_63 : decode cX7_appendToText 63 = .ok (.iastore, 1) := by decide +kernel
theorem dX7_appendToText_64 : decode cX7_appendToText 64 = .ok (.return_, 1) := by decide +kernel
theorem dX7_fitsText_0 : decode cX7_fitsText 0 = .ok (.iconst 0, 1) := by decide +kernel
theorem dX7_fitsText_1 : decode cX7_fitsText 1 = .ok (.istore 5, 2) := by decide +kernel
theorem dX7_fitsText_3 : decode cX7_fitsText 3 = .ok (.bipush 56, 2) := by decide +kernel
theorem dX7_fitsText_5 : decode cX7_fitsText 5 = .ok (.istore 6, 2) := by decide +kernel
theorem dX7_fitsText_7 : decode cX7_fitsText 7 = .ok (.iload 6, 2) := by decide +kernel
theorem dX7_fitsText_9 : decode cX7_fitsText 9 = .ok (.ifCond .lt 50, 3) := by decide +kernel
theorem dX7_fitsText_12 : decode cX7_fitsText 12 = .ok (.lload_n 3, 1) := by decide +kernel
theorem dX7_fitsText_13 : decode cX7_fitsText 13 = .ok (.iload 6, 2) := by decide +kernel
theorem dX7_fitsText_15 : decode cX7_fitsText 15 = .ok (.lushr, 1) := by decide +kernel
theorem dX7_fitsText_16 : decode cX7_fitsText 16 = .ok (.l2i, 1) := by decide +kernel
theorem dX7_fitsText_17 : decode cX7_fitsText 17 = .ok (.sipush 255, 3) := by decide +kernel
theorem dX7_fitsText_20 : decode cX7_fitsText 20 = .ok (.iand, 1) := by decide +kernel
theorem dX7_fitsText_21 : decode cX7_fitsText 21 = .ok (.istore 7, 2) := by decide +kernel
theorem dX7_fitsText_23 : decode cX7_fitsText 23 = .ok (.iload 7, 2) := by decide +kernel
theorem dX7_fitsText_25 : decode cX7_fitsText 25 = .ok (.ifCond .eq 13, 3) := by decide +kernel
theorem dX7_fitsText_28 : decode cX7_fitsText 28 = .ok (.iload 7, 2) := by decide +kernel
theorem dX7_fitsText_30 : decode cX7_fitsText 30 = .ok (.invokestatic 140, 3) := by decide +kernel
theorem dX7_fitsText_33 : decode cX7_fitsText 33 = .ok (.ifCond .ne 5, 3) := by decide +kernel
theorem dX7_fitsText_36 : decode cX7_fitsText 36 = .ok (.iconst 0, 1) := by decide +kernel
theorem dX7_fitsText_37 : decode cX7_fitsText 37 = .ok (.ireturn, 1) := by decide +kernel
theorem dX7_fitsText_38 : decode cX7_fitsText 38 = .ok (.iload 5, 2) := by decide +kernel
theorem dX7_fitsText_40 : decode cX7_fitsText 40 = .ok (.iload 7, 2) := by decide +kernel
theorem dX7_fitsText_42 : decode cX7_fitsText 42 = .ok (.ifCond .ne 7, 3) := by decide +kernel
theorem dX7_fitsText_45 : decode cX7_fitsText 45 = .ok (.iconst 0, 1) := by decide +kernel
theorem dX7_fitsText_46 : decode cX7_fitsText 46 = .ok (.goto 4, 3) := by decide +kernel
theorem dX7_fitsText_49 : decode cX7_fitsText 49 = .ok (.iconst 1, 1) := by decide +kernel
theorem dX7_fitsText_50 : decode cX7_fitsText 50 = .ok (.iadd, 1) := by decide +kernel
theorem dX7_fitsText_51 : decode cX7_fitsText 51 = .ok (.istore 5, 2) := by decide +kernel
theorem dX7_fitsText_53 : decode cX7_fitsText 53 = .ok (.iinc 6 (-8), 3) := by decide +kernel
theorem dX7_fitsText_56 : decode cX7_fitsText 56 = .ok (.goto (-49), 3) := by decide +kernel
theorem dX7_fitsText_59 : decode cX7_fitsText 59 = .ok (.aload_n 0, 1) := by decide +kernel
theorem dX7_fitsText_60 : decode cX7_fitsText 60 = .ok (.iload_n 1, 1) := by decide +kernel
theorem dX7_fitsText_61 : decode cX7_fitsText 61 = .ok (.iload_n 2, 1) := by decide +kernel
theorem dX7_fitsText_62 : decode cX7_fitsText 62 = .ok (.invokevirtual 137, 3) := by decide +kernel
theorem dX7_fitsText_65 : decode cX7_fitsText 65 = .ok (.iload 5, 2) := by decide +kernel
theorem dX7_fitsText_67 : decode cX7_fitsText 67 = .ok (.iadd, 1) := by decide +kernel
theorem dX7_fitsText_68 : decode cX7_fitsText 68 = .ok (.bipush 40, 2) := by decide +kernel
theorem dX7_fitsText_70 : decode cX7_fitsText 70 = .ok (.if_icmp .gt 7, 3) := by decide +kernel
theorem dX7_fitsText_73 : decode cX7_fitsText 73 = .ok (.iconst 1, 1) := by decide +kernel
theorem dX7_fitsText_74 : decode cX7_fitsText 74 = .ok (.goto 4, 3) := by decide +kernel
theorem dX7_fitsText_77 : decode cX7_fitsText 77 = .ok (.iconst 0, 1) := by decide +kernel
theorem dX7_fitsText_78 : decode cX7_fitsText 78 = .ok (.ireturn, 1) := by decide +kernel
theorem dX7_extendText_0 : decode cX7_extendText 0 = .ok (.lload_n 3, 1) := by decide +kernel
theorem dX7_extendText_1 : decode cX7_extendText 1 = .ok (.lconst 0, 1) := by decide +kernel
theorem dX7_extendText_2 : decode cX7_extendText 2 = .ok (.lcmp, 1) := by decide +kernel
theorem dX7_extendText_3 : decode cX7_extendText 3 = .ok (.ifCond .ne 9, 3) := by decide +kernel
theorem dX7_extendText_6 : decode cX7_extendText 6 = .ok (.aload_n 0, 1) := by decide +kernel
theorem dX7_extendText_7 : decode cX7_extendText 7 = .ok (.iload_n 1, 1) := by decide +kernel
theorem dX7_extendText_8 : decode cX7_extendText 8 = .ok (.iload_n 2, 1) := by decide +kernel
theorem dX7_extendText_9 : decode cX7_extendText 9 = .ok (.invokevirtual 127, 3) := by decide +kernel
theorem dX7_extendText_12 : decode cX7_extendText 12 = .ok (.bipush 56, 2) := by decide +kernel
theorem dX7_extendText_14 : decode cX7_extendText 14 = .ok (.istore 5, 2) := by decide +kernel
theorem dX7_extendText_16 : decode cX7_extendText 16 = .ok (.iload 5, 2) := by decide +kernel
theorem dX7_extendText_18 : decode cX7_extendText 18 = .ok (.ifCond .lt 33, 3) := by decide +kernel
theorem dX7_extendText_21 : decode cX7_extendText 21 = .ok (.lload_n 3, 1) := by decide +kernel
theorem dX7_extendText_22 : decode cX7_extendText 22 = .ok (.iload 5, 2) := by decide +kernel
theorem dX7_extendText_24 : decode cX7_extendText 24 = .ok (.lushr, 1) := by decide +kernel
theorem dX7_extendText_25 : decode cX7_extendText 25 = .ok (.l2i, 1) := by decide +kernel
theorem dX7_extendText_26 : decode cX7_extendText 26 = .ok (.sipush 255, 3) := by decide +kernel
theorem dX7_extendText_29 : decode cX7_extendText 29 = .ok (.iand, 1) := by decide +kernel
theorem dX7_extendText_30 : decode cX7_extendText 30 = .ok (.istore 6, 2) := by decide +kernel
theorem dX7_extendText_32 : decode cX7_extendText 32 = .ok (.iload 6, 2) := by decide +kernel
theorem dX7_extendText_34 : decode cX7_extendText 34 = .ok (.ifCond .eq 11, 3) := by decide +kernel
theorem dX7_extendText_37 : decode cX7_extendText 37 = .ok (.aload_n 0, 1) := by decide +kernel
theorem dX7_extendText_38 : decode cX7_extendText 38 = .ok (.iload_n 1, 1) := by decide +kernel
theorem dX7_extendText_39 : decode cX7_extendText 39 = .ok (.iload_n 2, 1) := by decide +kernel
theorem dX7_extendText_40 : decode cX7_extendText 40 = .ok (.iload 6, 2) := by decide +kernel
theorem dX7_extendText_42 : decode cX7_extendText 42 = .ok (.invokevirtual 143, 3) := by decide +kernel
theorem dX7_extendText_45 : decode cX7_extendText 45 = .ok (.iinc 5 (-8), 3) := by decide +kernel
theorem dX7_extendText_48 : decode cX7_extendText 48 = .ok (.goto (-32), 3) := by decide +kernel
theorem dX7_extendText_51 : decode cX7_extendText 51 = .ok (.return_, 1) := by decide +kernel
theorem dX7_keptRoom_0 : decode cX7_keptRoom 0 = .ok (.sipush 2000, 3) := by decide +kernel
theorem dX7_keptRoom_3 : decode cX7_keptRoom 3 = .ok (.aload_n 0, 1) := by decide +kernel
theorem dX7_keptRoom_4 : decode cX7_keptRoom 4 = .ok (.getfield 50, 3) := by decide +kernel
theorem dX7_keptRoom_7 : decode cX7_keptRoom 7 = .ok (.isub, 1) := by decide +kernel
theorem dX7_keptRoom_8 : decode cX7_keptRoom 8 = .ok (.ireturn, 1) := by decide +kernel
theorem dX7_keep_0 : decode cX7_keep 0 = .ok (.aload_n 0, 1) := by decide +kernel
theorem dX7_keep_1 : decode cX7_keep 1 = .ok (.iload_n 1, 1) := by decide +kernel
theorem dX7_keep_2 : decode cX7_keep 2 = .ok (.invokevirtual 63, 3) := by decide +kernel
theorem dX7_keep_5 : decode cX7_keep 5 = .ok (.ifCond .ne 4, 3) := by decide +kernel
theorem dX7_keep_8 : decode cX7_keep 8 = .ok (.return_, 1) := by decide +kernel
theorem dX7_keep_9 : decode cX7_keep 9 = .ok (.aload_n 0, 1) := by decide +kernel
theorem dX7_keep_10 : decode cX7_keep 10 = .ok (.getfield 41, 3) := by decide +kernel
theorem dX7_keep_13 : decode cX7_keep 13 = .ok (.iload_n 1, 1) := by decide +kernel
theorem dX7_keep_14 : decode cX7_keep 14 = .ok (.aload_n 0, 1) := by decide +kernel
theorem dX7_keep_15 : decode cX7_keep 15 = .ok (.getfield 50, 3) := by decide +kernel
theorem dX7_keep_18 : decode cX7_keep 18 = .ok (.iastore, 1) := by decide +kernel
theorem dX7_keep_19 : decode cX7_keep 19 = .ok (.iload_n 3, 1) := by decide +kernel
theorem dX7_keep_20 : decode cX7_keep 20 = .ok (.istore 5, 2) := by decide +kernel
theorem dX7_keep_22 : decode cX7_keep 22 = .ok (.iload 5, 2) := by decide +kernel
theorem dX7_keep_24 : decode cX7_keep 24 = .ok (.iload 4, 2) := by decide +kernel
theorem dX7_keep_26 : decode cX7_keep 26 = .ok (.if_icmp .ge 45, 3) := by decide +kernel
theorem dX7_keep_29 : decode cX7_keep 29 = .ok (.aload_n 0, 1) := by decide +kernel
theorem dX7_keep_30 : decode cX7_keep 30 = .ok (.getfield 50, 3) := by decide +kernel
theorem dX7_keep_33 : decode cX7_keep 33 = .ok (.sipush 2000, 3) := by decide +kernel
theorem dX7_keep_36 : decode cX7_keep 36 = .ok (.if_icmp .ge 35, 3) := by decide +kernel
theorem dX7_keep_39 : decode cX7_keep 39 = .ok (.aload_n 0, 1) := by decide +kernel
theorem dX7_keep_40 : decode cX7_keep 40 = .ok (.getfield 47, 3) := by decide +kernel
theorem dX7_keep_43 : decode cX7_keep 43 = .ok (.aload_n 0, 1) := by decide +kernel
theorem dX7_keep_44 : decode cX7_keep 44 = .ok (.getfield 50, 3) := by decide +kernel
theorem dX7_keep_47 : decode cX7_keep 47 = .ok (.aload_n 2, 1) := by decide +kernel
theorem dX7_keep_48 : decode cX7_keep 48 = .ok (.iload 5, 2) := by decide +kernel
theorem dX7_keep_50 : decode cX7_keep 50 = .ok (.invokevirtual 147, 3) := by decide +kernel
theorem dX7_keep_53 : decode cX7_keep 53 = .ok (.i2c, 1) := by decide +kernel
theorem dX7_keep_54 : decode cX7_keep 54 = .ok (.castore, 1) := by decide +kernel
theorem dX7_keep_55 : decode cX7_keep 55 = .ok (.aload_n 0, 1) := by decide +kernel
theorem dX7_keep_56 : decode cX7_keep 56 = .ok (.dup, 1) := by decide +kernel
theorem dX7_keep_57 : decode cX7_keep 57 = .ok (.getfield 50, 3) := by decide +kernel
theorem dX7_keep_60 : decode cX7_keep 60 = .ok (.iconst 1, 1) := by decide +kernel
theorem dX7_keep_61 : decode cX7_keep 61 = .ok (.iadd, 1) := by decide +kernel
theorem dX7_keep_62 : decode cX7_keep 62 = .ok (.putfield 50, 3) := by decide +kernel
theorem dX7_keep_65 : decode cX7_keep 65 = .ok (.iinc 5 1, 3) := by decide +kernel
theorem dX7_keep_68 : decode cX7_keep 68 = .ok (.goto (-46), 3) := by decide +kernel
theorem dX7_keep_71 : decode cX7_keep 71 = .ok (.aload_n 0, 1) := by decide +kernel
theorem dX7_keep_72 : decode cX7_keep 72 = .ok (.getfield 44, 3) := by decide +kernel
theorem dX7_keep_75 : decode cX7_keep 75 = .ok (.iload_n 1, 1) := by decide +kernel
theorem dX7_keep_76 : decode cX7_keep 76 = .ok (.aload_n 0, 1) := by decide +kernel
theorem dX7_keep_77 : decode cX7_keep 77 = .ok (.getfield 50, 3) := by decide +kernel
theorem dX7_keep_80 : decode cX7_keep 80 = .ok (.aload_n 0, 1) := by decide +kernel
theorem dX7_keep_81 : decode cX7_keep 81 = .ok (.getfield 41, 3) := by decide +kernel
theorem dX7_keep_84 : decode cX7_keep 84 = .ok (.iload_n 1, 1) := by decide +kernel
theorem dX7_keep_85 : decode cX7_keep 85 = .ok (.iaload, 1) := by decide +kernel
theorem dX7_keep_86 : decode cX7_keep 86 = .ok (.isub, 1) := by decide +kernel
theorem dX7_keep_87 : decode cX7_keep 87 = .ok (.iastore, 1) := by decide +kernel
theorem dX7_keep_88 : decode cX7_keep 88 = .ok (.return_, 1) := by decide +kernel
theorem dX7_keptSizeOf_0 : decode cX7_keptSizeOf 0 = .ok (.aload_n 0, 1) := by decide +kernel
theorem dX7_keptSizeOf_1 : decode cX7_keptSizeOf 1 = .ok (.iload_n 1, 1) := by decide +kernel
theorem dX7_keptSizeOf_2 : decode cX7_keptSizeOf 2 = .ok (.invokevirtual 63, 3) := by decide +kernel
theorem dX7_keptSizeOf_5 : decode cX7_keptSizeOf 5 = .ok (.ifCond .eq 12, 3) := by decide +kernel
theorem dX7_keptSizeOf_8 : decode cX7_keptSizeOf 8 = .ok (.aload_n 0, 1) := by decide +kernel
theorem dX7_keptSizeOf_9 : decode cX7_keptSizeOf 9 = .ok (.getfield 44, 3) := by decide +kernel
theorem dX7_keptSizeOf_12 : decode cX7_keptSizeOf 12 = .ok (.iload_n 1, 1) := by decide +kernel
theorem dX7_keptSizeOf_13 : decode cX7_keptSizeOf 13 = .ok (.iaload, 1) := by decide +kernel
theorem dX7_keptSizeOf_14 : decode cX7_keptSizeOf 14 = .ok (.goto 4, 3) := by decide +kernel
theorem dX7_keptSizeOf_17 : decode cX7_keptSizeOf 17 = .ok (.iconst 0, 1) := by decide +kernel
theorem dX7_keptSizeOf_18 : decode cX7_keptSizeOf 18 = .ok (.ireturn, 1) := by decide +kernel
theorem dX7_keptMark_0 : decode cX7_keptMark 0 = .ok (.iload_n 2, 1) := by decide +kernel
theorem dX7_keptMark_1 : decode cX7_keptMark 1 = .ok (.ifCond .lt 12, 3) := by decide +kernel
theorem dX7_keptMark_4 : decode cX7_keptMark 4 = .ok (.iload_n 2, 1) := by decide +kernel
theorem dX7_keptMark_5 : decode cX7_keptMark 5 = .ok (.aload_n 0, 1) := by decide +kernel
theorem dX7_keptMark_6 : decode cX7_keptMark 6 = .ok (.iload_n 1, 1) := by decide +kernel
theorem dX7_keptMark_7 : decode cX7_keptMark 7 = .ok (.invokevirtual 152, 3) := by decide +kernel
theorem dX7_keptMark_10 : decode cX7_keptMark 10 = .ok (.if_icmp .lt 5, 3) := by decide +kernel
theorem dX7_keptMark_13 : decode cX7_keptMark 13 = .ok (.iconst (-1), 1) := by decide +kernel
theorem dX7_keptMark_14 : decode cX7_keptMark 14 = .ok (.ireturn, 1) := by decide +kernel
theorem dX7_keptMark_15 : decode cX7_keptMark 15 = .ok (.aload_n 0, 1) := by decide +kernel
theorem dX7_keptMark_16 : decode cX7_keptMark 16 = .ok (.getfield 41, 3) := by decide +kernel
theorem dX7_keptMark_19 : decode cX7_keptMark 19 = .ok (.iload_n 1, 1) := by decide +kernel
theorem dX7_keptMark_20 : decode cX7_keptMark 20 = .ok (.iaload, 1) := by decide +kernel
theorem dX7_keptMark_21 : decode cX7_keptMark 21 = .ok (.iload_n 2, 1) := by decide +kernel
theorem dX7_keptMark_22 : decode cX7_keptMark 22 = .ok (.iadd, 1) := by decide +kernel
theorem dX7_keptMark_23 : decode cX7_keptMark 23 = .ok (.istore_n 3, 1) := by decide +kernel
theorem dX7_keptMark_24 : decode cX7_keptMark 24 = .ok (.iload_n 3, 1) := by decide +kernel
theorem dX7_keptMark_25 : decode cX7_keptMark 25 = .ok (.ifCond .lt 19, 3) := by decide +kernel
theorem dX7_keptMark_28 : decode cX7_keptMark 28 = .ok (.iload_n 3, 1) := by decide +kernel
theorem dX7_keptMark_29 : decode cX7_keptMark 29 = .ok (.sipush 2000, 3) := by decide +kernel
theorem dX7_keptMark_32 : decode cX7_keptMark 32 = .ok (.if_icmp .ge 12, 3) := by decide +kernel
theorem dX7_keptMark_35 : decode cX7_keptMark 35 = .ok (.aload_n 0, 1) := by decide +kernel
theorem dX7_keptMark_36 : decode cX7_keptMark 36 = .ok (.getfield 47, 3) := by decide +kernel
theorem dX7_keptMark_39 : decode cX7_keptMark 39 = .ok (.iload_n 3, 1) := by decide +kernel
theorem dX7_keptMark_40 : decode cX7_keptMark 40 = .ok (.caload, 1) := by decide +kernel
theorem dX7_keptMark_41 : decode cX7_keptMark 41 = .ok (.goto 4, 3) := by decide +kernel
theorem dX7_keptMark_44 : decode cX7_keptMark 44 = .ok (.iconst (-1), 1) := by decide +kernel
theorem dX7_keptMark_45 : decode cX7_keptMark 45 = .ok (.ireturn, 1) := by decide +kernel

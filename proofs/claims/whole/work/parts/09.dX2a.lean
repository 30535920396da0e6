theorem dX2_numbered_0 : decode cX2_numbered 0 = .ok (.iload_n 0, 1) := by decide +kernel
theorem dX2_numbered_1 : decode cX2_numbered 1 = .ok (.ifCond .lt 19, 3) := by decide +kernel
theorem dX2_numbered_4 : decode cX2_numbered 4 = .ok (.iload_n 0, 1) := by decide +kernel
theorem dX2_numbered_5 : decode cX2_numbered 5 = .ok (.getstatic 69, 3) := by decide +kernel
theorem dX2_numbered_8 : decode cX2_numbered 8 = .ok (.arraylength, 1) := by decide +kernel
theorem dX2_numbered_9 : decode cX2_numbered 9 = .ok (.if_icmp .ge 11, 3) := by decide +kernel
theorem dX2_numbered_12 : decode cX2_numbered 12 = .ok (.getstatic 69, 3) := by decide +kernel
theorem dX2_numbered_15 : decode cX2_numbered 15 = .ok (.iload_n 0, 1) := by decide +kernel
theorem dX2_numbered_16 : decode cX2_numbered 16 = .ok (.aaload, 1) := by decide +kernel
theorem dX2_numbered_17 : decode cX2_numbered 17 = .ok (.goto 6, 3) := by decide +kernel
theorem dX2_numbered_20 : decode cX2_numbered 20 = .ok (.getstatic 33, 3) := by decide +kernel
theorem dX2_numbered_23 : decode cX2_numbered 23 = .ok (.areturn, 1) := by decide +kernel
theorem dX2_mayBeIn_0 : decode cX2_mayBeIn 0 = .ok (.aload_n 0, 1) := by decide +kernel
theorem dX2_mayBeIn_1 : decode cX2_mayBeIn 1 = .ok (.getfield 63, 3) := by decide +kernel
theorem dX2_mayBeIn_4 : decode cX2_mayBeIn 4 = .ok (.aload_n 1, 1) := by decide +kernel
theorem dX2_mayBeIn_5 : decode cX2_mayBeIn 5 = .ok (.getfield 55, 3) := by decide +kernel
theorem dX2_mayBeIn_8 : decode cX2_mayBeIn 8 = .ok (.ishr, 1) := by decide +kernel
theorem dX2_mayBeIn_9 : decode cX2_mayBeIn 9 = .ok (.iconst 1, 1) := by decide +kernel
theorem dX2_mayBeIn_10 : decode cX2_mayBeIn 10 = .ok (.iand, 1) := by decide +kernel
theorem dX2_mayBeIn_11 : decode cX2_mayBeIn 11 = .ok (.iconst 1, 1) := by decide +kernel
theorem dX2_mayBeIn_12 : decode cX2_mayBeIn 12 = .ok (.if_icmp .ne 7, 3) := by decide +kernel
theorem dX2_mayBeIn_15 : decode cX2_mayBeIn 15 = .ok (.iconst 1, 1) := by decide +kernel
theorem dX2_mayBeIn_16 : decode cX2_mayBeIn 16 = .ok (.goto 4, 3) := by decide +kernel
theorem dX2_mayBeIn_19 : decode cX2_mayBeIn 19 = .ok (.iconst 0, 1) := by decide +kernel
theorem dX2_mayBeIn_20 : decode cX2_mayBeIn 20 = .ok (.ireturn, 1) := by decide +kernel
theorem dX2_fields_0 : decode cX2_fields 0 = .ok (.aload_n 0, 1) := by decide +kernel
theorem dX2_fields_1 : decode cX2_fields 1 = .ok (.getfield 66, 3) := by decide +kernel
theorem dX2_fields_4 : decode cX2_fields 4 = .ok (.invokevirtual 72, 3) := by decide +kernel
theorem dX2_fields_7 : decode cX2_fields 7 = .ok (.ireturn, 1) := by decide +kernel
theorem dX2_fieldAt_0 : decode cX2_fieldAt 0 = .ok (.iload_n 1, 1) := by decide +kernel
theorem dX2_fieldAt_1 : decode cX2_fieldAt 1 = .ok (.ifCond .lt 25, 3) := by decide +kernel
theorem dX2_fieldAt_4 : decode cX2_fieldAt 4 = .ok (.iload_n 1, 1) := by decide +kernel
theorem dX2_fieldAt_5 : decode cX2_fieldAt 5 = .ok (.aload_n 0, 1) := by decide +kernel
theorem dX2_fieldAt_6 : decode cX2_fieldAt 6 = .ok (.getfield 66, 3) := by decide +kernel
theorem dX2_fieldAt_9 : decode cX2_fieldAt 9 = .ok (.invokevirtual 72, 3) := by decide +kernel
theorem dX2_fieldAt_12 : decode cX2_fieldAt 12 = .ok (.if_icmp .ge 14, 3) := by decide +kernel
theorem dX2_fieldAt_15 : decode cX2_fieldAt 15 = .ok (.aload_n 0, 1) := by decide +kernel
theorem dX2_fieldAt_16 : decode cX2_fieldAt 16 = .ok (.getfield 66, 3) := by decide +kernel
theorem dX2_fieldAt_19 : decode cX2_fieldAt 19 = .ok (.iload_n 1, 1) := by decide +kernel
theorem dX2_fieldAt_20 : decode cX2_fieldAt 20 = .ok (.invokevirtual 78, 3) := by decide +kernel
theorem dX2_fieldAt_23 : decode cX2_fieldAt 23 = .ok (.goto 5, 3) := by decide +kernel
theorem dX2_fieldAt_26 : decode cX2_fieldAt 26 = .ok (.bipush 116, 2) := by decide +kernel
theorem dX2_fieldAt_28 : decode cX2_fieldAt 28 = .ok (.invokestatic 82, 3) := by decide +kernel
theorem dX2_fieldAt_31 : decode cX2_fieldAt 31 = .ok (.areturn, 1) := by decide +kernel
theorem dX2_spotOf_0 : decode cX2_spotOf 0 = .ok (.iconst 0, 1) := by decide +kernel
theorem dX2_spotOf_1 : decode cX2_spotOf 1 = .ok (.istore_n 3, 1) := by decide +kernel
theorem dX2_spotOf_2 : decode cX2_spotOf 2 = .ok (.iconst 0, 1) := by decide +kernel
theorem dX2_spotOf_3 : decode cX2_spotOf 3 = .ok (.istore 4, 2) := by decide +kernel
theorem dX2_spotOf_5 : decode cX2_spotOf 5 = .ok (.iload 4, 2) := by decide +kernel
theorem dX2_spotOf_7 : decode cX2_spotOf 7 = .ok (.aload_n 0, 1) := by decide +kernel
theorem dX2_spotOf_8 : decode cX2_spotOf 8 = .ok (.getfield 66, 3) := by decide +kernel
theorem dX2_spotOf_11 : decode cX2_spotOf 11 = .ok (.invokevirtual 72, 3) := by decide +kernel
theorem dX2_spotOf_14 : decode cX2_spotOf 14 = .ok (.if_icmp .ge 33, 3) := by decide +kernel
theorem dX2_spotOf_17 : decode cX2_spotOf 17 = .ok (.aload_n 0, 1) := by decide +kernel
theorem dX2_spotOf_18 : decode cX2_spotOf 18 = .ok (.iload 4, 2) := by decide +kernel
theorem dX2_spotOf_20 : decode cX2_spotOf 20 = .ok (.invokevirtual 88, 3) := by decide +kernel
theorem dX2_spotOf_23 : decode cX2_spotOf 23 = .ok (.invokevirtual 92, 3) := by decide +kernel
theorem dX2_spotOf_26 : decode cX2_spotOf 26 = .ok (.iload_n 1, 1) := by decide +kernel
theorem dX2_spotOf_27 : decode cX2_spotOf 27 = .ok (.if_icmp .ne 14, 3) := by decide +kernel
theorem dX2_spotOf_30 : decode cX2_spotOf 30 = .ok (.iload_n 3, 1) := by decide +kernel
theorem dX2_spotOf_31 : decode cX2_spotOf 31 = .ok (.iload_n 2, 1) := by decide +kernel
theorem dX2_spotOf_32 : decode cX2_spotOf 32 = .ok (.if_icmp .ne 6, 3) := by decide +kernel
theorem dX2_spotOf_35 : decode cX2_spotOf 35 = .ok (.iload 4, 2) := by decide +kernel
theorem dX2_spotOf_37 : decode cX2_spotOf 37 = .ok (.ireturn, 1) := by decide +kernel
theorem dX2_spotOf_38 : decode cX2_spotOf 38 = .ok (.iinc 3 1, 3) := by decide +kernel
theorem dX2_spotOf_41 : decode cX2_spotOf 41 = .ok (.iinc 4 1, 3) := by decide +kernel
theorem dX2_spotOf_44 : decode cX2_spotOf 44 = .ok (.goto (-39), 3) := by decide +kernel
theorem dX2_spotOf_47 : decode cX2_spotOf 47 = .ok (.iconst (-1), 1) := by decide +kernel
theorem dX2_spotOf_48 : decode cX2_spotOf 48 = .ok (.ireturn, 1) := by decide +kernel

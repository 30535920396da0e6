theorem dX5_init_0 : decode cX5_init 0 = .ok (.aload_n 0, 1) := by decide +kernel
theorem dX5_init_1 : decode cX5_init 1 = .ok (.invokespecial 3, 3) := by decide +kernel
theorem dX5_init_4 : decode cX5_init 4 = .ok (.aload_n 0, 1) := by decide +kernel
theorem dX5_init_5 : decode cX5_init 5 = .ok (.ldc 9, 2) := by decide +kernel
theorem dX5_init_7 : decode cX5_init 7 = .ok (.newarray .char, 2) := by decide +kernel
theorem dX5_init_9 : decode cX5_init 9 = .ok (.putfield 10, 3) := by decide +kernel
theorem dX5_init_12 : decode cX5_init 12 = .ok (.aload_n 0, 1) := by decide +kernel
theorem dX5_init_13 : decode cX5_init 13 = .ok (.iconst 0, 1) := by decide +kernel
theorem dX5_init_14 : decode cX5_init 14 = .ok (.putfield 16, 3) := by decide +kernel
theorem dX5_init_17 : decode cX5_init 17 = .ok (.return_, 1) := by decide +kernel
theorem dX5_forget_0 : decode cX5_forget 0 = .ok (.aload_n 0, 1) := by decide +kernel
theorem dX5_forget_1 : decode cX5_forget 1 = .ok (.iconst 0, 1) := by decide +kernel
theorem dX5_forget_2 : decode cX5_forget 2 = .ok (.putfield 16, 3) := by decide +kernel
theorem dX5_forget_5 : decode cX5_forget 5 = .ok (.return_, 1) := by decide +kernel
theorem dX5_markAt_0 : decode cX5_markAt 0 = .ok (.iload_n 1, 1) := by decide +kernel
theorem dX5_markAt_1 : decode cX5_markAt 1 = .ok (.ifCond .lt 26, 3) := by decide +kernel
theorem dX5_markAt_4 : decode cX5_markAt 4 = .ok (.iload_n 1, 1) := by decide +kernel
theorem dX5_markAt_5 : decode cX5_markAt 5 = .ok (.aload_n 0, 1) := by decide +kernel
theorem dX5_markAt_6 : decode cX5_markAt 6 = .ok (.getfield 16, 3) := by decide +kernel
theorem dX5_markAt_9 : decode cX5_markAt 9 = .ok (.if_icmp .ge 18, 3) := by decide +kernel
theorem dX5_markAt_12 : decode cX5_markAt 12 = .ok (.iload_n 1, 1) := by decide +kernel
theorem dX5_markAt_13 : decode cX5_markAt 13 = .ok (.ldc 9, 2) := by decide +kernel
theorem dX5_markAt_15 : decode cX5_markAt 15 = .ok (.if_icmp .ge 12, 3) := by decide +kernel
theorem dX5_markAt_18 : decode cX5_markAt 18 = .ok (.aload_n 0, 1) := by decide +kernel
theorem dX5_markAt_19 : decode cX5_markAt 19 = .ok (.getfield 10, 3) := by decide +kernel
theorem dX5_markAt_22 : decode cX5_markAt 22 = .ok (.iload_n 1, 1) := by decide +kernel
theorem dX5_markAt_23 : decode cX5_markAt 23 = .ok (.caload, 1) := by decide +kernel
theorem dX5_markAt_24 : decode cX5_markAt 24 = .ok (.goto 4, 3) := by decide +kernel
theorem dX5_markAt_27 : decode cX5_markAt 27 = .ok (.iconst (-1), 1) := by decide +kernel
theorem dX5_markAt_28 : decode cX5_markAt 28 = .ok (.ireturn, 1) := by decide +kernel
theorem dX5_put_0 : decode cX5_put 0 = .ok (.aload_n 0, 1) := by decide +kernel
theorem dX5_put_1 : decode cX5_put 1 = .ok (.getfield 16, 3) := by decide +kernel
theorem dX5_put_4 : decode cX5_put 4 = .ok (.ifCond .lt 33, 3) := by decide +kernel
theorem dX5_put_7 : decode cX5_put 7 = .ok (.aload_n 0, 1) := by decide +kernel
theorem dX5_put_8 : decode cX5_put 8 = .ok (.getfield 16, 3) := by decide +kernel
theorem dX5_put_11 : decode cX5_put 11 = .ok (.ldc 9, 2) := by decide +kernel
theorem dX5_put_13 : decode cX5_put 13 = .ok (.if_icmp .ge 24, 3) := by decide +kernel
theorem dX5_put_16 : decode cX5_put 16 = .ok (.aload_n 0, 1) := by decide +kernel
theorem dX5_put_17 : decode cX5_put 17 = .ok (.getfield 10, 3) := by decide +kernel
theorem dX5_put_20 : decode cX5_put 20 = .ok (.aload_n 0, 1) := by decide +kernel
theorem dX5_put_21 : decode cX5_put 21 = .ok (.getfield 16, 3) := by decide +kernel
theorem dX5_put_24 : decode cX5_put 24 = .ok (.iload_n 1, 1) := by decide +kernel
theorem dX5_put_25 : decode cX5_put 25 = .ok (.i2c, 1) := by decide +kernel
theorem dX5_put_26 : decode cX5_put 26 = .ok (.castore, 1) := by decide +kernel
theorem dX5_put_27 : decode cX5_put 27 = .ok (.aload_n 0, 1) := by decide +kernel
theorem dX5_put_28 : decode cX5_put 28 = .ok (.dup, 1) := by decide +kernel
theorem dX5_put_29 : decode cX5_put 29 = .ok (.getfield 16, 3) := by decide +kernel
theorem dX5_put_32 : decode cX5_put 32 = .ok (.iconst 1, 1) := by decide +kernel
theorem dX5_put_33 : decode cX5_put 33 = .ok (.iadd, 1) := by decide +kernel
theorem dX5_put_34 : decode cX5_put 34 = .ok (.putfield 16, 3) := by decide +kernel
theorem dX5_put_37 : decode cX5_put 37 = .ok (.return_, 1) := by decide +kernel
theorem dX5_putTimes_0 : decode cX5_putTimes 0 = .ok (.iconst 0, 1) := by decide +kernel
theorem dX5_putTimes_1 : decode cX5_putTimes 1 = .ok (.istore_n 3, 1) := by decide +kernel
theorem dX5_putTimes_2 : decode cX5_putTimes 2 = .ok (.iload_n 3, 1) := by decide +kernel
theorem dX5_putTimes_3 : decode cX5_putTimes 3 = .ok (.iload_n 2, 1) := by decide +kernel
theorem dX5_putTimes_4 : decode cX5_putTimes 4 = .ok (.if_icmp .ge 14, 3) := by decide +kernel
theorem dX5_putTimes_7 : decode cX5_putTimes 7 = .ok (.aload_n 0, 1) := by decide +kernel
theorem dX5_putTimes_8 : decode cX5_putTimes 8 = .ok (.iload_n 1, 1) := by decide +kernel
theorem dX5_putTimes_9 : decode cX5_putTimes 9 = .ok (.invokevirtual 20, 3) := by decide +kernel
theorem dX5_putTimes_12 : decode cX5_putTimes 12 = .ok (.iinc 3 1, 3) := by decide +kernel
theorem dX5_putTimes_15 : decode cX5_putTimes 15 = .ok (.goto (-13), 3) := by decide +kernel
theorem dX5_putTimes_18 : decode cX5_putTimes 18 = .ok (.return_, 1) := by decide +kernel
theorem dX5_putTitle_0 : decode cX5_putTitle 0 = .ok (.iconst 0, 1) := by decide +kernel
theorem dX5_putTitle_1 : decode cX5_putTitle 1 = .ok (.istore_n 2, 1) := by decide +kernel
theorem dX5_putTitle_2 : decode cX5_putTitle 2 = .ok (.iload_n 2, 1) := by decide +kernel
theorem dX5_putTitle_3 : decode cX5_putTitle 3 = .ok (.aload_n 1, 1) := by decide +kernel
theorem dX5_putTitle_4 : decode cX5_putTitle 4 = .ok (.invokevirtual 24, 3) := by decide +kernel
theorem dX5_putTitle_7 : decode cX5_putTitle 7 = .ok (.if_icmp .ge 18, 3) := by decide +kernel
theorem dX5_putTitle_10 : decode cX5_putTitle 10 = .ok (.aload_n 0, 1) := by decide +kernel
theorem dX5_putTitle_11 : decode cX5_putTitle 11 = .ok (.aload_n 1, 1) := by decide +kernel
theorem dX5_putTitle_12 : decode cX5_putTitle 12 = .ok (.iload_n 2, 1) := by decide +kernel
theorem dX5_putTitle_13 : decode cX5_putTitle 13 = .ok (.invokevirtual 30, 3) := by decide +kernel
theorem dX5_putTitle_16 : decode cX5_putTitle 16 = .ok (.invokevirtual 20, 3) := by decide +kernel
theorem dX5_putTitle_19 : decode cX5_putTitle 19 = .ok (.iinc 2 1, 3) := by decide +kernel
theorem dX5_putTitle_22 : decode cX5_putTitle 22 = .ok (.goto (-20), 3) := by decide +kernel
theorem dX5_putTitle_25 : decode cX5_putTitle 25 = .ok (.return_, 1) := by decide +kernel
theorem dX5_putNumber_0 : decode cX5_putNumber 0 = .ok (.lload_n 2, 1) := by decide +kernel
theorem dX5_putNumber_1 : decode cX5_putNumber 1 = .ok (.lconst 0, 1) := by decide +kernel
theorem dX5_putNumber_2 : decode cX5_putNumber 2 = .ok (.lcmp, 1) := by decide +kernel
theorem dX5_putNumber_3 : decode cX5_putNumber 3 = .ok (.ifCond .ge 9, 3) := by decide +kernel
theorem dX5_putNumber_6 : decode cX5_putNumber 6 = .ok (.aload_n 0, 1) := by decide +kernel
theorem dX5_putNumber_7 : decode cX5_putNumber 7 = .ok (.bipush 45, 2) := by decide +kernel
theorem dX5_putNumber_9 : decode cX5_putNumber 9 = .ok (.invokevirtual 20, 3) := by decide +kernel
theorem dX5_putNumber_12 : decode cX5_putNumber 12 = .ok (.lload_n 2, 1) := by decide +kernel
theorem dX5_putNumber_13 : decode cX5_putNumber 13 = .ok (.invokestatic 34, 3) := by decide +kernel
theorem dX5_putNumber_16 : decode cX5_putNumber 16 = .ok (.lstore 4, 2) := by decide +kernel
theorem dX5_putNumber_18 : decode cX5_putNumber 18 = .ok (.aload_n 1, 1) := by decide +kernel
theorem dX5_putNumber_19 : decode cX5_putNumber 19 = .ok (.invokevirtual 40, 3) := by decide +kernel
theorem dX5_putNumber_22 : decode cX5_putNumber 22 = .ok (.ifCond .eq 28, 3) := by decide +kernel
theorem dX5_putNumber_25 : decode cX5_putNumber 25 = .ok (.aload_n 0, 1) := by decide +kernel
theorem dX5_putNumber_26 : decode cX5_putNumber 26 = .ok (.lload 4, 2) := by decide +kernel
theorem dX5_putNumber_28 : decode cX5_putNumber 28 = .ok (.ldc2_w 46, 3) := by decide +kernel
theorem dX5_putNumber_31 : decode cX5_putNumber 31 = .ok (.ldiv, 1) := by decide +kernel
theorem dX5_putNumber_32 : decode cX5_putNumber 32 = .ok (.l2i, 1) := by decide +kernel
theorem dX5_putNumber_33 : decode cX5_putNumber 33 = .ok (.invokevirtual 48, 3) := by decide +kernel
theorem dX5_putNumber_36 : decode cX5_putNumber 36 = .ok (.aload_n 0, 1) := by decide +kernel
theorem dX5_putNumber_37 : decode cX5_putNumber 37 = .ok (.lload 4, 2) := by decide +kernel
theorem dX5_putNumber_39 : decode cX5_putNumber 39 = .ok (.ldc2_w 46, 3) := by decide +kernel
theorem dX5_putNumber_42 : decode cX5_putNumber 42 = .ok (.lrem, 1) := by decide +kernel
theorem dX5_putNumber_43 : decode cX5_putNumber 43 = .ok (.l2i, 1) := by decide +kernel
theorem dX5_putNumber_44 : decode cX5_putNumber 44 = .ok (.invokevirtual 51, 3) := by decide +kernel
theorem dX5_putNumber_47 : decode cX5_putNumber 47 = .ok (.goto 10, 3) := by decide +kernel
theorem dX5_putNumber_50 : decode cX5_putNumber 50 = .ok (.aload_n 0, 1) := by decide +kernel
theorem dX5_putNumber_51 : decode cX5_putNumber 51 = .ok (.lload 4, 2) := by decide +kernel
theorem dX5_putNumber_53 : decode cX5_putNumber 53 = .ok (.l2i, 1) := by decide +kernel
theorem dX5_putNumber_54 : decode cX5_putNumber 54 = .ok (.invokevirtual 48, 3) := by decide +kernel
theorem dX5_putNumber_57 : decode cX5_putNumber 57 = .ok (.return_, 1) := by decide +kernel
theorem dX5_putWhole_0 : decode cX5_putWhole 0 = .ok (.iconst 0, 1) := by decide +kernel
theorem dX5_putWhole_1 : decode cX5_putWhole 1 = .ok (.istore_n 2, 1) := by decide +kernel
theorem dX5_putWhole_2 : decode cX5_putWhole 2 = .ok (.sipush 1000, 3) := by decide +kernel
theorem dX5_putWhole_5 : decode cX5_putWhole 5 = .ok (.istore_n 3, 1) := by decide +kernel
theorem dX5_putWhole_6 : decode cX5_putWhole 6 = .ok (.iload_n 3, 1) := by decide +kernel
theorem dX5_putWhole_7 : decode cX5_putWhole 7 = .ok (.ifCond .le 44, 3) := by decide +kernel
theorem dX5_putWhole_10 : decode cX5_putWhole 10 = .ok (.iload_n 1, 1) := by decide +kernel
theorem dX5_putWhole_11 : decode cX5_putWhole 11 = .ok (.iload_n 3, 1) := by decide +kernel
theorem dX5_putWhole_12 : decode cX5_putWhole 12 = .ok (.idiv, 1) := by decide +kernel
theorem dX5_putWhole_13 : decode cX5_putWhole 13 = .ok (.bipush 10, 2) := by decide +kernel
theorem dX5_putWhole_15 : decode cX5_putWhole 15 = .ok (.irem, 1) := by decide +kernel
theorem dX5_putWhole_16 : decode cX5_putWhole 16 = .ok (.istore 4, 2) := by decide +kernel
theorem dX5_putWhole_18 : decode cX5_putWhole 18 = .ok (.iload_n 2, 1) := by decide +kernel
theorem dX5_putWhole_19 : decode cX5_putWhole 19 = .ok (.ifCond .ne 13, 3) := by decide +kernel
theorem dX5_putWhole_22 : decode cX5_putWhole 22 = .ok (.iload 4, 2) := by decide +kernel
theorem dX5_putWhole_24 : decode cX5_putWhole 24 = .ok (.ifCond .gt 8, 3) := by decide +kernel
theorem dX5_putWhole_27 : decode cX5_putWhole 27 = .ok (.iload_n 3, 1) := by decide +kernel
theorem dX5_putWhole_28 : decode cX5_putWhole 28 = .ok (.iconst 1, 1) := by decide +kernel
theorem dX5_putWhole_29 : decode cX5_putWhole 29 = .ok (.if_icmp .ne 14, 3) := by decide +kernel
theorem dX5_putWhole_32 : decode cX5_putWhole 32 = .ok (.aload_n 0, 1) := by decide +kernel
theorem dX5_putWhole_33 : decode cX5_putWhole 33 = .ok (.bipush 48, 2) := by decide +kernel
theorem dX5_putWhole_35 : decode cX5_putWhole 35 = .ok (.iload 4, 2) := by decide +kernel
theorem dX5_putWhole_37 : decode cX5_putWhole 37 = .ok (.iadd, 1) := by decide +kernel
theorem dX5_putWhole_38 : decode cX5_putWhole 38 = .ok (.invokevirtual 20, 3) := by decide +kernel
theorem dX5_putWhole_41 : decode cX5_putWhole 41 = .ok (.iconst 1, 1) := by decide +kernel
theorem dX5_putWhole_42 : decode cX5_putWhole 42 = .ok (.istore_n 2, 1) := by decide +kernel
theorem dX5_putWhole_43 : decode cX5_putWhole 43 = .ok (.iload_n 3, 1) := by decide +kernel
theorem dX5_putWhole_44 : decode cX5_putWhole 44 = .ok (.bipush 10, 2) := by decide +kernel
theorem dX5_putWhole_46 : decode cX5_putWhole 46 = .ok (.idiv, 1) := by decide +kernel
theorem dX5_putWhole_47 : decode cX5_putWhole 47 = .ok (.istore_n 3, 1) := by decide +kernel
theorem dX5_putWhole_48 : decode cX5_putWhole 48 = .ok (.goto (-42), 3) := by decide +kernel
theorem dX5_putWhole_51 : decode cX5_putWhole 51 = .ok (.return_, 1) := by decide +kernel
theorem dX5_putPoint_0 : decode cX5_putPoint 0 = .ok (.iload_n 1, 1) := by decide +kernel
theorem dX5_putPoint_1 : decode cX5_putPoint 1 = .ok (.istore_n 2, 1) := by decide +kernel
theorem dX5_putPoint_2 : decode cX5_putPoint 2 = .ok (.iload_n 2, 1) := by decide +kernel
theorem dX5_putPoint_3 : decode cX5_putPoint 3 = .ok (.ifCond .le 9, 3) := by decide +kernel
theorem dX5_putPoint_6 : decode cX5_putPoint 6 = .ok (.aload_n 0, 1) := by decide +kernel
theorem dX5_putPoint_7 : decode cX5_putPoint 7 = .ok (.bipush 46, 2) := by decide +kernel
theorem dX5_putPoint_9 : decode cX5_putPoint 9 = .ok (.invokevirtual 20, 3) := by decide +kernel
theorem dX5_putPoint_12 : decode cX5_putPoint 12 = .ok (.ldc 54, 2) := by decide +kernel
theorem dX5_putPoint_14 : decode cX5_putPoint 14 = .ok (.istore_n 3, 1) := by decide +kernel
theorem dX5_putPoint_15 : decode cX5_putPoint 15 = .ok (.iload_n 3, 1) := by decide +kernel
theorem dX5_putPoint_16 : decode cX5_putPoint 16 = .ok (.ifCond .le 29, 3) := by decide +kernel
theorem dX5_putPoint_19 : decode cX5_putPoint 19 = .ok (.iload_n 2, 1) := by decide +kernel
theorem dX5_putPoint_20 : decode cX5_putPoint 20 = .ok (.ifCond .le 25, 3) := by decide +kernel
theorem dX5_putPoint_23 : decode cX5_putPoint 23 = .ok (.aload_n 0, 1) := by decide +kernel
theorem dX5_putPoint_24 : decode cX5_putPoint 24 = .ok (.bipush 48, 2) := by decide +kernel
theorem dX5_putPoint_26 : decode cX5_putPoint 26 = .ok (.iload_n 2, 1) := by decide +kernel
theorem dX5_putPoint_27 : decode cX5_putPoint 27 = .ok (.iload_n 3, 1) := by decide +kernel
theorem dX5_putPoint_28 : decode cX5_putPoint 28 = .ok (.idiv, 1) := by decide +kernel
theorem dX5_putPoint_29 : decode cX5_putPoint 29 = .ok (.iadd, 1) := by decide +kernel
theorem dX5_putPoint_30 : decode cX5_putPoint 30 = .ok (.invokevirtual 20, 3) := by decide +kernel
theorem dX5_putPoint_33 : decode cX5_putPoint 33 = .ok (.iload_n 2, 1) := by decide +kernel
theorem dX5_putPoint_34 : decode cX5_putPoint 34 = .ok (.iload_n 3, 1) := by decide +kernel
theorem dX5_putPoint_35 : decode cX5_putPoint 35 = .ok (.irem, 1) := by decide +kernel
theorem dX5_putPoint_36 : decode cX5_putPoint 36 = .ok (.istore_n 2, 1) := by decide +kernel
theorem dX5_putPoint_37 : decode cX5_putPoint 37 = .ok (.iload_n 3, 1) := by decide +kernel
theorem dX5_putPoint_38 : decode cX5_putPoint 38 = .ok (.bipush 10, 2) := by decide +kernel
theorem dX5_putPoint_40 : decode cX5_putPoint 40 = .ok (.idiv, 1) := by decide +kernel
theorem dX5_putPoint_41 : decode cX5_putPoint 41 = .ok (.istore_n 3, 1) := by decide +kernel
theorem dX5_putPoint_42 : decode cX5_putPoint 42 = .ok (.goto (-27), 3) := by decide +kernel
theorem dX5_putPoint_45 : decode cX5_putPoint 45 = .ok (.return_, 1) := by decide +kernel
theorem dX5_putText_0 : decode cX5_putText 0 = .ok (.aload_n 0, 1) := by decide +kernel
theorem dX5_putText_1 : decode cX5_putText 1 = .ok (.bipush 34, 2) := by decide +kernel
theorem dX5_putText_3 : decode cX5_putText 3 = .ok (.invokevirtual 20, 3) := by decide +kernel
theorem dX5_putText_6 : decode cX5_putText 6 = .ok (.iconst 0, 1) := by decide +kernel
theorem dX5_putText_7 : decode cX5_putText 7 = .ok (.istore 4, 2) := by decide +kernel
theorem dX5_putText_9 : decode cX5_putText 9 = .ok (.iload 4, 2) := by decide +kernel
theorem dX5_putText_11 : decode cX5_putText 11 = .ok (.aload_n 1, 1) := by decide +kernel
theorem dX5_putText_12 : decode cX5_putText 12 = .ok (.iload_n 2, 1) := by decide +kernel
theorem dX5_putText_13 : decode cX5_putText 13 = .ok (.iload_n 3, 1) := by decide +kernel
theorem dX5_putText_14 : decode cX5_putText 14 = .ok (.invokevirtual 55, 3) := by decide +kernel
theorem dX5_putText_17 : decode cX5_putText 17 = .ok (.if_icmp .ge 39, 3) := by decide +kernel
theorem dX5_putText_20 : decode cX5_putText 20 = .ok (.aload_n 1, 1) := by decide +kernel
theorem dX5_putText_21 : decode cX5_putText 21 = .ok (.iload_n 2, 1) := by decide +kernel
theorem dX5_putText_22 : decode cX5_putText 22 = .ok (.iload_n 3, 1) := by decide +kernel
theorem dX5_putText_23 : decode cX5_putText 23 = .ok (.iload 4, 2) := by decide +kernel
theorem dX5_putText_25 : decode cX5_putText 25 = .ok (.invokevirtual 61, 3) := by decide +kernel
theorem dX5_putText_28 : decode cX5_putText 28 = .ok (.istore 5, 2) := by decide +kernel
theorem dX5_putText_30 : decode cX5_putText 30 = .ok (.iload 5, 2) := by decide +kernel
theorem dX5_putText_32 : decode cX5_putText 32 = .ok (.invokestatic 65, 3) := by decide +kernel
theorem dX5_putText_35 : decode cX5_putText 35 = .ok (.ifCond .eq 9, 3) := by decide +kernel
theorem dX5_putText_38 : decode cX5_putText 38 = .ok (.aload_n 0, 1) := by decide +kernel
theorem dX5_putText_39 : decode cX5_putText 39 = .ok (.bipush 92, 2) := by decide +kernel
theorem dX5_putText_41 : decode cX5_putText 41 = .ok (.invokevirtual 20, 3) := by decide +kernel
theorem dX5_putText_44 : decode cX5_putText 44 = .ok (.aload_n 0, 1) := by decide +kernel
theorem dX5_putText_45 : decode cX5_putText 45 = .ok (.iload 5, 2) := by decide +kernel
theorem dX5_putText_47 : decode cX5_putText 47 = .ok (.invokevirtual 20, 3) := by decide +kernel
theorem dX5_putText_50 : decode cX5_putText 50 = .ok (.iinc 4 1, 3) := by decide +kernel
theorem dX5_putText_53 : decode cX5_putText 53 = .ok (.goto (-44), 3) := by decide +kernel
theorem dX5_putText_56 : decode cX5_putText 56 = .ok (.aload_n 0, 1) := by decide +kernel
theorem dX5_putText_57 : decode cX5_putText 57 = .ok (.bipush 34, 2) := by decide +kernel
theorem dX5_putText_59 : decode cX5_putText 59 = .ok (.invokevirtual 20, 3) := by decide +kernel
theorem dX5_putText_62 : decode cX5_putText 62 = .ok (.return_, 1) := by decide +kernel
theorem dX5_putKept_0 : decode cX5_putKept 0 = .ok (.iconst 0, 1) := by decide +kernel
theorem dX5_putKept_1 : decode cX5_putKept 1 = .ok (.istore_n 3, 1) := by decide +kernel
theorem dX5_putKept_2 : decode cX5_putKept 2 = .ok (.iload_n 3, 1) := by decide +kernel
theorem dX5_putKept_3 : decode cX5_putKept 3 = .ok (.aload_n 1, 1) := by decide +kernel
theorem dX5_putKept_4 : decode cX5_putKept 4 = .ok (.iload_n 2, 1) := by decide +kernel
theorem dX5_putKept_5 : decode cX5_putKept 5 = .ok (.invokevirtual 69, 3) := by decide +kernel
theorem dX5_putKept_8 : decode cX5_putKept 8 = .ok (.if_icmp .ge 19, 3) := by decide +kernel
theorem dX5_putKept_11 : decode cX5_putKept 11 = .ok (.aload_n 0, 1) := by decide +kernel
theorem dX5_putKept_12 : decode cX5_putKept 12 = .ok (.aload_n 1, 1) := by decide +kernel
theorem dX5_putKept_13 : decode cX5_putKept 13 = .ok (.iload_n 2, 1) := by decide +kernel
theorem dX5_putKept_14 : decode cX5_putKept 14 = .ok (.iload_n 3, 1) := by decide +kernel
theorem dX5_putKept_15 : decode cX5_putKept 15 = .ok (.invokevirtual 73, 3) := by decide +kernel
theorem dX5_putKept_18 : decode cX5_putKept 18 = .ok (.invokevirtual 20, 3) := by decide +kernel
theorem dX5_putKept_21 : decode cX5_putKept 21 = .ok (.iinc 3 1, 3) := by decide +kernel
theorem dX5_putKept_24 : decode cX5_putKept 24 = .ok (.goto (-22), 3) := by decide +kernel
theorem dX5_putKept_27 : decode cX5_putKept 27 = .ok (.return_, 1) := by decide +kernel

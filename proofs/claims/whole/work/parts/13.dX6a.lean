theorem dX6_init_0 : decode cX6_init 0 = .ok (.aload_n 0, 1) := by decide +kernel
theorem dX6_init_1 : decode cX6_init 1 = .ok (.invokespecial 3, 3) := by decide +kernel
theorem dX6_init_4 : decode cX6_init 4 = .ok (.aload_n 0, 1) := by decide +kernel
theorem dX6_init_5 : decode cX6_init 5 = .ok (.sipush 4000, 3) := by decide +kernel
theorem dX6_init_8 : decode cX6_init 8 = .ok (.newarray .char, 2) := by decide +kernel
theorem dX6_init_10 : decode cX6_init 10 = .ok (.putfield 9, 3) := by decide +kernel
theorem dX6_init_13 : decode cX6_init 13 = .ok (.aload_n 0, 1) := by decide +kernel
theorem dX6_init_14 : decode cX6_init 14 = .ok (.iconst 0, 1) := by decide +kernel
theorem dX6_init_15 : decode cX6_init 15 = .ok (.putfield 15, 3) := by decide +kernel
theorem dX6_init_18 : decode cX6_init 18 = .ok (.aload_n 0, 1) := by decide +kernel
theorem dX6_init_19 : decode cX6_init 19 = .ok (.iconst 0, 1) := by decide +kernel
theorem dX6_init_20 : decode cX6_init 20 = .ok (.putfield 19, 3) := by decide +kernel
theorem dX6_init_23 : decode cX6_init 23 = .ok (.aload_n 0, 1) := by decide +kernel
theorem dX6_init_24 : decode cX6_init 24 = .ok (.iconst (-1), 1) := by decide +kernel
theorem dX6_init_25 : decode cX6_init 25 = .ok (.putfield 22, 3) := by decide +kernel
theorem dX6_init_28 : decode cX6_init 28 = .ok (.aload_n 0, 1) := by decide +kernel
theorem dX6_init_29 : decode cX6_init 29 = .ok (.lconst 0, 1) := by decide +kernel
theorem dX6_init_30 : decode cX6_init 30 = .ok (.putfield 25, 3) := by decide +kernel
theorem dX6_init_33 : decode cX6_init 33 = .ok (.return_, 1) := by decide +kernel
theorem dX6_append_0 : decode cX6_append 0 = .ok (.aload_n 0, 1) := by decide +kernel
theorem dX6_append_1 : decode cX6_append 1 = .ok (.getfield 15, 3) := by decide +kernel
theorem dX6_append_4 : decode cX6_append 4 = .ok (.sipush 4000, 3) := by decide +kernel
theorem dX6_append_7 : decode cX6_append 7 = .ok (.if_icmp .ge 16, 3) := by decide +kernel
theorem dX6_append_10 : decode cX6_append 10 = .ok (.iload_n 1, 1) := by decide +kernel
theorem dX6_append_11 : decode cX6_append 11 = .ok (.invokestatic 29, 3) := by decide +kernel
theorem dX6_append_14 : decode cX6_append 14 = .ok (.ifCond .ne 11, 3) := by decide +kernel
theorem dX6_append_17 : decode cX6_append 17 = .ok (.iload_n 1, 1) := by decide +kernel
theorem dX6_append_18 : decode cX6_append 18 = .ok (.bipush 10, 2) := by decide +kernel
theorem dX6_append_20 : decode cX6_append 20 = .ok (.if_icmp .eq 5, 3) := by decide +kernel
theorem dX6_append_23 : decode cX6_append 23 = .ok (.iconst 0, 1) := by decide +kernel
theorem dX6_append_24 : decode cX6_append 24 = .ok (.ireturn, 1) := by decide +kernel
theorem dX6_append_25 : decode cX6_append 25 = .ok (.aload_n 0, 1) := by decide +kernel
theorem dX6_append_26 : decode cX6_append 26 = .ok (.getfield 9, 3) := by decide +kernel
theorem dX6_append_29 : decode cX6_append 29 = .ok (.aload_n 0, 1) := by decide +kernel
theorem dX6_append_30 : decode cX6_append 30 = .ok (.getfield 15, 3) := by decide +kernel
theorem dX6_append_33 : decode cX6_append 33 = .ok (.iload_n 1, 1) := by decide +kernel
theorem dX6_append_34 : decode cX6_append 34 = .ok (.i2c, 1) := by decide +kernel
theorem dX6_append_35 : decode cX6_append 35 = .ok (.castore, 1) := by decide +kernel
theorem dX6_append_36 : decode cX6_append 36 = .ok (.aload_n 0, 1) := by decide +kernel
theorem dX6_append_37 : decode cX6_append 37 = .ok (.dup, 1) := by decide +kernel
theorem dX6_append_38 : decode cX6_append 38 = .ok (.getfield 15, 3) := by decide +kernel
theorem dX6_append_41 : decode cX6_append 41 = .ok (.iconst 1, 1) := by decide +kernel
theorem dX6_append_42 : decode cX6_append 42 = .ok (.iadd, 1) := by decide +kernel
theorem dX6_append_43 : decode cX6_append 43 = .ok (.putfield 15, 3) := by decide +kernel
theorem dX6_append_46 : decode cX6_append 46 = .ok (.iconst 1, 1) := by decide +kernel
theorem dX6_append_47 : decode cX6_append 47 = .ok (.ireturn, 1) := by decide +kernel
theorem dX6_empty_0 : decode cX6_empty 0 = .ok (.aload_n 0, 1) := by decide +kernel
theorem dX6_empty_1 : decode cX6_empty 1 = .ok (.iconst 0, 1) := by decide +kernel
theorem dX6_empty_2 : decode cX6_empty 2 = .ok (.putfield 15, 3) := by decide +kernel
theorem dX6_empty_5 : decode cX6_empty 5 = .ok (.return_, 1) := by decide +kernel
theorem dX6_rewind_0 : decode cX6_rewind 0 = .ok (.aload_n 0, 1) := by decide +kernel
theorem dX6_rewind_1 : decode cX6_rewind 1 = .ok (.iconst 0, 1) := by decide +kernel
theorem dX6_rewind_2 : decode cX6_rewind 2 = .ok (.putfield 19, 3) := by decide +kernel
theorem dX6_rewind_5 : decode cX6_rewind 5 = .ok (.aload_n 0, 1) := by decide +kernel
theorem dX6_rewind_6 : decode cX6_rewind 6 = .ok (.iconst (-1), 1) := by decide +kernel
theorem dX6_rewind_7 : decode cX6_rewind 7 = .ok (.putfield 22, 3) := by decide +kernel
theorem dX6_rewind_10 : decode cX6_rewind 10 = .ok (.aload_n 0, 1) := by decide +kernel
theorem dX6_rewind_11 : decode cX6_rewind 11 = .ok (.lconst 0, 1) := by decide +kernel
theorem dX6_rewind_12 : decode cX6_rewind 12 = .ok (.putfield 25, 3) := by decide +kernel
theorem dX6_rewind_15 : decode cX6_rewind 15 = .ok (.return_, 1) := by decide +kernel
theorem dX6_failAt_0 : decode cX6_failAt 0 = .ok (.aload_n 0, 1) := by decide +kernel
theorem dX6_failAt_1 : decode cX6_failAt 1 = .ok (.iload_n 1, 1) := by decide +kernel
theorem dX6_failAt_2 : decode cX6_failAt 2 = .ok (.putfield 22, 3) := by decide +kernel
theorem dX6_failAt_5 : decode cX6_failAt 5 = .ok (.iconst 0, 1) := by decide +kernel
theorem dX6_failAt_6 : decode cX6_failAt 6 = .ok (.ireturn, 1) := by decide +kernel
theorem dX6_markAt_0 : decode cX6_markAt 0 = .ok (.iload_n 1, 1) := by decide +kernel
theorem dX6_markAt_1 : decode cX6_markAt 1 = .ok (.ifCond .lt 20, 3) := by decide +kernel
theorem dX6_markAt_4 : decode cX6_markAt 4 = .ok (.iload_n 1, 1) := by decide +kernel
theorem dX6_markAt_5 : decode cX6_markAt 5 = .ok (.aload_n 0, 1) := by decide +kernel
theorem dX6_markAt_6 : decode cX6_markAt 6 = .ok (.getfield 15, 3) := by decide +kernel
theorem dX6_markAt_9 : decode cX6_markAt 9 = .ok (.if_icmp .ge 12, 3) := by decide +kernel
theorem dX6_markAt_12 : decode cX6_markAt 12 = .ok (.aload_n 0, 1) := by decide +kernel
theorem dX6_markAt_13 : decode cX6_markAt 13 = .ok (.getfield 9, 3) := by decide +kernel
theorem dX6_markAt_16 : decode cX6_markAt 16 = .ok (.iload_n 1, 1) := by decide +kernel
theorem dX6_markAt_17 : decode cX6_markAt 17 = .ok (.caload, 1) := by decide +kernel
theorem dX6_markAt_18 : decode cX6_markAt 18 = .ok (.goto 4, 3) := by decide +kernel
theorem dX6_markAt_21 : decode cX6_markAt 21 = .ok (.iconst (-1), 1) := by decide +kernel
theorem dX6_markAt_22 : decode cX6_markAt 22 = .ok (.ireturn, 1) := by decide +kernel
theorem dX6_mark_0 : decode cX6_mark 0 = .ok (.aload_n 0, 1) := by decide +kernel
theorem dX6_mark_1 : decode cX6_mark 1 = .ok (.getfield 19, 3) := by decide +kernel
theorem dX6_mark_4 : decode cX6_mark 4 = .ok (.ifCond .lt 26, 3) := by decide +kernel
theorem dX6_mark_7 : decode cX6_mark 7 = .ok (.aload_n 0, 1) := by decide +kernel
theorem dX6_mark_8 : decode cX6_mark 8 = .ok (.getfield 19, 3) := by decide +kernel
theorem dX6_mark_11 : decode cX6_mark 11 = .ok (.aload_n 0, 1) := by decide +kernel
theorem dX6_mark_12 : decode cX6_mark 12 = .ok (.getfield 15, 3) := by decide +kernel
theorem dX6_mark_15 : decode cX6_mark 15 = .ok (.if_icmp .ge 15, 3) := by decide +kernel
theorem dX6_mark_18 : decode cX6_mark 18 = .ok (.aload_n 0, 1) := by decide +kernel
theorem dX6_mark_19 : decode cX6_mark 19 = .ok (.getfield 9, 3) := by decide +kernel
theorem dX6_mark_22 : decode cX6_mark 22 = .ok (.aload_n 0, 1) := by decide +kernel
theorem dX6_mark_23 : decode cX6_mark 23 = .ok (.getfield 19, 3) := by decide +kernel
theorem dX6_mark_26 : decode cX6_mark 26 = .ok (.caload, 1) := by decide +kernel
theorem dX6_mark_27 : decode cX6_mark 27 = .ok (.goto 4, 3) := by decide +kernel
theorem dX6_mark_30 : decode cX6_mark 30 = .ok (.iconst (-1), 1) := by decide +kernel
theorem dX6_mark_31 : decode cX6_mark 31 = .ok (.ireturn, 1) := by decide +kernel
theorem dX6_ended_0 : decode cX6_ended 0 = .ok (.aload_n 0, 1) := by decide +kernel
theorem dX6_ended_1 : decode cX6_ended 1 = .ok (.getfield 19, 3) := by decide +kernel
theorem dX6_ended_4 : decode cX6_ended 4 = .ok (.aload_n 0, 1) := by decide +kernel
theorem dX6_ended_5 : decode cX6_ended 5 = .ok (.getfield 15, 3) := by decide +kernel
theorem dX6_ended_8 : decode cX6_ended 8 = .ok (.if_icmp .lt 7, 3) := by decide +kernel
theorem dX6_ended_11 : decode cX6_ended 11 = .ok (.iconst 1, 1) := by decide +kernel
theorem dX6_ended_12 : decode cX6_ended 12 = .ok (.goto 4, 3) := by decide +kernel
theorem dX6_ended_15 : decode cX6_ended 15 = .ok (.iconst 0, 1) := by decide +kernel
theorem dX6_ended_16 : decode cX6_ended 16 = .ok (.ireturn, 1) := by decide +kernel
theorem dX6_pass_0 : decode cX6_pass 0 = .ok (.aload_n 0, 1) := by decide +kernel
theorem dX6_pass_1 : decode cX6_pass 1 = .ok (.dup, 1) := by decide +kernel
theorem dX6_pass_2 : decode cX6_pass 2 = .ok (.getfield 19, 3) := by decide +kernel
theorem dX6_pass_5 : decode cX6_pass 5 = .ok (.iconst 1, 1) := by decide +kernel
theorem dX6_pass_6 : decode cX6_pass 6 = .ok (.iadd, 1) := by decide +kernel
theorem dX6_pass_7 : decode cX6_pass 7 = .ok (.putfield 19, 3) := by decide +kernel
theorem dX6_pass_10 : decode cX6_pass 10 = .ok (.return_, 1) := by decide +kernel
theorem dX6_passOnly_0 : decode cX6_passOnly 0 = .ok (.aload_n 0, 1) := by decide +kernel
theorem dX6_passOnly_1 : decode cX6_passOnly 1 = .ok (.invokevirtual 33, 3) := by decide +kernel
theorem dX6_passOnly_4 : decode cX6_passOnly 4 = .ok (.iload_n 1, 1) := by decide +kernel
theorem dX6_passOnly_5 : decode cX6_passOnly 5 = .ok (.if_icmp .eq 12, 3) := by decide +kernel
theorem dX6_passOnly_8 : decode cX6_passOnly 8 = .ok (.aload_n 0, 1) := by decide +kernel
theorem dX6_passOnly_9 : decode cX6_passOnly 9 = .ok (.aload_n 0, 1) := by decide +kernel
theorem dX6_passOnly_10 : decode cX6_passOnly 10 = .ok (.getfield 19, 3) := by decide +kernel
theorem dX6_passOnly_13 : decode cX6_passOnly 13 = .ok (.invokevirtual 37, 3) := by decide +kernel
theorem dX6_passOnly_16 : decode cX6_passOnly 16 = .ok (.ireturn, 1) := by decide +kernel
theorem dX6_passOnly_17 : decode cX6_passOnly 17 = .ok (.aload_n 0, 1) := by decide +kernel
theorem dX6_passOnly_18 : decode cX6_passOnly 18 = .ok (.dup, 1) := by decide +kernel
theorem dX6_passOnly_19 : decode cX6_passOnly 19 = .ok (.getfield 19, 3) := by decide +kernel
theorem dX6_passOnly_22 : decode cX6_passOnly 22 = .ok (.iconst 1, 1) := by decide +kernel
theorem dX6_passOnly_23 : decode cX6_passOnly 23 = .ok (.iadd, 1) := by decide +kernel
theorem dX6_passOnly_24 : decode cX6_passOnly 24 = .ok (.putfield 19, 3) := by decide +kernel
theorem dX6_passOnly_27 : decode cX6_passOnly 27 = .ok (.iconst 1, 1) := by decide +kernel
theorem dX6_passOnly_28 : decode cX6_passOnly 28 = .ok (.ireturn, 1) := by decide +kernel
theorem dX6_passBlanks_0 : decode cX6_passBlanks 0 = .ok (.aload_n 0, 1) := by decide +kernel
theorem dX6_passBlanks_1 : decode cX6_passBlanks 1 = .ok (.getfield 19, 3) := by decide +kernel
theorem dX6_passBlanks_4 : decode cX6_passBlanks 4 = .ok (.aload_n 0, 1) := by decide +kernel
theorem dX6_passBlanks_5 : decode cX6_passBlanks 5 = .ok (.getfield 15, 3) := by decide +kernel
theorem dX6_passBlanks_8 : decode cX6_passBlanks 8 = .ok (.if_icmp .ge 34, 3) := by decide +kernel
theorem dX6_passBlanks_11 : decode cX6_passBlanks 11 = .ok (.aload_n 0, 1) := by decide +kernel
theorem dX6_passBlanks_12 : decode cX6_passBlanks 12 = .ok (.invokevirtual 33, 3) := by decide +kernel
theorem dX6_passBlanks_15 : decode cX6_passBlanks 15 = .ok (.bipush 32, 2) := by decide +kernel
theorem dX6_passBlanks_17 : decode cX6_passBlanks 17 = .ok (.if_icmp .eq 12, 3) := by decide +kernel
theorem dX6_passBlanks_20 : decode cX6_passBlanks 20 = .ok (.aload_n 0, 1) := by decide +kernel
theorem dX6_passBlanks_21 : decode cX6_passBlanks 21 = .ok (.invokevirtual 33, 3) := by decide +kernel
theorem dX6_passBlanks_24 : decode cX6_passBlanks 24 = .ok (.bipush 10, 2) := by decide +kernel
theorem dX6_passBlanks_26 : decode cX6_passBlanks 26 = .ok (.if_icmp .ne 16, 3) := by decide +kernel
theorem dX6_passBlanks_29 : decode cX6_passBlanks 29 = .ok (.aload_n 0, 1) := by decide +kernel
theorem dX6_passBlanks_30 : decode cX6_passBlanks 30 = .ok (.dup, 1) := by decide +kernel
theorem dX6_passBlanks_31 : decode cX6_passBlanks 31 = .ok (.getfield 19, 3) := by decide +kernel
theorem dX6_passBlanks_34 : decode cX6_passBlanks 34 = .ok (.iconst 1, 1) := by decide +kernel
theorem dX6_passBlanks_35 : decode cX6_passBlanks 35 = .ok (.iadd, 1) := by decide +kernel
theorem dX6_passBlanks_36 : decode cX6_passBlanks 36 = .ok (.putfield 19, 3) := by decide +kernel
theorem dX6_passBlanks_39 : decode cX6_passBlanks 39 = .ok (.goto (-39), 3) := by decide +kernel
theorem dX6_passBlanks_42 : decode cX6_passBlanks 42 = .ok (.return_, 1) := by decide +kernel
theorem dX6_passLetters_0 : decode cX6_passLetters 0 = .ok (.aload_n 0, 1) := by decide +kernel
theorem dX6_passLetters_1 : decode cX6_passLetters 1 = .ok (.getfield 19, 3) := by decide +kernel
theorem dX6_passLetters_4 : decode cX6_passLetters 4 = .ok (.aload_n 0, 1) := by decide +kernel
theorem dX6_passLetters_5 : decode cX6_passLetters 5 = .ok (.getfield 15, 3) := by decide +kernel
theorem dX6_passLetters_8 : decode cX6_passLetters 8 = .ok (.if_icmp .ge 26, 3) := by decide +kernel
theorem dX6_passLetters_11 : decode cX6_passLetters 11 = .ok (.aload_n 0, 1) := by decide +kernel
theorem dX6_passLetters_12 : decode cX6_passLetters 12 = .ok (.invokevirtual 33, 3) := by decide +kernel
theorem dX6_passLetters_15 : decode cX6_passLetters 15 = .ok (.invokestatic 40, 3) := by decide +kernel
theorem dX6_passLetters_18 : decode cX6_passLetters 18 = .ok (.ifCond .eq 16, 3) := by decide +kernel
theorem dX6_passLetters_21 : decode cX6_passLetters 21 = .ok (.aload_n 0, 1) := by decide +kernel
theorem dX6_passLetters_22 : decode cX6_passLetters 22 = .ok (.dup, 1) := by decide +kernel
theorem dX6_passLetters_23 : decode cX6_passLetters 23 = .ok (.getfield 19, 3) := by decide +kernel
theorem dX6_passLetters_26 : decode cX6_passLetters 26 = .ok (.iconst 1, 1) := by decide +kernel
theorem dX6_passLetters_27 : decode cX6_passLetters 27 = .ok (.iadd, 1) := by decide +kernel
theorem dX6_passLetters_28 : decode cX6_passLetters 28 = .ok (.putfield 19, 3) := by decide +kernel
theorem dX6_passLetters_31 : decode cX6_passLetters 31 = .ok (.goto (-31), 3) := by decide +kernel
theorem dX6_passLetters_34 : decode cX6_passLetters 34 = .ok (.return_, 1) := by decide +kernel
theorem dX6_dotsFrom_0 : decode cX6_dotsFrom 0 = .ok (.iconst 0, 1) := by decide +kernel
theorem dX6_dotsFrom_1 : decode cX6_dotsFrom 1 = .ok (.istore_n 2, 1) := by decide +kernel
theorem dX6_dotsFrom_2 : decode cX6_dotsFrom 2 = .ok (.iload_n 2, 1) := by decide +kernel
theorem dX6_dotsFrom_3 : decode cX6_dotsFrom 3 = .ok (.aload_n 0, 1) := by decide +kernel
theorem dX6_dotsFrom_4 : decode cX6_dotsFrom 4 = .ok (.getfield 15, 3) := by decide +kernel
theorem dX6_dotsFrom_7 : decode cX6_dotsFrom 7 = .ok (.if_icmp .ge 21, 3) := by decide +kernel
theorem dX6_dotsFrom_10 : decode cX6_dotsFrom 10 = .ok (.aload_n 0, 1) := by decide +kernel
theorem dX6_dotsFrom_11 : decode cX6_dotsFrom 11 = .ok (.iload_n 1, 1) := by decide +kernel
theorem dX6_dotsFrom_12 : decode cX6_dotsFrom 12 = .ok (.iload_n 2, 1) := by decide +kernel
theorem dX6_dotsFrom_13 : decode cX6_dotsFrom 13 = .ok (.iadd, 1) := by decide +kernel
theorem dX6_dotsFrom_14 : decode cX6_dotsFrom 14 = .ok (.invokevirtual 43, 3) := by decide +kernel
theorem dX6_dotsFrom_17 : decode cX6_dotsFrom 17 = .ok (.bipush 46, 2) := by decide +kernel
theorem dX6_dotsFrom_19 : decode cX6_dotsFrom 19 = .ok (.if_icmp .ne 9, 3) := by decide +kernel
theorem dX6_dotsFrom_22 : decode cX6_dotsFrom 22 = .ok (.iinc 2 1, 3) := by decide +kernel
theorem dX6_dotsFrom_25 : decode cX6_dotsFrom 25 = .ok (.goto (-23), 3) := by decide +kernel
theorem dX6_dotsFrom_28 : decode cX6_dotsFrom 28 = .ok (.iload_n 2, 1) := by decide +kernel
theorem dX6_dotsFrom_29 : decode cX6_dotsFrom 29 = .ok (.ireturn, 1) := by decide +kernel
theorem dX6_lineEnd_0 : decode cX6_lineEnd 0 = .ok (.iload_n 1, 1) := by decide +kernel
theorem dX6_lineEnd_1 : decode cX6_lineEnd 1 = .ok (.istore_n 2, 1) := by decide +kernel
theorem dX6_lineEnd_2 : decode cX6_lineEnd 2 = .ok (.iload_n 2, 1) := by decide +kernel
theorem dX6_lineEnd_3 : decode cX6_lineEnd 3 = .ok (.aload_n 0, 1) := by decide +kernel
theorem dX6_lineEnd_4 : decode cX6_lineEnd 4 = .ok (.getfield 15, 3) := by decide +kernel
theorem dX6_lineEnd_7 : decode cX6_lineEnd 7 = .ok (.if_icmp .ge 19, 3) := by decide +kernel
theorem dX6_lineEnd_10 : decode cX6_lineEnd 10 = .ok (.aload_n 0, 1) := by decide +kernel
theorem dX6_lineEnd_11 : decode cX6_lineEnd 11 = .ok (.iload_n 2, 1) := by decide +kernel
theorem dX6_lineEnd_12 : decode cX6_lineEnd 12 = .ok (.invokevirtual 43, 3) := by decide +kernel
theorem dX6_lineEnd_15 : decode cX6_lineEnd 15 = .ok (.bipush 10, 2) := by decide +kernel
theorem dX6_lineEnd_17 : decode cX6_lineEnd 17 = .ok (.if_icmp .eq 9, 3) := by decide +kernel
theorem dX6_lineEnd_20 : decode cX6_lineEnd 20 = .ok (.iinc 2 1, 3) := by decide +kernel
theorem dX6_lineEnd_23 : decode cX6_lineEnd 23 = .ok (.goto (-21), 3) := by decide +kernel
theorem dX6_lineEnd_26 : decode cX6_lineEnd 26 = .ok (.iload_n 2, 1) := by decide +kernel
theorem dX6_lineEnd_27 : decode cX6_lineEnd 27 = .ok (.aload_n 0, 1) := by decide +kernel
theorem dX6_lineEnd_28 : decode cX6_lineEnd 28 = .ok (.getfield 15, 3) := by decide +kernel
theorem dX6_lineEnd_31 : decode cX6_lineEnd 31 = .ok (.invokestatic 47, 3) := by decide +kernel
theorem dX6_lineEnd_34 : decode cX6_lineEnd 34 = .ok (.ireturn, 1) := by decide +kernel
theorem dX6_kindNamed_0 : decode cX6_kindNamed 0 = .ok (.getstatic 53, 3) := by decide +kernel
theorem dX6_kindNamed_3 : decode cX6_kindNamed 3 = .ok (.astore_n 3, 1) := by decide +kernel
theorem dX6_kindNamed_4 : decode cX6_kindNamed 4 = .ok (.aload_n 3, 1) := by decide +kernel
theorem dX6_kindNamed_5 : decode cX6_kindNamed 5 = .ok (.arraylength, 1) := by decide +kernel
theorem dX6_kindNamed_6 : decode cX6_kindNamed 6 = .ok (.istore 4, 2) := by decide +kernel
theorem dX6_kindNamed_8 : decode cX6_kindNamed 8 = .ok (.iconst 0, 1) := by decide +kernel
theorem dX6_kindNamed_9 : decode cX6_kindNamed 9 = .ok (.istore 5, 2) := by decide +kernel
theorem dX6_kindNamed_11 : decode cX6_kindNamed 11 = .ok (.iload 5, 2) := by decide +kernel
theorem dX6_kindNamed_13 : decode cX6_kindNamed 13 = .ok (.iload 4, 2) := by decide +kernel
theorem dX6_kindNamed_15 : decode cX6_kindNamed 15 = .ok (.if_icmp .ge 32, 3) := by decide +kernel
theorem dX6_kindNamed_18 : decode cX6_kindNamed 18 = .ok (.aload_n 3, 1) := by decide +kernel
theorem dX6_kindNamed_19 : decode cX6_kindNamed 19 = .ok (.iload 5, 2) := by decide +kernel
theorem dX6_kindNamed_21 : decode cX6_kindNamed 21 = .ok (.aaload, 1) := by decide +kernel
theorem dX6_kindNamed_22 : decode cX6_kindNamed 22 = .ok (.astore 6, 2) := by decide +kernel
theorem dX6_kindNamed_24 : decode cX6_kindNamed 24 = .ok (.aload_n 0, 1) := by decide +kernel
theorem dX6_kindNamed_25 : decode cX6_kindNamed 25 = .ok (.aload 6, 2) := by decide +kernel
theorem dX6_kindNamed_27 : decode cX6_kindNamed 27 = .ok (.getfield 59, 3) := by decide +kernel
theorem dX6_kindNamed_30 : decode cX6_kindNamed 30 = .ok (.iload_n 1, 1) := by decide +kernel
theorem dX6_kindNamed_31 : decode cX6_kindNamed 31 = .ok (.iload_n 2, 1) := by decide +kernel
theorem dX6_kindNamed_32 : decode cX6_kindNamed 32 = .ok (.invokevirtual 63, 3) := by decide +kernel
theorem dX6_kindNamed_35 : decode cX6_kindNamed 35 = .ok (.ifCond .eq 6, 3) := by decide +kernel
theorem dX6_kindNamed_38 : decode cX6_kindNamed 38 = .ok (.aload 6, 2) := by decide +kernel
theorem dX6_kindNamed_40 : decode cX6_kindNamed 40 = .ok (.areturn, 1) := by decide +kernel
theorem dX6_kindNamed_41 : decode cX6_kindNamed 41 = .ok (.iinc 5 1, 3) := by decide +kernel
theorem dX6_kindNamed_44 : decode cX6_kindNamed 44 = .ok (.goto (-33), 3) := by decide +kernel
theorem dX6_kindNamed_47 : decode cX6_kindNamed 47 = .ok (.getstatic 67, 3) := by decide +kernel
theorem dX6_kindNamed_50 : decode cX6_kindNamed 50 = .ok (.areturn, 1) := by decide +kernel
theorem dX6_reads_0 : decode cX6_reads 0 = .ok (.aload_n 1, 1) := by decide +kernel
theorem dX6_reads_1 : decode cX6_reads 1 = .ok (.invokevirtual 71, 3) := by decide +kernel
theorem dX6_reads_4 : decode cX6_reads 4 = .ok (.iload_n 3, 1) := by decide +kernel
theorem dX6_reads_5 : decode cX6_reads 5 = .ok (.iload_n 2, 1) := by decide +kernel
theorem dX6_reads_6 : decode cX6_reads 6 = .ok (.isub, 1) := by decide +kernel
theorem dX6_reads_7 : decode cX6_reads 7 = .ok (.if_icmp .eq 5, 3) := by decide +kernel
theorem dX6_reads_10 : decode cX6_reads 10 = .ok (.iconst 0, 1) := by decide +kernel
theorem dX6_reads_11 : decode cX6_reads 11 = .ok (.ireturn, 1) := by decide +kernel
theorem dX6_reads_12 : decode cX6_reads 12 = .ok (.iconst 0, 1) := by decide +kernel
theorem dX6_reads_13 : decode cX6_reads 13 = .ok (.istore 4, 2) := by decide +kernel
theorem dX6_reads_15 : decode cX6_reads 15 = .ok (.iload 4, 2) := by decide +kernel
theorem dX6_reads_17 : decode cX6_reads 17 = .ok (.aload_n 1, 1) := by decide +kernel
theorem dX6_reads_18 : decode cX6_reads 18 = .ok (.invokevirtual 71, 3) := by decide +kernel
theorem dX6_reads_21 : decode cX6_reads 21 = .ok (.if_icmp .ge 28, 3) := by decide +kernel
theorem dX6_reads_24 : decode cX6_reads 24 = .ok (.aload_n 0, 1) := by decide +kernel
theorem dX6_reads_25 : decode cX6_reads 25 = .ok (.iload_n 2, 1) := by decide +kernel
theorem dX6_reads_26 : decode cX6_reads 26 = .ok (.iload 4, 2) := by decide +kernel
theorem dX6_reads_28 : decode cX6_reads 28 = .ok (.iadd, 1) := by decide +kernel
theorem dX6_reads_29 : decode cX6_reads 29 = .ok (.invokevirtual 43, 3) := by decide +kernel
theorem dX6_reads_32 : decode cX6_reads 32 = .ok (.aload_n 1, 1) := by decide +kernel
theorem dX6_reads_33 : decode cX6_reads 33 = .ok (.iload 4, 2) := by decide +kernel
theorem dX6_reads_35 : decode cX6_reads 35 = .ok (.invokevirtual 76, 3) := by decide +kernel
theorem dX6_reads_38 : decode cX6_reads 38 = .ok (.if_icmp .eq 5, 3) := by decide +kernel
theorem dX6_reads_41 : decode cX6_reads 41 = .ok (.iconst 0, 1) := by decide +kernel
theorem dX6_reads_42 : decode cX6_reads 42 = .ok (.ireturn, 1) := by decide +kernel
theorem dX6_reads_43 : decode cX6_reads 43 = .ok (.iinc 4 1, 3) := by decide +kernel
theorem dX6_reads_46 : decode cX6_reads 46 = .ok (.goto (-31), 3) := by decide +kernel
theorem dX6_reads_49 : decode cX6_reads 49 = .ok (.iconst 1, 1) := by decide +kernel
theorem dX6_reads_50 : decode cX6_reads 50 = .ok (.ireturn, 1) := by decide +kernel
theorem dX6_takeNumber_0 : decode cX6_takeNumber 0 = .ok (.aload_n 0, 1) := by decide +kernel
theorem dX6_takeNumber_1 : decode cX6_takeNumber 1 = .ok (.getfield 19, 3) := by decide +kernel
theorem dX6_takeNumber_4 : decode cX6_takeNumber 4 = .ok (.istore_n 2, 1) := by decide +kernel
theorem dX6_takeNumber_5 : decode cX6_takeNumber 5 = .ok (.aload_n 0, 1) := by decide +kernel
theorem dX6_takeNumber_6 : decode cX6_takeNumber 6 = .ok (.lconst 0, 1) := by decide +kernel
theorem dX6_takeNumber_7 : decode cX6_takeNumber 7 = .ok (.putfield 25, 3) := by decide +kernel
theorem dX6_takeNumber_10 : decode cX6_takeNumber 10 = .ok (.aload_n 0, 1) := by decide +kernel
theorem dX6_takeNumber_11 : decode cX6_takeNumber 11 = .ok (.invokevirtual 33, 3) := by decide +kernel
theorem dX6_takeNumber_14 : decode cX6_takeNumber 14 = .ok (.bipush 45, 2) := by decide +kernel
theorem dX6_takeNumber_16 : decode cX6_takeNumber 16 = .ok (.if_icmp .ne 7, 3) := by decide +kernel
theorem dX6_takeNumber_19 : decode cX6_takeNumber 19 = .ok (.iconst 1, 1) := by decide +kernel
theorem dX6_takeNumber_20 : decode cX6_takeNumber 20 = .ok (.goto 4, 3) := by decide +kernel
theorem dX6_takeNumber_23 : decode cX6_takeNumber 23 = .ok (.iconst 0, 1) := by decide +kernel
theorem dX6_takeNumber_24 : decode cX6_takeNumber 24 = .ok (.istore_n 3, 1) := by decide +kernel
theorem dX6_takeNumber_25 : decode cX6_takeNumber 25 = .ok (.iload_n 3, 1) := by decide +kernel
theorem dX6_takeNumber_26 : decode cX6_takeNumber 26 = .ok (.ifCond .eq 13, 3) := by decide +kernel
theorem dX6_takeNumber_29 : decode cX6_takeNumber 29 = .ok (.aload_n 0, 1) := by decide +kernel
theorem dX6_takeNumber_30 : decode cX6_takeNumber 30 = .ok (.dup, 1) := by decide +kernel
theorem dX6_takeNumber_31 : decode cX6_takeNumber 31 = .ok (.getfield 19, 3) := by decide +kernel
theorem dX6_takeNumber_34 : decode cX6_takeNumber 34 = .ok (.iconst 1, 1) := by decide +kernel
theorem dX6_takeNumber_35 : decode cX6_takeNumber 35 = .ok (.iadd, 1) := by decide +kernel
theorem dX6_takeNumber_36 : decode cX6_takeNumber 36 = .ok (.putfield 19, 3) := by decide +kernel
theorem dX6_takeNumber_39 : decode cX6_takeNumber 39 = .ok (.aload_n 0, 1) := by decide +kernel
theorem dX6_takeNumber_40 : decode cX6_takeNumber 40 = .ok (.iconst 4, 1) := by decide +kernel
theorem dX6_takeNumber_41 : decode cX6_takeNumber 41 = .ok (.invokevirtual 80, 3) := by decide +kernel
theorem dX6_takeNumber_44 : decode cX6_takeNumber 44 = .ok (.ifCond .ne 5, 3) := by decide +kernel
theorem dX6_takeNumber_47 : decode cX6_takeNumber 47 = .ok (.iconst 0, 1) := by decide +kernel
theorem dX6_takeNumber_48 : decode cX6_takeNumber 48 = .ok (.ireturn, 1) := by decide +kernel
theorem dX6_takeNumber_49 : decode cX6_takeNumber 49 = .ok (.aload_n 1, 1) := by decide +kernel
theorem dX6_takeNumber_50 : decode cX6_takeNumber 50 = .ok (.invokevirtual 83, 3) := by decide +kernel
theorem dX6_takeNumber_53 : decode cX6_takeNumber 53 = .ok (.ifCond .eq 12, 3) := by decide +kernel
theorem dX6_takeNumber_56 : decode cX6_takeNumber 56 = .ok (.aload_n 0, 1) := by decide +kernel
theorem dX6_takeNumber_57 : decode cX6_takeNumber 57 = .ok (.invokevirtual 89, 3) := by decide +kernel
theorem dX6_takeNumber_60 : decode cX6_takeNumber 60 = .ok (.ifCond .ne 5, 3) := by decide +kernel
theorem dX6_takeNumber_63 : decode cX6_takeNumber 63 = .ok (.iconst 0, 1) := by decide +kernel
theorem dX6_takeNumber_64 : decode cX6_takeNumber 64 = .ok (.ireturn, 1) := by decide +kernel
theorem dX6_takeNumber_65 : decode cX6_takeNumber 65 = .ok (.iload_n 3, 1) := by decide +kernel
theorem dX6_takeNumber_66 : decode cX6_takeNumber 66 = .ok (.ifCond .eq 12, 3) := by decide +kernel
theorem dX6_takeNumber_69 : decode cX6_takeNumber 69 = .ok (.aload_n 0, 1) := by decide +kernel
theorem dX6_takeNumber_70 : decode cX6_takeNumber 70 = .ok (.aload_n 0, 1) := by decide +kernel
theorem dX6_takeNumber_71 : decode cX6_takeNumber 71 = .ok (.getfield 25, 3) := by decide +kernel
theorem dX6_takeNumber_74 : decode cX6_takeNumber 74 = .ok (.lneg, 1) := by decide +kernel
theorem dX6_takeNumber_75 : decode cX6_takeNumber 75 = .ok (.putfield 25, 3) := by decide +kernel
theorem dX6_takeNumber_78 : decode cX6_takeNumber 78 = .ok (.aload_n 1, 1) := by decide +kernel
theorem dX6_takeNumber_79 : decode cX6_takeNumber 79 = .ok (.aload_n 0, 1) := by decide +kernel
theorem dX6_takeNumber_80 : decode cX6_takeNumber 80 = .ok (.getfield 25, 3) := by decide +kernel
theorem dX6_takeNumber_83 : decode cX6_takeNumber 83 = .ok (.invokevirtual 92, 3) := by decide +kernel
theorem dX6_takeNumber_86 : decode cX6_takeNumber 86 = .ok (.ifCond .ne 11, 3) := by decide +kernel
theorem dX6_takeNumber_89 : decode cX6_takeNumber 89 = .ok (.aload_n 0, 1) := by decide +kernel
theorem dX6_takeNumber_90 : decode cX6_takeNumber 90 = .ok (.iload_n 2, 1) := by decide +kernel
theorem dX6_takeNumber_91 : decode cX6_takeNumber 91 = .ok (.invokevirtual 37, 3) := by decide +kernel
theorem dX6_takeNumber_94 : decode cX6_takeNumber 94 = .ok (.ifCond .eq 7, 3) := by decide +kernel
theorem dX6_takeNumber_97 : decode cX6_takeNumber 97 = .ok (.iconst 1, 1) := by decide +kernel
theorem dX6_takeNumber_98 : decode cX6_takeNumber 98 = .ok (.goto 4, 3) := by decide +kernel
theorem dX6_takeNumber_101 : decode cX6_takeNumber 101 = .ok (.iconst 0, 1) := by decide +kernel
theorem dX6_takeNumber_102 : decode cX6_takeNumber 102 = .ok (.ireturn, 1) := by decide +kernel
theorem dX6_takePointDigits_0 : decode cX6_takePointDigits 0 = .ok (.aload_n 0, 1) := by decide +kernel
theorem dX6_takePointDigits_1 : decode cX6_takePointDigits 1 = .ok (.getfield 19, 3) := by decide +kernel
theorem dX6_takePointDigits_4 : decode cX6_takePointDigits 4 = .ok (.iconst 1, 1) := by decide +kernel
theorem dX6_takePointDigits_5 : decode cX6_takePointDigits 5 = .ok (.iadd, 1) := by decide +kernel
theorem dX6_takePointDigits_6 : decode cX6_takePointDigits 6 = .ok (.istore_n 1, 1) := by decide +kernel
theorem dX6_takePointDigits_7 : decode cX6_takePointDigits 7 = .ok (.aload_n 0, 1) := by decide +kernel
theorem dX6_takePointDigits_8 : decode cX6_takePointDigits 8 = .ok (.invokevirtual 33, 3) := by decide +kernel
theorem dX6_takePointDigits_11 : decode cX6_takePointDigits 11 = .ok (.bipush 46, 2) := by decide +kernel
theorem dX6_takePointDigits_13 : decode cX6_takePointDigits 13 = .ok (.if_icmp .ne 24, 3) := by decide +kernel
theorem dX6_takePointDigits_16 : decode cX6_takePointDigits 16 = .ok (.aload_n 0, 1) := by decide +kernel
theorem dX6_takePointDigits_17 : decode cX6_takePointDigits 17 = .ok (.dup, 1) := by decide +kernel
theorem dX6_takePointDigits_18 : decode cX6_takePointDigits 18 = .ok (.getfield 19, 3) := by decide +kernel
theorem dX6_takePointDigits_21 : decode cX6_takePointDigits 21 = .ok (.iconst 1, 1) := by decide +kernel
theorem dX6_takePointDigits_22 : decode cX6_takePointDigits 22 = .ok (.iadd, 1) := by decide +kernel
theorem dX6_takePointDigits_23 : decode cX6_takePointDigits 23 = .ok (.putfield 19, 3) := by decide +kernel
theorem dX6_takePointDigits_26 : decode cX6_takePointDigits 26 = .ok (.aload_n 0, 1) := by decide +kernel
theorem dX6_takePointDigits_27 : decode cX6_takePointDigits 27 = .ok (.bipush 6, 2) := by decide +kernel
theorem dX6_takePointDigits_29 : decode cX6_takePointDigits 29 = .ok (.invokevirtual 80, 3) := by decide +kernel
theorem dX6_takePointDigits_32 : decode cX6_takePointDigits 32 = .ok (.ifCond .ne 5, 3) := by decide +kernel
theorem dX6_takePointDigits_35 : decode cX6_takePointDigits 35 = .ok (.iconst 0, 1) := by decide +kernel
theorem dX6_takePointDigits_36 : decode cX6_takePointDigits 36 = .ok (.ireturn, 1) := by decide +kernel
theorem dX6_takePointDigits_37 : decode cX6_takePointDigits 37 = .ok (.aload_n 0, 1) := by decide +kernel
theorem dX6_takePointDigits_38 : decode cX6_takePointDigits 38 = .ok (.getfield 19, 3) := by decide +kernel
theorem dX6_takePointDigits_41 : decode cX6_takePointDigits 41 = .ok (.iload_n 1, 1) := by decide +kernel
theorem dX6_takePointDigits_42 : decode cX6_takePointDigits 42 = .ok (.isub, 1) := by decide +kernel
theorem dX6_takePointDigits_43 : decode cX6_takePointDigits 43 = .ok (.iconst 0, 1) := by decide +kernel
theorem dX6_takePointDigits_44 : decode cX6_takePointDigits 44 = .ok (.invokestatic 96, 3) := by decide +kernel
theorem dX6_takePointDigits_47 : decode cX6_takePointDigits 47 = .ok (.istore_n 2, 1) := by decide +kernel
theorem dX6_takePointDigits_48 : decode cX6_takePointDigits 48 = .ok (.iload_n 2, 1) := by decide +kernel
theorem dX6_takePointDigits_49 : decode cX6_takePointDigits 49 = .ok (.bipush 6, 2) := by decide +kernel
theorem dX6_takePointDigits_51 : decode cX6_takePointDigits 51 = .ok (.if_icmp .ge 21, 3) := by decide +kernel
theorem dX6_takePointDigits_54 : decode cX6_takePointDigits 54 = .ok (.aload_n 0, 1) := by decide +kernel
theorem dX6_takePointDigits_55 : decode cX6_takePointDigits 55 = .ok (.dup, 1) := by decide +kernel
theorem dX6_takePointDigits_56 : decode cX6_takePointDigits 56 = .ok (.getfield 25, 3) := by decide +kernel
theorem dX6_takePointDigits_59 : decode cX6_takePointDigits 59 = .ok (.ldc2_w 99, 3) := by decide +kernel
theorem dX6_takePointDigits_62 : decode cX6_takePointDigits 62 = .ok (.lmul, 1) := by decide +kernel
theorem dX6_takePointDigits_63 : decode cX6_takePointDigits 63 = .ok (.putfield 25, 3) := by decide +kernel
theorem dX6_takePointDigits_66 : decode cX6_takePointDigits 66 = .ok (.iinc 2 1, 3) := by decide +kernel
theorem dX6_takePointDigits_69 : decode cX6_takePointDigits 69 = .ok (.goto (-21), 3) := by decide +kernel
theorem dX6_takePointDigits_72 : decode cX6_takePointDigits 72 = .ok (.iconst 1, 1) := by decide +kernel
theorem dX6_takePointDigits_73 : decode cX6_takePointDigits 73 = .ok (.ireturn, 1) := by decide +kernel
theorem dX6_takeDigits_0 : decode cX6_takeDigits 0 = .ok (.aload_n 0, 1) := by decide +kernel
theorem dX6_takeDigits_1 : decode cX6_takeDigits 1 = .ok (.getfield 19, 3) := by decide +kernel
theorem dX6_takeDigits_4 : decode cX6_takeDigits 4 = .ok (.istore_n 2, 1) := by decide +kernel
theorem dX6_takeDigits_5 : decode cX6_takeDigits 5 = .ok (.aload_n 0, 1) := by decide +kernel
theorem dX6_takeDigits_6 : decode cX6_takeDigits 6 = .ok (.getfield 19, 3) := by decide +kernel
theorem dX6_takeDigits_9 : decode cX6_takeDigits 9 = .ok (.aload_n 0, 1) := by decide +kernel
theorem dX6_takeDigits_10 : decode cX6_takeDigits 10 = .ok (.getfield 15, 3) := by decide +kernel
theorem dX6_takeDigits_13 : decode cX6_takeDigits 13 = .ok (.if_icmp .ge 57, 3) := by decide +kernel
theorem dX6_takeDigits_16 : decode cX6_takeDigits 16 = .ok (.aload_n 0, 1) := by decide +kernel
theorem dX6_takeDigits_17 : decode cX6_takeDigits 17 = .ok (.getfield 19, 3) := by decide +kernel
theorem dX6_takeDigits_20 : decode cX6_takeDigits 20 = .ok (.iload_n 2, 1) := by decide +kernel
theorem dX6_takeDigits_21 : decode cX6_takeDigits 21 = .ok (.isub, 1) := by decide +kernel
theorem dX6_takeDigits_22 : decode cX6_takeDigits 22 = .ok (.iload_n 1, 1) := by decide +kernel
theorem dX6_takeDigits_23 : decode cX6_takeDigits 23 = .ok (.if_icmp .ge 47, 3) := by decide +kernel
theorem dX6_takeDigits_26 : decode cX6_takeDigits 26 = .ok (.aload_n 0, 1) := by decide +kernel
theorem dX6_takeDigits_27 : decode cX6_takeDigits 27 = .ok (.invokevirtual 33, 3) := by decide +kernel
theorem dX6_takeDigits_30 : decode cX6_takeDigits 30 = .ok (.invokestatic 101, 3) := by decide +kernel
theorem dX6_takeDigits_33 : decode cX6_takeDigits 33 = .ok (.ifCond .eq 37, 3) := by decide +kernel
theorem dX6_takeDigits_36 : decode cX6_takeDigits 36 = .ok (.aload_n 0, 1) := by decide +kernel
theorem dX6_takeDigits_37 : decode cX6_takeDigits 37 = .ok (.aload_n 0, 1) := by decide +kernel
theorem dX6_takeDigits_38 : decode cX6_takeDigits 38 = .ok (.getfield 25, 3) := by decide +kernel
theorem dX6_takeDigits_41 : decode cX6_takeDigits 41 = .ok (.ldc2_w 99, 3) := by decide +kernel
theorem dX6_takeDigits_44 : decode cX6_takeDigits 44 = .ok (.lmul, 1) := by decide +kernel
theorem dX6_takeDigits_45 : decode cX6_takeDigits 45 = .ok (.aload_n 0, 1) := by decide +kernel
theorem dX6_takeDigits_46 : decode cX6_takeDigits 46 = .ok (.invokevirtual 33, 3) := by decide +kernel
theorem dX6_takeDigits_49 : decode cX6_takeDigits 49 = .ok (.bipush 48, 2) := by decide +kernel
theorem dX6_takeDigits_51 : decode cX6_takeDigits 51 = .ok (.isub, 1) := by decide +kernel
theorem dX6_takeDigits_52 : decode cX6_takeDigits 52 = .ok (.i2l, 1) := by decide +kernel
theorem dX6_takeDigits_53 : decode cX6_takeDigits 53 = .ok (.ladd, 1) := by decide +kernel
theorem dX6_takeDigits_54 : decode cX6_takeDigits 54 = .ok (.putfield 25, 3) := by decide +kernel
theorem dX6_takeDigits_57 : decode cX6_takeDigits 57 = .ok (.aload_n 0, 1) := by decide +kernel
theorem dX6_takeDigits_58 : decode cX6_takeDigits 58 = .ok (.dup, 1) := by decide +kernel
theorem dX6_takeDigits_59 : decode cX6_takeDigits 59 = .ok (.getfield 19, 3) := by decide +kernel
theorem dX6_takeDigits_62 : decode cX6_takeDigits 62 = .ok (.iconst 1, 1) := by decide +kernel
theorem dX6_takeDigits_63 : decode cX6_takeDigits 63 = .ok (.iadd, 1) := by decide +kernel
theorem dX6_takeDigits_64 : decode cX6_takeDigits 64 = .ok (.putfield 19, 3) := by decide +kernel
theorem dX6_takeDigits_67 : decode cX6_takeDigits 67 = .ok (.goto (-62), 3) := by decide +kernel
theorem dX6_takeDigits_70 : decode cX6_takeDigits 70 = .ok (.aload_n 0, 1) := by decide +kernel
theorem dX6_takeDigits_71 : decode cX6_takeDigits 71 = .ok (.getfield 19, 3) := by decide +kernel
theorem dX6_takeDigits_74 : decode cX6_takeDigits 74 = .ok (.iload_n 2, 1) := by decide +kernel
theorem dX6_takeDigits_75 : decode cX6_takeDigits 75 = .ok (.if_icmp .le 13, 3) := by decide +kernel
theorem dX6_takeDigits_78 : decode cX6_takeDigits 78 = .ok (.aload_n 0, 1) := by decide +kernel
theorem dX6_takeDigits_79 : decode cX6_takeDigits 79 = .ok (.invokevirtual 33, 3) := by decide +kernel
theorem dX6_takeDigits_82 : decode cX6_takeDigits 82 = .ok (.invokestatic 101, 3) := by decide +kernel
theorem dX6_takeDigits_85 : decode cX6_takeDigits 85 = .ok (.ifCond .eq 14, 3) := by decide +kernel
theorem dX6_takeDigits_88 : decode cX6_takeDigits 88 = .ok (.aload_n 0, 1) := by decide +kernel
theorem dX6_takeDigits_89 : decode cX6_takeDigits 89 = .ok (.aload_n 0, 1) := by decide +kernel
theorem dX6_takeDigits_90 : decode cX6_takeDigits 90 = .ok (.getfield 19, 3) := by decide +kernel
theorem dX6_takeDigits_93 : decode cX6_takeDigits 93 = .ok (.invokevirtual 37, 3) := by decide +kernel
theorem dX6_takeDigits_96 : decode cX6_takeDigits 96 = .ok (.ifCond .eq 7, 3) := by decide +kernel
theorem dX6_takeDigits_99 : decode cX6_takeDigits 99 = .ok (.iconst 1, 1) := by decide +kernel
theorem dX6_takeDigits_100 : decode cX6_takeDigits 100 = .ok (.goto 4, 3) := by decide +kernel
theorem dX6_takeDigits_103 : decode cX6_takeDigits 103 = .ok (.iconst 0, 1) := by decide +kernel
theorem dX6_takeDigits_104 : decode cX6_takeDigits 104 = .ok (.ireturn, 1) := by decide +kernel
theorem dX6_takeText_0 : decode cX6_takeText 0 = .ok (.aload_n 0, 1) := by decide +kernel
theorem dX6_takeText_1 : decode cX6_takeText 1 = .ok (.bipush 34, 2) := by decide +kernel
theorem dX6_takeText_3 : decode cX6_takeText 3 = .ok (.invokevirtual 104, 3) := by decide +kernel
theorem dX6_takeText_6 : decode cX6_takeText 6 = .ok (.ifCond .ne 5, 3) := by decide +kernel
theorem dX6_takeText_9 : decode cX6_takeText 9 = .ok (.iconst 0, 1) := by decide +kernel
theorem dX6_takeText_10 : decode cX6_takeText 10 = .ok (.ireturn, 1) := by decide +kernel
theorem dX6_takeText_11 : decode cX6_takeText 11 = .ok (.iconst 0, 1) := by decide +kernel
theorem dX6_takeText_12 : decode cX6_takeText 12 = .ok (.istore 4, 2) := by decide +kernel
theorem dX6_takeText_14 : decode cX6_takeText 14 = .ok (.iload 4, 2) := by decide +kernel
theorem dX6_takeText_16 : decode cX6_takeText 16 = .ok (.bipush 40, 2) := by decide +kernel
theorem dX6_takeText_18 : decode cX6_takeText 18 = .ok (.if_icmp .ge 77, 3) := by decide +kernel
theorem dX6_takeText_21 : decode cX6_takeText 21 = .ok (.aload_n 0, 1) := by decide +kernel
theorem dX6_takeText_22 : decode cX6_takeText 22 = .ok (.invokevirtual 33, 3) := by decide +kernel
theorem dX6_takeText_25 : decode cX6_takeText 25 = .ok (.bipush 34, 2) := by decide +kernel
theorem dX6_takeText_27 : decode cX6_takeText 27 = .ok (.if_icmp .eq 68, 3) := by decide +kernel
theorem dX6_takeText_30 : decode cX6_takeText 30 = .ok (.aload_n 0, 1) := by decide +kernel
theorem dX6_takeText_31 : decode cX6_takeText 31 = .ok (.invokevirtual 33, 3) := by decide +kernel
theorem dX6_takeText_34 : decode cX6_takeText 34 = .ok (.invokestatic 29, 3) := by decide +kernel
theorem dX6_takeText_37 : decode cX6_takeText 37 = .ok (.ifCond .eq 23, 3) := by decide +kernel
theorem dX6_takeText_40 : decode cX6_takeText 40 = .ok (.aload_n 0, 1) := by decide +kernel
theorem dX6_takeText_41 : decode cX6_takeText 41 = .ok (.invokevirtual 33, 3) := by decide +kernel
theorem dX6_takeText_44 : decode cX6_takeText 44 = .ok (.bipush 92, 2) := by decide +kernel
theorem dX6_takeText_46 : decode cX6_takeText 46 = .ok (.if_icmp .ne 23, 3) := by decide +kernel
theorem dX6_takeText_49 : decode cX6_takeText 49 = .ok (.aload_n 0, 1) := by decide +kernel
theorem dX6_takeText_50 : decode cX6_takeText 50 = .ok (.aload_n 0, 1) := by decide +kernel
theorem dX6_takeText_51 : decode cX6_takeText 51 = .ok (.getfield 15, 3) := by decide +kernel
theorem dX6_takeText_54 : decode cX6_takeText 54 = .ok (.invokevirtual 108, 3) := by decide +kernel
theorem dX6_takeText_57 : decode cX6_takeText 57 = .ok (.ifCond .ne 12, 3) := by decide +kernel
theorem dX6_takeText_60 : decode cX6_takeText 60 = .ok (.aload_n 0, 1) := by decide +kernel
theorem dX6_takeText_61 : decode cX6_takeText 61 = .ok (.aload_n 0, 1) := by decide +kernel
theorem dX6_takeText_62 : decode cX6_takeText 62 = .ok (.getfield 19, 3) := by decide +kernel
theorem dX6_takeText_65 : decode cX6_takeText 65 = .ok (.invokevirtual 37, 3) := by decide +kernel
theorem dX6_takeText_68 : decode cX6_takeText 68 = .ok (.ireturn, 1) := by decide +kernel
theorem dX6_takeText_69 : decode cX6_takeText 69 = .ok (.aload_n 1, 1) := by decide +kernel
theorem dX6_takeText_70 : decode cX6_takeText 70 = .ok (.iload_n 2, 1) := by decide +kernel
theorem dX6_takeText_71 : decode cX6_takeText 71 = .ok (.iload_n 3, 1) := by decide +kernel
theorem dX6_takeText_72 : decode cX6_takeText 72 = .ok (.aload_n 0, 1) := by decide +kernel
theorem dX6_takeText_73 : decode cX6_takeText 73 = .ok (.invokevirtual 33, 3) := by decide +kernel
theorem dX6_takeText_76 : decode cX6_takeText 76 = .ok (.invokevirtual 111, 3) := by decide +kernel
theorem dX6_takeText_79 : decode cX6_takeText 79 = .ok (.aload_n 0, 1) := by decide +kernel
theorem dX6_takeText_80 : decode cX6_takeText 80 = .ok (.dup, 1) := by decide +kernel
theorem dX6_takeText_81 : decode cX6_takeText 81 = .ok (.getfield 19, 3) := by decide +kernel
theorem dX6_takeText_84 : decode cX6_takeText 84 = .ok (.iconst 1, 1) := by decide +kernel
theorem dX6_takeText_85 : decode cX6_takeText 85 = .ok (.iadd, 1) := by decide +kernel
theorem dX6_takeText_86 : decode cX6_takeText 86 = .ok (.putfield 19, 3) := by decide +kernel
theorem dX6_takeText_89 : decode cX6_takeText 89 = .ok (.iinc 4 1, 3) := by decide +kernel
theorem dX6_takeText_92 : decode cX6_takeText 92 = .ok (.goto (-78), 3) := by decide +kernel
theorem dX6_takeText_95 : decode cX6_takeText 95 = .ok (.aload_n 0, 1) := by decide +kernel
theorem dX6_takeText_96 : decode cX6_takeText 96 = .ok (.bipush 34, 2) := by decide +kernel
theorem dX6_takeText_98 : decode cX6_takeText 98 = .ok (.invokevirtual 104, 3) := by decide +kernel
theorem dX6_takeText_101 : decode cX6_takeText 101 = .ok (.ireturn, 1) := by decide +kernel
theorem dX6_passEscape_0 : decode cX6_passEscape 0 = .ok (.aload_n 0, 1) := by decide +kernel
theorem dX6_passEscape_1 : decode cX6_passEscape 1 = .ok (.dup, 1) := by decide +kernel
theorem dX6_passEscape_2 : decode cX6_passEscape 2 = .ok (.getfield 19, 3) := by decide +kernel
theorem dX6_passEscape_5 : decode cX6_passEscape 5 = .ok (.iconst 1, 1) := by decide +kernel
theorem dX6_passEscape_6 : decode cX6_passEscape 6 = .ok (.iadd, 1) := by decide +kernel
theorem dX6_passEscape_7 : decode cX6_passEscape 7 = .ok (.putfield 19, 3) := by decide +kernel
theorem dX6_passEscape_10 : decode cX6_passEscape 10 = .ok (.aload_n 0, 1) := by decide +kernel
theorem dX6_passEscape_11 : decode cX6_passEscape 11 = .ok (.getfield 19, 3) := by decide +kernel
theorem dX6_passEscape_14 : decode cX6_passEscape 14 = .ok (.iload_n 1, 1) := by decide +kernel
theorem dX6_passEscape_15 : decode cX6_passEscape 15 = .ok (.if_icmp .ge 17, 3) := by decide +kernel
theorem dX6_passEscape_18 : decode cX6_passEscape 18 = .ok (.aload_n 0, 1) := by decide +kernel
theorem dX6_passEscape_19 : decode cX6_passEscape 19 = .ok (.invokevirtual 33, 3) := by decide +kernel
theorem dX6_passEscape_22 : decode cX6_passEscape 22 = .ok (.invokestatic 117, 3) := by decide +kernel
theorem dX6_passEscape_25 : decode cX6_passEscape 25 = .ok (.ifCond .eq 7, 3) := by decide +kernel
theorem dX6_passEscape_28 : decode cX6_passEscape 28 = .ok (.iconst 1, 1) := by decide +kernel
theorem dX6_passEscape_29 : decode cX6_passEscape 29 = .ok (.goto 4, 3) := by decide +kernel
theorem dX6_passEscape_32 : decode cX6_passEscape 32 = .ok (.iconst 0, 1) := by decide +kernel
theorem dX6_passEscape_33 : decode cX6_passEscape 33 = .ok (.ireturn, 1) := by decide +kernel
theorem dX6_passQuoted_0 : decode cX6_passQuoted 0 = .ok (.aload_n 0, 1) := by decide +kernel
theorem dX6_passQuoted_1 : decode cX6_passQuoted 1 = .ok (.dup, 1) := by decide +kernel
theorem dX6_passQuoted_2 : decode cX6_passQuoted 2 = .ok (.getfield 19, 3) := by decide +kernel
theorem dX6_passQuoted_5 : decode cX6_passQuoted 5 = .ok (.iconst 1, 1) := by decide +kernel
theorem dX6_passQuoted_6 : decode cX6_passQuoted 6 = .ok (.iadd, 1) := by decide +kernel
theorem dX6_passQuoted_7 : decode cX6_passQuoted 7 = .ok (.putfield 19, 3) := by decide +kernel
theorem dX6_passQuoted_10 : decode cX6_passQuoted 10 = .ok (.aload_n 0, 1) := by decide +kernel
theorem dX6_passQuoted_11 : decode cX6_passQuoted 11 = .ok (.getfield 19, 3) := by decide +kernel
theorem dX6_passQuoted_14 : decode cX6_passQuoted 14 = .ok (.iload_n 1, 1) := by decide +kernel
theorem dX6_passQuoted_15 : decode cX6_passQuoted 15 = .ok (.if_icmp .ge 51, 3) := by decide +kernel
theorem dX6_passQuoted_18 : decode cX6_passQuoted 18 = .ok (.aload_n 0, 1) := by decide +kernel
theorem dX6_passQuoted_19 : decode cX6_passQuoted 19 = .ok (.invokevirtual 33, 3) := by decide +kernel
theorem dX6_passQuoted_22 : decode cX6_passQuoted 22 = .ok (.bipush 34, 2) := by decide +kernel
theorem dX6_passQuoted_24 : decode cX6_passQuoted 24 = .ok (.if_icmp .eq 42, 3) := by decide +kernel
theorem dX6_passQuoted_27 : decode cX6_passQuoted 27 = .ok (.aload_n 0, 1) := by decide +kernel
theorem dX6_passQuoted_28 : decode cX6_passQuoted 28 = .ok (.invokevirtual 33, 3) := by decide +kernel
theorem dX6_passQuoted_31 : decode cX6_passQuoted 31 = .ok (.bipush 92, 2) := by decide +kernel
theorem dX6_passQuoted_33 : decode cX6_passQuoted 33 = .ok (.if_icmp .ne 20, 3) := by decide +kernel
theorem dX6_passQuoted_36 : decode cX6_passQuoted 36 = .ok (.aload_n 0, 1) := by decide +kernel
theorem dX6_passQuoted_37 : decode cX6_passQuoted 37 = .ok (.iload_n 1, 1) := by decide +kernel
theorem dX6_passQuoted_38 : decode cX6_passQuoted 38 = .ok (.invokevirtual 108, 3) := by decide +kernel
theorem dX6_passQuoted_41 : decode cX6_passQuoted 41 = .ok (.ifCond .ne 12, 3) := by decide +kernel
theorem dX6_passQuoted_44 : decode cX6_passQuoted 44 = .ok (.aload_n 0, 1) := by decide +kernel
theorem dX6_passQuoted_45 : decode cX6_passQuoted 45 = .ok (.aload_n 0, 1) := by decide +kernel
theorem dX6_passQuoted_46 : decode cX6_passQuoted 46 = .ok (.getfield 19, 3) := by decide +kernel
theorem dX6_passQuoted_49 : decode cX6_passQuoted 49 = .ok (.invokevirtual 37, 3) := by decide +kernel
theorem dX6_passQuoted_52 : decode cX6_passQuoted 52 = .ok (.ireturn, 1) := by decide +kernel
theorem dX6_passQuoted_53 : decode cX6_passQuoted 53 = .ok (.aload_n 0, 1) := by decide +kernel
theorem dX6_passQuoted_54 : decode cX6_passQuoted 54 = .ok (.dup, 1) := by decide +kernel
theorem dX6_passQuoted_55 : decode cX6_passQuoted 55 = .ok (.getfield 19, 3) := by decide +kernel
theorem dX6_passQuoted_58 : decode cX6_passQuoted 58 = .ok (.iconst 1, 1) := by decide +kernel
theorem dX6_passQuoted_59 : decode cX6_passQuoted 59 = .ok (.iadd, 1) := by decide +kernel
theorem dX6_passQuoted_60 : decode cX6_passQuoted 60 = .ok (.putfield 19, 3) := by decide +kernel
theorem dX6_passQuoted_63 : decode cX6_passQuoted 63 = .ok (.goto (-53), 3) := by decide +kernel
theorem dX6_passQuoted_66 : decode cX6_passQuoted 66 = .ok (.aload_n 0, 1) := by decide +kernel
theorem dX6_passQuoted_67 : decode cX6_passQuoted 67 = .ok (.getfield 19, 3) := by decide +kernel
theorem dX6_passQuoted_70 : decode cX6_passQuoted 70 = .ok (.iload_n 1, 1) := by decide +kernel
theorem dX6_passQuoted_71 : decode cX6_passQuoted 71 = .ok (.if_icmp .lt 9, 3) := by decide +kernel
theorem dX6_passQuoted_74 : decode cX6_passQuoted 74 = .ok (.aload_n 0, 1) := by decide +kernel
theorem dX6_passQuoted_75 : decode cX6_passQuoted 75 = .ok (.iload_n 1, 1) := by decide +kernel
theorem dX6_passQuoted_76 : decode cX6_passQuoted 76 = .ok (.invokevirtual 37, 3) := by decide +kernel
theorem dX6_passQuoted_79 : decode cX6_passQuoted 79 = .ok (.ireturn, 1) := by decide +kernel
theorem dX6_passQuoted_80 : decode cX6_passQuoted 80 = .ok (.aload_n 0, 1) := by decide +kernel
theorem dX6_passQuoted_81 : decode cX6_passQuoted 81 = .ok (.dup, 1) := by decide +kernel
theorem dX6_passQuoted_82 : decode cX6_passQuoted 82 = .ok (.getfield 19, 3) := by decide +kernel
theorem dX6_passQuoted_85 : decode cX6_passQuoted 85 = .ok (.iconst 1, 1) := by decide +kernel
theorem dX6_passQuoted_86 : decode cX6_passQuoted 86 = .ok (.iadd, 1) := by decide +kernel
theorem dX6_passQuoted_87 : decode cX6_passQuoted 87 = .ok (.putfield 19, 3) := by decide +kernel
theorem dX6_passQuoted_90 : decode cX6_passQuoted 90 = .ok (.iconst 1, 1) := by decide +kernel
theorem dX6_passQuoted_91 : decode cX6_passQuoted 91 = .ok (.ireturn, 1) := by decide +kernel

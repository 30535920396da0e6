theorem dX0_lettered_0 : decode cX0_lettered 0 = .ok (.iload_n 0, 1) := by decide +kernel
theorem dX0_lettered_1 : decode cX0_lettered 1 = .ok (.tableswitch 83 107 117 #[79, 83, 83, 63, 83, 71, 83, 83, 67, 59, 75], 59) := by decide +kernel
theorem dX0_lettered_60 : decode cX0_lettered 60 = .ok (.getstatic 5, 3) := by decide +kernel
theorem dX0_lettered_63 : decode cX0_lettered 63 = .ok (.areturn, 1) := by decide +kernel
theorem dX0_lettered_64 : decode cX0_lettered 64 = .ok (.getstatic 9, 3) := by decide +kernel
theorem dX0_lettered_67 : decode cX0_lettered 67 = .ok (.areturn, 1) := by decide +kernel
theorem dX0_lettered_68 : decode cX0_lettered 68 = .ok (.getstatic 12, 3) := by decide +kernel
theorem dX0_lettered_71 : decode cX0_lettered 71 = .ok (.areturn, 1) := by decide +kernel
theorem dX0_lettered_72 : decode cX0_lettered 72 = .ok (.getstatic 15, 3) := by decide +kernel
theorem dX0_lettered_75 : decode cX0_lettered 75 = .ok (.areturn, 1) := by decide +kernel
theorem dX0_lettered_76 : decode cX0_lettered 76 = .ok (.getstatic 18, 3) := by decide +kernel
theorem dX0_lettered_79 : decode cX0_lettered 79 = .ok (.areturn, 1) := by decide +kernel
theorem dX0_lettered_80 : decode cX0_lettered 80 = .ok (.getstatic 21, 3) := by decide +kernel
theorem dX0_lettered_83 : decode cX0_lettered 83 = .ok (.areturn, 1) := by decide +kernel
theorem dX0_lettered_84 : decode cX0_lettered 84 = .ok (.getstatic 24, 3) := by decide +kernel
theorem dX0_lettered_87 : decode cX0_lettered 87 = .ok (.areturn, 1) := by decide +kernel
theorem dX0_isText_0 : decode cX0_isText 0 = .ok (.aload_n 0, 1) := by decide +kernel
theorem dX0_isText_1 : decode cX0_isText 1 = .ok (.getfield 49, 3) := by decide +kernel
theorem dX0_isText_4 : decode cX0_isText 4 = .ok (.ifCond .ne 7, 3) := by decide +kernel
theorem dX0_isText_7 : decode cX0_isText 7 = .ok (.iconst 1, 1) := by decide +kernel
theorem dX0_isText_8 : decode cX0_isText 8 = .ok (.goto 4, 3) := by decide +kernel
theorem dX0_isText_11 : decode cX0_isText 11 = .ok (.iconst 0, 1) := by decide +kernel
theorem dX0_isText_12 : decode cX0_isText 12 = .ok (.ireturn, 1) := by decide +kernel
theorem dX0_isLength_0 : decode cX0_isLength 0 = .ok (.aload_n 0, 1) := by decide +kernel
theorem dX0_isLength_1 : decode cX0_isLength 1 = .ok (.getfield 49, 3) := by decide +kernel
theorem dX0_isLength_4 : decode cX0_isLength 4 = .ok (.iconst 1, 1) := by decide +kernel
theorem dX0_isLength_5 : decode cX0_isLength 5 = .ok (.if_icmp .ne 7, 3) := by decide +kernel
theorem dX0_isLength_8 : decode cX0_isLength 8 = .ok (.iconst 1, 1) := by decide +kernel
theorem dX0_isLength_9 : decode cX0_isLength 9 = .ok (.goto 4, 3) := by decide +kernel
theorem dX0_isLength_12 : decode cX0_isLength 12 = .ok (.iconst 0, 1) := by decide +kernel
theorem dX0_isLength_13 : decode cX0_isLength 13 = .ok (.ireturn, 1) := by decide +kernel
theorem dX0_admits_0 : decode cX0_admits 0 = .ok (.lload_n 1, 1) := by decide +kernel
theorem dX0_admits_1 : decode cX0_admits 1 = .ok (.aload_n 0, 1) := by decide +kernel
theorem dX0_admits_2 : decode cX0_admits 2 = .ok (.getfield 53, 3) := by decide +kernel
theorem dX0_admits_5 : decode cX0_admits 5 = .ok (.lcmp, 1) := by decide +kernel
theorem dX0_admits_6 : decode cX0_admits 6 = .ok (.ifCond .lt 16, 3) := by decide +kernel
theorem dX0_admits_9 : decode cX0_admits 9 = .ok (.lload_n 1, 1) := by decide +kernel
theorem dX0_admits_10 : decode cX0_admits 10 = .ok (.aload_n 0, 1) := by decide +kernel
theorem dX0_admits_11 : decode cX0_admits 11 = .ok (.getfield 57, 3) := by decide +kernel
theorem dX0_admits_14 : decode cX0_admits 14 = .ok (.lcmp, 1) := by decide +kernel
theorem dX0_admits_15 : decode cX0_admits 15 = .ok (.ifCond .gt 7, 3) := by decide +kernel
theorem dX0_admits_18 : decode cX0_admits 18 = .ok (.iconst 1, 1) := by decide +kernel
theorem dX0_admits_19 : decode cX0_admits 19 = .ok (.goto 4, 3) := by decide +kernel
theorem dX0_admits_22 : decode cX0_admits 22 = .ok (.iconst 0, 1) := by decide +kernel
theorem dX0_admits_23 : decode cX0_admits 23 = .ok (.ireturn, 1) := by decide +kernel

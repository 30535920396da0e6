theorem dX8_init_0 : decode cX8_init 0 = .ok (.aload_n 0, 1) := by decide +kernel
theorem dX8_init_1 : decode cX8_init 1 = .ok (.invokespecial 1, 3) := by decide +kernel
theorem dX8_init_4 : decode cX8_init 4 = .ok (.aload_n 0, 1) := by decide +kernel
theorem dX8_init_5 : decode cX8_init 5 = .ok (.iload_n 1, 1) := by decide +kernel
theorem dX8_init_6 : decode cX8_init 6 = .ok (.ifCond .gt 13, 3) := by decide +kernel
theorem dX8_init_9 : decode cX8_init 9 = .ok (.new 7, 3) := by decide +kernel
theorem dX8_init_12 : decode cX8_init 12 = .ok (.dup, 1) := by decide +kernel
theorem dX8_init_13 : decode cX8_init 13 = .ok (.invokespecial 9, 3) := by decide +kernel
theorem dX8_init_16 : decode cX8_init 16 = .ok (.goto 10, 3) := by decide +kernel
theorem dX8_init_19 : decode cX8_init 19 = .ok (.new 10, 3) := by decide +kernel
theorem dX8_init_22 : decode cX8_init 22 = .ok (.dup, 1) := by decide +kernel
theorem dX8_init_23 : decode cX8_init 23 = .ok (.invokespecial 12, 3) := by decide +kernel
theorem dX8_init_26 : decode cX8_init 26 = .ok (.putfield 13, 3) := by decide +kernel
theorem dX8_init_29 : decode cX8_init 29 = .ok (.aload_n 0, 1) := by decide +kernel
theorem dX8_init_30 : decode cX8_init 30 = .ok (.new 19, 3) := by decide +kernel
theorem dX8_init_33 : decode cX8_init 33 = .ok (.dup, 1) := by decide +kernel
theorem dX8_init_34 : decode cX8_init 34 = .ok (.invokespecial 21, 3) := by decide +kernel
theorem dX8_init_37 : decode cX8_init 37 = .ok (.putfield 22, 3) := by decide +kernel
theorem dX8_init_40 : decode cX8_init 40 = .ok (.aload_n 0, 1) := by decide +kernel
theorem dX8_init_41 : decode cX8_init 41 = .ok (.new 26, 3) := by decide +kernel
theorem dX8_init_44 : decode cX8_init 44 = .ok (.dup, 1) := by decide +kernel
theorem dX8_init_45 : decode cX8_init 45 = .ok (.invokespecial 28, 3) := by decide +kernel
theorem dX8_init_48 : decode cX8_init 48 = .ok (.putfield 29, 3) := by decide +kernel
theorem dX8_init_51 : decode cX8_init 51 = .ok (.aload_n 0, 1) := by decide +kernel
theorem dX8_init_52 : decode cX8_init 52 = .ok (.new 33, 3) := by decide +kernel
theorem dX8_init_55 : decode cX8_init 55 = .ok (.dup, 1) := by decide +kernel
theorem dX8_init_56 : decode cX8_init 56 = .ok (.invokespecial 35, 3) := by decide +kernel
theorem dX8_init_59 : decode cX8_init 59 = .ok (.putfield 36, 3) := by decide +kernel
theorem dX8_init_62 : decode cX8_init 62 = .ok (.aload_n 0, 1) := by decide +kernel
theorem dX8_init_63 : decode cX8_init 63 = .ok (.new 33, 3) := by decide +kernel
theorem dX8_init_66 : decode cX8_init 66 = .ok (.dup, 1) := by decide +kernel
theorem dX8_init_67 : decode cX8_init 67 = .ok (.invokespecial 35, 3) := by decide +kernel
theorem dX8_init_70 : decode cX8_init 70 = .ok (.putfield 40, 3) := by decide +kernel
theorem dX8_init_73 : decode cX8_init 73 = .ok (.aload_n 0, 1) := by decide +kernel
theorem dX8_init_74 : decode cX8_init 74 = .ok (.iconst 0, 1) := by decide +kernel
theorem dX8_init_75 : decode cX8_init 75 = .ok (.putfield 43, 3) := by decide +kernel
theorem dX8_init_78 : decode cX8_init 78 = .ok (.return_, 1) := by decide +kernel
theorem dX8_unit_0 : decode cX8_unit 0 = .ok (.aload_n 0, 1) := by decide +kernel
theorem dX8_unit_1 : decode cX8_unit 1 = .ok (.getfield 22, 3) := by decide +kernel
theorem dX8_unit_4 : decode cX8_unit 4 = .ok (.iload_n 1, 1) := by decide +kernel
theorem dX8_unit_5 : decode cX8_unit 5 = .ok (.invokevirtual 47, 3) := by decide +kernel
theorem dX8_unit_8 : decode cX8_unit 8 = .ok (.ireturn, 1) := by decide +kernel
theorem dX8_read_0 : decode cX8_read 0 = .ok (.aload_n 0, 1) := by decide +kernel
theorem dX8_read_1 : decode cX8_read 1 = .ok (.getfield 40, 3) := by decide +kernel
theorem dX8_read_4 : decode cX8_read 4 = .ok (.invokevirtual 51, 3) := by decide +kernel
theorem dX8_read_7 : decode cX8_read 7 = .ok (.aload_n 0, 1) := by decide +kernel
theorem dX8_read_8 : decode cX8_read 8 = .ok (.getfield 22, 3) := by decide +kernel
theorem dX8_read_11 : decode cX8_read 11 = .ok (.invokevirtual 54, 3) := by decide +kernel
theorem dX8_read_14 : decode cX8_read 14 = .ok (.aload_n 0, 1) := by decide +kernel
theorem dX8_read_15 : decode cX8_read 15 = .ok (.getfield 13, 3) := by decide +kernel
theorem dX8_read_18 : decode cX8_read 18 = .ok (.aload_n 0, 1) := by decide +kernel
theorem dX8_read_19 : decode cX8_read 19 = .ok (.getfield 22, 3) := by decide +kernel
theorem dX8_read_22 : decode cX8_read 22 = .ok (.aload_n 0, 1) := by decide +kernel
theorem dX8_read_23 : decode cX8_read 23 = .ok (.getfield 40, 3) := by decide +kernel
theorem dX8_read_26 : decode cX8_read 26 = .ok (.invokevirtual 57, 3) := by decide +kernel
theorem dX8_read_29 : decode cX8_read 29 = .ok (.ifCond .ne 13, 3) := by decide +kernel
theorem dX8_read_32 : decode cX8_read 32 = .ok (.iconst (-1), 1) := by decide +kernel
theorem dX8_read_33 : decode cX8_read 33 = .ok (.aload_n 0, 1) := by decide +kernel
theorem dX8_read_34 : decode cX8_read 34 = .ok (.getfield 22, 3) := by decide +kernel
theorem dX8_read_37 : decode cX8_read 37 = .ok (.getfield 63, 3) := by decide +kernel
theorem dX8_read_40 : decode cX8_read 40 = .ok (.isub, 1) := by decide +kernel
theorem dX8_read_41 : decode cX8_read 41 = .ok (.ireturn, 1) := by decide +kernel
theorem dX8_read_42 : decode cX8_read 42 = .ok (.aload_n 0, 1) := by decide +kernel
theorem dX8_read_43 : decode cX8_read 43 = .ok (.getfield 36, 3) := by decide +kernel
theorem dX8_read_46 : decode cX8_read 46 = .ok (.astore_n 1, 1) := by decide +kernel
theorem dX8_read_47 : decode cX8_read 47 = .ok (.aload_n 0, 1) := by decide +kernel
theorem dX8_read_48 : decode cX8_read 48 = .ok (.aload_n 0, 1) := by decide +kernel
theorem dX8_read_49 : decode cX8_read 49 = .ok (.getfield 40, 3) := by decide +kernel
theorem dX8_read_52 : decode cX8_read 52 = .ok (.putfield 36, 3) := by decide +kernel
theorem dX8_read_55 : decode cX8_read 55 = .ok (.aload_n 0, 1) := by decide +kernel
theorem dX8_read_56 : decode cX8_read 56 = .ok (.aload_n 1, 1) := by decide +kernel
theorem dX8_read_57 : decode cX8_read 57 = .ok (.putfield 40, 3) := by decide +kernel
theorem dX8_read_60 : decode cX8_read 60 = .ok (.aload_n 0, 1) := by decide +kernel
theorem dX8_read_61 : decode cX8_read 61 = .ok (.iconst 0, 1) := by decide +kernel
theorem dX8_read_62 : decode cX8_read 62 = .ok (.putfield 43, 3) := by decide +kernel
theorem dX8_read_65 : decode cX8_read 65 = .ok (.aload_n 0, 1) := by decide +kernel
theorem dX8_read_66 : decode cX8_read 66 = .ok (.getfield 36, 3) := by decide +kernel
theorem dX8_read_69 : decode cX8_read 69 = .ok (.getfield 67, 3) := by decide +kernel
theorem dX8_read_72 : decode cX8_read 72 = .ok (.ireturn, 1) := by decide +kernel
theorem dX8_kind_0 : decode cX8_kind 0 = .ok (.aload_n 0, 1) := by decide +kernel
theorem dX8_kind_1 : decode cX8_kind 1 = .ok (.iload_n 1, 1) := by decide +kernel
theorem dX8_kind_2 : decode cX8_kind 2 = .ok (.invokevirtual 70, 3) := by decide +kernel
theorem dX8_kind_5 : decode cX8_kind 5 = .ok (.getfield 74, 3) := by decide +kernel
theorem dX8_kind_8 : decode cX8_kind 8 = .ok (.ireturn, 1) := by decide +kernel
theorem dX8_parent_0 : decode cX8_parent 0 = .ok (.aload_n 0, 1) := by decide +kernel
theorem dX8_parent_1 : decode cX8_parent 1 = .ok (.getfield 36, 3) := by decide +kernel
theorem dX8_parent_4 : decode cX8_parent 4 = .ok (.iload_n 1, 1) := by decide +kernel
theorem dX8_parent_5 : decode cX8_parent 5 = .ok (.invokevirtual 79, 3) := by decide +kernel
theorem dX8_parent_8 : decode cX8_parent 8 = .ok (.ifCond .ne 13, 3) := by decide +kernel
theorem dX8_parent_11 : decode cX8_parent 11 = .ok (.new 82, 3) := by decide +kernel
theorem dX8_parent_14 : decode cX8_parent 14 = .ok (.dup, 1) := by decide +kernel
theorem dX8_parent_15 : decode cX8_parent 15 = .ok (.ldc 84, 2) := by decide +kernel
theorem dX8_parent_17 : decode cX8_parent 17 = .ok (.invokespecial 86, 3) := by decide +kernel
theorem dX8_parent_20 : decode cX8_parent 20 = .ok (.athrow, 1) := by decide +kernel
theorem dX8_parent_21 : decode cX8_parent 21 = .ok (.aload_n 0, 1) := by decide +kernel
theorem dX8_parent_22 : decode cX8_parent 22 = .ok (.getfield 36, 3) := by decide +kernel
theorem dX8_parent_25 : decode cX8_parent 25 = .ok (.iload_n 1, 1) := by decide +kernel
theorem dX8_parent_26 : decode cX8_parent 26 = .ok (.invokevirtual 89, 3) := by decide +kernel
theorem dX8_parent_29 : decode cX8_parent 29 = .ok (.ireturn, 1) := by decide +kernel
theorem dX8_number_0 : decode cX8_number 0 = .ok (.aload_n 0, 1) := by decide +kernel
theorem dX8_number_1 : decode cX8_number 1 = .ok (.iload_n 1, 1) := by decide +kernel
theorem dX8_number_2 : decode cX8_number 2 = .ok (.invokevirtual 70, 3) := by decide +kernel
theorem dX8_number_5 : decode cX8_number 5 = .ok (.iconst 0, 1) := by decide +kernel
theorem dX8_number_6 : decode cX8_number 6 = .ok (.iload_n 2, 1) := by decide +kernel
theorem dX8_number_7 : decode cX8_number 7 = .ok (.invokevirtual 93, 3) := by decide +kernel
theorem dX8_number_10 : decode cX8_number 10 = .ok (.iconst (-1), 1) := by decide +kernel
theorem dX8_number_11 : decode cX8_number 11 = .ok (.if_icmp .ne 13, 3) := by decide +kernel
theorem dX8_number_14 : decode cX8_number 14 = .ok (.new 82, 3) := by decide +kernel
theorem dX8_number_17 : decode cX8_number 17 = .ok (.dup, 1) := by decide +kernel
theorem dX8_number_18 : decode cX8_number 18 = .ok (.ldc 97, 2) := by decide +kernel
theorem dX8_number_20 : decode cX8_number 20 = .ok (.invokespecial 86, 3) := by decide +kernel
theorem dX8_number_23 : decode cX8_number 23 = .ok (.athrow, 1) := by decide +kernel
theorem dX8_number_24 : decode cX8_number 24 = .ok (.aload_n 0, 1) := by decide +kernel
theorem dX8_number_25 : decode cX8_number 25 = .ok (.getfield 36, 3) := by decide +kernel
theorem dX8_number_28 : decode cX8_number 28 = .ok (.iload_n 1, 1) := by decide +kernel
theorem dX8_number_29 : decode cX8_number 29 = .ok (.iload_n 2, 1) := by decide +kernel
theorem dX8_number_30 : decode cX8_number 30 = .ok (.invokevirtual 99, 3) := by decide +kernel
theorem dX8_number_33 : decode cX8_number 33 = .ok (.lreturn, 1) := by decide +kernel
theorem dX8_text_0 : decode cX8_text 0 = .ok (.aload_n 0, 1) := by decide +kernel
theorem dX8_text_1 : decode cX8_text 1 = .ok (.iload_n 1, 1) := by decide +kernel
theorem dX8_text_2 : decode cX8_text 2 = .ok (.invokevirtual 70, 3) := by decide +kernel
theorem dX8_text_5 : decode cX8_text 5 = .ok (.iconst 1, 1) := by decide +kernel
theorem dX8_text_6 : decode cX8_text 6 = .ok (.iload_n 2, 1) := by decide +kernel
theorem dX8_text_7 : decode cX8_text 7 = .ok (.invokevirtual 93, 3) := by decide +kernel
theorem dX8_text_10 : decode cX8_text 10 = .ok (.iconst (-1), 1) := by decide +kernel
theorem dX8_text_11 : decode cX8_text 11 = .ok (.if_icmp .ne 13, 3) := by decide +kernel
theorem dX8_text_14 : decode cX8_text 14 = .ok (.new 82, 3) := by decide +kernel
theorem dX8_text_17 : decode cX8_text 17 = .ok (.dup, 1) := by decide +kernel
theorem dX8_text_18 : decode cX8_text 18 = .ok (.ldc 103, 2) := by decide +kernel
theorem dX8_text_20 : decode cX8_text 20 = .ok (.invokespecial 86, 3) := by decide +kernel
theorem dX8_text_23 : decode cX8_text 23 = .ok (.athrow, 1) := by decide +kernel
theorem dX8_text_24 : decode cX8_text 24 = .ok (.aload_n 0, 1) := by decide +kernel
theorem dX8_text_25 : decode cX8_text 25 = .ok (.getfield 36, 3) := by decide +kernel
theorem dX8_text_28 : decode cX8_text 28 = .ok (.iload_n 1, 1) := by decide +kernel
theorem dX8_text_29 : decode cX8_text 29 = .ok (.iload_n 2, 1) := by decide +kernel
theorem dX8_text_30 : decode cX8_text 30 = .ok (.invokevirtual 105, 3) := by decide +kernel
theorem dX8_text_33 : decode cX8_text 33 = .ok (.istore 4, 2) := by decide +kernel
theorem dX8_text_35 : decode cX8_text 35 = .ok (.iload_n 3, 1) := by decide +kernel
theorem dX8_text_36 : decode cX8_text 36 = .ok (.iconst (-1), 1) := by decide +kernel
theorem dX8_text_37 : decode cX8_text 37 = .ok (.if_icmp .ne 6, 3) := by decide +kernel
theorem dX8_text_40 : decode cX8_text 40 = .ok (.iload 4, 2) := by decide +kernel
theorem dX8_text_42 : decode cX8_text 42 = .ok (.ireturn, 1) := by decide +kernel
theorem dX8_text_43 : decode cX8_text 43 = .ok (.iload_n 3, 1) := by decide +kernel
theorem dX8_text_44 : decode cX8_text 44 = .ok (.ifCond .lt 9, 3) := by decide +kernel
theorem dX8_text_47 : decode cX8_text 47 = .ok (.iload_n 3, 1) := by decide +kernel
theorem dX8_text_48 : decode cX8_text 48 = .ok (.iload 4, 2) := by decide +kernel
theorem dX8_text_50 : decode cX8_text 50 = .ok (.if_icmp .lt 13, 3) := by decide +kernel
theorem dX8_text_53 : decode cX8_text 53 = .ok (.new 82, 3) := by decide +kernel
theorem dX8_text_56 : decode cX8_text 56 = .ok (.dup, 1) := by decide +kernel
theorem dX8_text_57 : decode cX8_text 57 = .ok (.ldc 109, 2) := by decide +kernel
theorem dX8_text_59 : decode cX8_text 59 = .ok (.invokespecial 86, 3) := by decide +kernel
theorem dX8_text_62 : decode cX8_text 62 = .ok (.athrow, 1) := by decide +kernel
theorem dX8_text_63 : decode cX8_text 63 = .ok (.aload_n 0, 1) := by decide +kernel
theorem dX8_text_64 : decode cX8_text 64 = .ok (.getfield 36, 3) := by decide +kernel
theorem dX8_text_67 : decode cX8_text 67 = .ok (.iload_n 1, 1) := by decide +kernel
theorem dX8_text_68 : decode cX8_text 68 = .ok (.iload_n 2, 1) := by decide +kernel
theorem dX8_text_69 : decode cX8_text 69 = .ok (.iload_n 3, 1) := by decide +kernel
theorem dX8_text_70 : decode cX8_text 70 = .ok (.invokevirtual 111, 3) := by decide +kernel
theorem dX8_text_73 : decode cX8_text 73 = .ok (.ireturn, 1) := by decide +kernel
theorem dX8_version_0 : decode cX8_version 0 = .ok (.aload_n 0, 1) := by decide +kernel
theorem dX8_version_1 : decode cX8_version 1 = .ok (.getfield 36, 3) := by decide +kernel
theorem dX8_version_4 : decode cX8_version 4 = .ok (.getfield 115, 3) := by decide +kernel
theorem dX8_version_7 : decode cX8_version 7 = .ok (.ireturn, 1) := by decide +kernel
theorem dX8_unknown_0 : decode cX8_unknown 0 = .ok (.aload_n 0, 1) := by decide +kernel
theorem dX8_unknown_1 : decode cX8_unknown 1 = .ok (.iload_n 1, 1) := by decide +kernel
theorem dX8_unknown_2 : decode cX8_unknown 2 = .ok (.invokevirtual 70, 3) := by decide +kernel
theorem dX8_unknown_5 : decode cX8_unknown 5 = .ok (.getstatic 118, 3) := by decide +kernel
theorem dX8_unknown_8 : decode cX8_unknown 8 = .ok (.if_acmp .eq 13, 3) := by decide +kernel
theorem dX8_unknown_11 : decode cX8_unknown 11 = .ok (.new 122, 3) := by decide +kernel
theorem dX8_unknown_14 : decode cX8_unknown 14 = .ok (.dup, 1) := by decide +kernel
theorem dX8_unknown_15 : decode cX8_unknown 15 = .ok (.ldc 124, 2) := by decide +kernel
theorem dX8_unknown_17 : decode cX8_unknown 17 = .ok (.invokespecial 126, 3) := by decide +kernel
theorem dX8_unknown_20 : decode cX8_unknown 20 = .ok (.athrow, 1) := by decide +kernel
theorem dX8_unknown_21 : decode cX8_unknown 21 = .ok (.aload_n 0, 1) := by decide +kernel
theorem dX8_unknown_22 : decode cX8_unknown 22 = .ok (.getfield 36, 3) := by decide +kernel
theorem dX8_unknown_25 : decode cX8_unknown 25 = .ok (.iload_n 1, 1) := by decide +kernel
theorem dX8_unknown_26 : decode cX8_unknown 26 = .ok (.invokevirtual 127, 3) := by decide +kernel
theorem dX8_unknown_29 : decode cX8_unknown 29 = .ok (.istore_n 3, 1) := by decide +kernel
theorem dX8_unknown_30 : decode cX8_unknown 30 = .ok (.iload_n 2, 1) := by decide +kernel
theorem dX8_unknown_31 : decode cX8_unknown 31 = .ok (.iconst (-1), 1) := by decide +kernel
theorem dX8_unknown_32 : decode cX8_unknown 32 = .ok (.if_icmp .ne 5, 3) := by decide +kernel
theorem dX8_unknown_35 : decode cX8_unknown 35 = .ok (.iload_n 3, 1) := by decide +kernel
theorem dX8_unknown_36 : decode cX8_unknown 36 = .ok (.ireturn, 1) := by decide +kernel
theorem dX8_unknown_37 : decode cX8_unknown 37 = .ok (.iload_n 2, 1) := by decide +kernel
theorem dX8_unknown_38 : decode cX8_unknown 38 = .ok (.ifCond .lt 8, 3) := by decide +kernel
theorem dX8_unknown_41 : decode cX8_unknown 41 = .ok (.iload_n 2, 1) := by decide +kernel
theorem dX8_unknown_42 : decode cX8_unknown 42 = .ok (.iload_n 3, 1) := by decide +kernel
theorem dX8_unknown_43 : decode cX8_unknown 43 = .ok (.if_icmp .lt 13, 3) := by decide +kernel
theorem dX8_unknown_46 : decode cX8_unknown 46 = .ok (.new 82, 3) := by decide +kernel
theorem dX8_unknown_49 : decode cX8_unknown 49 = .ok (.dup, 1) := by decide +kernel
theorem dX8_unknown_50 : decode cX8_unknown 50 = .ok (.ldc 109, 2) := by decide +kernel
theorem dX8_unknown_52 : decode cX8_unknown 52 = .ok (.invokespecial 86, 3) := by decide +kernel
theorem dX8_unknown_55 : decode cX8_unknown 55 = .ok (.athrow, 1) := by decide +kernel
theorem dX8_unknown_56 : decode cX8_unknown 56 = .ok (.aload_n 0, 1) := by decide +kernel
theorem dX8_unknown_57 : decode cX8_unknown 57 = .ok (.getfield 36, 3) := by decide +kernel
theorem dX8_unknown_60 : decode cX8_unknown 60 = .ok (.iload_n 1, 1) := by decide +kernel
theorem dX8_unknown_61 : decode cX8_unknown 61 = .ok (.iload_n 2, 1) := by decide +kernel
theorem dX8_unknown_62 : decode cX8_unknown 62 = .ok (.invokevirtual 130, 3) := by decide +kernel
theorem dX8_unknown_65 : decode cX8_unknown 65 = .ok (.ireturn, 1) := by decide +kernel
theorem dX8_write_0 : decode cX8_write 0 = .ok (.iload_n 1, 1) := by decide +kernel
theorem dX8_write_1 : decode cX8_write 1 = .ok (.ifCond .ge 13, 3) := by decide +kernel
theorem dX8_write_4 : decode cX8_write 4 = .ok (.new 82, 3) := by decide +kernel
theorem dX8_write_7 : decode cX8_write 7 = .ok (.dup, 1) := by decide +kernel
theorem dX8_write_8 : decode cX8_write 8 = .ok (.ldc 133, 2) := by decide +kernel
theorem dX8_write_10 : decode cX8_write 10 = .ok (.invokespecial 86, 3) := by decide +kernel
theorem dX8_write_13 : decode cX8_write 13 = .ok (.athrow, 1) := by decide +kernel
theorem dX8_write_14 : decode cX8_write 14 = .ok (.aload_n 0, 1) := by decide +kernel
theorem dX8_write_15 : decode cX8_write 15 = .ok (.getfield 36, 3) := by decide +kernel
theorem dX8_write_18 : decode cX8_write 18 = .ok (.getfield 67, 3) := by decide +kernel
theorem dX8_write_21 : decode cX8_write 21 = .ok (.ifCond .ne 13, 3) := by decide +kernel
theorem dX8_write_24 : decode cX8_write 24 = .ok (.new 122, 3) := by decide +kernel
theorem dX8_write_27 : decode cX8_write 27 = .ok (.dup, 1) := by decide +kernel
theorem dX8_write_28 : decode cX8_write 28 = .ok (.ldc 135, 2) := by decide +kernel
theorem dX8_write_30 : decode cX8_write 30 = .ok (.invokespecial 126, 3) := by decide +kernel
theorem dX8_write_33 : decode cX8_write 33 = .ok (.athrow, 1) := by decide +kernel
theorem dX8_write_34 : decode cX8_write 34 = .ok (.aload_n 0, 1) := by decide +kernel
theorem dX8_write_35 : decode cX8_write 35 = .ok (.getfield 43, 3) := by decide +kernel
theorem dX8_write_38 : decode cX8_write 38 = .ok (.ifCond .ne 30, 3) := by decide +kernel
theorem dX8_write_41 : decode cX8_write 41 = .ok (.aload_n 0, 1) := by decide +kernel
theorem dX8_write_42 : decode cX8_write 42 = .ok (.getfield 29, 3) := by decide +kernel
theorem dX8_write_45 : decode cX8_write 45 = .ok (.invokevirtual 137, 3) := by decide +kernel
theorem dX8_write_48 : decode cX8_write 48 = .ok (.aload_n 0, 1) := by decide +kernel
theorem dX8_write_49 : decode cX8_write 49 = .ok (.getfield 13, 3) := by decide +kernel
theorem dX8_write_52 : decode cX8_write 52 = .ok (.aload_n 0, 1) := by decide +kernel
theorem dX8_write_53 : decode cX8_write 53 = .ok (.getfield 36, 3) := by decide +kernel
theorem dX8_write_56 : decode cX8_write 56 = .ok (.aload_n 0, 1) := by decide +kernel
theorem dX8_write_57 : decode cX8_write 57 = .ok (.getfield 29, 3) := by decide +kernel
theorem dX8_write_60 : decode cX8_write 60 = .ok (.invokevirtual 138, 3) := by decide +kernel
theorem dX8_write_63 : decode cX8_write 63 = .ok (.aload_n 0, 1) := by decide +kernel
theorem dX8_write_64 : decode cX8_write 64 = .ok (.iconst 1, 1) := by decide +kernel
theorem dX8_write_65 : decode cX8_write 65 = .ok (.putfield 43, 3) := by decide +kernel
theorem dX8_write_68 : decode cX8_write 68 = .ok (.aload_n 0, 1) := by decide +kernel
theorem dX8_write_69 : decode cX8_write 69 = .ok (.getfield 29, 3) := by decide +kernel
theorem dX8_write_72 : decode cX8_write 72 = .ok (.iload_n 1, 1) := by decide +kernel
theorem dX8_write_73 : decode cX8_write 73 = .ok (.invokevirtual 142, 3) := by decide +kernel
theorem dX8_write_76 : decode cX8_write 76 = .ok (.ireturn, 1) := by decide +kernel
theorem dX8_object_0 : decode cX8_object 0 = .ok (.iload_n 1, 1) := by decide +kernel
theorem dX8_object_1 : decode cX8_object 1 = .ok (.iconst (-1), 1) := by decide +kernel
theorem dX8_object_2 : decode cX8_object 2 = .ok (.if_icmp .eq 24, 3) := by decide +kernel
theorem dX8_object_5 : decode cX8_object 5 = .ok (.aload_n 0, 1) := by decide +kernel
theorem dX8_object_6 : decode cX8_object 6 = .ok (.getfield 36, 3) := by decide +kernel
theorem dX8_object_9 : decode cX8_object 9 = .ok (.iload_n 1, 1) := by decide +kernel
theorem dX8_object_10 : decode cX8_object 10 = .ok (.invokevirtual 79, 3) := by decide +kernel
theorem dX8_object_13 : decode cX8_object 13 = .ok (.ifCond .ne 13, 3) := by decide +kernel
theorem dX8_object_16 : decode cX8_object 16 = .ok (.new 82, 3) := by decide +kernel
theorem dX8_object_19 : decode cX8_object 19 = .ok (.dup, 1) := by decide +kernel
theorem dX8_object_20 : decode cX8_object 20 = .ok (.ldc 145, 2) := by decide +kernel
theorem dX8_object_22 : decode cX8_object 22 = .ok (.invokespecial 86, 3) := by decide +kernel
theorem dX8_object_25 : decode cX8_object 25 = .ok (.athrow, 1) := by decide +kernel
theorem dX8_object_26 : decode cX8_object 26 = .ok (.iload_n 2, 1) := by decide +kernel
theorem dX8_object_27 : decode cX8_object 27 = .ok (.getstatic 147, 3) := by decide +kernel
theorem dX8_object_30 : decode cX8_object 30 = .ok (.getfield 74, 3) := by decide +kernel
theorem dX8_object_33 : decode cX8_object 33 = .ok (.if_icmp .lt 13, 3) := by decide +kernel
theorem dX8_object_36 : decode cX8_object 36 = .ok (.iload_n 2, 1) := by decide +kernel
theorem dX8_object_37 : decode cX8_object 37 = .ok (.getstatic 118, 3) := by decide +kernel
theorem dX8_object_40 : decode cX8_object 40 = .ok (.getfield 74, 3) := by decide +kernel
theorem dX8_object_43 : decode cX8_object 43 = .ok (.if_icmp .le 13, 3) := by decide +kernel
theorem dX8_object_46 : decode cX8_object 46 = .ok (.new 150, 3) := by decide +kernel
theorem dX8_object_49 : decode cX8_object 49 = .ok (.dup, 1) := by decide +kernel
theorem dX8_object_50 : decode cX8_object 50 = .ok (.ldc 152, 2) := by decide +kernel
theorem dX8_object_52 : decode cX8_object 52 = .ok (.invokespecial 154, 3) := by decide +kernel
theorem dX8_object_55 : decode cX8_object 55 = .ok (.athrow, 1) := by decide +kernel
theorem dX8_object_56 : decode cX8_object 56 = .ok (.iload_n 2, 1) := by decide +kernel
theorem dX8_object_57 : decode cX8_object 57 = .ok (.invokestatic 155, 3) := by decide +kernel
theorem dX8_object_60 : decode cX8_object 60 = .ok (.astore_n 3, 1) := by decide +kernel
theorem dX8_object_61 : decode cX8_object 61 = .ok (.aload_n 3, 1) := by decide +kernel
theorem dX8_object_62 : decode cX8_object 62 = .ok (.getstatic 118, 3) := by decide +kernel
theorem dX8_object_65 : decode cX8_object 65 = .ok (.if_acmp .eq 15, 3) := by decide +kernel
theorem dX8_object_68 : decode cX8_object 68 = .ok (.aload_n 0, 1) := by decide +kernel
theorem dX8_object_69 : decode cX8_object 69 = .ok (.getfield 36, 3) := by decide +kernel
theorem dX8_object_72 : decode cX8_object 72 = .ok (.iload_n 1, 1) := by decide +kernel
theorem dX8_object_73 : decode cX8_object 73 = .ok (.aload_n 3, 1) := by decide +kernel
theorem dX8_object_74 : decode cX8_object 74 = .ok (.invokevirtual 158, 3) := by decide +kernel
theorem dX8_object_77 : decode cX8_object 77 = .ok (.ifCond .ne 5, 3) := by decide +kernel
theorem dX8_object_80 : decode cX8_object 80 = .ok (.iconst (-1), 1) := by decide +kernel
theorem dX8_object_81 : decode cX8_object 81 = .ok (.ireturn, 1) := by decide +kernel
theorem dX8_object_82 : decode cX8_object 82 = .ok (.aload_n 0, 1) := by decide +kernel
theorem dX8_object_83 : decode cX8_object 83 = .ok (.iconst 0, 1) := by decide +kernel
theorem dX8_object_84 : decode cX8_object 84 = .ok (.putfield 43, 3) := by decide +kernel
theorem dX8_object_87 : decode cX8_object 87 = .ok (.aload_n 0, 1) := by decide +kernel
theorem dX8_object_88 : decode cX8_object 88 = .ok (.getfield 36, 3) := by decide +kernel
theorem dX8_object_91 : decode cX8_object 91 = .ok (.iload_n 1, 1) := by decide +kernel
theorem dX8_object_92 : decode cX8_object 92 = .ok (.aload_n 3, 1) := by decide +kernel
theorem dX8_object_93 : decode cX8_object 93 = .ok (.invokevirtual 162, 3) := by decide +kernel
theorem dX8_object_96 : decode cX8_object 96 = .ok (.ireturn, 1) := by decide +kernel
theorem dX8_set_0 : decode cX8_set 0 = .ok (.aload_n 0, 1) := by decide +kernel
theorem dX8_set_1 : decode cX8_set 1 = .ok (.iload_n 1, 1) := by decide +kernel
theorem dX8_set_2 : decode cX8_set 2 = .ok (.invokevirtual 70, 3) := by decide +kernel
theorem dX8_set_5 : decode cX8_set 5 = .ok (.astore 5, 2) := by decide +kernel
theorem dX8_set_7 : decode cX8_set 7 = .ok (.iload_n 2, 1) := by decide +kernel
theorem dX8_set_8 : decode cX8_set 8 = .ok (.ifCond .ge 7, 3) := by decide +kernel
theorem dX8_set_11 : decode cX8_set 11 = .ok (.iconst 1, 1) := by decide +kernel
theorem dX8_set_12 : decode cX8_set 12 = .ok (.goto 4, 3) := by decide +kernel
theorem dX8_set_15 : decode cX8_set 15 = .ok (.iconst 0, 1) := by decide +kernel
theorem dX8_set_16 : decode cX8_set 16 = .ok (.istore 6, 2) := by decide +kernel
theorem dX8_set_18 : decode cX8_set 18 = .ok (.iload 6, 2) := by decide +kernel
theorem dX8_set_20 : decode cX8_set 20 = .ok (.ifCond .eq 9, 3) := by decide +kernel
theorem dX8_set_23 : decode cX8_set 23 = .ok (.iconst (-1), 1) := by decide +kernel
theorem dX8_set_24 : decode cX8_set 24 = .ok (.iload_n 2, 1) := by decide +kernel
theorem dX8_set_25 : decode cX8_set 25 = .ok (.isub, 1) := by decide +kernel
theorem dX8_set_26 : decode cX8_set 26 = .ok (.goto 4, 3) := by decide +kernel
theorem dX8_set_29 : decode cX8_set 29 = .ok (.iload_n 2, 1) := by decide +kernel
theorem dX8_set_30 : decode cX8_set 30 = .ok (.istore 7, 2) := by decide +kernel
theorem dX8_set_32 : decode cX8_set 32 = .ok (.aload 5, 2) := by decide +kernel
theorem dX8_set_34 : decode cX8_set 34 = .ok (.iload 6, 2) := by decide +kernel
theorem dX8_set_36 : decode cX8_set 36 = .ok (.iload 7, 2) := by decide +kernel
theorem dX8_set_38 : decode cX8_set 38 = .ok (.invokevirtual 93, 3) := by decide +kernel
theorem dX8_set_41 : decode cX8_set 41 = .ok (.istore 8, 2) := by decide +kernel
theorem dX8_set_43 : decode cX8_set 43 = .ok (.iload 8, 2) := by decide +kernel
theorem dX8_set_45 : decode cX8_set 45 = .ok (.iconst (-1), 1) := by decide +kernel
theorem dX8_set_46 : decode cX8_set 46 = .ok (.if_icmp .ne 13, 3) := by decide +kernel
theorem dX8_set_49 : decode cX8_set 49 = .ok (.new 82, 3) := by decide +kernel
theorem dX8_set_52 : decode cX8_set 52 = .ok (.dup, 1) := by decide +kernel
theorem dX8_set_53 : decode cX8_set 53 = .ok (.ldc 166, 2) := by decide +kernel
theorem dX8_set_55 : decode cX8_set 55 = .ok (.invokespecial 86, 3) := by decide +kernel
theorem dX8_set_58 : decode cX8_set 58 = .ok (.athrow, 1) := by decide +kernel
theorem dX8_set_59 : decode cX8_set 59 = .ok (.iload 6, 2) := by decide +kernel
theorem dX8_set_61 : decode cX8_set 61 = .ok (.ifCond .eq 17, 3) := by decide +kernel
theorem dX8_set_64 : decode cX8_set 64 = .ok (.aload_n 0, 1) := by decide +kernel
theorem dX8_set_65 : decode cX8_set 65 = .ok (.getfield 36, 3) := by decide +kernel
theorem dX8_set_68 : decode cX8_set 68 = .ok (.iload_n 1, 1) := by decide +kernel
theorem dX8_set_69 : decode cX8_set 69 = .ok (.iload 7, 2) := by decide +kernel
theorem dX8_set_71 : decode cX8_set 71 = .ok (.lload_n 3, 1) := by decide +kernel
theorem dX8_set_72 : decode cX8_set 72 = .ok (.invokevirtual 168, 3) := by decide +kernel
theorem dX8_set_75 : decode cX8_set 75 = .ok (.goto 14, 3) := by decide +kernel
theorem dX8_set_78 : decode cX8_set 78 = .ok (.aload 5, 2) := by decide +kernel
theorem dX8_set_80 : decode cX8_set 80 = .ok (.iload 8, 2) := by decide +kernel
theorem dX8_set_82 : decode cX8_set 82 = .ok (.invokevirtual 172, 3) := by decide +kernel
theorem dX8_set_85 : decode cX8_set 85 = .ok (.lload_n 3, 1) := by decide +kernel
theorem dX8_set_86 : decode cX8_set 86 = .ok (.invokevirtual 176, 3) := by decide +kernel
theorem dX8_set_89 : decode cX8_set 89 = .ok (.istore 9, 2) := by decide +kernel
theorem dX8_set_91 : decode cX8_set 91 = .ok (.iload 9, 2) := by decide +kernel
theorem dX8_set_93 : decode cX8_set 93 = .ok (.ifCond .ne 5, 3) := by decide +kernel
theorem dX8_set_96 : decode cX8_set 96 = .ok (.iconst 0, 1) := by decide +kernel
theorem dX8_set_97 : decode cX8_set 97 = .ok (.ireturn, 1) := by decide +kernel
theorem dX8_set_98 : decode cX8_set 98 = .ok (.iload 6, 2) := by decide +kernel
theorem dX8_set_100 : decode cX8_set 100 = .ok (.ifCond .eq 17, 3) := by decide +kernel
theorem dX8_set_103 : decode cX8_set 103 = .ok (.aload_n 0, 1) := by decide +kernel
theorem dX8_set_104 : decode cX8_set 104 = .ok (.getfield 36, 3) := by decide +kernel
theorem dX8_set_107 : decode cX8_set 107 = .ok (.iload_n 1, 1) := by decide +kernel
theorem dX8_set_108 : decode cX8_set 108 = .ok (.iload 7, 2) := by decide +kernel
theorem dX8_set_110 : decode cX8_set 110 = .ok (.lload_n 3, 1) := by decide +kernel
theorem dX8_set_111 : decode cX8_set 111 = .ok (.invokevirtual 182, 3) := by decide +kernel
theorem dX8_set_114 : decode cX8_set 114 = .ok (.goto 14, 3) := by decide +kernel
theorem dX8_set_117 : decode cX8_set 117 = .ok (.aload_n 0, 1) := by decide +kernel
theorem dX8_set_118 : decode cX8_set 118 = .ok (.getfield 36, 3) := by decide +kernel
theorem dX8_set_121 : decode cX8_set 121 = .ok (.iload_n 1, 1) := by decide +kernel
theorem dX8_set_122 : decode cX8_set 122 = .ok (.iload 7, 2) := by decide +kernel
theorem dX8_set_124 : decode cX8_set 124 = .ok (.lload_n 3, 1) := by decide +kernel
theorem dX8_set_125 : decode cX8_set 125 = .ok (.invokevirtual 186, 3) := by decide +kernel
theorem dX8_set_128 : decode cX8_set 128 = .ok (.aload_n 0, 1) := by decide +kernel
theorem dX8_set_129 : decode cX8_set 129 = .ok (.iconst 0, 1) := by decide +kernel
theorem dX8_set_130 : decode cX8_set 130 = .ok (.putfield 43, 3) := by decide +kernel
theorem dX8_set_133 : decode cX8_set 133 = .ok (.iconst 1, 1) := by decide +kernel
theorem dX8_set_134 : decode cX8_set 134 = .ok (.ireturn, 1) := by decide +kernel
theorem dX8_depth_0 : decode cX8_depth 0 = .ok (.aload_n 0, 1) := by decide +kernel
theorem dX8_depth_1 : decode cX8_depth 1 = .ok (.getfield 36, 3) := by decide +kernel
theorem dX8_depth_4 : decode cX8_depth 4 = .ok (.getfield 189, 3) := by decide +kernel
theorem dX8_depth_7 : decode cX8_depth 7 = .ok (.ireturn, 1) := by decide +kernel
theorem dX8_clear_0 : decode cX8_clear 0 = .ok (.aload_n 0, 1) := by decide +kernel
theorem dX8_clear_1 : decode cX8_clear 1 = .ok (.getfield 22, 3) := by decide +kernel
theorem dX8_clear_4 : decode cX8_clear 4 = .ok (.invokevirtual 192, 3) := by decide +kernel
theorem dX8_clear_7 : decode cX8_clear 7 = .ok (.return_, 1) := by decide +kernel
theorem dX8_kindOfObject_0 : decode cX8_kindOfObject 0 = .ok (.aload_n 0, 1) := by decide +kernel
theorem dX8_kindOfObject_1 : decode cX8_kindOfObject 1 = .ok (.getfield 36, 3) := by decide +kernel
theorem dX8_kindOfObject_4 : decode cX8_kindOfObject 4 = .ok (.iload_n 1, 1) := by decide +kernel
theorem dX8_kindOfObject_5 : decode cX8_kindOfObject 5 = .ok (.invokevirtual 79, 3) := by decide +kernel
theorem dX8_kindOfObject_8 : decode cX8_kindOfObject 8 = .ok (.ifCond .ne 13, 3) := by decide +kernel
theorem dX8_kindOfObject_11 : decode cX8_kindOfObject 11 = .ok (.new 82, 3) := by decide +kernel
theorem dX8_kindOfObject_14 : decode cX8_kindOfObject 14 = .ok (.dup, 1) := by decide +kernel
theorem dX8_kindOfObject_15 : decode cX8_kindOfObject 15 = .ok (.ldc 84, 2) := by decide +kernel
theorem dX8_kindOfObject_17 : decode cX8_kindOfObject 17 = .ok (.invokespecial 86, 3) := by decide +kernel
theorem dX8_kindOfObject_20 : decode cX8_kindOfObject 20 = .ok (.athrow, 1) := by decide +kernel
theorem dX8_kindOfObject_21 : decode cX8_kindOfObject 21 = .ok (.aload_n 0, 1) := by decide +kernel
theorem dX8_kindOfObject_22 : decode cX8_kindOfObject 22 = .ok (.getfield 36, 3) := by decide +kernel
theorem dX8_kindOfObject_25 : decode cX8_kindOfObject 25 = .ok (.iload_n 1, 1) := by decide +kernel
theorem dX8_kindOfObject_26 : decode cX8_kindOfObject 26 = .ok (.invokevirtual 195, 3) := by decide +kernel
theorem dX8_kindOfObject_29 : decode cX8_kindOfObject 29 = .ok (.areturn, 1) := by decide +kernel
theorem dX8_isTextMark_0 : decode cX8_isTextMark 0 = .ok (.iload_n 0, 1) := by decide +kernel
theorem dX8_isTextMark_1 : decode cX8_isTextMark 1 = .ok (.bipush 32, 2) := by decide +kernel
theorem dX8_isTextMark_3 : decode cX8_isTextMark 3 = .ok (.if_icmp .lt 13, 3) := by decide +kernel
theorem dX8_isTextMark_6 : decode cX8_isTextMark 6 = .ok (.iload_n 0, 1) := by decide +kernel
theorem dX8_isTextMark_7 : decode cX8_isTextMark 7 = .ok (.bipush 126, 2) := by decide +kernel
theorem dX8_isTextMark_9 : decode cX8_isTextMark 9 = .ok (.if_icmp .gt 7, 3) := by decide +kernel
theorem dX8_isTextMark_12 : decode cX8_isTextMark 12 = .ok (.iconst 1, 1) := by decide +kernel
theorem dX8_isTextMark_13 : decode cX8_isTextMark 13 = .ok (.goto 4, 3) := by decide +kernel
theorem dX8_isTextMark_16 : decode cX8_isTextMark 16 = .ok (.iconst 0, 1) := by decide +kernel
theorem dX8_isTextMark_17 : decode cX8_isTextMark 17 = .ok (.ireturn, 1) := by decide +kernel
theorem dX8_isDigit_0 : decode cX8_isDigit 0 = .ok (.iload_n 0, 1) := by decide +kernel
theorem dX8_isDigit_1 : decode cX8_isDigit 1 = .ok (.bipush 48, 2) := by decide +kernel
theorem dX8_isDigit_3 : decode cX8_isDigit 3 = .ok (.if_icmp .lt 13, 3) := by decide +kernel
theorem dX8_isDigit_6 : decode cX8_isDigit 6 = .ok (.iload_n 0, 1) := by decide +kernel
theorem dX8_isDigit_7 : decode cX8_isDigit 7 = .ok (.bipush 57, 2) := by decide +kernel
theorem dX8_isDigit_9 : decode cX8_isDigit 9 = .ok (.if_icmp .gt 7, 3) := by decide +kernel
theorem dX8_isDigit_12 : decode cX8_isDigit 12 = .ok (.iconst 1, 1) := by decide +kernel
theorem dX8_isDigit_13 : decode cX8_isDigit 13 = .ok (.goto 4, 3) := by decide +kernel
theorem dX8_isDigit_16 : decode cX8_isDigit 16 = .ok (.iconst 0, 1) := by decide +kernel
theorem dX8_isDigit_17 : decode cX8_isDigit 17 = .ok (.ireturn, 1) := by decide +kernel
theorem dX8_isSmallLetter_0 : decode cX8_isSmallLetter 0 = .ok (.iload_n 0, 1) := by decide +kernel
theorem dX8_isSmallLetter_1 : decode cX8_isSmallLetter 1 = .ok (.bipush 97, 2) := by decide +kernel
theorem dX8_isSmallLetter_3 : decode cX8_isSmallLetter 3 = .ok (.if_icmp .lt 13, 3) := by decide +kernel
theorem dX8_isSmallLetter_6 : decode cX8_isSmallLetter 6 = .ok (.iload_n 0, 1) := by decide +kernel
theorem dX8_isSmallLetter_7 : decode cX8_isSmallLetter 7 = .ok (.bipush 122, 2) := by decide +kernel
theorem dX8_isSmallLetter_9 : decode cX8_isSmallLetter 9 = .ok (.if_icmp .gt 7, 3) := by decide +kernel
theorem dX8_isSmallLetter_12 : decode cX8_isSmallLetter 12 = .ok (.iconst 1, 1) := by decide +kernel
theorem dX8_isSmallLetter_13 : decode cX8_isSmallLetter 13 = .ok (.goto 4, 3) := by decide +kernel
theorem dX8_isSmallLetter_16 : decode cX8_isSmallLetter 16 = .ok (.iconst 0, 1) := by decide +kernel
theorem dX8_isSmallLetter_17 : decode cX8_isSmallLetter 17 = .ok (.ireturn, 1) := by decide +kernel
theorem dX8_needsEscape_0 : decode cX8_needsEscape 0 = .ok (.iload_n 0, 1) := by decide +kernel
theorem dX8_needsEscape_1 : decode cX8_needsEscape 1 = .ok (.bipush 34, 2) := by decide +kernel
theorem dX8_needsEscape_3 : decode cX8_needsEscape 3 = .ok (.if_icmp .eq 9, 3) := by decide +kernel
theorem dX8_needsEscape_6 : decode cX8_needsEscape 6 = .ok (.iload_n 0, 1) := by decide +kernel
theorem dX8_needsEscape_7 : decode cX8_needsEscape 7 = .ok (.bipush 92, 2) := by decide +kernel
theorem dX8_needsEscape_9 : decode cX8_needsEscape 9 = .ok (.if_icmp .ne 7, 3) := by decide +kernel
theorem dX8_needsEscape_12 : decode cX8_needsEscape 12 = .ok (.iconst 1, 1) := by decide +kernel
theorem dX8_needsEscape_13 : decode cX8_needsEscape 13 = .ok (.goto 4, 3) := by decide +kernel
theorem dX8_needsEscape_16 : decode cX8_needsEscape 16 = .ok (.iconst 0, 1) := by decide +kernel
theorem dX8_needsEscape_17 : decode cX8_needsEscape 17 = .ok (.ireturn, 1) := by decide +kernel

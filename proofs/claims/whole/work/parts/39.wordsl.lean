/-! the words of the law, and of its helpers -/
noncomputable def WLL : List Cond := [Cond.classLink RL 8 RX8, Cond.instantiable RX8 6, Cond.classLink RL 53 RX9, Cond.instantiable RX9 31, Cond.constantLong RL 97 (4294967295), Cond.methodLink RL 44 yL_cell, Cond.static yL_cell, Cond.initialized RL, Cond.code yL_cell cL_cell 2 (some .int), Cond.methodLink RL 50 yX8_init, Cond.instanceMethod yX8_init, Cond.methodLink RL 55 yX9_init, Cond.instanceMethod yX9_init, Cond.methodLink RL 56 yX8_unit, Cond.instanceMethod yX8_unit, Cond.selects RX8 yX8_unit yX8_unit, Cond.methodLink RL 60 yX9_unit, Cond.instanceMethod yX9_unit, Cond.selects RX9 yX9_unit yX9_unit, Cond.methodLink RL 61 yX8_read, Cond.instanceMethod yX8_read, Cond.selects RX8 yX8_read yX8_read, Cond.methodLink RL 65 yX9_read, Cond.instanceMethod yX9_read, Cond.selects RX9 yX9_read yX9_read, Cond.methodLink RL 66 yL_kind, Cond.static yL_kind, Cond.codeWith yL_kind cL_kind 4 (some .int) [(0, 9, 12, 13)], Cond.classLink RL 13 "java/lang/IndexOutOfBoundsException", Cond.methodLink RL 7 yX8_kind, Cond.instanceMethod yX8_kind, Cond.selects RX8 yX8_kind yX8_kind, Cond.methodLink RL 69 yX9_kind, Cond.instanceMethod yX9_kind, Cond.selects RX9 yX9_kind yX9_kind, Cond.methodLink RL 70 yX9_thrown, Cond.instanceMethod yX9_thrown, Cond.selects RX9 yX9_thrown yX9_thrown, Cond.methodLink RL 73 yL_parent, Cond.static yL_parent, Cond.codeWith yL_parent cL_parent 4 (some .int) [(0, 9, 12, 13)], Cond.methodLink RL 15 yX8_parent, Cond.instanceMethod yX8_parent, Cond.selects RX8 yX8_parent yX8_parent, Cond.methodLink RL 75 yX9_parent, Cond.instanceMethod yX9_parent, Cond.selects RX9 yX9_parent yX9_parent, Cond.methodLink RL 76 yL_number, Cond.static yL_number, Cond.codeWith yL_number cL_number 5 (some .int) [(0, 9, 12, 13)], Cond.methodLink RL 18 yX8_number, Cond.instanceMethod yX8_number, Cond.selects RX8 yX8_number yX8_number, Cond.methodLink RL 79 yX9_number, Cond.instanceMethod yX9_number, Cond.selects RX9 yX9_number yX9_number, Cond.methodLink RL 80 yL_text, Cond.static yL_text, Cond.codeWith yL_text cL_text 6 (some .int) [(0, 12, 15, 13)], Cond.methodLink RL 22 yX8_text, Cond.instanceMethod yX8_text, Cond.selects RX8 yX8_text yX8_text, Cond.methodLink RL 83 yX9_text, Cond.instanceMethod yX9_text, Cond.selects RX9 yX9_text yX9_text, Cond.methodLink RL 84 yX8_version, Cond.instanceMethod yX8_version, Cond.selects RX8 yX8_version yX8_version, Cond.methodLink RL 87 yX9_version, Cond.instanceMethod yX9_version, Cond.selects RX9 yX9_version yX9_version, Cond.methodLink RL 88 yL_unknown, Cond.static yL_unknown, Cond.codeWith yL_unknown cL_unknown 5 (some .int) [(0, 10, 13, 13), (0, 10, 17, 30)], Cond.classLink RL 30 "java/lang/IllegalStateException", Cond.methodLink RL 26 yX8_unknown, Cond.instanceMethod yX8_unknown, Cond.selects RX8 yX8_unknown yX8_unknown, Cond.methodLink RL 90 yX9_unknown, Cond.instanceMethod yX9_unknown, Cond.selects RX9 yX9_unknown yX9_unknown, Cond.methodLink RL 91 yL_write, Cond.static yL_write, Cond.codeWith yL_write cL_write 4 (some .int) [(0, 9, 12, 13), (0, 9, 15, 30)], Cond.methodLink RL 32 yX8_write, Cond.instanceMethod yX8_write, Cond.selects RX8 yX8_write yX8_write, Cond.methodLink RL 93 yX9_write, Cond.instanceMethod yX9_write, Cond.selects RX9 yX9_write yX9_write, Cond.methodLink RL 94 yL_object, Cond.static yL_object, Cond.codeWith yL_object cL_object 5 (some .int) [(0, 10, 13, 13), (0, 10, 17, 38)], Cond.classLink RL 38 "java/lang/IllegalArgumentException", Cond.methodLink RL 35 yX8_object, Cond.instanceMethod yX8_object, Cond.selects RX8 yX8_object yX8_object, Cond.methodLink RL 96 yX9_object, Cond.instanceMethod yX9_object, Cond.selects RX9 yX9_object yX9_object, Cond.methodLink RL 99 yL_set, Cond.static yL_set, Cond.codeWith yL_set cL_set 7 (some .int) [(0, 19, 22, 13)], Cond.methodLink RL 40 yX8_set, Cond.instanceMethod yX8_set, Cond.selects RX8 yX8_set yX8_set, Cond.methodLink RL 102 yX9_set, Cond.instanceMethod yX9_set, Cond.selects RX9 yX9_set yX9_set, Cond.methodLink RL 103 yX8_depth, Cond.instanceMethod yX8_depth, Cond.selects RX8 yX8_depth yX8_depth, Cond.methodLink RL 106 yX9_depth, Cond.instanceMethod yX9_depth, Cond.selects RX9 yX9_depth yX9_depth, Cond.methodLink RL 107 yX8_clear, Cond.instanceMethod yX8_clear, Cond.selects RX8 yX8_clear yX8_clear, Cond.methodLink RL 110 yX9_clear, Cond.instanceMethod yX9_clear, Cond.selects RX9 yX9_clear yX9_clear]
noncomputable def WL : List Cond := WA8 ++ (WA9 ++ WLL)
set_option maxRecDepth 50000 in
theorem WLL_good : WLL.all goodWord = true := by decide +kernel
theorem WL_good : ∀ w ∈ WL, goodWord w = true := by
  intro w hw
  rcases List.mem_append.mp hw with h | h
  · exact WA8_good w h
  · rcases List.mem_append.mp h with h | h
    · exact List.all_eq_true.mp WA9_good w h
    · exact List.all_eq_true.mp WLL_good w h
theorem mL8 {w : Cond} (h : w ∈ WA8) : w ∈ WL := List.mem_append_left _ h
theorem mL9 {w : Cond} (h : w ∈ WA9) : w ∈ WL := List.mem_append_right _ (List.mem_append_left _ h)
theorem mLL {w : Cond} (h : w ∈ WLL) : w ∈ WL := List.mem_append_right _ (List.mem_append_right _ h)
theorem ml_0 : (Cond.classLink RL 8 RX8) ∈ WL := mLL (List.mem_of_getElem? (i := 0) rfl)
theorem ml_1 : (Cond.instantiable RX8 6) ∈ WL := mLL (List.mem_of_getElem? (i := 1) rfl)
theorem ml_2 : (Cond.classLink RL 53 RX9) ∈ WL := mLL (List.mem_of_getElem? (i := 2) rfl)
theorem ml_3 : (Cond.instantiable RX9 31) ∈ WL := mLL (List.mem_of_getElem? (i := 3) rfl)
theorem ml_4 : (Cond.constantLong RL 97 (4294967295)) ∈ WL := mLL (List.mem_of_getElem? (i := 4) rfl)
theorem ml_5 : (Cond.methodLink RL 44 yL_cell) ∈ WL := mLL (List.mem_of_getElem? (i := 5) rfl)
theorem ml_6 : (Cond.static yL_cell) ∈ WL := mLL (List.mem_of_getElem? (i := 6) rfl)
theorem ml_7 : (Cond.initialized RL) ∈ WL := mLL (List.mem_of_getElem? (i := 7) rfl)
theorem ml_8 : (Cond.code yL_cell cL_cell 2 (some .int)) ∈ WL := mLL (List.mem_of_getElem? (i := 8) rfl)
theorem ml_9 : (Cond.methodLink RL 50 yX8_init) ∈ WL := mLL (List.mem_of_getElem? (i := 9) rfl)
theorem ml_10 : (Cond.instanceMethod yX8_init) ∈ WL := mLL (List.mem_of_getElem? (i := 10) rfl)
theorem ml_11 : (Cond.methodLink RL 55 yX9_init) ∈ WL := mLL (List.mem_of_getElem? (i := 11) rfl)
theorem ml_12 : (Cond.instanceMethod yX9_init) ∈ WL := mLL (List.mem_of_getElem? (i := 12) rfl)
theorem ml_13 : (Cond.methodLink RL 56 yX8_unit) ∈ WL := mLL (List.mem_of_getElem? (i := 13) rfl)
theorem ml_14 : (Cond.instanceMethod yX8_unit) ∈ WL := mLL (List.mem_of_getElem? (i := 14) rfl)
theorem ml_15 : (Cond.selects RX8 yX8_unit yX8_unit) ∈ WL := mLL (List.mem_of_getElem? (i := 15) rfl)
theorem ml_16 : (Cond.methodLink RL 60 yX9_unit) ∈ WL := mLL (List.mem_of_getElem? (i := 16) rfl)
theorem ml_17 : (Cond.instanceMethod yX9_unit) ∈ WL := mLL (List.mem_of_getElem? (i := 17) rfl)
theorem ml_18 : (Cond.selects RX9 yX9_unit yX9_unit) ∈ WL := mLL (List.mem_of_getElem? (i := 18) rfl)
theorem ml_19 : (Cond.methodLink RL 61 yX8_read) ∈ WL := mLL (List.mem_of_getElem? (i := 19) rfl)
theorem ml_20 : (Cond.instanceMethod yX8_read) ∈ WL := mLL (List.mem_of_getElem? (i := 20) rfl)
theorem ml_21 : (Cond.selects RX8 yX8_read yX8_read) ∈ WL := mLL (List.mem_of_getElem? (i := 21) rfl)
theorem ml_22 : (Cond.methodLink RL 65 yX9_read) ∈ WL := mLL (List.mem_of_getElem? (i := 22) rfl)
theorem ml_23 : (Cond.instanceMethod yX9_read) ∈ WL := mLL (List.mem_of_getElem? (i := 23) rfl)
theorem ml_24 : (Cond.selects RX9 yX9_read yX9_read) ∈ WL := mLL (List.mem_of_getElem? (i := 24) rfl)
theorem ml_25 : (Cond.methodLink RL 66 yL_kind) ∈ WL := mLL (List.mem_of_getElem? (i := 25) rfl)
theorem ml_26 : (Cond.static yL_kind) ∈ WL := mLL (List.mem_of_getElem? (i := 26) rfl)
theorem ml_27 : (Cond.codeWith yL_kind cL_kind 4 (some .int) [(0, 9, 12, 13)]) ∈ WL := mLL (List.mem_of_getElem? (i := 27) rfl)
theorem ml_28 : (Cond.classLink RL 13 "java/lang/IndexOutOfBoundsException") ∈ WL := mLL (List.mem_of_getElem? (i := 28) rfl)
theorem ml_29 : (Cond.methodLink RL 7 yX8_kind) ∈ WL := mLL (List.mem_of_getElem? (i := 29) rfl)
theorem ml_30 : (Cond.instanceMethod yX8_kind) ∈ WL := mLL (List.mem_of_getElem? (i := 30) rfl)
theorem ml_31 : (Cond.selects RX8 yX8_kind yX8_kind) ∈ WL := mLL (List.mem_of_getElem? (i := 31) rfl)
theorem ml_32 : (Cond.methodLink RL 69 yX9_kind) ∈ WL := mLL (List.mem_of_getElem? (i := 32) rfl)
theorem ml_33 : (Cond.instanceMethod yX9_kind) ∈ WL := mLL (List.mem_of_getElem? (i := 33) rfl)
theorem ml_34 : (Cond.selects RX9 yX9_kind yX9_kind) ∈ WL := mLL (List.mem_of_getElem? (i := 34) rfl)
theorem ml_35 : (Cond.methodLink RL 70 yX9_thrown) ∈ WL := mLL (List.mem_of_getElem? (i := 35) rfl)
theorem ml_36 : (Cond.instanceMethod yX9_thrown) ∈ WL := mLL (List.mem_of_getElem? (i := 36) rfl)
theorem ml_37 : (Cond.selects RX9 yX9_thrown yX9_thrown) ∈ WL := mLL (List.mem_of_getElem? (i := 37) rfl)
theorem ml_38 : (Cond.methodLink RL 73 yL_parent) ∈ WL := mLL (List.mem_of_getElem? (i := 38) rfl)
theorem ml_39 : (Cond.static yL_parent) ∈ WL := mLL (List.mem_of_getElem? (i := 39) rfl)
theorem ml_40 : (Cond.codeWith yL_parent cL_parent 4 (some .int) [(0, 9, 12, 13)]) ∈ WL := mLL (List.mem_of_getElem? (i := 40) rfl)
theorem ml_41 : (Cond.methodLink RL 15 yX8_parent) ∈ WL := mLL (List.mem_of_getElem? (i := 41) rfl)
theorem ml_42 : (Cond.instanceMethod yX8_parent) ∈ WL := mLL (List.mem_of_getElem? (i := 42) rfl)
theorem ml_43 : (Cond.selects RX8 yX8_parent yX8_parent) ∈ WL := mLL (List.mem_of_getElem? (i := 43) rfl)
theorem ml_44 : (Cond.methodLink RL 75 yX9_parent) ∈ WL := mLL (List.mem_of_getElem? (i := 44) rfl)
theorem ml_45 : (Cond.instanceMethod yX9_parent) ∈ WL := mLL (List.mem_of_getElem? (i := 45) rfl)
theorem ml_46 : (Cond.selects RX9 yX9_parent yX9_parent) ∈ WL := mLL (List.mem_of_getElem? (i := 46) rfl)
theorem ml_47 : (Cond.methodLink RL 76 yL_number) ∈ WL := mLL (List.mem_of_getElem? (i := 47) rfl)
theorem ml_48 : (Cond.static yL_number) ∈ WL := mLL (List.mem_of_getElem? (i := 48) rfl)
theorem ml_49 : (Cond.codeWith yL_number cL_number 5 (some .int) [(0, 9, 12, 13)]) ∈ WL := mLL (List.mem_of_getElem? (i := 49) rfl)
theorem ml_50 : (Cond.methodLink RL 18 yX8_number) ∈ WL := mLL (List.mem_of_getElem? (i := 50) rfl)
theorem ml_51 : (Cond.instanceMethod yX8_number) ∈ WL := mLL (List.mem_of_getElem? (i := 51) rfl)
theorem ml_52 : (Cond.selects RX8 yX8_number yX8_number) ∈ WL := mLL (List.mem_of_getElem? (i := 52) rfl)
theorem ml_53 : (Cond.methodLink RL 79 yX9_number) ∈ WL := mLL (List.mem_of_getElem? (i := 53) rfl)
theorem ml_54 : (Cond.instanceMethod yX9_number) ∈ WL := mLL (List.mem_of_getElem? (i := 54) rfl)
theorem ml_55 : (Cond.selects RX9 yX9_number yX9_number) ∈ WL := mLL (List.mem_of_getElem? (i := 55) rfl)
theorem ml_56 : (Cond.methodLink RL 80 yL_text) ∈ WL := mLL (List.mem_of_getElem? (i := 56) rfl)
theorem ml_57 : (Cond.static yL_text) ∈ WL := mLL (List.mem_of_getElem? (i := 57) rfl)
theorem ml_58 : (Cond.codeWith yL_text cL_text 6 (some .int) [(0, 12, 15, 13)]) ∈ WL := mLL (List.mem_of_getElem? (i := 58) rfl)
theorem ml_59 : (Cond.methodLink RL 22 yX8_text) ∈ WL := mLL (List.mem_of_getElem? (i := 59) rfl)
theorem ml_60 : (Cond.instanceMethod yX8_text) ∈ WL := mLL (List.mem_of_getElem? (i := 60) rfl)
theorem ml_61 : (Cond.selects RX8 yX8_text yX8_text) ∈ WL := mLL (List.mem_of_getElem? (i := 61) rfl)
theorem ml_62 : (Cond.methodLink RL 83 yX9_text) ∈ WL := mLL (List.mem_of_getElem? (i := 62) rfl)
theorem ml_63 : (Cond.instanceMethod yX9_text) ∈ WL := mLL (List.mem_of_getElem? (i := 63) rfl)
theorem ml_64 : (Cond.selects RX9 yX9_text yX9_text) ∈ WL := mLL (List.mem_of_getElem? (i := 64) rfl)
theorem ml_65 : (Cond.methodLink RL 84 yX8_version) ∈ WL := mLL (List.mem_of_getElem? (i := 65) rfl)
theorem ml_66 : (Cond.instanceMethod yX8_version) ∈ WL := mLL (List.mem_of_getElem? (i := 66) rfl)
theorem ml_67 : (Cond.selects RX8 yX8_version yX8_version) ∈ WL := mLL (List.mem_of_getElem? (i := 67) rfl)
theorem ml_68 : (Cond.methodLink RL 87 yX9_version) ∈ WL := mLL (List.mem_of_getElem? (i := 68) rfl)
theorem ml_69 : (Cond.instanceMethod yX9_version) ∈ WL := mLL (List.mem_of_getElem? (i := 69) rfl)
theorem ml_70 : (Cond.selects RX9 yX9_version yX9_version) ∈ WL := mLL (List.mem_of_getElem? (i := 70) rfl)
theorem ml_71 : (Cond.methodLink RL 88 yL_unknown) ∈ WL := mLL (List.mem_of_getElem? (i := 71) rfl)
theorem ml_72 : (Cond.static yL_unknown) ∈ WL := mLL (List.mem_of_getElem? (i := 72) rfl)
theorem ml_73 : (Cond.codeWith yL_unknown cL_unknown 5 (some .int) [(0, 10, 13, 13), (0, 10, 17, 30)]) ∈ WL := mLL (List.mem_of_getElem? (i := 73) rfl)
theorem ml_74 : (Cond.classLink RL 30 "java/lang/IllegalStateException") ∈ WL := mLL (List.mem_of_getElem? (i := 74) rfl)
theorem ml_75 : (Cond.methodLink RL 26 yX8_unknown) ∈ WL := mLL (List.mem_of_getElem? (i := 75) rfl)
theorem ml_76 : (Cond.instanceMethod yX8_unknown) ∈ WL := mLL (List.mem_of_getElem? (i := 76) rfl)
theorem ml_77 : (Cond.selects RX8 yX8_unknown yX8_unknown) ∈ WL := mLL (List.mem_of_getElem? (i := 77) rfl)
theorem ml_78 : (Cond.methodLink RL 90 yX9_unknown) ∈ WL := mLL (List.mem_of_getElem? (i := 78) rfl)
theorem ml_79 : (Cond.instanceMethod yX9_unknown) ∈ WL := mLL (List.mem_of_getElem? (i := 79) rfl)
theorem ml_80 : (Cond.selects RX9 yX9_unknown yX9_unknown) ∈ WL := mLL (List.mem_of_getElem? (i := 80) rfl)
theorem ml_81 : (Cond.methodLink RL 91 yL_write) ∈ WL := mLL (List.mem_of_getElem? (i := 81) rfl)
theorem ml_82 : (Cond.static yL_write) ∈ WL := mLL (List.mem_of_getElem? (i := 82) rfl)
theorem ml_83 : (Cond.codeWith yL_write cL_write 4 (some .int) [(0, 9, 12, 13), (0, 9, 15, 30)]) ∈ WL := mLL (List.mem_of_getElem? (i := 83) rfl)
theorem ml_84 : (Cond.methodLink RL 32 yX8_write) ∈ WL := mLL (List.mem_of_getElem? (i := 84) rfl)
theorem ml_85 : (Cond.instanceMethod yX8_write) ∈ WL := mLL (List.mem_of_getElem? (i := 85) rfl)
theorem ml_86 : (Cond.selects RX8 yX8_write yX8_write) ∈ WL := mLL (List.mem_of_getElem? (i := 86) rfl)
theorem ml_87 : (Cond.methodLink RL 93 yX9_write) ∈ WL := mLL (List.mem_of_getElem? (i := 87) rfl)
theorem ml_88 : (Cond.instanceMethod yX9_write) ∈ WL := mLL (List.mem_of_getElem? (i := 88) rfl)
theorem ml_89 : (Cond.selects RX9 yX9_write yX9_write) ∈ WL := mLL (List.mem_of_getElem? (i := 89) rfl)
theorem ml_90 : (Cond.methodLink RL 94 yL_object) ∈ WL := mLL (List.mem_of_getElem? (i := 90) rfl)
theorem ml_91 : (Cond.static yL_object) ∈ WL := mLL (List.mem_of_getElem? (i := 91) rfl)
theorem ml_92 : (Cond.codeWith yL_object cL_object 5 (some .int) [(0, 10, 13, 13), (0, 10, 17, 38)]) ∈ WL := mLL (List.mem_of_getElem? (i := 92) rfl)
theorem ml_93 : (Cond.classLink RL 38 "java/lang/IllegalArgumentException") ∈ WL := mLL (List.mem_of_getElem? (i := 93) rfl)
theorem ml_94 : (Cond.methodLink RL 35 yX8_object) ∈ WL := mLL (List.mem_of_getElem? (i := 94) rfl)
theorem ml_95 : (Cond.instanceMethod yX8_object) ∈ WL := mLL (List.mem_of_getElem? (i := 95) rfl)
theorem ml_96 : (Cond.selects RX8 yX8_object yX8_object) ∈ WL := mLL (List.mem_of_getElem? (i := 96) rfl)
theorem ml_97 : (Cond.methodLink RL 96 yX9_object) ∈ WL := mLL (List.mem_of_getElem? (i := 97) rfl)
theorem ml_98 : (Cond.instanceMethod yX9_object) ∈ WL := mLL (List.mem_of_getElem? (i := 98) rfl)
theorem ml_99 : (Cond.selects RX9 yX9_object yX9_object) ∈ WL := mLL (List.mem_of_getElem? (i := 99) rfl)
theorem ml_100 : (Cond.methodLink RL 99 yL_set) ∈ WL := mLL (List.mem_of_getElem? (i := 100) rfl)
theorem ml_101 : (Cond.static yL_set) ∈ WL := mLL (List.mem_of_getElem? (i := 101) rfl)
theorem ml_102 : (Cond.codeWith yL_set cL_set 7 (some .int) [(0, 19, 22, 13)]) ∈ WL := mLL (List.mem_of_getElem? (i := 102) rfl)
theorem ml_103 : (Cond.methodLink RL 40 yX8_set) ∈ WL := mLL (List.mem_of_getElem? (i := 103) rfl)
theorem ml_104 : (Cond.instanceMethod yX8_set) ∈ WL := mLL (List.mem_of_getElem? (i := 104) rfl)
theorem ml_105 : (Cond.selects RX8 yX8_set yX8_set) ∈ WL := mLL (List.mem_of_getElem? (i := 105) rfl)
theorem ml_106 : (Cond.methodLink RL 102 yX9_set) ∈ WL := mLL (List.mem_of_getElem? (i := 106) rfl)
theorem ml_107 : (Cond.instanceMethod yX9_set) ∈ WL := mLL (List.mem_of_getElem? (i := 107) rfl)
theorem ml_108 : (Cond.selects RX9 yX9_set yX9_set) ∈ WL := mLL (List.mem_of_getElem? (i := 108) rfl)
theorem ml_109 : (Cond.methodLink RL 103 yX8_depth) ∈ WL := mLL (List.mem_of_getElem? (i := 109) rfl)
theorem ml_110 : (Cond.instanceMethod yX8_depth) ∈ WL := mLL (List.mem_of_getElem? (i := 110) rfl)
theorem ml_111 : (Cond.selects RX8 yX8_depth yX8_depth) ∈ WL := mLL (List.mem_of_getElem? (i := 111) rfl)
theorem ml_112 : (Cond.methodLink RL 106 yX9_depth) ∈ WL := mLL (List.mem_of_getElem? (i := 112) rfl)
theorem ml_113 : (Cond.instanceMethod yX9_depth) ∈ WL := mLL (List.mem_of_getElem? (i := 113) rfl)
theorem ml_114 : (Cond.selects RX9 yX9_depth yX9_depth) ∈ WL := mLL (List.mem_of_getElem? (i := 114) rfl)
theorem ml_115 : (Cond.methodLink RL 107 yX8_clear) ∈ WL := mLL (List.mem_of_getElem? (i := 115) rfl)
theorem ml_116 : (Cond.instanceMethod yX8_clear) ∈ WL := mLL (List.mem_of_getElem? (i := 116) rfl)
theorem ml_117 : (Cond.selects RX8 yX8_clear yX8_clear) ∈ WL := mLL (List.mem_of_getElem? (i := 117) rfl)
theorem ml_118 : (Cond.methodLink RL 110 yX9_clear) ∈ WL := mLL (List.mem_of_getElem? (i := 118) rfl)
theorem ml_119 : (Cond.instanceMethod yX9_clear) ∈ WL := mLL (List.mem_of_getElem? (i := 119) rfl)
theorem ml_120 : (Cond.selects RX9 yX9_clear yX9_clear) ∈ WL := mLL (List.mem_of_getElem? (i := 120) rfl)
theorem gdl {c0 : Cond} {ws : List Cond} (h : ∀ w ∈ ws, w ∈ WL) : GoodIn (c0 :: WL) ws := fun w hw => ⟨List.mem_cons_of_mem _ (h w hw), good_of_word (WL_good w (h w hw))⟩
theorem gdl_v {c0 cw : Cond} {own C : String} {idx : Nat} {y : MethodName} (h1 : Cond.methodLink own idx y ∈ WL) (h2 : Cond.instanceMethod y ∈ WL) (h3 : Cond.selects C y y ∈ WL) (h4 : Cond.initialized C ∈ WL) (h5 : cw ∈ WL) : GoodIn (c0 :: WL) (wsV own idx C y (cw :: WA8)) := by
  refine gdl (fun w hw => ?_)
  rcases List.mem_append.mp hw with h | h
  · simp only [List.mem_cons, List.not_mem_nil, or_false] at h
    rcases h with rfl | rfl | rfl | rfl
    · exact h1
    · exact h2
    · exact h3
    · exact h4
  · rcases List.mem_cons.mp h with rfl | h
    · exact h5
    · exact mL8 h
theorem gdl_9 {c0 cw : Cond} {own C : String} {idx : Nat} {y : MethodName} (h1 : Cond.methodLink own idx y ∈ WL) (h2 : Cond.instanceMethod y ∈ WL) (h3 : Cond.selects C y y ∈ WL) (h4 : Cond.initialized C ∈ WL) (h5 : cw ∈ WL) : GoodIn (c0 :: WL) (wsV own idx C y (cw :: WA9)) := by
  refine gdl (fun w hw => ?_)
  rcases List.mem_append.mp hw with h | h
  · simp only [List.mem_cons, List.not_mem_nil, or_false] at h
    rcases h with rfl | rfl | rfl | rfl
    · exact h1
    · exact h2
    · exact h3
    · exact h4
  · rcases List.mem_cons.mp h with rfl | h
    · exact h5
    · exact mL9 h
theorem gdl_s {c0 cw : Cond} {own : String} {idx : Nat} {y : MethodName} (h1 : Cond.methodLink own idx y ∈ WL) (h2 : Cond.static y ∈ WL) (h3 : Cond.initialized y.cls ∈ WL) (h5 : cw ∈ WL) : GoodIn (c0 :: WL) (va_wsS own idx y (cw :: WL)) := by
  refine gdl (fun w hw => ?_)
  rcases List.mem_append.mp hw with h | h
  · simp only [List.mem_cons, List.not_mem_nil, or_false] at h
    rcases h with rfl | rfl | rfl
    · exact h1
    · exact h2
    · exact h3
  · rcases List.mem_cons.mp h with rfl | h
    · exact h5
    · exact h
/-- the pairs of exceptions of which the first is no second -/
def nn8 : List (String × String) := [(exN 2, exN 1), (exN 3, exN 1)]
def STL (G : Gx) (A : Nat → Prop) (U : State) (H : Heap) : Prop := ST8 G A U H ∧ ∀ q ∈ nn8, va_Nc q.1 q.2 U
def pXL (G : Gx) (w : va_W) (sz : Nat) (av : List Value) : Array Value → State → Prop :=
  va_Pc av (fun U => U.heap.size = sz ∧ va_P (gD G) vwCl w U.heap ∧ va_K (gD G) vwCl (tyG G) U ∧ va_D (fun _ => True) w ∧ STL G (va_A w sz) U U.heap)
theorem pXL_blind {G : Gx} {w : va_W} {sz : Nat} {av : List Value} : FrameBlind (pXL G w sz av) := by
  intro a U g mk q
  obtain ⟨q0, q1, qP, qK, qD, q8, qn⟩ := q
  obtain ⟨r0, r1, rP, rK, rD, r8⟩ := pX8_blind (G := G) (w := w) (sz := sz) (av := av) a U g mk ⟨q0, q1, qP, qK, qD, q8⟩
  exact ⟨r0, r1, rP, rK, rD, r8, fun q hq => va_Nc.moved (Vm.Alike.refl U.vm) (U := U.calling g mk a) (qn q hq)⟩
theorem vi01 : vp_in (0 : Int32) 1 := by unfold vp_in; decide
/-- the law's own array of one long -/
def oL (G : Gx) (o : Nat) (fo : Nat → Int64) : va_W := [(o, .inl (gJ G, 1, .inr (.inl fo)))]
theorem mt_h {l : Launch} {y : MethodName} {ws ws' : List Cond} {rm : Room} {Pc : Array Value → State → Prop} {Qc : Array Value → State → Outcome → State → Prop} {mc ms : Nat} {free : Addr → Prop} {cc : ByteArray} {maxL : Nat} {ret : Option FieldType} {hh : List (Nat × Nat × Nat × Nat)}
    (hy : plainName y.cls = true) (hw : ws = Cond.codeWith y cc maxL ret hh :: ws')
    (body : ∀ p e s m args below meth c s₁, BodyLoose p l y (headSpec ws rm) cc maxL ret e s m args below meth c s₁ → c.maxLocals = maxL → c.exceptionTable.toList = tableOf hh → Pc args s →
      W p l e (headSpec ws rm).room s m args below meth c s.heap [] 0 0 (MQ below Qc args s mc ms free) (entryFrame m args maxL)) : Met l y ws rm Pc Qc mc ms free := by
  refine MetFree.of_bodyS (code := cc) (maxLocals := maxL) (ret := ret) hy ?_ ?_
  · intro args s m h hn
    obtain ⟨m9, meth, c, hn9, h1, h2, h3, h4, -, h5, h6, -⟩ := Cond.codeWith_spec (atoms_spec (ws := ws) h _ (by rw [hw]; exact List.mem_cons_self))
    cases hn.symm.trans hn9
    exact ⟨meth, c, h1, h2, h3, h4, h5, h6⟩
  · intro p e s m args below meth c s₁ B hml hP _
    have hh0 : s₁.heap = s.heap := by rw [B.state]; rfl
    obtain ⟨t, a1, o, b1, b2, b3⟩ := body p e s m args below meth c s₁ B hml (vx_table (x := y) B (atoms_spec (ws := ws) B.pre _ (by rw [hw]; exact List.mem_cons_self))) hP s₁ hh0 (Stand.of_body B)
    exact ⟨t, o, a1, b1, b2, ⟨b3.1, b3.2⟩⟩
section BL
variable {p : Program} {l : Launch} {e : Env} {R : Room} {s : State} {m : MethodId} {args : Array Value} {below : List Frame} {meth : Method} {c : Code} {H : Heap} {locs : List Loc} {cells slots : Nat} {Q : State → Prop}
variable {cc : ByteArray} {nL : Nat} {own : String} {pc : Nat} {ls : Array Slot} {rest st0 st1 : List Value} {G : Gx} {A : Nat → Prop} {w0 w1 w wr w' : va_W} {cw : Cond} {ret0 : Option FieldType}
theorem preL {av : List Value} (hK : va_K (gD G) vwCl (tyG G) s) (hA : ∀ q : Nat, s.heap.size ≤ q → A q) (hP : va_P (gD G) vwCl w H) (hD : va_D A w) (hS : va_S A s.heap H locs) (hT : STL G A s s.heap) (isC : List Nat) (hnd : va_nd isC = true) (hC : isC.map (fun i => w[i]?) = w0.map some) :
    ∀ U : State, U.heap = H → s.WarmedH U.vm → pXL G w0 H.size av av.toArray U := by
  intro U hU hW
  obtain ⟨h8, hn⟩ := hT
  obtain ⟨q0, q1, q2, q3, q4, q5⟩ := pre8 (av := av) hK hA hP hD hS h8 isC hnd hC U hU hW
  exact ⟨q0, q1, q2, q3, q4, q5, fun q hq => va_Nc.moved hW.alike (hn q hq)⟩
theorem mx_h {y : MethodName} {ws ws' : List Cond} {rm : Room} {maxL sz : Nat} {ret : Option FieldType} {hh : List (Nat × Nat × Nat × Nat)} {av : List Value} {v : Option Value} (hy : plainName y.cls = true) (hw : ws = Cond.codeWith y cc maxL ret hh :: ws') (hn : (lg_sl av).length ≤ maxL)
    (body : ∀ (p : Program) (e : Env) (s : State) (m : MethodId) (below : List Frame) (meth : Method) (c : Code) (ls : Array Slot) (A : Nat → Prop), Cx p s m av.toArray meth c cc maxL ws y.cls ret → c.exceptionTable.toList = tableOf hh → lv_has ls maxL (lv_args 0 av) → va_K (gD G) vwCl (tyG G) s → (∀ q : Nat, s.heap.size ≤ q → A q) → STL G A s s.heap → va_P (gD G) vwCl w s.heap → va_D A w → va_S A s.heap s.heap [] →
      W p l e rm s m av.toArray below meth c s.heap [] 0 0 (MQ below (qW v w1 (gD G) (tyG G) A) av.toArray s 1 6 A) (F0 m 0 ls [])) : Met l y ws rm (pXL G w sz av) (qW v w1 (gD G) (tyG G) (va_A w sz)) 1 6 (va_A w sz) := by
  refine mt_h (cc := cc) (maxL := maxL) (ret := ret) (hh := hh) hy hw ?_
  intro p e s m args below meth c s₁ B hml htb hv
  obtain ⟨rfl, hsz, hP, hK, hD, hT⟩ := hv
  subst hsz
  rw [lg_entry_eq]
  exact body p e s m below meth c _ _ ⟨⟨B.exec, B.bytes, hml, findClass_of_methodNamed B.named, atoms_spec (ws := ws) B.pre⟩, B.returns, B.notSynchronized⟩ htb (lv_entry av hn) hK (fun q h => Or.inr h) hT hP hD.self va_S.rf
theorem xw8_V {y : MethodName} {bytes : ByteArray} {maxL n index : Nat} {ret : Option FieldType} {ws Ts : List Cond} {rm : Room} {C0 : String} {b : Addr} {As : List Value} {ov : Option Value} (C : Cx p s m args meth c cc nL Ts own ret0) (hM : Met l y ws rm (pX8 G w0 H.size (.ref b :: As)) (qW ov w1 (gD G) (tyG G) (va_A w0 H.size)) 0 0 (va_A w0 H.size)) (cwv : CallW R s args own C0 index y bytes maxL ret ws rm 0 0 n) (hK : va_K (gD G) vwCl (tyG G) s) (hA : ∀ q : Nat, s.heap.size ≤ q → A q) (hT : ST8 G A s s.heap) (hP : va_P (gD G) vwCl w H) (hD : va_D A w) (hS : va_S A s.heap H locs)
    (hrec : ∃ cell : Cell, H[b]? = some cell ∧ cell.vm.isStatics = false ∧ s.vm.findClass C0 = some cell.cls) (isC isR is2 : List Nat) (hnd : va_nd isC = true) (hC : isC.map (fun i => w[i]?) = w0.map some) (hR : isR.map (fun i => w[i]?) = wr.map some) (hnR : va_nd isR = true) (hdis : ∀ i ∈ isR, i ∉ isC) (hn2 : va_nd is2 = true) (h2 : is2.map (fun i => (wr ++ w1)[i]?) = w'.map some) (hn : As.length = n) (hsize : ls.size = nL) (hstack : st0 = As.reverse ++ .ref b :: rest) (hst1 : ov.toList ++ rest = st1) (hW : (rest.map fun v => v.category).sum ≤ 8) (hdg : decode cc pc = .ok (.invokevirtual index, 3))
    (kk : ∀ (H1 : Heap) (locs1 : List Loc), va_P (gD G) vwCl w' H1 → va_D A w' → va_S A s.heap H1 locs1 → W p l e R s m args below meth c H1 locs1 0 0 Q (F0 m (pc + 3) ls st1)) : W p l e R s m args below meth c H locs 0 0 Q (F0 m pc ls st0) :=
  xw_go (va_runV (g := F0 m pc ls st0) C.1 hM cwv ⟨pX8_blind, hrec, pre8 hK hA hP hD hS hT isC hnd hC⟩ rfl hn hsize hstack (lv_room hW) hdg ⟨Nat.zero_le _, Nat.zero_le _⟩) hA hP hD hS isC isR is2 hC hR hnR hdis hn2 h2 hst1 kk
/-- a callee that throws, in a method that catches -/
theorem xh8_V {y : MethodName} {bytes : ByteArray} {maxL n index ek : Nat} {ret : Option FieldType} {ws Ts : List Cond} {rm : Room} {C0 : String} {b : Addr} {As : List Value} {pre suf : List ExceptionTableEntry} {x : ExceptionTableEntry} (C : Cx p s m args meth c cc nL Ts own ret0) (hM : vx_Met l y ws rm (pX8 G w0 s.heap.size (.ref b :: As)) Q0 (xc8 ek) 1 6 (fun _ => False)) (cwv : CallW R s args own C0 index y bytes maxL ret ws rm 1 6 n) (hK : va_K (gD G) vwCl (tyG G) s) (hA : ∀ q : Nat, s.heap.size ≤ q → A q) (hT : ST8 G A s s.heap) (hP : va_P (gD G) vwCl w s.heap) (hD : va_D A w) (hS : va_S A s.heap s.heap [])
    (hrec : ∃ cell : Cell, s.heap[b]? = some cell ∧ cell.vm.isStatics = false ∧ s.vm.findClass C0 = some cell.cls) (isC : List Nat) (hnd : va_nd isC = true) (hC : isC.map (fun i => w[i]?) = w0.map some) (hn : As.length = n) (hsize : ls.size = nL) (hstack : st0 = As.reverse ++ .ref b :: rest) (hW : (rest.map fun v => v.category).sum ≤ 8) (hR : 1 ≤ R.cells ∧ 6 ≤ R.slots) (hdg : decode cc pc = .ok (.invokevirtual index, 3))
    (hsplit : c.exceptionTable.toList = pre ++ x :: suf) (hpass : ∀ z ∈ pre, covers z pc = false ∨ (z.catchType ≠ 0 ∧ ∃ nm : String, (Cond.classLink own z.catchType nm).before args s = true ∧ va_Nc (exN ek) nm s)) (hx : covers x pc = true) (h0 : x.catchType ≠ 0) (hlink : (Cond.classLink own x.catchType (exN ek)).before args s = true) (hcast : (Cond.castable (exN ek) (exN ek)).before args s = true)
    (kk : ∀ (q : Nat) (H1 : Heap), va_P (gD G) vwCl w H1 → va_S A s.heap H1 [] → W p l e R s m args below meth c H1 [] 1 6 Q (F0 m x.handlerPc ls [.ref q])) :
    W p l e R s m args below meth c s.heap [] 0 0 Q (F0 m pc ls st0) := by
  have hr := vx_runV (g := F0 m pc ls st0) (l := l) (e := e) (R := R) (below := below) (meth := meth) (locs := []) (cells := 0) (slots := 0) C.1 hM cwv ⟨pX8_blind, hrec, pre8 hK hA hP hD hS hT isC hnd hC⟩ rfl hn hsize hstack (lv_room hW) hdg ⟨by omega, by omega⟩
  intro T hTh X
  rcases hr T hTh X with ⟨v, st₀, t, T', L, h0', X', hL, e1, e2, hq, st⟩ | ⟨q, st₀, t, T', L, E, ce, h0', X', hL, e1, e2, hx', hce, hcv, hcl, st⟩
  · exact hq.elim
  · have hLn : L = [] := List.eq_nil_iff_forall_not_mem.mpr (fun z hz => hL z hz)
    subst hLn
    obtain ⟨hE, hz, hk⟩ := hx'
    rw [h0'] at hz hk
    subst hE
    have hP1 : va_P (gD G) vwCl w T'.heap := hP.kept (fun k x9 hx9 => by rw [e1]; exact hk _ ((hP k x9 hx9).lt))
    have hS1 : va_S A s.heap T'.heap [] := ⟨by rw [e1]; exact hz, fun q9 h1 _ => by rw [e1]; exact hk q9 h1, fun _ h => by cases h⟩
    obtain ⟨t2, a1, b1⟩ := vx_catch (E := exN ek) (name := exN ek) (ce := ce) (q := q) (H := T'.heap) (rest := rest) (ls := ls) (pc := pc) (Q := Q) C.1.2.2.2.1 pre x suf hsplit hpass hx h0 hlink hcast (by rw [e1]; exact hce) hcv hcl (kk q T'.heap hP1 hS1) T' rfl X'
    exact ⟨t2, st.trans a1, b1⟩
end BL

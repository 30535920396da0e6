/-! the words of the class, one list for all its methods -/
noncomputable def WAX0 : List Cond := [Cond.code yX0_lettered cX0_lettered 1 (some (.object "SchematicText$Field")), Cond.fieldLink RX0 5 "SchematicText$Field" "TEXT" "LSchematicText$Field;", Cond.fieldLink RX0 9 "SchematicText$Field" "LENGTH" "LSchematicText$Field;", Cond.fieldLink RX0 12 "SchematicText$Field" "SIZE" "LSchematicText$Field;", Cond.fieldLink RX0 15 "SchematicText$Field" "PAGE" "LSchematicText$Field;", Cond.fieldLink RX0 18 "SchematicText$Field" "UNIT_NUMBER" "LSchematicText$Field;", Cond.fieldLink RX0 21 "SchematicText$Field" "PIN_KIND" "LSchematicText$Field;", Cond.fieldLink RX0 24 "SchematicText$Field" "ANGLE" "LSchematicText$Field;", Cond.code yX0_isText cX0_isText 1 (some .boolean), Cond.fieldLink RX0 49 "SchematicText$Field" "sort" "I", Cond.code yX0_isLength cX0_isLength 1 (some .boolean), Cond.code yX0_admits cX0_admits 3 (some .boolean), Cond.fieldLink RX0 53 "SchematicText$Field" "lowest" "J", Cond.fieldLink RX0 57 "SchematicText$Field" "highest" "J", Cond.code yX1_init cX1_init 1 none, Cond.methodLink RX1 3 objectInit, Cond.instanceMethod objectInit, Cond.code objectInit ⟨#[0xb1]⟩ 1 none, Cond.code yX1_takeName cX1_takeName 7 (some .int), Cond.methodLink RX1 15 yX6_passLetters, Cond.instanceMethod yX6_passLetters, Cond.selects RX6 yX6_passLetters yX6_passLetters, Cond.initialized RX6, Cond.code yX6_passLetters cX6_passLetters 1 none, Cond.fieldLink RX6 19 "SchematicText$Source" "at" "I", Cond.fieldLink RX6 15 "SchematicText$Source" "count" "I", Cond.methodLink RX6 33 yX6_mark, Cond.instanceMethod yX6_mark, Cond.selects RX6 yX6_mark yX6_mark, Cond.code yX6_mark cX6_mark 1 (some .int), Cond.fieldLink RX6 9 "SchematicText$Source" "marks" "[C", Cond.static yX8_isSmallLetter, Cond.initialized RX8, Cond.code yX8_isSmallLetter cX8_isSmallLetter 1 (some .boolean), Cond.methodLink RX1 18 yX6_kindNamed, Cond.instanceMethod yX6_kindNamed, Cond.selects RX6 yX6_kindNamed yX6_kindNamed, Cond.code yX6_kindNamed cX6_kindNamed 7 (some (.object "SchematicText$Kind")), Cond.fieldLink RX6 67 "SchematicText$Kind" "UNKNOWN" "LSchematicText$Kind;", Cond.methodLink RX6 63 yX6_reads, Cond.instanceMethod yX6_reads, Cond.selects RX6 yX6_reads yX6_reads, Cond.code yX6_reads cX6_reads 5 (some .boolean), Cond.methodLink RX6 71 yJ0_length_8abf5, Cond.instanceMethod yJ0_length_8abf5, Cond.selects RJ0 yJ0_length_8abf5 yJ0_length_8abf5, Cond.initialized RJ0, Cond.code yJ0_length_8abf5 cJ0_length_8abf5 1 (some .int), Cond.fieldLink RJ0 9 "java/lang/String" "value" "[B", Cond.methodLink RJ0 335 yJ0_coder_7d493, Cond.instanceMethod yJ0_coder_7d493, Cond.selects RJ0 yJ0_coder_7d493 yJ0_coder_7d493, Cond.code yJ0_coder_7d493 cJ0_coder_7d493 1 (some .byte), Cond.fieldLink RJ0 38 "java/lang/String" "COMPACT_STRINGS" "Z", Cond.fieldLink RJ0 15 "java/lang/String" "coder" "B", Cond.methodLink RX6 43 yX6_markAt, Cond.instanceMethod yX6_markAt, Cond.selects RX6 yX6_markAt yX6_markAt, Cond.code yX6_markAt cX6_markAt 2 (some .int), Cond.methodLink RX6 76 yJ0_charAt_5068e, Cond.instanceMethod yJ0_charAt_5068e, Cond.selects RJ0 yJ0_charAt_5068e yJ0_charAt_5068e, Cond.code yJ0_charAt_5068e cJ0_charAt_5068e 2 (some .char), Cond.methodLink RJ0 492 yJ0_isLatin1_aae02, Cond.instanceMethod yJ0_isLatin1_aae02, Cond.selects RJ0 yJ0_isLatin1_aae02 yJ0_isLatin1_aae02, Cond.code yJ0_isLatin1_aae02 cJ0_isLatin1_aae02 1 (some .boolean), Cond.methodLink RJ0 495 yJ1_charAt_3b067, Cond.static yJ1_charAt_3b067, Cond.initialized RJ1, Cond.code yJ1_charAt_3b067 cJ1_charAt_3b067 2 (some .char), Cond.methodLink RJ1 9 yJ0_checkIndex_df160, Cond.static yJ0_checkIndex_df160, Cond.code yJ0_checkIndex_df160 cJ0_checkIndex_df160 2 none, Cond.fieldLink RJ0 1053 "jdk/internal/util/Preconditions" "SIOOBE_FORMATTER" "Ljava/util/function/BiFunction;", Cond.methodLink RJ0 1059 yJ3_checkIndex_8e157, Cond.static yJ3_checkIndex_8e157, Cond.initialized RJ3, Cond.code yJ3_checkIndex_8e157 cJ3_checkIndex_8e157 3 (some .int), Cond.methodLink RJ0 498 yJ2_charAt_3b067, Cond.static yJ2_charAt_3b067, Cond.initialized RJ2, Cond.code yJ2_charAt_3b067 cJ2_charAt_3b067 2 (some .char), Cond.methodLink RJ2 67 yJ2_checkIndex_2214a, Cond.static yJ2_checkIndex_2214a, Cond.code yJ2_checkIndex_2214a cJ2_checkIndex_2214a 2 none, Cond.methodLink RJ2 48 yJ2_length_9d52b, Cond.static yJ2_length_9d52b, Cond.code yJ2_length_9d52b cJ2_length_9d52b 1 (some .int), Cond.methodLink RJ2 414 yJ0_checkIndex_df160, Cond.methodLink RJ2 71 yJ2_getChar_3b067, Cond.static yJ2_getChar_3b067, Cond.code yJ2_getChar_3b067 cJ2_getChar_3b067 2 (some .char), Cond.fieldLink RJ2 44 "java/lang/StringUTF16" "$assertionsDisabled" "Z", Cond.fieldLink RJ2 59 "java/lang/StringUTF16" "HI_BYTE_SHIFT" "I", Cond.fieldLink RJ2 63 "java/lang/StringUTF16" "LO_BYTE_SHIFT" "I", Cond.methodLink RX1 22 yX7_mayHold, Cond.instanceMethod yX7_mayHold, Cond.selects RX7 yX7_mayHold yX7_mayHold, Cond.initialized RX7, Cond.code yX7_mayHold cX7_mayHold 3 (some .boolean), Cond.fieldLink RX7 54 "SchematicText$Tree" "count" "I", Cond.fieldLink RX7 80 "SchematicText$Kind" "DESIGN" "LSchematicText$Kind;", Cond.methodLink RX7 63 yX7_has, Cond.instanceMethod yX7_has, Cond.selects RX7 yX7_has yX7_has, Cond.code yX7_has cX7_has 2 (some .boolean), Cond.methodLink RX7 73 yX7_kindOf, Cond.instanceMethod yX7_kindOf, Cond.selects RX7 yX7_kindOf yX7_kindOf, Cond.code yX7_kindOf cX7_kindOf 2 (some (.object "SchematicText$Kind")), Cond.fieldLink RX7 9 "SchematicText$Tree" "kinds" "[I", Cond.methodLink RX7 67 yX2_numbered, Cond.static yX2_numbered, Cond.initialized RX2, Cond.code yX2_numbered cX2_numbered 1 (some (.object "SchematicText$Kind")), Cond.fieldLink RX2 69 "SchematicText$Kind" "ALL" "[LSchematicText$Kind;", Cond.fieldLink RX2 33 "SchematicText$Kind" "UNKNOWN" "LSchematicText$Kind;", Cond.methodLink RX7 76 yX2_mayBeIn, Cond.instanceMethod yX2_mayBeIn, Cond.selects RX2 yX2_mayBeIn yX2_mayBeIn, Cond.code yX2_mayBeIn cX2_mayBeIn 2 (some .boolean), Cond.fieldLink RX2 63 "SchematicText$Kind" "homes" "I", Cond.fieldLink RX2 55 "SchematicText$Kind" "number" "I", Cond.methodLink RX1 28 yX7_grow, Cond.instanceMethod yX7_grow, Cond.selects RX7 yX7_grow yX7_grow, Cond.code yX7_grow cX7_grow 4 (some .int), Cond.fieldLink RX7 15 "SchematicText$Tree" "parents" "[I", Cond.fieldLink RX7 18 "SchematicText$Tree" "depths" "[I", Cond.fieldLink RX7 57 "SchematicText$Tree" "deepest" "I", Cond.methodLink RX7 91 Lib.Math.max.name, Cond.static Lib.Math.max.name, Cond.initialized "java/lang/Math", Cond.code Lib.Math.max.name Lib.Math.max.code 2 (some .int), Cond.fieldLink RX7 21 "SchematicText$Tree" "firsts" "[I", Cond.fieldLink RX7 24 "SchematicText$Tree" "lasts" "[I", Cond.fieldLink RX7 27 "SchematicText$Tree" "nexts" "[I", Cond.fieldLink RX7 41 "SchematicText$Tree" "keptFrom" "[I", Cond.fieldLink RX7 44 "SchematicText$Tree" "keptSizes" "[I", Cond.methodLink RX7 87 yX7_depthOf, Cond.instanceMethod yX7_depthOf, Cond.selects RX7 yX7_depthOf yX7_depthOf, Cond.code yX7_depthOf cX7_depthOf 2 (some .int), Cond.methodLink RX7 97 yX7_hang, Cond.instanceMethod yX7_hang, Cond.selects RX7 yX7_hang yX7_hang, Cond.code yX7_hang cX7_hang 4 none, Cond.methodLink RX7 101 yX7_fillAsMade, Cond.instanceMethod yX7_fillAsMade, Cond.selects RX7 yX7_fillAsMade yX7_fillAsMade, Cond.code yX7_fillAsMade cX7_fillAsMade 6 none, Cond.methodLink RX7 105 yX2_fields, Cond.instanceMethod yX2_fields, Cond.selects RX2 yX2_fields yX2_fields, Cond.code yX2_fields cX2_fields 1 (some .int), Cond.fieldLink RX2 66 "SchematicText$Kind" "shape" "Ljava/lang/String;", Cond.methodLink RX2 72 yJ0_length_8abf5, Cond.methodLink RX7 109 yX2_fieldAt, Cond.instanceMethod yX2_fieldAt, Cond.selects RX2 yX2_fieldAt yX2_fieldAt, Cond.code yX2_fieldAt cX2_fieldAt 2 (some (.object "SchematicText$Field")), Cond.methodLink RX2 78 yJ0_charAt_5068e, Cond.methodLink RX2 82 yX0_lettered, Cond.static yX0_lettered, Cond.initialized RX0, Cond.methodLink RX7 113 yX0_isText, Cond.instanceMethod yX0_isText, Cond.selects RX0 yX0_isText yX0_isText, Cond.methodLink RX7 123 yX7_putNumber, Cond.instanceMethod yX7_putNumber, Cond.selects RX7 yX7_putNumber yX7_putNumber, Cond.code yX7_putNumber cX7_putNumber 5 none, Cond.fieldLink RX7 30 "SchematicText$Tree" "numbers" "[J", Cond.methodLink RX7 130 yX7_hasNumber, Cond.instanceMethod yX7_hasNumber, Cond.selects RX7 yX7_hasNumber yX7_hasNumber, Cond.code yX7_hasNumber cX7_hasNumber 3 (some .boolean), Cond.methodLink RX7 127 yX7_emptyText, Cond.instanceMethod yX7_emptyText, Cond.selects RX7 yX7_emptyText yX7_emptyText, Cond.code yX7_emptyText cX7_emptyText 3 none, Cond.fieldLink RX7 34 "SchematicText$Tree" "textSizes" "[I", Cond.methodLink RX7 134 yX7_hasText, Cond.instanceMethod yX7_hasText, Cond.selects RX7 yX7_hasText yX7_hasText, Cond.code yX7_hasText cX7_hasText 3 (some .boolean), Cond.methodLink RX1 32 yX6_failAt, Cond.instanceMethod yX6_failAt, Cond.selects RX6 yX6_failAt yX6_failAt, Cond.code yX6_failAt cX6_failAt 2 (some .boolean), Cond.fieldLink RX6 22 "SchematicText$Source" "fault" "I", Cond.code yX1_takeValues cX1_takeValues 9 (some .boolean), Cond.fieldLink RX1 40 "SchematicText$Kind" "DESIGN" "LSchematicText$Kind;", Cond.fieldLink RX1 52 "SchematicText$Field" "VERSION" "LSchematicText$Field;", Cond.methodLink RX1 36 yX7_kindOf, Cond.methodLink RX1 46 ⟨"SchematicText$Form", "passGap", "(LSchematicText$Source;)Z"⟩, Cond.sameMethod "SchematicText$Form" "SchematicText$Form" "passGap" "(LSchematicText$Source;)Z", Cond.selects RX3 ⟨"SchematicText$Form", "passGap", "(LSchematicText$Source;)Z"⟩ yX3_passGap, Cond.instanceMethod yX3_passGap, Cond.initialized RX3, Cond.code yX3_passGap cX3_passGap 2 (some .boolean), Cond.methodLink RX3 63 yX6_passOnly, Cond.instanceMethod yX6_passOnly, Cond.selects RX6 yX6_passOnly yX6_passOnly, Cond.code yX6_passOnly cX6_passOnly 2 (some .boolean), Cond.methodLink RX6 37 yX6_failAt, Cond.selects RX4 ⟨"SchematicText$Form", "passGap", "(LSchematicText$Source;)Z"⟩ yX4_passGap, Cond.instanceMethod yX4_passGap, Cond.initialized RX4, Cond.code yX4_passGap cX4_passGap 3 (some .boolean), Cond.methodLink RX4 9 yX6_passBlanks, Cond.instanceMethod yX6_passBlanks, Cond.selects RX6 yX6_passBlanks yX6_passBlanks, Cond.code yX6_passBlanks cX6_passBlanks 1 none, Cond.methodLink RX4 22 yX6_failAt, Cond.methodLink RX1 58 yX6_takeNumber, Cond.instanceMethod yX6_takeNumber, Cond.selects RX6 yX6_takeNumber yX6_takeNumber, Cond.code yX6_takeNumber cX6_takeNumber 4 (some .boolean), Cond.fieldLink RX6 25 "SchematicText$Source" "value" "J", Cond.methodLink RX6 80 yX6_takeDigits, Cond.instanceMethod yX6_takeDigits, Cond.selects RX6 yX6_takeDigits yX6_takeDigits, Cond.code yX6_takeDigits cX6_takeDigits 3 (some .boolean), Cond.constantLong RX6 99 (10), Cond.static yX8_isDigit, Cond.code yX8_isDigit cX8_isDigit 1 (some .boolean), Cond.methodLink RX6 83 yX0_isLength, Cond.instanceMethod yX0_isLength, Cond.selects RX0 yX0_isLength yX0_isLength, Cond.methodLink RX6 89 yX6_takePointDigits, Cond.instanceMethod yX6_takePointDigits, Cond.selects RX6 yX6_takePointDigits yX6_takePointDigits, Cond.code yX6_takePointDigits cX6_takePointDigits 3 (some .boolean), Cond.methodLink RX6 96 Lib.Math.max.name, Cond.methodLink RX6 92 yX0_admits, Cond.instanceMethod yX0_admits, Cond.selects RX0 yX0_admits yX0_admits, Cond.methodLink RX1 69 yX2_fields, Cond.methodLink RX1 73 yX2_fieldAt, Cond.methodLink RX1 80 yX0_isText, Cond.methodLink RX1 84 yX6_takeText, Cond.instanceMethod yX6_takeText, Cond.selects RX6 yX6_takeText yX6_takeText, Cond.code yX6_takeText cX6_takeText 5 (some .boolean), Cond.methodLink RX6 104 yX6_passOnly, Cond.static yX8_isTextMark, Cond.code yX8_isTextMark cX8_isTextMark 1 (some .boolean), Cond.methodLink RX6 108 yX6_passEscape, Cond.instanceMethod yX6_passEscape, Cond.selects RX6 yX6_passEscape yX6_passEscape, Cond.code yX6_passEscape cX6_passEscape 2 (some .boolean), Cond.static yX8_needsEscape, Cond.code yX8_needsEscape cX8_needsEscape 1 (some .boolean), Cond.methodLink RX6 111 yX7_appendToText, Cond.instanceMethod yX7_appendToText, Cond.selects RX7 yX7_appendToText yX7_appendToText, Cond.code yX7_appendToText cX7_appendToText 6 none, Cond.fieldLink RX7 37 "SchematicText$Tree" "textMarks" "[C", Cond.methodLink RX1 88 yX7_putNumber, Cond.code yX1_putNameAndValues cX1_putNameAndValues 9 none, Cond.constantLong RX1 106 (3), Cond.methodLink RX1 96 yX5_putTitle, Cond.instanceMethod yX5_putTitle, Cond.selects RX5 yX5_putTitle yX5_putTitle, Cond.initialized RX5, Cond.code yX5_putTitle cX5_putTitle 3 none, Cond.methodLink RX5 24 yJ0_length_8abf5, Cond.methodLink RX5 30 yJ0_charAt_5068e, Cond.methodLink RX5 20 yX5_put, Cond.instanceMethod yX5_put, Cond.selects RX5 yX5_put yX5_put, Cond.code yX5_put cX5_put 2 none, Cond.fieldLink RX5 16 "SchematicText$Page" "count" "I", Cond.constant RX5 9 (60000), Cond.fieldLink RX5 10 "SchematicText$Page" "marks" "[C", Cond.methodLink RX1 102 yX5_put, Cond.methodLink RX1 108 yX5_putNumber, Cond.instanceMethod yX5_putNumber, Cond.selects RX5 yX5_putNumber yX5_putNumber, Cond.code yX5_putNumber cX5_putNumber 6 none, Cond.methodLink RX5 34 Lib.MathLoose.abs_long.x, Cond.static Lib.MathLoose.abs_long.x, Cond.code Lib.MathLoose.abs_long.x Lib.MathLoose.abs_long.code 2 (some .long), Cond.constantLong RX5 46 (1000000), Cond.methodLink RX5 40 yX0_isLength, Cond.methodLink RX5 48 yX5_putWhole, Cond.instanceMethod yX5_putWhole, Cond.selects RX5 yX5_putWhole yX5_putWhole, Cond.code yX5_putWhole cX5_putWhole 5 none, Cond.methodLink RX5 51 yX5_putPoint, Cond.instanceMethod yX5_putPoint, Cond.selects RX5 yX5_putPoint yX5_putPoint, Cond.code yX5_putPoint cX5_putPoint 4 none, Cond.constant RX5 54 (100000), Cond.methodLink RX1 111 yX5_putText, Cond.instanceMethod yX5_putText, Cond.selects RX5 yX5_putText yX5_putText, Cond.code yX5_putText cX5_putText 6 none, Cond.methodLink RX5 55 yX7_textSize, Cond.instanceMethod yX7_textSize, Cond.selects RX7 yX7_textSize yX7_textSize, Cond.code yX7_textSize cX7_textSize 3 (some .int), Cond.methodLink RX5 61 yX7_textMark, Cond.instanceMethod yX7_textMark, Cond.selects RX7 yX7_textMark yX7_textMark, Cond.code yX7_textMark cX7_textMark 4 (some .int), Cond.methodLink RX7 137 yX7_textSize, Cond.methodLink RX1 115 yX7_numberOf, Cond.instanceMethod yX7_numberOf, Cond.selects RX7 yX7_numberOf yX7_numberOf, Cond.code yX7_numberOf cX7_numberOf 3 (some .long), Cond.code yX2_spotOf cX2_spotOf 5 (some .int), Cond.methodLink RX2 88 yX2_fieldAt, Cond.methodLink RX2 92 yX0_isText, Cond.code yX3_init cX3_init 1 none, Cond.instanceMethod yX1_init, Cond.initialized RX1, Cond.code yX3_take cX3_take 5 (some .boolean), Cond.methodLink RX3 9 yX3_takeLine, Cond.instanceMethod yX3_takeLine, Cond.selects RX3 yX3_takeLine yX3_takeLine, Cond.code yX3_takeLine cX3_takeLine 8 (some .int), Cond.fieldLink RX3 49 "SchematicText$Kind" "UNKNOWN" "LSchematicText$Kind;", Cond.methodLink RX3 21 yX7_depthOf, Cond.methodLink RX3 31 yX6_dotsFrom, Cond.instanceMethod yX6_dotsFrom, Cond.selects RX6 yX6_dotsFrom yX6_dotsFrom, Cond.code yX6_dotsFrom cX6_dotsFrom 3 (some .int), Cond.methodLink RX3 34 yX6_failAt, Cond.methodLink RX3 38 yX3_holderOf, Cond.instanceMethod yX3_holderOf, Cond.selects RX3 yX3_holderOf yX3_holderOf, Cond.code yX3_holderOf cX3_holderOf 6 (some .int), Cond.methodLink RX3 67 yX7_parentOf, Cond.instanceMethod yX7_parentOf, Cond.selects RX7 yX7_parentOf yX7_parentOf, Cond.code yX7_parentOf cX7_parentOf 2 (some .int), Cond.methodLink RX3 42 ⟨"SchematicText$LineForm", "takeName", "(LSchematicText$Source;LSchematicText$Tree;I)I"⟩, Cond.sameMethod "SchematicText$LineForm" "SchematicText$Form" "takeName" "(LSchematicText$Source;LSchematicText$Tree;I)I", Cond.selects RX3 ⟨"SchematicText$LineForm", "takeName", "(LSchematicText$Source;LSchematicText$Tree;I)I"⟩ yX1_takeName, Cond.instanceMethod yX1_takeName, Cond.methodLink RX3 45 yX7_kindOf, Cond.methodLink RX3 55 yX3_keepLines, Cond.instanceMethod yX3_keepLines, Cond.selects RX3 yX3_keepLines yX3_keepLines, Cond.code yX3_keepLines cX3_keepLines 8 (some .boolean), Cond.methodLink RX3 70 yX6_lineEnd, Cond.instanceMethod yX6_lineEnd, Cond.selects RX6 yX6_lineEnd yX6_lineEnd, Cond.code yX6_lineEnd cX6_lineEnd 3 (some .int), Cond.methodLink RX6 47 Lib.Math.min.name, Cond.static Lib.Math.min.name, Cond.code Lib.Math.min.name Lib.Math.min.code 2 (some .int), Cond.methodLink RX3 73 yX7_keptRoom, Cond.instanceMethod yX7_keptRoom, Cond.selects RX7 yX7_keptRoom yX7_keptRoom, Cond.code yX7_keptRoom cX7_keptRoom 1 (some .int), Cond.fieldLink RX7 50 "SchematicText$Tree" "keptCount" "I", Cond.methodLink RX3 80 yX7_keep, Cond.instanceMethod yX7_keep, Cond.selects RX7 yX7_keep yX7_keep, Cond.code yX7_keep cX7_keep 6 none, Cond.fieldLink RX7 47 "SchematicText$Tree" "kept" "[C", Cond.methodLink RX7 147 yX6_markAt, Cond.methodLink RX3 59 ⟨"SchematicText$LineForm", "takeValues", "(LSchematicText$Source;LSchematicText$Tree;I)Z"⟩, Cond.sameMethod "SchematicText$LineForm" "SchematicText$Form" "takeValues" "(LSchematicText$Source;LSchematicText$Tree;I)Z", Cond.selects RX3 ⟨"SchematicText$LineForm", "takeValues", "(LSchematicText$Source;LSchematicText$Tree;I)Z"⟩ yX1_takeValues, Cond.instanceMethod yX1_takeValues, Cond.methodLink RX3 15 yX6_ended, Cond.instanceMethod yX6_ended, Cond.selects RX6 yX6_ended yX6_ended, Cond.code yX6_ended cX6_ended 1 (some .boolean), Cond.code yX3_tell cX3_tell 5 none, Cond.methodLink RX3 84 yX7_has, Cond.methodLink RX3 87 yX5_putTimes, Cond.instanceMethod yX5_putTimes, Cond.selects RX5 yX5_putTimes yX5_putTimes, Cond.code yX5_putTimes cX5_putTimes 4 none, Cond.methodLink RX3 93 yX5_putKept, Cond.instanceMethod yX5_putKept, Cond.selects RX5 yX5_putKept yX5_putKept, Cond.code yX5_putKept cX5_putKept 4 none, Cond.methodLink RX5 69 yX7_keptSizeOf, Cond.instanceMethod yX7_keptSizeOf, Cond.selects RX7 yX7_keptSizeOf yX7_keptSizeOf, Cond.code yX7_keptSizeOf cX7_keptSizeOf 2 (some .int), Cond.methodLink RX5 73 yX7_keptMark, Cond.instanceMethod yX7_keptMark, Cond.selects RX7 yX7_keptMark yX7_keptMark, Cond.code yX7_keptMark cX7_keptMark 4 (some .int), Cond.methodLink RX7 152 yX7_keptSizeOf, Cond.methodLink RX3 97 ⟨"SchematicText$LineForm", "putNameAndValues", "(LSchematicText$Tree;ILSchematicText$Page;)V"⟩, Cond.sameMethod "SchematicText$LineForm" "SchematicText$Form" "putNameAndValues" "(LSchematicText$Tree;ILSchematicText$Page;)V", Cond.selects RX3 ⟨"SchematicText$LineForm", "putNameAndValues", "(LSchematicText$Tree;ILSchematicText$Page;)V"⟩ yX1_putNameAndValues, Cond.instanceMethod yX1_putNameAndValues, Cond.methodLink RX3 101 yX5_put, Cond.methodLink RX3 105 yX7_follower, Cond.instanceMethod yX7_follower, Cond.selects RX7 yX7_follower yX7_follower, Cond.code yX7_follower cX7_follower 4 (some .int), Cond.code yX4_init cX4_init 1 none, Cond.code yX4_take cX4_take 5 (some .boolean), Cond.methodLink RX4 14 yX6_mark, Cond.methodLink RX4 26 yX4_takeList, Cond.instanceMethod yX4_takeList, Cond.selects RX4 yX4_takeList yX4_takeList, Cond.code yX4_takeList cX4_takeList 6 (some .int), Cond.fieldLink RX4 58 "SchematicText$Kind" "UNKNOWN" "LSchematicText$Kind;", Cond.methodLink RX4 48 yX7_depthOf, Cond.methodLink RX4 32 yX6_pass, Cond.instanceMethod yX6_pass, Cond.selects RX6 yX6_pass yX6_pass, Cond.code yX6_pass cX6_pass 1 none, Cond.methodLink RX4 51 ⟨"SchematicText$ListForm", "takeName", "(LSchematicText$Source;LSchematicText$Tree;I)I"⟩, Cond.sameMethod "SchematicText$ListForm" "SchematicText$Form" "takeName" "(LSchematicText$Source;LSchematicText$Tree;I)I", Cond.selects RX4 ⟨"SchematicText$ListForm", "takeName", "(LSchematicText$Source;LSchematicText$Tree;I)I"⟩ yX1_takeName, Cond.methodLink RX4 54 yX7_kindOf, Cond.methodLink RX4 64 yX4_keepList, Cond.instanceMethod yX4_keepList, Cond.selects RX4 yX4_keepList yX4_keepList, Cond.code yX4_keepList cX4_keepList 10 (some .boolean), Cond.methodLink RX4 78 Lib.Math.min.name, Cond.methodLink RX4 75 yX7_keptRoom, Cond.methodLink RX4 84 yX6_passQuoted, Cond.instanceMethod yX6_passQuoted, Cond.selects RX6 yX6_passQuoted yX6_passQuoted, Cond.code yX6_passQuoted cX6_passQuoted 2 (some .boolean), Cond.methodLink RX4 87 yX7_keep, Cond.methodLink RX4 68 ⟨"SchematicText$ListForm", "takeValues", "(LSchematicText$Source;LSchematicText$Tree;I)Z"⟩, Cond.sameMethod "SchematicText$ListForm" "SchematicText$Form" "takeValues" "(LSchematicText$Source;LSchematicText$Tree;I)Z", Cond.selects RX4 ⟨"SchematicText$ListForm", "takeValues", "(LSchematicText$Source;LSchematicText$Tree;I)Z"⟩ yX1_takeValues, Cond.methodLink RX4 35 yX7_parentOf, Cond.methodLink RX4 44 yX6_ended, Cond.code yX4_tell cX4_tell 7 none, Cond.methodLink RX4 107 Lib.Math.max.name, Cond.methodLink RX4 91 yX7_has, Cond.methodLink RX4 94 yX5_put, Cond.methodLink RX4 100 yX5_putTimes, Cond.methodLink RX4 104 yX7_follower, Cond.methodLink RX4 110 yX5_putKept, Cond.methodLink RX4 114 ⟨"SchematicText$ListForm", "putNameAndValues", "(LSchematicText$Tree;ILSchematicText$Page;)V"⟩, Cond.sameMethod "SchematicText$ListForm" "SchematicText$Form" "putNameAndValues" "(LSchematicText$Tree;ILSchematicText$Page;)V", Cond.selects RX4 ⟨"SchematicText$ListForm", "putNameAndValues", "(LSchematicText$Tree;ILSchematicText$Page;)V"⟩ yX1_putNameAndValues, Cond.code yX5_init cX5_init 1 none, Cond.methodLink RX5 3 objectInit, Cond.arrayClass .char, Cond.code yX5_forget cX5_forget 1 none, Cond.code yX5_markAt cX5_markAt 2 (some .int), Cond.code yX6_init cX6_init 1 none, Cond.methodLink RX6 3 objectInit, Cond.code yX6_append cX6_append 2 (some .boolean), Cond.code yX6_empty cX6_empty 1 none, Cond.code yX6_rewind cX6_rewind 1 none, Cond.code yX7_init cX7_init 1 none, Cond.methodLink RX7 3 objectInit, Cond.arrayClass .int, Cond.arrayClass .long, Cond.fieldLink RX7 60 "SchematicText$Tree" "version" "I", Cond.code yX7_forget cX7_forget 1 none, Cond.code yX7_fitsText cX7_fitsText 8 (some .boolean), Cond.code yX7_extendText cX7_extendText 7 none, Cond.methodLink RX7 143 yX7_appendToText, Cond.code yX8_init cX8_init 2 none, Cond.methodLink RX8 1 objectInit, Cond.classLink RX8 7 RX4, Cond.instantiable RX4 0, Cond.classLink RX8 10 RX3, Cond.instantiable RX3 0, Cond.fieldLink RX8 13 "SchematicText" "form" "LSchematicText$Form;", Cond.classLink RX8 19 RX6, Cond.instantiable RX6 5, Cond.fieldLink RX8 22 "SchematicText" "source" "LSchematicText$Source;", Cond.classLink RX8 26 RX5, Cond.instantiable RX5 2, Cond.fieldLink RX8 29 "SchematicText" "page" "LSchematicText$Page;", Cond.classLink RX8 33 RX7, Cond.instantiable RX7 16, Cond.fieldLink RX8 36 "SchematicText" "tree" "LSchematicText$Tree;", Cond.fieldLink RX8 40 "SchematicText" "spare" "LSchematicText$Tree;", Cond.fieldLink RX8 43 "SchematicText" "pageHolds" "Z", Cond.instanceMethod yX4_init, Cond.instanceMethod yX3_init, Cond.instanceMethod yX6_init, Cond.instanceMethod yX5_init, Cond.instanceMethod yX7_init, Cond.code yX8_unit cX8_unit 2 (some .boolean), Cond.methodLink RX8 47 yX6_append, Cond.instanceMethod yX6_append, Cond.selects RX6 yX6_append yX6_append, Cond.code yX8_read cX8_read 2 (some .int), Cond.methodLink RX8 51 yX7_forget, Cond.instanceMethod yX7_forget, Cond.selects RX7 yX7_forget yX7_forget, Cond.methodLink RX8 54 yX6_rewind, Cond.instanceMethod yX6_rewind, Cond.selects RX6 yX6_rewind yX6_rewind, Cond.methodLink RX8 57 ⟨"SchematicText$Form", "take", "(LSchematicText$Source;LSchematicText$Tree;)Z"⟩, Cond.sameMethod "SchematicText$Form" "SchematicText$Form" "take" "(LSchematicText$Source;LSchematicText$Tree;)Z", Cond.selects RX3 ⟨"SchematicText$Form", "take", "(LSchematicText$Source;LSchematicText$Tree;)Z"⟩ yX3_take, Cond.instanceMethod yX3_take, Cond.selects RX4 ⟨"SchematicText$Form", "take", "(LSchematicText$Source;LSchematicText$Tree;)Z"⟩ yX4_take, Cond.instanceMethod yX4_take, Cond.code yX8_kind cX8_kind 2 (some .int), Cond.methodLink RX8 70 yX8_kindOfObject, Cond.instanceMethod yX8_kindOfObject, Cond.selects RX8 yX8_kindOfObject yX8_kindOfObject, Cond.code yX8_kindOfObject cX8_kindOfObject 2 (some (.object "SchematicText$Kind")), Cond.classLink RX8 82 "java/lang/IndexOutOfBoundsException", Cond.initialized "java/lang/IndexOutOfBoundsException", Cond.methodLink RX8 79 yX7_has, Cond.methodLink RX8 195 yX7_kindOf, Cond.code yX8_parent cX8_parent 2 (some .int), Cond.methodLink RX8 89 yX7_parentOf, Cond.code yX8_number cX8_number 3 (some .long), Cond.methodLink RX8 93 yX2_spotOf, Cond.instanceMethod yX2_spotOf, Cond.selects RX2 yX2_spotOf yX2_spotOf, Cond.methodLink RX8 99 yX7_numberOf, Cond.code yX8_text cX8_text 5 (some .int), Cond.methodLink RX8 105 yX7_textSize, Cond.methodLink RX8 111 yX7_textMark, Cond.code yX8_version cX8_version 1 (some .int), Cond.code yX8_unknown cX8_unknown 4 (some .int), Cond.classLink RX8 122 "java/lang/IllegalStateException", Cond.initialized "java/lang/IllegalStateException", Cond.fieldLink RX8 118 "SchematicText$Kind" "UNKNOWN" "LSchematicText$Kind;", Cond.methodLink RX8 127 yX7_keptSizeOf, Cond.methodLink RX8 130 yX7_keptMark, Cond.code yX8_write cX8_write 2 (some .int), Cond.methodLink RX8 137 yX5_forget, Cond.instanceMethod yX5_forget, Cond.selects RX5 yX5_forget yX5_forget, Cond.methodLink RX8 138 ⟨"SchematicText$Form", "tell", "(LSchematicText$Tree;LSchematicText$Page;)V"⟩, Cond.sameMethod "SchematicText$Form" "SchematicText$Form" "tell" "(LSchematicText$Tree;LSchematicText$Page;)V", Cond.selects RX3 ⟨"SchematicText$Form", "tell", "(LSchematicText$Tree;LSchematicText$Page;)V"⟩ yX3_tell, Cond.instanceMethod yX3_tell, Cond.selects RX4 ⟨"SchematicText$Form", "tell", "(LSchematicText$Tree;LSchematicText$Page;)V"⟩ yX4_tell, Cond.instanceMethod yX4_tell, Cond.methodLink RX8 142 yX5_markAt, Cond.instanceMethod yX5_markAt, Cond.selects RX5 yX5_markAt yX5_markAt, Cond.code yX8_object cX8_object 4 (some .int), Cond.classLink RX8 150 "java/lang/IllegalArgumentException", Cond.initialized "java/lang/IllegalArgumentException", Cond.fieldLink RX8 147 "SchematicText$Kind" "DESIGN" "LSchematicText$Kind;", Cond.methodLink RX8 155 yX2_numbered, Cond.methodLink RX8 158 yX7_mayHold, Cond.methodLink RX8 162 yX7_grow, Cond.code yX8_set cX8_set 10 (some .boolean), Cond.methodLink RX8 168 yX7_fitsText, Cond.instanceMethod yX7_fitsText, Cond.selects RX7 yX7_fitsText yX7_fitsText, Cond.methodLink RX8 172 yX2_fieldAt, Cond.methodLink RX8 176 yX0_admits, Cond.methodLink RX8 182 yX7_extendText, Cond.instanceMethod yX7_extendText, Cond.selects RX7 yX7_extendText yX7_extendText, Cond.methodLink RX8 186 yX7_putNumber, Cond.code yX8_depth cX8_depth 1 (some .int), Cond.code yX8_clear cX8_clear 1 none, Cond.methodLink RX8 192 yX6_empty, Cond.instanceMethod yX6_empty, Cond.selects RX6 yX6_empty yX6_empty, Cond.code yJ9_abs_067f4 cJ9_abs_067f4 2 (some .long), Cond.code yJ9_max_7cf53 cJ9_max_7cf53 2 (some .int), Cond.code yJ9_min_7cf53 cJ9_min_7cf53 2 (some .int)]
noncomputable def WAX : List Cond := WAX0 ++ (wsX50 ++ (wsX60 ++ (wsX70 ++ wsX80)))
set_option maxRecDepth 50000 in
theorem WAX_good : WAX.all goodWord = true := by decide +kernel
theorem mx_0 : (Cond.code yX0_lettered cX0_lettered 1 (some (.object "SchematicText$Field"))) ∈ WAX := List.mem_append_left _ (List.mem_of_getElem? (i := 0) rfl)
theorem mx_1 : (Cond.fieldLink RX0 5 "SchematicText$Field" "TEXT" "LSchematicText$Field;") ∈ WAX := List.mem_append_left _ (List.mem_of_getElem? (i := 1) rfl)
theorem mx_2 : (Cond.fieldLink RX0 9 "SchematicText$Field" "LENGTH" "LSchematicText$Field;") ∈ WAX := List.mem_append_left _ (List.mem_of_getElem? (i := 2) rfl)
theorem mx_3 : (Cond.fieldLink RX0 12 "SchematicText$Field" "SIZE" "LSchematicText$Field;") ∈ WAX := List.mem_append_left _ (List.mem_of_getElem? (i := 3) rfl)
theorem mx_4 : (Cond.fieldLink RX0 15 "SchematicText$Field" "PAGE" "LSchematicText$Field;") ∈ WAX := List.mem_append_left _ (List.mem_of_getElem? (i := 4) rfl)
theorem mx_5 : (Cond.fieldLink RX0 18 "SchematicText$Field" "UNIT_NUMBER" "LSchematicText$Field;") ∈ WAX := List.mem_append_left _ (List.mem_of_getElem? (i := 5) rfl)
theorem mx_6 : (Cond.fieldLink RX0 21 "SchematicText$Field" "PIN_KIND" "LSchematicText$Field;") ∈ WAX := List.mem_append_left _ (List.mem_of_getElem? (i := 6) rfl)
theorem mx_7 : (Cond.fieldLink RX0 24 "SchematicText$Field" "ANGLE" "LSchematicText$Field;") ∈ WAX := List.mem_append_left _ (List.mem_of_getElem? (i := 7) rfl)
theorem mx_8 : (Cond.code yX0_isText cX0_isText 1 (some .boolean)) ∈ WAX := List.mem_append_left _ (List.mem_of_getElem? (i := 8) rfl)
theorem mx_9 : (Cond.fieldLink RX0 49 "SchematicText$Field" "sort" "I") ∈ WAX := List.mem_append_left _ (List.mem_of_getElem? (i := 9) rfl)
theorem mx_10 : (Cond.code yX0_isLength cX0_isLength 1 (some .boolean)) ∈ WAX := List.mem_append_left _ (List.mem_of_getElem? (i := 10) rfl)
theorem mx_11 : (Cond.code yX0_admits cX0_admits 3 (some .boolean)) ∈ WAX := List.mem_append_left _ (List.mem_of_getElem? (i := 11) rfl)
theorem mx_12 : (Cond.fieldLink RX0 53 "SchematicText$Field" "lowest" "J") ∈ WAX := List.mem_append_left _ (List.mem_of_getElem? (i := 12) rfl)
theorem mx_13 : (Cond.fieldLink RX0 57 "SchematicText$Field" "highest" "J") ∈ WAX := List.mem_append_left _ (List.mem_of_getElem? (i := 13) rfl)
theorem mx_14 : (Cond.code yX1_init cX1_init 1 none) ∈ WAX := List.mem_append_left _ (List.mem_of_getElem? (i := 14) rfl)
theorem mx_15 : (Cond.methodLink RX1 3 objectInit) ∈ WAX := List.mem_append_left _ (List.mem_of_getElem? (i := 15) rfl)
theorem mx_16 : (Cond.instanceMethod objectInit) ∈ WAX := List.mem_append_left _ (List.mem_of_getElem? (i := 16) rfl)
theorem mx_17 : (Cond.code objectInit ⟨#[0xb1]⟩ 1 none) ∈ WAX := List.mem_append_left _ (List.mem_of_getElem? (i := 17) rfl)
theorem mx_18 : (Cond.code yX1_takeName cX1_takeName 7 (some .int)) ∈ WAX := List.mem_append_left _ (List.mem_of_getElem? (i := 18) rfl)
theorem mx_19 : (Cond.methodLink RX1 15 yX6_passLetters) ∈ WAX := List.mem_append_left _ (List.mem_of_getElem? (i := 19) rfl)
theorem mx_20 : (Cond.instanceMethod yX6_passLetters) ∈ WAX := List.mem_append_left _ (List.mem_of_getElem? (i := 20) rfl)
theorem mx_21 : (Cond.selects RX6 yX6_passLetters yX6_passLetters) ∈ WAX := List.mem_append_left _ (List.mem_of_getElem? (i := 21) rfl)
theorem mx_22 : (Cond.initialized RX6) ∈ WAX := List.mem_append_left _ (List.mem_of_getElem? (i := 22) rfl)
theorem mx_23 : (Cond.code yX6_passLetters cX6_passLetters 1 none) ∈ WAX := List.mem_append_left _ (List.mem_of_getElem? (i := 23) rfl)
theorem mx_24 : (Cond.fieldLink RX6 19 "SchematicText$Source" "at" "I") ∈ WAX := List.mem_append_left _ (List.mem_of_getElem? (i := 24) rfl)
theorem mx_25 : (Cond.fieldLink RX6 15 "SchematicText$Source" "count" "I") ∈ WAX := List.mem_append_left _ (List.mem_of_getElem? (i := 25) rfl)
theorem mx_26 : (Cond.methodLink RX6 33 yX6_mark) ∈ WAX := List.mem_append_left _ (List.mem_of_getElem? (i := 26) rfl)
theorem mx_27 : (Cond.instanceMethod yX6_mark) ∈ WAX := List.mem_append_left _ (List.mem_of_getElem? (i := 27) rfl)
theorem mx_28 : (Cond.selects RX6 yX6_mark yX6_mark) ∈ WAX := List.mem_append_left _ (List.mem_of_getElem? (i := 28) rfl)
theorem mx_29 : (Cond.code yX6_mark cX6_mark 1 (some .int)) ∈ WAX := List.mem_append_left _ (List.mem_of_getElem? (i := 29) rfl)
theorem mx_30 : (Cond.fieldLink RX6 9 "SchematicText$Source" "marks" "[C") ∈ WAX := List.mem_append_left _ (List.mem_of_getElem? (i := 30) rfl)
theorem mx_31 : (Cond.static yX8_isSmallLetter) ∈ WAX := List.mem_append_left _ (List.mem_of_getElem? (i := 31) rfl)
theorem mx_32 : (Cond.initialized RX8) ∈ WAX := List.mem_append_left _ (List.mem_of_getElem? (i := 32) rfl)
theorem mx_33 : (Cond.code yX8_isSmallLetter cX8_isSmallLetter 1 (some .boolean)) ∈ WAX := List.mem_append_left _ (List.mem_of_getElem? (i := 33) rfl)
theorem mx_34 : (Cond.methodLink RX1 18 yX6_kindNamed) ∈ WAX := List.mem_append_left _ (List.mem_of_getElem? (i := 34) rfl)
theorem mx_35 : (Cond.instanceMethod yX6_kindNamed) ∈ WAX := List.mem_append_left _ (List.mem_of_getElem? (i := 35) rfl)
theorem mx_36 : (Cond.selects RX6 yX6_kindNamed yX6_kindNamed) ∈ WAX := List.mem_append_left _ (List.mem_of_getElem? (i := 36) rfl)
theorem mx_37 : (Cond.code yX6_kindNamed cX6_kindNamed 7 (some (.object "SchematicText$Kind"))) ∈ WAX := List.mem_append_left _ (List.mem_of_getElem? (i := 37) rfl)
theorem mx_38 : (Cond.fieldLink RX6 67 "SchematicText$Kind" "UNKNOWN" "LSchematicText$Kind;") ∈ WAX := List.mem_append_left _ (List.mem_of_getElem? (i := 38) rfl)
theorem mx_39 : (Cond.methodLink RX6 63 yX6_reads) ∈ WAX := List.mem_append_left _ (List.mem_of_getElem? (i := 39) rfl)
theorem mx_40 : (Cond.instanceMethod yX6_reads) ∈ WAX := List.mem_append_left _ (List.mem_of_getElem? (i := 40) rfl)
theorem mx_41 : (Cond.selects RX6 yX6_reads yX6_reads) ∈ WAX := List.mem_append_left _ (List.mem_of_getElem? (i := 41) rfl)
theorem mx_42 : (Cond.code yX6_reads cX6_reads 5 (some .boolean)) ∈ WAX := List.mem_append_left _ (List.mem_of_getElem? (i := 42) rfl)
theorem mx_43 : (Cond.methodLink RX6 71 yJ0_length_8abf5) ∈ WAX := List.mem_append_left _ (List.mem_of_getElem? (i := 43) rfl)
theorem mx_44 : (Cond.instanceMethod yJ0_length_8abf5) ∈ WAX := List.mem_append_left _ (List.mem_of_getElem? (i := 44) rfl)
theorem mx_45 : (Cond.selects RJ0 yJ0_length_8abf5 yJ0_length_8abf5) ∈ WAX := List.mem_append_left _ (List.mem_of_getElem? (i := 45) rfl)
theorem mx_46 : (Cond.initialized RJ0) ∈ WAX := List.mem_append_left _ (List.mem_of_getElem? (i := 46) rfl)
theorem mx_47 : (Cond.code yJ0_length_8abf5 cJ0_length_8abf5 1 (some .int)) ∈ WAX := List.mem_append_left _ (List.mem_of_getElem? (i := 47) rfl)
theorem mx_48 : (Cond.fieldLink RJ0 9 "java/lang/String" "value" "[B") ∈ WAX := List.mem_append_left _ (List.mem_of_getElem? (i := 48) rfl)
theorem mx_49 : (Cond.methodLink RJ0 335 yJ0_coder_7d493) ∈ WAX := List.mem_append_left _ (List.mem_of_getElem? (i := 49) rfl)
theorem mx_50 : (Cond.instanceMethod yJ0_coder_7d493) ∈ WAX := List.mem_append_left _ (List.mem_of_getElem? (i := 50) rfl)
theorem mx_51 : (Cond.selects RJ0 yJ0_coder_7d493 yJ0_coder_7d493) ∈ WAX := List.mem_append_left _ (List.mem_of_getElem? (i := 51) rfl)
theorem mx_52 : (Cond.code yJ0_coder_7d493 cJ0_coder_7d493 1 (some .byte)) ∈ WAX := List.mem_append_left _ (List.mem_of_getElem? (i := 52) rfl)
theorem mx_53 : (Cond.fieldLink RJ0 38 "java/lang/String" "COMPACT_STRINGS" "Z") ∈ WAX := List.mem_append_left _ (List.mem_of_getElem? (i := 53) rfl)
theorem mx_54 : (Cond.fieldLink RJ0 15 "java/lang/String" "coder" "B") ∈ WAX := List.mem_append_left _ (List.mem_of_getElem? (i := 54) rfl)
theorem mx_55 : (Cond.methodLink RX6 43 yX6_markAt) ∈ WAX := List.mem_append_left _ (List.mem_of_getElem? (i := 55) rfl)
theorem mx_56 : (Cond.instanceMethod yX6_markAt) ∈ WAX := List.mem_append_left _ (List.mem_of_getElem? (i := 56) rfl)
theorem mx_57 : (Cond.selects RX6 yX6_markAt yX6_markAt) ∈ WAX := List.mem_append_left _ (List.mem_of_getElem? (i := 57) rfl)
theorem mx_58 : (Cond.code yX6_markAt cX6_markAt 2 (some .int)) ∈ WAX := List.mem_append_left _ (List.mem_of_getElem? (i := 58) rfl)
theorem mx_59 : (Cond.methodLink RX6 76 yJ0_charAt_5068e) ∈ WAX := List.mem_append_left _ (List.mem_of_getElem? (i := 59) rfl)
theorem mx_60 : (Cond.instanceMethod yJ0_charAt_5068e) ∈ WAX := List.mem_append_left _ (List.mem_of_getElem? (i := 60) rfl)
theorem mx_61 : (Cond.selects RJ0 yJ0_charAt_5068e yJ0_charAt_5068e) ∈ WAX := List.mem_append_left _ (List.mem_of_getElem? (i := 61) rfl)
theorem mx_62 : (Cond.code yJ0_charAt_5068e cJ0_charAt_5068e 2 (some .char)) ∈ WAX := List.mem_append_left _ (List.mem_of_getElem? (i := 62) rfl)
theorem mx_63 : (Cond.methodLink RJ0 492 yJ0_isLatin1_aae02) ∈ WAX := List.mem_append_left _ (List.mem_of_getElem? (i := 63) rfl)
theorem mx_64 : (Cond.instanceMethod yJ0_isLatin1_aae02) ∈ WAX := List.mem_append_left _ (List.mem_of_getElem? (i := 64) rfl)
theorem mx_65 : (Cond.selects RJ0 yJ0_isLatin1_aae02 yJ0_isLatin1_aae02) ∈ WAX := List.mem_append_left _ (List.mem_of_getElem? (i := 65) rfl)
theorem mx_66 : (Cond.code yJ0_isLatin1_aae02 cJ0_isLatin1_aae02 1 (some .boolean)) ∈ WAX := List.mem_append_left _ (List.mem_of_getElem? (i := 66) rfl)
theorem mx_67 : (Cond.methodLink RJ0 495 yJ1_charAt_3b067) ∈ WAX := List.mem_append_left _ (List.mem_of_getElem? (i := 67) rfl)
theorem mx_68 : (Cond.static yJ1_charAt_3b067) ∈ WAX := List.mem_append_left _ (List.mem_of_getElem? (i := 68) rfl)
theorem mx_69 : (Cond.initialized RJ1) ∈ WAX := List.mem_append_left _ (List.mem_of_getElem? (i := 69) rfl)
theorem mx_70 : (Cond.code yJ1_charAt_3b067 cJ1_charAt_3b067 2 (some .char)) ∈ WAX := List.mem_append_left _ (List.mem_of_getElem? (i := 70) rfl)
theorem mx_71 : (Cond.methodLink RJ1 9 yJ0_checkIndex_df160) ∈ WAX := List.mem_append_left _ (List.mem_of_getElem? (i := 71) rfl)
theorem mx_72 : (Cond.static yJ0_checkIndex_df160) ∈ WAX := List.mem_append_left _ (List.mem_of_getElem? (i := 72) rfl)
theorem mx_73 : (Cond.code yJ0_checkIndex_df160 cJ0_checkIndex_df160 2 none) ∈ WAX := List.mem_append_left _ (List.mem_of_getElem? (i := 73) rfl)
theorem mx_74 : (Cond.fieldLink RJ0 1053 "jdk/internal/util/Preconditions" "SIOOBE_FORMATTER" "Ljava/util/function/BiFunction;") ∈ WAX := List.mem_append_left _ (List.mem_of_getElem? (i := 74) rfl)
theorem mx_75 : (Cond.methodLink RJ0 1059 yJ3_checkIndex_8e157) ∈ WAX := List.mem_append_left _ (List.mem_of_getElem? (i := 75) rfl)
theorem mx_76 : (Cond.static yJ3_checkIndex_8e157) ∈ WAX := List.mem_append_left _ (List.mem_of_getElem? (i := 76) rfl)
theorem mx_77 : (Cond.initialized RJ3) ∈ WAX := List.mem_append_left _ (List.mem_of_getElem? (i := 77) rfl)
theorem mx_78 : (Cond.code yJ3_checkIndex_8e157 cJ3_checkIndex_8e157 3 (some .int)) ∈ WAX := List.mem_append_left _ (List.mem_of_getElem? (i := 78) rfl)
theorem mx_79 : (Cond.methodLink RJ0 498 yJ2_charAt_3b067) ∈ WAX := List.mem_append_left _ (List.mem_of_getElem? (i := 79) rfl)
theorem mx_80 : (Cond.static yJ2_charAt_3b067) ∈ WAX := List.mem_append_left _ (List.mem_of_getElem? (i := 80) rfl)
theorem mx_81 : (Cond.initialized RJ2) ∈ WAX := List.mem_append_left _ (List.mem_of_getElem? (i := 81) rfl)
theorem mx_82 : (Cond.code yJ2_charAt_3b067 cJ2_charAt_3b067 2 (some .char)) ∈ WAX := List.mem_append_left _ (List.mem_of_getElem? (i := 82) rfl)
theorem mx_83 : (Cond.methodLink RJ2 67 yJ2_checkIndex_2214a) ∈ WAX := List.mem_append_left _ (List.mem_of_getElem? (i := 83) rfl)
theorem mx_84 : (Cond.static yJ2_checkIndex_2214a) ∈ WAX := List.mem_append_left _ (List.mem_of_getElem? (i := 84) rfl)
theorem mx_85 : (Cond.code yJ2_checkIndex_2214a cJ2_checkIndex_2214a 2 none) ∈ WAX := List.mem_append_left _ (List.mem_of_getElem? (i := 85) rfl)
theorem mx_86 : (Cond.methodLink RJ2 48 yJ2_length_9d52b) ∈ WAX := List.mem_append_left _ (List.mem_of_getElem? (i := 86) rfl)
theorem mx_87 : (Cond.static yJ2_length_9d52b) ∈ WAX := List.mem_append_left _ (List.mem_of_getElem? (i := 87) rfl)
theorem mx_88 : (Cond.code yJ2_length_9d52b cJ2_length_9d52b 1 (some .int)) ∈ WAX := List.mem_append_left _ (List.mem_of_getElem? (i := 88) rfl)
theorem mx_89 : (Cond.methodLink RJ2 414 yJ0_checkIndex_df160) ∈ WAX := List.mem_append_left _ (List.mem_of_getElem? (i := 89) rfl)
theorem mx_90 : (Cond.methodLink RJ2 71 yJ2_getChar_3b067) ∈ WAX := List.mem_append_left _ (List.mem_of_getElem? (i := 90) rfl)
theorem mx_91 : (Cond.static yJ2_getChar_3b067) ∈ WAX := List.mem_append_left _ (List.mem_of_getElem? (i := 91) rfl)
theorem mx_92 : (Cond.code yJ2_getChar_3b067 cJ2_getChar_3b067 2 (some .char)) ∈ WAX := List.mem_append_left _ (List.mem_of_getElem? (i := 92) rfl)
theorem mx_93 : (Cond.fieldLink RJ2 44 "java/lang/StringUTF16" "$assertionsDisabled" "Z") ∈ WAX := List.mem_append_left _ (List.mem_of_getElem? (i := 93) rfl)
theorem mx_94 : (Cond.fieldLink RJ2 59 "java/lang/StringUTF16" "HI_BYTE_SHIFT" "I") ∈ WAX := List.mem_append_left _ (List.mem_of_getElem? (i := 94) rfl)
theorem mx_95 : (Cond.fieldLink RJ2 63 "java/lang/StringUTF16" "LO_BYTE_SHIFT" "I") ∈ WAX := List.mem_append_left _ (List.mem_of_getElem? (i := 95) rfl)
theorem mx_96 : (Cond.methodLink RX1 22 yX7_mayHold) ∈ WAX := List.mem_append_left _ (List.mem_of_getElem? (i := 96) rfl)
theorem mx_97 : (Cond.instanceMethod yX7_mayHold) ∈ WAX := List.mem_append_left _ (List.mem_of_getElem? (i := 97) rfl)
theorem mx_98 : (Cond.selects RX7 yX7_mayHold yX7_mayHold) ∈ WAX := List.mem_append_left _ (List.mem_of_getElem? (i := 98) rfl)
theorem mx_99 : (Cond.initialized RX7) ∈ WAX := List.mem_append_left _ (List.mem_of_getElem? (i := 99) rfl)
theorem mx_100 : (Cond.code yX7_mayHold cX7_mayHold 3 (some .boolean)) ∈ WAX := List.mem_append_left _ (List.mem_of_getElem? (i := 100) rfl)
theorem mx_101 : (Cond.fieldLink RX7 54 "SchematicText$Tree" "count" "I") ∈ WAX := List.mem_append_left _ (List.mem_of_getElem? (i := 101) rfl)
theorem mx_102 : (Cond.fieldLink RX7 80 "SchematicText$Kind" "DESIGN" "LSchematicText$Kind;") ∈ WAX := List.mem_append_left _ (List.mem_of_getElem? (i := 102) rfl)
theorem mx_103 : (Cond.methodLink RX7 63 yX7_has) ∈ WAX := List.mem_append_left _ (List.mem_of_getElem? (i := 103) rfl)
theorem mx_104 : (Cond.instanceMethod yX7_has) ∈ WAX := List.mem_append_left _ (List.mem_of_getElem? (i := 104) rfl)
theorem mx_105 : (Cond.selects RX7 yX7_has yX7_has) ∈ WAX := List.mem_append_left _ (List.mem_of_getElem? (i := 105) rfl)
theorem mx_106 : (Cond.code yX7_has cX7_has 2 (some .boolean)) ∈ WAX := List.mem_append_left _ (List.mem_of_getElem? (i := 106) rfl)
theorem mx_107 : (Cond.methodLink RX7 73 yX7_kindOf) ∈ WAX := List.mem_append_left _ (List.mem_of_getElem? (i := 107) rfl)
theorem mx_108 : (Cond.instanceMethod yX7_kindOf) ∈ WAX := List.mem_append_left _ (List.mem_of_getElem? (i := 108) rfl)
theorem mx_109 : (Cond.selects RX7 yX7_kindOf yX7_kindOf) ∈ WAX := List.mem_append_left _ (List.mem_of_getElem? (i := 109) rfl)
theorem mx_110 : (Cond.code yX7_kindOf cX7_kindOf 2 (some (.object "SchematicText$Kind"))) ∈ WAX := List.mem_append_left _ (List.mem_of_getElem? (i := 110) rfl)
theorem mx_111 : (Cond.fieldLink RX7 9 "SchematicText$Tree" "kinds" "[I") ∈ WAX := List.mem_append_left _ (List.mem_of_getElem? (i := 111) rfl)
theorem mx_112 : (Cond.methodLink RX7 67 yX2_numbered) ∈ WAX := List.mem_append_left _ (List.mem_of_getElem? (i := 112) rfl)
theorem mx_113 : (Cond.static yX2_numbered) ∈ WAX := List.mem_append_left _ (List.mem_of_getElem? (i := 113) rfl)
theorem mx_114 : (Cond.initialized RX2) ∈ WAX := List.mem_append_left _ (List.mem_of_getElem? (i := 114) rfl)
theorem mx_115 : (Cond.code yX2_numbered cX2_numbered 1 (some (.object "SchematicText$Kind"))) ∈ WAX := List.mem_append_left _ (List.mem_of_getElem? (i := 115) rfl)
theorem mx_116 : (Cond.fieldLink RX2 69 "SchematicText$Kind" "ALL" "[LSchematicText$Kind;") ∈ WAX := List.mem_append_left _ (List.mem_of_getElem? (i := 116) rfl)
theorem mx_117 : (Cond.fieldLink RX2 33 "SchematicText$Kind" "UNKNOWN" "LSchematicText$Kind;") ∈ WAX := List.mem_append_left _ (List.mem_of_getElem? (i := 117) rfl)
theorem mx_118 : (Cond.methodLink RX7 76 yX2_mayBeIn) ∈ WAX := List.mem_append_left _ (List.mem_of_getElem? (i := 118) rfl)
theorem mx_119 : (Cond.instanceMethod yX2_mayBeIn) ∈ WAX := List.mem_append_left _ (List.mem_of_getElem? (i := 119) rfl)
theorem mx_120 : (Cond.selects RX2 yX2_mayBeIn yX2_mayBeIn) ∈ WAX := List.mem_append_left _ (List.mem_of_getElem? (i := 120) rfl)
theorem mx_121 : (Cond.code yX2_mayBeIn cX2_mayBeIn 2 (some .boolean)) ∈ WAX := List.mem_append_left _ (List.mem_of_getElem? (i := 121) rfl)
theorem mx_122 : (Cond.fieldLink RX2 63 "SchematicText$Kind" "homes" "I") ∈ WAX := List.mem_append_left _ (List.mem_of_getElem? (i := 122) rfl)
theorem mx_123 : (Cond.fieldLink RX2 55 "SchematicText$Kind" "number" "I") ∈ WAX := List.mem_append_left _ (List.mem_of_getElem? (i := 123) rfl)
theorem mx_124 : (Cond.methodLink RX1 28 yX7_grow) ∈ WAX := List.mem_append_left _ (List.mem_of_getElem? (i := 124) rfl)
theorem mx_125 : (Cond.instanceMethod yX7_grow) ∈ WAX := List.mem_append_left _ (List.mem_of_getElem? (i := 125) rfl)
theorem mx_126 : (Cond.selects RX7 yX7_grow yX7_grow) ∈ WAX := List.mem_append_left _ (List.mem_of_getElem? (i := 126) rfl)
theorem mx_127 : (Cond.code yX7_grow cX7_grow 4 (some .int)) ∈ WAX := List.mem_append_left _ (List.mem_of_getElem? (i := 127) rfl)
theorem mx_128 : (Cond.fieldLink RX7 15 "SchematicText$Tree" "parents" "[I") ∈ WAX := List.mem_append_left _ (List.mem_of_getElem? (i := 128) rfl)
theorem mx_129 : (Cond.fieldLink RX7 18 "SchematicText$Tree" "depths" "[I") ∈ WAX := List.mem_append_left _ (List.mem_of_getElem? (i := 129) rfl)
theorem mx_130 : (Cond.fieldLink RX7 57 "SchematicText$Tree" "deepest" "I") ∈ WAX := List.mem_append_left _ (List.mem_of_getElem? (i := 130) rfl)
theorem mx_131 : (Cond.methodLink RX7 91 Lib.Math.max.name) ∈ WAX := List.mem_append_left _ (List.mem_of_getElem? (i := 131) rfl)
theorem mx_132 : (Cond.static Lib.Math.max.name) ∈ WAX := List.mem_append_left _ (List.mem_of_getElem? (i := 132) rfl)
theorem mx_133 : (Cond.initialized "java/lang/Math") ∈ WAX := List.mem_append_left _ (List.mem_of_getElem? (i := 133) rfl)
theorem mx_134 : (Cond.code Lib.Math.max.name Lib.Math.max.code 2 (some .int)) ∈ WAX := List.mem_append_left _ (List.mem_of_getElem? (i := 134) rfl)
theorem mx_135 : (Cond.fieldLink RX7 21 "SchematicText$Tree" "firsts" "[I") ∈ WAX := List.mem_append_left _ (List.mem_of_getElem? (i := 135) rfl)
theorem mx_136 : (Cond.fieldLink RX7 24 "SchematicText$Tree" "lasts" "[I") ∈ WAX := List.mem_append_left _ (List.mem_of_getElem? (i := 136) rfl)
theorem mx_137 : (Cond.fieldLink RX7 27 "SchematicText$Tree" "nexts" "[I") ∈ WAX := List.mem_append_left _ (List.mem_of_getElem? (i := 137) rfl)
theorem mx_138 : (Cond.fieldLink RX7 41 "SchematicText$Tree" "keptFrom" "[I") ∈ WAX := List.mem_append_left _ (List.mem_of_getElem? (i := 138) rfl)
theorem mx_139 : (Cond.fieldLink RX7 44 "SchematicText$Tree" "keptSizes" "[I") ∈ WAX := List.mem_append_left _ (List.mem_of_getElem? (i := 139) rfl)
theorem mx_140 : (Cond.methodLink RX7 87 yX7_depthOf) ∈ WAX := List.mem_append_left _ (List.mem_of_getElem? (i := 140) rfl)
theorem mx_141 : (Cond.instanceMethod yX7_depthOf) ∈ WAX := List.mem_append_left _ (List.mem_of_getElem? (i := 141) rfl)
theorem mx_142 : (Cond.selects RX7 yX7_depthOf yX7_depthOf) ∈ WAX := List.mem_append_left _ (List.mem_of_getElem? (i := 142) rfl)
theorem mx_143 : (Cond.code yX7_depthOf cX7_depthOf 2 (some .int)) ∈ WAX := List.mem_append_left _ (List.mem_of_getElem? (i := 143) rfl)
theorem mx_144 : (Cond.methodLink RX7 97 yX7_hang) ∈ WAX := List.mem_append_left _ (List.mem_of_getElem? (i := 144) rfl)
theorem mx_145 : (Cond.instanceMethod yX7_hang) ∈ WAX := List.mem_append_left _ (List.mem_of_getElem? (i := 145) rfl)
theorem mx_146 : (Cond.selects RX7 yX7_hang yX7_hang) ∈ WAX := List.mem_append_left _ (List.mem_of_getElem? (i := 146) rfl)
theorem mx_147 : (Cond.code yX7_hang cX7_hang 4 none) ∈ WAX := List.mem_append_left _ (List.mem_of_getElem? (i := 147) rfl)
theorem mx_148 : (Cond.methodLink RX7 101 yX7_fillAsMade) ∈ WAX := List.mem_append_left _ (List.mem_of_getElem? (i := 148) rfl)
theorem mx_149 : (Cond.instanceMethod yX7_fillAsMade) ∈ WAX := List.mem_append_left _ (List.mem_of_getElem? (i := 149) rfl)
theorem mx_150 : (Cond.selects RX7 yX7_fillAsMade yX7_fillAsMade) ∈ WAX := List.mem_append_left _ (List.mem_of_getElem? (i := 150) rfl)
theorem mx_151 : (Cond.code yX7_fillAsMade cX7_fillAsMade 6 none) ∈ WAX := List.mem_append_left _ (List.mem_of_getElem? (i := 151) rfl)
theorem mx_152 : (Cond.methodLink RX7 105 yX2_fields) ∈ WAX := List.mem_append_left _ (List.mem_of_getElem? (i := 152) rfl)
theorem mx_153 : (Cond.instanceMethod yX2_fields) ∈ WAX := List.mem_append_left _ (List.mem_of_getElem? (i := 153) rfl)
theorem mx_154 : (Cond.selects RX2 yX2_fields yX2_fields) ∈ WAX := List.mem_append_left _ (List.mem_of_getElem? (i := 154) rfl)
theorem mx_155 : (Cond.code yX2_fields cX2_fields 1 (some .int)) ∈ WAX := List.mem_append_left _ (List.mem_of_getElem? (i := 155) rfl)
theorem mx_156 : (Cond.fieldLink RX2 66 "SchematicText$Kind" "shape" "Ljava/lang/String;") ∈ WAX := List.mem_append_left _ (List.mem_of_getElem? (i := 156) rfl)
theorem mx_157 : (Cond.methodLink RX2 72 yJ0_length_8abf5) ∈ WAX := List.mem_append_left _ (List.mem_of_getElem? (i := 157) rfl)
theorem mx_158 : (Cond.methodLink RX7 109 yX2_fieldAt) ∈ WAX := List.mem_append_left _ (List.mem_of_getElem? (i := 158) rfl)
theorem mx_159 : (Cond.instanceMethod yX2_fieldAt) ∈ WAX := List.mem_append_left _ (List.mem_of_getElem? (i := 159) rfl)
theorem mx_160 : (Cond.selects RX2 yX2_fieldAt yX2_fieldAt) ∈ WAX := List.mem_append_left _ (List.mem_of_getElem? (i := 160) rfl)
theorem mx_161 : (Cond.code yX2_fieldAt cX2_fieldAt 2 (some (.object "SchematicText$Field"))) ∈ WAX := List.mem_append_left _ (List.mem_of_getElem? (i := 161) rfl)
theorem mx_162 : (Cond.methodLink RX2 78 yJ0_charAt_5068e) ∈ WAX := List.mem_append_left _ (List.mem_of_getElem? (i := 162) rfl)
theorem mx_163 : (Cond.methodLink RX2 82 yX0_lettered) ∈ WAX := List.mem_append_left _ (List.mem_of_getElem? (i := 163) rfl)
theorem mx_164 : (Cond.static yX0_lettered) ∈ WAX := List.mem_append_left _ (List.mem_of_getElem? (i := 164) rfl)
theorem mx_165 : (Cond.initialized RX0) ∈ WAX := List.mem_append_left _ (List.mem_of_getElem? (i := 165) rfl)
theorem mx_166 : (Cond.methodLink RX7 113 yX0_isText) ∈ WAX := List.mem_append_left _ (List.mem_of_getElem? (i := 166) rfl)
theorem mx_167 : (Cond.instanceMethod yX0_isText) ∈ WAX := List.mem_append_left _ (List.mem_of_getElem? (i := 167) rfl)
theorem mx_168 : (Cond.selects RX0 yX0_isText yX0_isText) ∈ WAX := List.mem_append_left _ (List.mem_of_getElem? (i := 168) rfl)
theorem mx_169 : (Cond.methodLink RX7 123 yX7_putNumber) ∈ WAX := List.mem_append_left _ (List.mem_of_getElem? (i := 169) rfl)
theorem mx_170 : (Cond.instanceMethod yX7_putNumber) ∈ WAX := List.mem_append_left _ (List.mem_of_getElem? (i := 170) rfl)
theorem mx_171 : (Cond.selects RX7 yX7_putNumber yX7_putNumber) ∈ WAX := List.mem_append_left _ (List.mem_of_getElem? (i := 171) rfl)
theorem mx_172 : (Cond.code yX7_putNumber cX7_putNumber 5 none) ∈ WAX := List.mem_append_left _ (List.mem_of_getElem? (i := 172) rfl)
theorem mx_173 : (Cond.fieldLink RX7 30 "SchematicText$Tree" "numbers" "[J") ∈ WAX := List.mem_append_left _ (List.mem_of_getElem? (i := 173) rfl)
theorem mx_174 : (Cond.methodLink RX7 130 yX7_hasNumber) ∈ WAX := List.mem_append_left _ (List.mem_of_getElem? (i := 174) rfl)
theorem mx_175 : (Cond.instanceMethod yX7_hasNumber) ∈ WAX := List.mem_append_left _ (List.mem_of_getElem? (i := 175) rfl)
theorem mx_176 : (Cond.selects RX7 yX7_hasNumber yX7_hasNumber) ∈ WAX := List.mem_append_left _ (List.mem_of_getElem? (i := 176) rfl)
theorem mx_177 : (Cond.code yX7_hasNumber cX7_hasNumber 3 (some .boolean)) ∈ WAX := List.mem_append_left _ (List.mem_of_getElem? (i := 177) rfl)
theorem mx_178 : (Cond.methodLink RX7 127 yX7_emptyText) ∈ WAX := List.mem_append_left _ (List.mem_of_getElem? (i := 178) rfl)
theorem mx_179 : (Cond.instanceMethod yX7_emptyText) ∈ WAX := List.mem_append_left _ (List.mem_of_getElem? (i := 179) rfl)
theorem mx_180 : (Cond.selects RX7 yX7_emptyText yX7_emptyText) ∈ WAX := List.mem_append_left _ (List.mem_of_getElem? (i := 180) rfl)
theorem mx_181 : (Cond.code yX7_emptyText cX7_emptyText 3 none) ∈ WAX := List.mem_append_left _ (List.mem_of_getElem? (i := 181) rfl)
theorem mx_182 : (Cond.fieldLink RX7 34 "SchematicText$Tree" "textSizes" "[I") ∈ WAX := List.mem_append_left _ (List.mem_of_getElem? (i := 182) rfl)
theorem mx_183 : (Cond.methodLink RX7 134 yX7_hasText) ∈ WAX := List.mem_append_left _ (List.mem_of_getElem? (i := 183) rfl)
theorem mx_184 : (Cond.instanceMethod yX7_hasText) ∈ WAX := List.mem_append_left _ (List.mem_of_getElem? (i := 184) rfl)
theorem mx_185 : (Cond.selects RX7 yX7_hasText yX7_hasText) ∈ WAX := List.mem_append_left _ (List.mem_of_getElem? (i := 185) rfl)
theorem mx_186 : (Cond.code yX7_hasText cX7_hasText 3 (some .boolean)) ∈ WAX := List.mem_append_left _ (List.mem_of_getElem? (i := 186) rfl)
theorem mx_187 : (Cond.methodLink RX1 32 yX6_failAt) ∈ WAX := List.mem_append_left _ (List.mem_of_getElem? (i := 187) rfl)
theorem mx_188 : (Cond.instanceMethod yX6_failAt) ∈ WAX := List.mem_append_left _ (List.mem_of_getElem? (i := 188) rfl)
theorem mx_189 : (Cond.selects RX6 yX6_failAt yX6_failAt) ∈ WAX := List.mem_append_left _ (List.mem_of_getElem? (i := 189) rfl)
theorem mx_190 : (Cond.code yX6_failAt cX6_failAt 2 (some .boolean)) ∈ WAX := List.mem_append_left _ (List.mem_of_getElem? (i := 190) rfl)
theorem mx_191 : (Cond.fieldLink RX6 22 "SchematicText$Source" "fault" "I") ∈ WAX := List.mem_append_left _ (List.mem_of_getElem? (i := 191) rfl)
theorem mx_192 : (Cond.code yX1_takeValues cX1_takeValues 9 (some .boolean)) ∈ WAX := List.mem_append_left _ (List.mem_of_getElem? (i := 192) rfl)
theorem mx_193 : (Cond.fieldLink RX1 40 "SchematicText$Kind" "DESIGN" "LSchematicText$Kind;") ∈ WAX := List.mem_append_left _ (List.mem_of_getElem? (i := 193) rfl)
theorem mx_194 : (Cond.fieldLink RX1 52 "SchematicText$Field" "VERSION" "LSchematicText$Field;") ∈ WAX := List.mem_append_left _ (List.mem_of_getElem? (i := 194) rfl)
theorem mx_195 : (Cond.methodLink RX1 36 yX7_kindOf) ∈ WAX := List.mem_append_left _ (List.mem_of_getElem? (i := 195) rfl)
theorem mx_196 : (Cond.methodLink RX1 46 ⟨"SchematicText$Form", "passGap", "(LSchematicText$Source;)Z"⟩) ∈ WAX := List.mem_append_left _ (List.mem_of_getElem? (i := 196) rfl)
theorem mx_197 : (Cond.sameMethod "SchematicText$Form" "SchematicText$Form" "passGap" "(LSchematicText$Source;)Z") ∈ WAX := List.mem_append_left _ (List.mem_of_getElem? (i := 197) rfl)
theorem mx_198 : (Cond.selects RX3 ⟨"SchematicText$Form", "passGap", "(LSchematicText$Source;)Z"⟩ yX3_passGap) ∈ WAX := List.mem_append_left _ (List.mem_of_getElem? (i := 198) rfl)
theorem mx_199 : (Cond.instanceMethod yX3_passGap) ∈ WAX := List.mem_append_left _ (List.mem_of_getElem? (i := 199) rfl)
theorem mx_200 : (Cond.initialized RX3) ∈ WAX := List.mem_append_left _ (List.mem_of_getElem? (i := 200) rfl)
theorem mx_201 : (Cond.code yX3_passGap cX3_passGap 2 (some .boolean)) ∈ WAX := List.mem_append_left _ (List.mem_of_getElem? (i := 201) rfl)
theorem mx_202 : (Cond.methodLink RX3 63 yX6_passOnly) ∈ WAX := List.mem_append_left _ (List.mem_of_getElem? (i := 202) rfl)
theorem mx_203 : (Cond.instanceMethod yX6_passOnly) ∈ WAX := List.mem_append_left _ (List.mem_of_getElem? (i := 203) rfl)
theorem mx_204 : (Cond.selects RX6 yX6_passOnly yX6_passOnly) ∈ WAX := List.mem_append_left _ (List.mem_of_getElem? (i := 204) rfl)
theorem mx_205 : (Cond.code yX6_passOnly cX6_passOnly 2 (some .boolean)) ∈ WAX := List.mem_append_left _ (List.mem_of_getElem? (i := 205) rfl)
theorem mx_206 : (Cond.methodLink RX6 37 yX6_failAt) ∈ WAX := List.mem_append_left _ (List.mem_of_getElem? (i := 206) rfl)
theorem mx_207 : (Cond.selects RX4 ⟨"SchematicText$Form", "passGap", "(LSchematicText$Source;)Z"⟩ yX4_passGap) ∈ WAX := List.mem_append_left _ (List.mem_of_getElem? (i := 207) rfl)
theorem mx_208 : (Cond.instanceMethod yX4_passGap) ∈ WAX := List.mem_append_left _ (List.mem_of_getElem? (i := 208) rfl)
theorem mx_209 : (Cond.initialized RX4) ∈ WAX := List.mem_append_left _ (List.mem_of_getElem? (i := 209) rfl)
theorem mx_210 : (Cond.code yX4_passGap cX4_passGap 3 (some .boolean)) ∈ WAX := List.mem_append_left _ (List.mem_of_getElem? (i := 210) rfl)
theorem mx_211 : (Cond.methodLink RX4 9 yX6_passBlanks) ∈ WAX := List.mem_append_left _ (List.mem_of_getElem? (i := 211) rfl)
theorem mx_212 : (Cond.instanceMethod yX6_passBlanks) ∈ WAX := List.mem_append_left _ (List.mem_of_getElem? (i := 212) rfl)
theorem mx_213 : (Cond.selects RX6 yX6_passBlanks yX6_passBlanks) ∈ WAX := List.mem_append_left _ (List.mem_of_getElem? (i := 213) rfl)
theorem mx_214 : (Cond.code yX6_passBlanks cX6_passBlanks 1 none) ∈ WAX := List.mem_append_left _ (List.mem_of_getElem? (i := 214) rfl)
theorem mx_215 : (Cond.methodLink RX4 22 yX6_failAt) ∈ WAX := List.mem_append_left _ (List.mem_of_getElem? (i := 215) rfl)
theorem mx_216 : (Cond.methodLink RX1 58 yX6_takeNumber) ∈ WAX := List.mem_append_left _ (List.mem_of_getElem? (i := 216) rfl)
theorem mx_217 : (Cond.instanceMethod yX6_takeNumber) ∈ WAX := List.mem_append_left _ (List.mem_of_getElem? (i := 217) rfl)
theorem mx_218 : (Cond.selects RX6 yX6_takeNumber yX6_takeNumber) ∈ WAX := List.mem_append_left _ (List.mem_of_getElem? (i := 218) rfl)
theorem mx_219 : (Cond.code yX6_takeNumber cX6_takeNumber 4 (some .boolean)) ∈ WAX := List.mem_append_left _ (List.mem_of_getElem? (i := 219) rfl)
theorem mx_220 : (Cond.fieldLink RX6 25 "SchematicText$Source" "value" "J") ∈ WAX := List.mem_append_left _ (List.mem_of_getElem? (i := 220) rfl)
theorem mx_221 : (Cond.methodLink RX6 80 yX6_takeDigits) ∈ WAX := List.mem_append_left _ (List.mem_of_getElem? (i := 221) rfl)
theorem mx_222 : (Cond.instanceMethod yX6_takeDigits) ∈ WAX := List.mem_append_left _ (List.mem_of_getElem? (i := 222) rfl)
theorem mx_223 : (Cond.selects RX6 yX6_takeDigits yX6_takeDigits) ∈ WAX := List.mem_append_left _ (List.mem_of_getElem? (i := 223) rfl)
theorem mx_224 : (Cond.code yX6_takeDigits cX6_takeDigits 3 (some .boolean)) ∈ WAX := List.mem_append_left _ (List.mem_of_getElem? (i := 224) rfl)
theorem mx_225 : (Cond.constantLong RX6 99 (10)) ∈ WAX := List.mem_append_left _ (List.mem_of_getElem? (i := 225) rfl)
theorem mx_226 : (Cond.static yX8_isDigit) ∈ WAX := List.mem_append_left _ (List.mem_of_getElem? (i := 226) rfl)
theorem mx_227 : (Cond.code yX8_isDigit cX8_isDigit 1 (some .boolean)) ∈ WAX := List.mem_append_left _ (List.mem_of_getElem? (i := 227) rfl)
theorem mx_228 : (Cond.methodLink RX6 83 yX0_isLength) ∈ WAX := List.mem_append_left _ (List.mem_of_getElem? (i := 228) rfl)
theorem mx_229 : (Cond.instanceMethod yX0_isLength) ∈ WAX := List.mem_append_left _ (List.mem_of_getElem? (i := 229) rfl)
theorem mx_230 : (Cond.selects RX0 yX0_isLength yX0_isLength) ∈ WAX := List.mem_append_left _ (List.mem_of_getElem? (i := 230) rfl)
theorem mx_231 : (Cond.methodLink RX6 89 yX6_takePointDigits) ∈ WAX := List.mem_append_left _ (List.mem_of_getElem? (i := 231) rfl)
theorem mx_232 : (Cond.instanceMethod yX6_takePointDigits) ∈ WAX := List.mem_append_left _ (List.mem_of_getElem? (i := 232) rfl)
theorem mx_233 : (Cond.selects RX6 yX6_takePointDigits yX6_takePointDigits) ∈ WAX := List.mem_append_left _ (List.mem_of_getElem? (i := 233) rfl)
theorem mx_234 : (Cond.code yX6_takePointDigits cX6_takePointDigits 3 (some .boolean)) ∈ WAX := List.mem_append_left _ (List.mem_of_getElem? (i := 234) rfl)
theorem mx_235 : (Cond.methodLink RX6 96 Lib.Math.max.name) ∈ WAX := List.mem_append_left _ (List.mem_of_getElem? (i := 235) rfl)
theorem mx_236 : (Cond.methodLink RX6 92 yX0_admits) ∈ WAX := List.mem_append_left _ (List.mem_of_getElem? (i := 236) rfl)
theorem mx_237 : (Cond.instanceMethod yX0_admits) ∈ WAX := List.mem_append_left _ (List.mem_of_getElem? (i := 237) rfl)
theorem mx_238 : (Cond.selects RX0 yX0_admits yX0_admits) ∈ WAX := List.mem_append_left _ (List.mem_of_getElem? (i := 238) rfl)
theorem mx_239 : (Cond.methodLink RX1 69 yX2_fields) ∈ WAX := List.mem_append_left _ (List.mem_of_getElem? (i := 239) rfl)
theorem mx_240 : (Cond.methodLink RX1 73 yX2_fieldAt) ∈ WAX := List.mem_append_left _ (List.mem_of_getElem? (i := 240) rfl)
theorem mx_241 : (Cond.methodLink RX1 80 yX0_isText) ∈ WAX := List.mem_append_left _ (List.mem_of_getElem? (i := 241) rfl)
theorem mx_242 : (Cond.methodLink RX1 84 yX6_takeText) ∈ WAX := List.mem_append_left _ (List.mem_of_getElem? (i := 242) rfl)
theorem mx_243 : (Cond.instanceMethod yX6_takeText) ∈ WAX := List.mem_append_left _ (List.mem_of_getElem? (i := 243) rfl)
theorem mx_244 : (Cond.selects RX6 yX6_takeText yX6_takeText) ∈ WAX := List.mem_append_left _ (List.mem_of_getElem? (i := 244) rfl)
theorem mx_245 : (Cond.code yX6_takeText cX6_takeText 5 (some .boolean)) ∈ WAX := List.mem_append_left _ (List.mem_of_getElem? (i := 245) rfl)
theorem mx_246 : (Cond.methodLink RX6 104 yX6_passOnly) ∈ WAX := List.mem_append_left _ (List.mem_of_getElem? (i := 246) rfl)
theorem mx_247 : (Cond.static yX8_isTextMark) ∈ WAX := List.mem_append_left _ (List.mem_of_getElem? (i := 247) rfl)
theorem mx_248 : (Cond.code yX8_isTextMark cX8_isTextMark 1 (some .boolean)) ∈ WAX := List.mem_append_left _ (List.mem_of_getElem? (i := 248) rfl)
theorem mx_249 : (Cond.methodLink RX6 108 yX6_passEscape) ∈ WAX := List.mem_append_left _ (List.mem_of_getElem? (i := 249) rfl)
theorem mx_250 : (Cond.instanceMethod yX6_passEscape) ∈ WAX := List.mem_append_left _ (List.mem_of_getElem? (i := 250) rfl)
theorem mx_251 : (Cond.selects RX6 yX6_passEscape yX6_passEscape) ∈ WAX := List.mem_append_left _ (List.mem_of_getElem? (i := 251) rfl)
theorem mx_252 : (Cond.code yX6_passEscape cX6_passEscape 2 (some .boolean)) ∈ WAX := List.mem_append_left _ (List.mem_of_getElem? (i := 252) rfl)
theorem mx_253 : (Cond.static yX8_needsEscape) ∈ WAX := List.mem_append_left _ (List.mem_of_getElem? (i := 253) rfl)
theorem mx_254 : (Cond.code yX8_needsEscape cX8_needsEscape 1 (some .boolean)) ∈ WAX := List.mem_append_left _ (List.mem_of_getElem? (i := 254) rfl)
theorem mx_255 : (Cond.methodLink RX6 111 yX7_appendToText) ∈ WAX := List.mem_append_left _ (List.mem_of_getElem? (i := 255) rfl)
theorem mx_256 : (Cond.instanceMethod yX7_appendToText) ∈ WAX := List.mem_append_left _ (List.mem_of_getElem? (i := 256) rfl)
theorem mx_257 : (Cond.selects RX7 yX7_appendToText yX7_appendToText) ∈ WAX := List.mem_append_left _ (List.mem_of_getElem? (i := 257) rfl)
theorem mx_258 : (Cond.code yX7_appendToText cX7_appendToText 6 none) ∈ WAX := List.mem_append_left _ (List.mem_of_getElem? (i := 258) rfl)
theorem mx_259 : (Cond.fieldLink RX7 37 "SchematicText$Tree" "textMarks" "[C") ∈ WAX := List.mem_append_left _ (List.mem_of_getElem? (i := 259) rfl)
theorem mx_260 : (Cond.methodLink RX1 88 yX7_putNumber) ∈ WAX := List.mem_append_left _ (List.mem_of_getElem? (i := 260) rfl)
theorem mx_261 : (Cond.code yX1_putNameAndValues cX1_putNameAndValues 9 none) ∈ WAX := List.mem_append_left _ (List.mem_of_getElem? (i := 261) rfl)
theorem mx_262 : (Cond.constantLong RX1 106 (3)) ∈ WAX := List.mem_append_left _ (List.mem_of_getElem? (i := 262) rfl)
theorem mx_263 : (Cond.methodLink RX1 96 yX5_putTitle) ∈ WAX := List.mem_append_left _ (List.mem_of_getElem? (i := 263) rfl)
theorem mx_264 : (Cond.instanceMethod yX5_putTitle) ∈ WAX := List.mem_append_left _ (List.mem_of_getElem? (i := 264) rfl)
theorem mx_265 : (Cond.selects RX5 yX5_putTitle yX5_putTitle) ∈ WAX := List.mem_append_left _ (List.mem_of_getElem? (i := 265) rfl)
theorem mx_266 : (Cond.initialized RX5) ∈ WAX := List.mem_append_left _ (List.mem_of_getElem? (i := 266) rfl)
theorem mx_267 : (Cond.code yX5_putTitle cX5_putTitle 3 none) ∈ WAX := List.mem_append_left _ (List.mem_of_getElem? (i := 267) rfl)
theorem mx_268 : (Cond.methodLink RX5 24 yJ0_length_8abf5) ∈ WAX := List.mem_append_left _ (List.mem_of_getElem? (i := 268) rfl)
theorem mx_269 : (Cond.methodLink RX5 30 yJ0_charAt_5068e) ∈ WAX := List.mem_append_left _ (List.mem_of_getElem? (i := 269) rfl)
theorem mx_270 : (Cond.methodLink RX5 20 yX5_put) ∈ WAX := List.mem_append_left _ (List.mem_of_getElem? (i := 270) rfl)
theorem mx_271 : (Cond.instanceMethod yX5_put) ∈ WAX := List.mem_append_left _ (List.mem_of_getElem? (i := 271) rfl)
theorem mx_272 : (Cond.selects RX5 yX5_put yX5_put) ∈ WAX := List.mem_append_left _ (List.mem_of_getElem? (i := 272) rfl)
theorem mx_273 : (Cond.code yX5_put cX5_put 2 none) ∈ WAX := List.mem_append_left _ (List.mem_of_getElem? (i := 273) rfl)
theorem mx_274 : (Cond.fieldLink RX5 16 "SchematicText$Page" "count" "I") ∈ WAX := List.mem_append_left _ (List.mem_of_getElem? (i := 274) rfl)
theorem mx_275 : (Cond.constant RX5 9 (60000)) ∈ WAX := List.mem_append_left _ (List.mem_of_getElem? (i := 275) rfl)
theorem mx_276 : (Cond.fieldLink RX5 10 "SchematicText$Page" "marks" "[C") ∈ WAX := List.mem_append_left _ (List.mem_of_getElem? (i := 276) rfl)
theorem mx_277 : (Cond.methodLink RX1 102 yX5_put) ∈ WAX := List.mem_append_left _ (List.mem_of_getElem? (i := 277) rfl)
theorem mx_278 : (Cond.methodLink RX1 108 yX5_putNumber) ∈ WAX := List.mem_append_left _ (List.mem_of_getElem? (i := 278) rfl)
theorem mx_279 : (Cond.instanceMethod yX5_putNumber) ∈ WAX := List.mem_append_left _ (List.mem_of_getElem? (i := 279) rfl)
theorem mx_280 : (Cond.selects RX5 yX5_putNumber yX5_putNumber) ∈ WAX := List.mem_append_left _ (List.mem_of_getElem? (i := 280) rfl)
theorem mx_281 : (Cond.code yX5_putNumber cX5_putNumber 6 none) ∈ WAX := List.mem_append_left _ (List.mem_of_getElem? (i := 281) rfl)
theorem mx_282 : (Cond.methodLink RX5 34 Lib.MathLoose.abs_long.x) ∈ WAX := List.mem_append_left _ (List.mem_of_getElem? (i := 282) rfl)
theorem mx_283 : (Cond.static Lib.MathLoose.abs_long.x) ∈ WAX := List.mem_append_left _ (List.mem_of_getElem? (i := 283) rfl)
theorem mx_284 : (Cond.code Lib.MathLoose.abs_long.x Lib.MathLoose.abs_long.code 2 (some .long)) ∈ WAX := List.mem_append_left _ (List.mem_of_getElem? (i := 284) rfl)
theorem mx_285 : (Cond.constantLong RX5 46 (1000000)) ∈ WAX := List.mem_append_left _ (List.mem_of_getElem? (i := 285) rfl)
theorem mx_286 : (Cond.methodLink RX5 40 yX0_isLength) ∈ WAX := List.mem_append_left _ (List.mem_of_getElem? (i := 286) rfl)
theorem mx_287 : (Cond.methodLink RX5 48 yX5_putWhole) ∈ WAX := List.mem_append_left _ (List.mem_of_getElem? (i := 287) rfl)
theorem mx_288 : (Cond.instanceMethod yX5_putWhole) ∈ WAX := List.mem_append_left _ (List.mem_of_getElem? (i := 288) rfl)
theorem mx_289 : (Cond.selects RX5 yX5_putWhole yX5_putWhole) ∈ WAX := List.mem_append_left _ (List.mem_of_getElem? (i := 289) rfl)
theorem mx_290 : (Cond.code yX5_putWhole cX5_putWhole 5 none) ∈ WAX := List.mem_append_left _ (List.mem_of_getElem? (i := 290) rfl)
theorem mx_291 : (Cond.methodLink RX5 51 yX5_putPoint) ∈ WAX := List.mem_append_left _ (List.mem_of_getElem? (i := 291) rfl)
theorem mx_292 : (Cond.instanceMethod yX5_putPoint) ∈ WAX := List.mem_append_left _ (List.mem_of_getElem? (i := 292) rfl)
theorem mx_293 : (Cond.selects RX5 yX5_putPoint yX5_putPoint) ∈ WAX := List.mem_append_left _ (List.mem_of_getElem? (i := 293) rfl)
theorem mx_294 : (Cond.code yX5_putPoint cX5_putPoint 4 none) ∈ WAX := List.mem_append_left _ (List.mem_of_getElem? (i := 294) rfl)
theorem mx_295 : (Cond.constant RX5 54 (100000)) ∈ WAX := List.mem_append_left _ (List.mem_of_getElem? (i := 295) rfl)
theorem mx_296 : (Cond.methodLink RX1 111 yX5_putText) ∈ WAX := List.mem_append_left _ (List.mem_of_getElem? (i := 296) rfl)
theorem mx_297 : (Cond.instanceMethod yX5_putText) ∈ WAX := List.mem_append_left _ (List.mem_of_getElem? (i := 297) rfl)
theorem mx_298 : (Cond.selects RX5 yX5_putText yX5_putText) ∈ WAX := List.mem_append_left _ (List.mem_of_getElem? (i := 298) rfl)
theorem mx_299 : (Cond.code yX5_putText cX5_putText 6 none) ∈ WAX := List.mem_append_left _ (List.mem_of_getElem? (i := 299) rfl)
set_option maxRecDepth 20000 in
theorem mx_300 : (Cond.methodLink RX5 55 yX7_textSize) ∈ WAX := List.mem_append_left _ (List.mem_of_getElem? (i := 300) rfl)
set_option maxRecDepth 20000 in
theorem mx_301 : (Cond.instanceMethod yX7_textSize) ∈ WAX := List.mem_append_left _ (List.mem_of_getElem? (i := 301) rfl)
set_option maxRecDepth 20000 in
theorem mx_302 : (Cond.selects RX7 yX7_textSize yX7_textSize) ∈ WAX := List.mem_append_left _ (List.mem_of_getElem? (i := 302) rfl)
set_option maxRecDepth 20000 in
theorem mx_303 : (Cond.code yX7_textSize cX7_textSize 3 (some .int)) ∈ WAX := List.mem_append_left _ (List.mem_of_getElem? (i := 303) rfl)
set_option maxRecDepth 20000 in
theorem mx_304 : (Cond.methodLink RX5 61 yX7_textMark) ∈ WAX := List.mem_append_left _ (List.mem_of_getElem? (i := 304) rfl)
set_option maxRecDepth 20000 in
theorem mx_305 : (Cond.instanceMethod yX7_textMark) ∈ WAX := List.mem_append_left _ (List.mem_of_getElem? (i := 305) rfl)
set_option maxRecDepth 20000 in
theorem mx_306 : (Cond.selects RX7 yX7_textMark yX7_textMark) ∈ WAX := List.mem_append_left _ (List.mem_of_getElem? (i := 306) rfl)
set_option maxRecDepth 20000 in
theorem mx_307 : (Cond.code yX7_textMark cX7_textMark 4 (some .int)) ∈ WAX := List.mem_append_left _ (List.mem_of_getElem? (i := 307) rfl)
set_option maxRecDepth 20000 in
theorem mx_308 : (Cond.methodLink RX7 137 yX7_textSize) ∈ WAX := List.mem_append_left _ (List.mem_of_getElem? (i := 308) rfl)
set_option maxRecDepth 20000 in
theorem mx_309 : (Cond.methodLink RX1 115 yX7_numberOf) ∈ WAX := List.mem_append_left _ (List.mem_of_getElem? (i := 309) rfl)
set_option maxRecDepth 20000 in
theorem mx_310 : (Cond.instanceMethod yX7_numberOf) ∈ WAX := List.mem_append_left _ (List.mem_of_getElem? (i := 310) rfl)
set_option maxRecDepth 20000 in
theorem mx_311 : (Cond.selects RX7 yX7_numberOf yX7_numberOf) ∈ WAX := List.mem_append_left _ (List.mem_of_getElem? (i := 311) rfl)
set_option maxRecDepth 20000 in
theorem mx_312 : (Cond.code yX7_numberOf cX7_numberOf 3 (some .long)) ∈ WAX := List.mem_append_left _ (List.mem_of_getElem? (i := 312) rfl)
set_option maxRecDepth 20000 in
theorem mx_313 : (Cond.code yX2_spotOf cX2_spotOf 5 (some .int)) ∈ WAX := List.mem_append_left _ (List.mem_of_getElem? (i := 313) rfl)
set_option maxRecDepth 20000 in
theorem mx_314 : (Cond.methodLink RX2 88 yX2_fieldAt) ∈ WAX := List.mem_append_left _ (List.mem_of_getElem? (i := 314) rfl)
set_option maxRecDepth 20000 in
theorem mx_315 : (Cond.methodLink RX2 92 yX0_isText) ∈ WAX := List.mem_append_left _ (List.mem_of_getElem? (i := 315) rfl)
set_option maxRecDepth 20000 in
theorem mx_316 : (Cond.code yX3_init cX3_init 1 none) ∈ WAX := List.mem_append_left _ (List.mem_of_getElem? (i := 316) rfl)
set_option maxRecDepth 20000 in
theorem mx_317 : (Cond.instanceMethod yX1_init) ∈ WAX := List.mem_append_left _ (List.mem_of_getElem? (i := 317) rfl)
set_option maxRecDepth 20000 in
theorem mx_318 : (Cond.initialized RX1) ∈ WAX := List.mem_append_left _ (List.mem_of_getElem? (i := 318) rfl)
set_option maxRecDepth 20000 in
theorem mx_319 : (Cond.code yX3_take cX3_take 5 (some .boolean)) ∈ WAX := List.mem_append_left _ (List.mem_of_getElem? (i := 319) rfl)
set_option maxRecDepth 20000 in
theorem mx_320 : (Cond.methodLink RX3 9 yX3_takeLine) ∈ WAX := List.mem_append_left _ (List.mem_of_getElem? (i := 320) rfl)
set_option maxRecDepth 20000 in
theorem mx_321 : (Cond.instanceMethod yX3_takeLine) ∈ WAX := List.mem_append_left _ (List.mem_of_getElem? (i := 321) rfl)
set_option maxRecDepth 20000 in
theorem mx_322 : (Cond.selects RX3 yX3_takeLine yX3_takeLine) ∈ WAX := List.mem_append_left _ (List.mem_of_getElem? (i := 322) rfl)
set_option maxRecDepth 20000 in
theorem mx_323 : (Cond.code yX3_takeLine cX3_takeLine 8 (some .int)) ∈ WAX := List.mem_append_left _ (List.mem_of_getElem? (i := 323) rfl)
set_option maxRecDepth 20000 in
theorem mx_324 : (Cond.fieldLink RX3 49 "SchematicText$Kind" "UNKNOWN" "LSchematicText$Kind;") ∈ WAX := List.mem_append_left _ (List.mem_of_getElem? (i := 324) rfl)
set_option maxRecDepth 20000 in
theorem mx_325 : (Cond.methodLink RX3 21 yX7_depthOf) ∈ WAX := List.mem_append_left _ (List.mem_of_getElem? (i := 325) rfl)
set_option maxRecDepth 20000 in
theorem mx_326 : (Cond.methodLink RX3 31 yX6_dotsFrom) ∈ WAX := List.mem_append_left _ (List.mem_of_getElem? (i := 326) rfl)
set_option maxRecDepth 20000 in
theorem mx_327 : (Cond.instanceMethod yX6_dotsFrom) ∈ WAX := List.mem_append_left _ (List.mem_of_getElem? (i := 327) rfl)
set_option maxRecDepth 20000 in
theorem mx_328 : (Cond.selects RX6 yX6_dotsFrom yX6_dotsFrom) ∈ WAX := List.mem_append_left _ (List.mem_of_getElem? (i := 328) rfl)
set_option maxRecDepth 20000 in
theorem mx_329 : (Cond.code yX6_dotsFrom cX6_dotsFrom 3 (some .int)) ∈ WAX := List.mem_append_left _ (List.mem_of_getElem? (i := 329) rfl)
set_option maxRecDepth 20000 in
theorem mx_330 : (Cond.methodLink RX3 34 yX6_failAt) ∈ WAX := List.mem_append_left _ (List.mem_of_getElem? (i := 330) rfl)
set_option maxRecDepth 20000 in
theorem mx_331 : (Cond.methodLink RX3 38 yX3_holderOf) ∈ WAX := List.mem_append_left _ (List.mem_of_getElem? (i := 331) rfl)
set_option maxRecDepth 20000 in
theorem mx_332 : (Cond.instanceMethod yX3_holderOf) ∈ WAX := List.mem_append_left _ (List.mem_of_getElem? (i := 332) rfl)
set_option maxRecDepth 20000 in
theorem mx_333 : (Cond.selects RX3 yX3_holderOf yX3_holderOf) ∈ WAX := List.mem_append_left _ (List.mem_of_getElem? (i := 333) rfl)
set_option maxRecDepth 20000 in
theorem mx_334 : (Cond.code yX3_holderOf cX3_holderOf 6 (some .int)) ∈ WAX := List.mem_append_left _ (List.mem_of_getElem? (i := 334) rfl)
set_option maxRecDepth 20000 in
theorem mx_335 : (Cond.methodLink RX3 67 yX7_parentOf) ∈ WAX := List.mem_append_left _ (List.mem_of_getElem? (i := 335) rfl)
set_option maxRecDepth 20000 in
theorem mx_336 : (Cond.instanceMethod yX7_parentOf) ∈ WAX := List.mem_append_left _ (List.mem_of_getElem? (i := 336) rfl)
set_option maxRecDepth 20000 in
theorem mx_337 : (Cond.selects RX7 yX7_parentOf yX7_parentOf) ∈ WAX := List.mem_append_left _ (List.mem_of_getElem? (i := 337) rfl)
set_option maxRecDepth 20000 in
theorem mx_338 : (Cond.code yX7_parentOf cX7_parentOf 2 (some .int)) ∈ WAX := List.mem_append_left _ (List.mem_of_getElem? (i := 338) rfl)
set_option maxRecDepth 20000 in
theorem mx_339 : (Cond.methodLink RX3 42 ⟨"SchematicText$LineForm", "takeName", "(LSchematicText$Source;LSchematicText$Tree;I)I"⟩) ∈ WAX := List.mem_append_left _ (List.mem_of_getElem? (i := 339) rfl)
set_option maxRecDepth 20000 in
theorem mx_340 : (Cond.sameMethod "SchematicText$LineForm" "SchematicText$Form" "takeName" "(LSchematicText$Source;LSchematicText$Tree;I)I") ∈ WAX := List.mem_append_left _ (List.mem_of_getElem? (i := 340) rfl)
set_option maxRecDepth 20000 in
theorem mx_341 : (Cond.selects RX3 ⟨"SchematicText$LineForm", "takeName", "(LSchematicText$Source;LSchematicText$Tree;I)I"⟩ yX1_takeName) ∈ WAX := List.mem_append_left _ (List.mem_of_getElem? (i := 341) rfl)
set_option maxRecDepth 20000 in
theorem mx_342 : (Cond.instanceMethod yX1_takeName) ∈ WAX := List.mem_append_left _ (List.mem_of_getElem? (i := 342) rfl)
set_option maxRecDepth 20000 in
theorem mx_343 : (Cond.methodLink RX3 45 yX7_kindOf) ∈ WAX := List.mem_append_left _ (List.mem_of_getElem? (i := 343) rfl)
set_option maxRecDepth 20000 in
theorem mx_344 : (Cond.methodLink RX3 55 yX3_keepLines) ∈ WAX := List.mem_append_left _ (List.mem_of_getElem? (i := 344) rfl)
set_option maxRecDepth 20000 in
theorem mx_345 : (Cond.instanceMethod yX3_keepLines) ∈ WAX := List.mem_append_left _ (List.mem_of_getElem? (i := 345) rfl)
set_option maxRecDepth 20000 in
theorem mx_346 : (Cond.selects RX3 yX3_keepLines yX3_keepLines) ∈ WAX := List.mem_append_left _ (List.mem_of_getElem? (i := 346) rfl)
set_option maxRecDepth 20000 in
theorem mx_347 : (Cond.code yX3_keepLines cX3_keepLines 8 (some .boolean)) ∈ WAX := List.mem_append_left _ (List.mem_of_getElem? (i := 347) rfl)
set_option maxRecDepth 20000 in
theorem mx_348 : (Cond.methodLink RX3 70 yX6_lineEnd) ∈ WAX := List.mem_append_left _ (List.mem_of_getElem? (i := 348) rfl)
set_option maxRecDepth 20000 in
theorem mx_349 : (Cond.instanceMethod yX6_lineEnd) ∈ WAX := List.mem_append_left _ (List.mem_of_getElem? (i := 349) rfl)
set_option maxRecDepth 20000 in
theorem mx_350 : (Cond.selects RX6 yX6_lineEnd yX6_lineEnd) ∈ WAX := List.mem_append_left _ (List.mem_of_getElem? (i := 350) rfl)
set_option maxRecDepth 20000 in
theorem mx_351 : (Cond.code yX6_lineEnd cX6_lineEnd 3 (some .int)) ∈ WAX := List.mem_append_left _ (List.mem_of_getElem? (i := 351) rfl)
set_option maxRecDepth 20000 in
theorem mx_352 : (Cond.methodLink RX6 47 Lib.Math.min.name) ∈ WAX := List.mem_append_left _ (List.mem_of_getElem? (i := 352) rfl)
set_option maxRecDepth 20000 in
theorem mx_353 : (Cond.static Lib.Math.min.name) ∈ WAX := List.mem_append_left _ (List.mem_of_getElem? (i := 353) rfl)
set_option maxRecDepth 20000 in
theorem mx_354 : (Cond.code Lib.Math.min.name Lib.Math.min.code 2 (some .int)) ∈ WAX := List.mem_append_left _ (List.mem_of_getElem? (i := 354) rfl)
set_option maxRecDepth 20000 in
theorem mx_355 : (Cond.methodLink RX3 73 yX7_keptRoom) ∈ WAX := List.mem_append_left _ (List.mem_of_getElem? (i := 355) rfl)
set_option maxRecDepth 20000 in
theorem mx_356 : (Cond.instanceMethod yX7_keptRoom) ∈ WAX := List.mem_append_left _ (List.mem_of_getElem? (i := 356) rfl)
set_option maxRecDepth 20000 in
theorem mx_357 : (Cond.selects RX7 yX7_keptRoom yX7_keptRoom) ∈ WAX := List.mem_append_left _ (List.mem_of_getElem? (i := 357) rfl)
set_option maxRecDepth 20000 in
theorem mx_358 : (Cond.code yX7_keptRoom cX7_keptRoom 1 (some .int)) ∈ WAX := List.mem_append_left _ (List.mem_of_getElem? (i := 358) rfl)
set_option maxRecDepth 20000 in
theorem mx_359 : (Cond.fieldLink RX7 50 "SchematicText$Tree" "keptCount" "I") ∈ WAX := List.mem_append_left _ (List.mem_of_getElem? (i := 359) rfl)
set_option maxRecDepth 20000 in
theorem mx_360 : (Cond.methodLink RX3 80 yX7_keep) ∈ WAX := List.mem_append_left _ (List.mem_of_getElem? (i := 360) rfl)
set_option maxRecDepth 20000 in
theorem mx_361 : (Cond.instanceMethod yX7_keep) ∈ WAX := List.mem_append_left _ (List.mem_of_getElem? (i := 361) rfl)
set_option maxRecDepth 20000 in
theorem mx_362 : (Cond.selects RX7 yX7_keep yX7_keep) ∈ WAX := List.mem_append_left _ (List.mem_of_getElem? (i := 362) rfl)
set_option maxRecDepth 20000 in
theorem mx_363 : (Cond.code yX7_keep cX7_keep 6 none) ∈ WAX := List.mem_append_left _ (List.mem_of_getElem? (i := 363) rfl)
set_option maxRecDepth 20000 in
theorem mx_364 : (Cond.fieldLink RX7 47 "SchematicText$Tree" "kept" "[C") ∈ WAX := List.mem_append_left _ (List.mem_of_getElem? (i := 364) rfl)
set_option maxRecDepth 20000 in
theorem mx_365 : (Cond.methodLink RX7 147 yX6_markAt) ∈ WAX := List.mem_append_left _ (List.mem_of_getElem? (i := 365) rfl)
set_option maxRecDepth 20000 in
theorem mx_366 : (Cond.methodLink RX3 59 ⟨"SchematicText$LineForm", "takeValues", "(LSchematicText$Source;LSchematicText$Tree;I)Z"⟩) ∈ WAX := List.mem_append_left _ (List.mem_of_getElem? (i := 366) rfl)
set_option maxRecDepth 20000 in
theorem mx_367 : (Cond.sameMethod "SchematicText$LineForm" "SchematicText$Form" "takeValues" "(LSchematicText$Source;LSchematicText$Tree;I)Z") ∈ WAX := List.mem_append_left _ (List.mem_of_getElem? (i := 367) rfl)
set_option maxRecDepth 20000 in
theorem mx_368 : (Cond.selects RX3 ⟨"SchematicText$LineForm", "takeValues", "(LSchematicText$Source;LSchematicText$Tree;I)Z"⟩ yX1_takeValues) ∈ WAX := List.mem_append_left _ (List.mem_of_getElem? (i := 368) rfl)
set_option maxRecDepth 20000 in
theorem mx_369 : (Cond.instanceMethod yX1_takeValues) ∈ WAX := List.mem_append_left _ (List.mem_of_getElem? (i := 369) rfl)
set_option maxRecDepth 20000 in
theorem mx_370 : (Cond.methodLink RX3 15 yX6_ended) ∈ WAX := List.mem_append_left _ (List.mem_of_getElem? (i := 370) rfl)
set_option maxRecDepth 20000 in
theorem mx_371 : (Cond.instanceMethod yX6_ended) ∈ WAX := List.mem_append_left _ (List.mem_of_getElem? (i := 371) rfl)
set_option maxRecDepth 20000 in
theorem mx_372 : (Cond.selects RX6 yX6_ended yX6_ended) ∈ WAX := List.mem_append_left _ (List.mem_of_getElem? (i := 372) rfl)
set_option maxRecDepth 20000 in
theorem mx_373 : (Cond.code yX6_ended cX6_ended 1 (some .boolean)) ∈ WAX := List.mem_append_left _ (List.mem_of_getElem? (i := 373) rfl)
set_option maxRecDepth 20000 in
theorem mx_374 : (Cond.code yX3_tell cX3_tell 5 none) ∈ WAX := List.mem_append_left _ (List.mem_of_getElem? (i := 374) rfl)
set_option maxRecDepth 20000 in
theorem mx_375 : (Cond.methodLink RX3 84 yX7_has) ∈ WAX := List.mem_append_left _ (List.mem_of_getElem? (i := 375) rfl)
set_option maxRecDepth 20000 in
theorem mx_376 : (Cond.methodLink RX3 87 yX5_putTimes) ∈ WAX := List.mem_append_left _ (List.mem_of_getElem? (i := 376) rfl)
set_option maxRecDepth 20000 in
theorem mx_377 : (Cond.instanceMethod yX5_putTimes) ∈ WAX := List.mem_append_left _ (List.mem_of_getElem? (i := 377) rfl)
set_option maxRecDepth 20000 in
theorem mx_378 : (Cond.selects RX5 yX5_putTimes yX5_putTimes) ∈ WAX := List.mem_append_left _ (List.mem_of_getElem? (i := 378) rfl)
set_option maxRecDepth 20000 in
theorem mx_379 : (Cond.code yX5_putTimes cX5_putTimes 4 none) ∈ WAX := List.mem_append_left _ (List.mem_of_getElem? (i := 379) rfl)
set_option maxRecDepth 20000 in
theorem mx_380 : (Cond.methodLink RX3 93 yX5_putKept) ∈ WAX := List.mem_append_left _ (List.mem_of_getElem? (i := 380) rfl)
set_option maxRecDepth 20000 in
theorem mx_381 : (Cond.instanceMethod yX5_putKept) ∈ WAX := List.mem_append_left _ (List.mem_of_getElem? (i := 381) rfl)
set_option maxRecDepth 20000 in
theorem mx_382 : (Cond.selects RX5 yX5_putKept yX5_putKept) ∈ WAX := List.mem_append_left _ (List.mem_of_getElem? (i := 382) rfl)
set_option maxRecDepth 20000 in
theorem mx_383 : (Cond.code yX5_putKept cX5_putKept 4 none) ∈ WAX := List.mem_append_left _ (List.mem_of_getElem? (i := 383) rfl)
set_option maxRecDepth 20000 in
theorem mx_384 : (Cond.methodLink RX5 69 yX7_keptSizeOf) ∈ WAX := List.mem_append_left _ (List.mem_of_getElem? (i := 384) rfl)
set_option maxRecDepth 20000 in
theorem mx_385 : (Cond.instanceMethod yX7_keptSizeOf) ∈ WAX := List.mem_append_left _ (List.mem_of_getElem? (i := 385) rfl)
set_option maxRecDepth 20000 in
theorem mx_386 : (Cond.selects RX7 yX7_keptSizeOf yX7_keptSizeOf) ∈ WAX := List.mem_append_left _ (List.mem_of_getElem? (i := 386) rfl)
set_option maxRecDepth 20000 in
theorem mx_387 : (Cond.code yX7_keptSizeOf cX7_keptSizeOf 2 (some .int)) ∈ WAX := List.mem_append_left _ (List.mem_of_getElem? (i := 387) rfl)
set_option maxRecDepth 20000 in
theorem mx_388 : (Cond.methodLink RX5 73 yX7_keptMark) ∈ WAX := List.mem_append_left _ (List.mem_of_getElem? (i := 388) rfl)
set_option maxRecDepth 20000 in
theorem mx_389 : (Cond.instanceMethod yX7_keptMark) ∈ WAX := List.mem_append_left _ (List.mem_of_getElem? (i := 389) rfl)
set_option maxRecDepth 20000 in
theorem mx_390 : (Cond.selects RX7 yX7_keptMark yX7_keptMark) ∈ WAX := List.mem_append_left _ (List.mem_of_getElem? (i := 390) rfl)
set_option maxRecDepth 20000 in
theorem mx_391 : (Cond.code yX7_keptMark cX7_keptMark 4 (some .int)) ∈ WAX := List.mem_append_left _ (List.mem_of_getElem? (i := 391) rfl)
set_option maxRecDepth 20000 in
theorem mx_392 : (Cond.methodLink RX7 152 yX7_keptSizeOf) ∈ WAX := List.mem_append_left _ (List.mem_of_getElem? (i := 392) rfl)
set_option maxRecDepth 20000 in
theorem mx_393 : (Cond.methodLink RX3 97 ⟨"SchematicText$LineForm", "putNameAndValues", "(LSchematicText$Tree;ILSchematicText$Page;)V"⟩) ∈ WAX := List.mem_append_left _ (List.mem_of_getElem? (i := 393) rfl)
set_option maxRecDepth 20000 in
theorem mx_394 : (Cond.sameMethod "SchematicText$LineForm" "SchematicText$Form" "putNameAndValues" "(LSchematicText$Tree;ILSchematicText$Page;)V") ∈ WAX := List.mem_append_left _ (List.mem_of_getElem? (i := 394) rfl)
set_option maxRecDepth 20000 in
theorem mx_395 : (Cond.selects RX3 ⟨"SchematicText$LineForm", "putNameAndValues", "(LSchematicText$Tree;ILSchematicText$Page;)V"⟩ yX1_putNameAndValues) ∈ WAX := List.mem_append_left _ (List.mem_of_getElem? (i := 395) rfl)
set_option maxRecDepth 20000 in
theorem mx_396 : (Cond.instanceMethod yX1_putNameAndValues) ∈ WAX := List.mem_append_left _ (List.mem_of_getElem? (i := 396) rfl)
set_option maxRecDepth 20000 in
theorem mx_397 : (Cond.methodLink RX3 101 yX5_put) ∈ WAX := List.mem_append_left _ (List.mem_of_getElem? (i := 397) rfl)
set_option maxRecDepth 20000 in
theorem mx_398 : (Cond.methodLink RX3 105 yX7_follower) ∈ WAX := List.mem_append_left _ (List.mem_of_getElem? (i := 398) rfl)
set_option maxRecDepth 20000 in
theorem mx_399 : (Cond.instanceMethod yX7_follower) ∈ WAX := List.mem_append_left _ (List.mem_of_getElem? (i := 399) rfl)
set_option maxRecDepth 20000 in
theorem mx_400 : (Cond.selects RX7 yX7_follower yX7_follower) ∈ WAX := List.mem_append_left _ (List.mem_of_getElem? (i := 400) rfl)
set_option maxRecDepth 20000 in
theorem mx_401 : (Cond.code yX7_follower cX7_follower 4 (some .int)) ∈ WAX := List.mem_append_left _ (List.mem_of_getElem? (i := 401) rfl)
set_option maxRecDepth 20000 in
theorem mx_402 : (Cond.code yX4_init cX4_init 1 none) ∈ WAX := List.mem_append_left _ (List.mem_of_getElem? (i := 402) rfl)
set_option maxRecDepth 20000 in
theorem mx_403 : (Cond.code yX4_take cX4_take 5 (some .boolean)) ∈ WAX := List.mem_append_left _ (List.mem_of_getElem? (i := 403) rfl)
set_option maxRecDepth 20000 in
theorem mx_404 : (Cond.methodLink RX4 14 yX6_mark) ∈ WAX := List.mem_append_left _ (List.mem_of_getElem? (i := 404) rfl)
set_option maxRecDepth 20000 in
theorem mx_405 : (Cond.methodLink RX4 26 yX4_takeList) ∈ WAX := List.mem_append_left _ (List.mem_of_getElem? (i := 405) rfl)
set_option maxRecDepth 20000 in
theorem mx_406 : (Cond.instanceMethod yX4_takeList) ∈ WAX := List.mem_append_left _ (List.mem_of_getElem? (i := 406) rfl)
set_option maxRecDepth 20000 in
theorem mx_407 : (Cond.selects RX4 yX4_takeList yX4_takeList) ∈ WAX := List.mem_append_left _ (List.mem_of_getElem? (i := 407) rfl)
set_option maxRecDepth 20000 in
theorem mx_408 : (Cond.code yX4_takeList cX4_takeList 6 (some .int)) ∈ WAX := List.mem_append_left _ (List.mem_of_getElem? (i := 408) rfl)
set_option maxRecDepth 20000 in
theorem mx_409 : (Cond.fieldLink RX4 58 "SchematicText$Kind" "UNKNOWN" "LSchematicText$Kind;") ∈ WAX := List.mem_append_left _ (List.mem_of_getElem? (i := 409) rfl)
set_option maxRecDepth 20000 in
theorem mx_410 : (Cond.methodLink RX4 48 yX7_depthOf) ∈ WAX := List.mem_append_left _ (List.mem_of_getElem? (i := 410) rfl)
set_option maxRecDepth 20000 in
theorem mx_411 : (Cond.methodLink RX4 32 yX6_pass) ∈ WAX := List.mem_append_left _ (List.mem_of_getElem? (i := 411) rfl)
set_option maxRecDepth 20000 in
theorem mx_412 : (Cond.instanceMethod yX6_pass) ∈ WAX := List.mem_append_left _ (List.mem_of_getElem? (i := 412) rfl)
set_option maxRecDepth 20000 in
theorem mx_413 : (Cond.selects RX6 yX6_pass yX6_pass) ∈ WAX := List.mem_append_left _ (List.mem_of_getElem? (i := 413) rfl)
set_option maxRecDepth 20000 in
theorem mx_414 : (Cond.code yX6_pass cX6_pass 1 none) ∈ WAX := List.mem_append_left _ (List.mem_of_getElem? (i := 414) rfl)
set_option maxRecDepth 20000 in
theorem mx_415 : (Cond.methodLink RX4 51 ⟨"SchematicText$ListForm", "takeName", "(LSchematicText$Source;LSchematicText$Tree;I)I"⟩) ∈ WAX := List.mem_append_left _ (List.mem_of_getElem? (i := 415) rfl)
set_option maxRecDepth 20000 in
theorem mx_416 : (Cond.sameMethod "SchematicText$ListForm" "SchematicText$Form" "takeName" "(LSchematicText$Source;LSchematicText$Tree;I)I") ∈ WAX := List.mem_append_left _ (List.mem_of_getElem? (i := 416) rfl)
set_option maxRecDepth 20000 in
theorem mx_417 : (Cond.selects RX4 ⟨"SchematicText$ListForm", "takeName", "(LSchematicText$Source;LSchematicText$Tree;I)I"⟩ yX1_takeName) ∈ WAX := List.mem_append_left _ (List.mem_of_getElem? (i := 417) rfl)
set_option maxRecDepth 20000 in
theorem mx_418 : (Cond.methodLink RX4 54 yX7_kindOf) ∈ WAX := List.mem_append_left _ (List.mem_of_getElem? (i := 418) rfl)
set_option maxRecDepth 20000 in
theorem mx_419 : (Cond.methodLink RX4 64 yX4_keepList) ∈ WAX := List.mem_append_left _ (List.mem_of_getElem? (i := 419) rfl)
set_option maxRecDepth 20000 in
theorem mx_420 : (Cond.instanceMethod yX4_keepList) ∈ WAX := List.mem_append_left _ (List.mem_of_getElem? (i := 420) rfl)
set_option maxRecDepth 20000 in
theorem mx_421 : (Cond.selects RX4 yX4_keepList yX4_keepList) ∈ WAX := List.mem_append_left _ (List.mem_of_getElem? (i := 421) rfl)
set_option maxRecDepth 20000 in
theorem mx_422 : (Cond.code yX4_keepList cX4_keepList 10 (some .boolean)) ∈ WAX := List.mem_append_left _ (List.mem_of_getElem? (i := 422) rfl)
set_option maxRecDepth 20000 in
theorem mx_423 : (Cond.methodLink RX4 78 Lib.Math.min.name) ∈ WAX := List.mem_append_left _ (List.mem_of_getElem? (i := 423) rfl)
set_option maxRecDepth 20000 in
theorem mx_424 : (Cond.methodLink RX4 75 yX7_keptRoom) ∈ WAX := List.mem_append_left _ (List.mem_of_getElem? (i := 424) rfl)
set_option maxRecDepth 20000 in
theorem mx_425 : (Cond.methodLink RX4 84 yX6_passQuoted) ∈ WAX := List.mem_append_left _ (List.mem_of_getElem? (i := 425) rfl)
set_option maxRecDepth 20000 in
theorem mx_426 : (Cond.instanceMethod yX6_passQuoted) ∈ WAX := List.mem_append_left _ (List.mem_of_getElem? (i := 426) rfl)
set_option maxRecDepth 20000 in
theorem mx_427 : (Cond.selects RX6 yX6_passQuoted yX6_passQuoted) ∈ WAX := List.mem_append_left _ (List.mem_of_getElem? (i := 427) rfl)
set_option maxRecDepth 20000 in
theorem mx_428 : (Cond.code yX6_passQuoted cX6_passQuoted 2 (some .boolean)) ∈ WAX := List.mem_append_left _ (List.mem_of_getElem? (i := 428) rfl)
set_option maxRecDepth 20000 in
theorem mx_429 : (Cond.methodLink RX4 87 yX7_keep) ∈ WAX := List.mem_append_left _ (List.mem_of_getElem? (i := 429) rfl)
set_option maxRecDepth 20000 in
theorem mx_430 : (Cond.methodLink RX4 68 ⟨"SchematicText$ListForm", "takeValues", "(LSchematicText$Source;LSchematicText$Tree;I)Z"⟩) ∈ WAX := List.mem_append_left _ (List.mem_of_getElem? (i := 430) rfl)
set_option maxRecDepth 20000 in
theorem mx_431 : (Cond.sameMethod "SchematicText$ListForm" "SchematicText$Form" "takeValues" "(LSchematicText$Source;LSchematicText$Tree;I)Z") ∈ WAX := List.mem_append_left _ (List.mem_of_getElem? (i := 431) rfl)
set_option maxRecDepth 20000 in
theorem mx_432 : (Cond.selects RX4 ⟨"SchematicText$ListForm", "takeValues", "(LSchematicText$Source;LSchematicText$Tree;I)Z"⟩ yX1_takeValues) ∈ WAX := List.mem_append_left _ (List.mem_of_getElem? (i := 432) rfl)
set_option maxRecDepth 20000 in
theorem mx_433 : (Cond.methodLink RX4 35 yX7_parentOf) ∈ WAX := List.mem_append_left _ (List.mem_of_getElem? (i := 433) rfl)
set_option maxRecDepth 20000 in
theorem mx_434 : (Cond.methodLink RX4 44 yX6_ended) ∈ WAX := List.mem_append_left _ (List.mem_of_getElem? (i := 434) rfl)
set_option maxRecDepth 20000 in
theorem mx_435 : (Cond.code yX4_tell cX4_tell 7 none) ∈ WAX := List.mem_append_left _ (List.mem_of_getElem? (i := 435) rfl)
set_option maxRecDepth 20000 in
theorem mx_436 : (Cond.methodLink RX4 107 Lib.Math.max.name) ∈ WAX := List.mem_append_left _ (List.mem_of_getElem? (i := 436) rfl)
set_option maxRecDepth 20000 in
theorem mx_437 : (Cond.methodLink RX4 91 yX7_has) ∈ WAX := List.mem_append_left _ (List.mem_of_getElem? (i := 437) rfl)
set_option maxRecDepth 20000 in
theorem mx_438 : (Cond.methodLink RX4 94 yX5_put) ∈ WAX := List.mem_append_left _ (List.mem_of_getElem? (i := 438) rfl)
set_option maxRecDepth 20000 in
theorem mx_439 : (Cond.methodLink RX4 100 yX5_putTimes) ∈ WAX := List.mem_append_left _ (List.mem_of_getElem? (i := 439) rfl)
set_option maxRecDepth 20000 in
theorem mx_440 : (Cond.methodLink RX4 104 yX7_follower) ∈ WAX := List.mem_append_left _ (List.mem_of_getElem? (i := 440) rfl)
set_option maxRecDepth 20000 in
theorem mx_441 : (Cond.methodLink RX4 110 yX5_putKept) ∈ WAX := List.mem_append_left _ (List.mem_of_getElem? (i := 441) rfl)
set_option maxRecDepth 20000 in
theorem mx_442 : (Cond.methodLink RX4 114 ⟨"SchematicText$ListForm", "putNameAndValues", "(LSchematicText$Tree;ILSchematicText$Page;)V"⟩) ∈ WAX := List.mem_append_left _ (List.mem_of_getElem? (i := 442) rfl)
set_option maxRecDepth 20000 in
theorem mx_443 : (Cond.sameMethod "SchematicText$ListForm" "SchematicText$Form" "putNameAndValues" "(LSchematicText$Tree;ILSchematicText$Page;)V") ∈ WAX := List.mem_append_left _ (List.mem_of_getElem? (i := 443) rfl)
set_option maxRecDepth 20000 in
theorem mx_444 : (Cond.selects RX4 ⟨"SchematicText$ListForm", "putNameAndValues", "(LSchematicText$Tree;ILSchematicText$Page;)V"⟩ yX1_putNameAndValues) ∈ WAX := List.mem_append_left _ (List.mem_of_getElem? (i := 444) rfl)
set_option maxRecDepth 20000 in
theorem mx_445 : (Cond.code yX5_init cX5_init 1 none) ∈ WAX := List.mem_append_left _ (List.mem_of_getElem? (i := 445) rfl)
set_option maxRecDepth 20000 in
theorem mx_446 : (Cond.methodLink RX5 3 objectInit) ∈ WAX := List.mem_append_left _ (List.mem_of_getElem? (i := 446) rfl)
set_option maxRecDepth 20000 in
theorem mx_447 : (Cond.arrayClass .char) ∈ WAX := List.mem_append_left _ (List.mem_of_getElem? (i := 447) rfl)
set_option maxRecDepth 20000 in
theorem mx_448 : (Cond.code yX5_forget cX5_forget 1 none) ∈ WAX := List.mem_append_left _ (List.mem_of_getElem? (i := 448) rfl)
set_option maxRecDepth 20000 in
theorem mx_449 : (Cond.code yX5_markAt cX5_markAt 2 (some .int)) ∈ WAX := List.mem_append_left _ (List.mem_of_getElem? (i := 449) rfl)
set_option maxRecDepth 20000 in
theorem mx_450 : (Cond.code yX6_init cX6_init 1 none) ∈ WAX := List.mem_append_left _ (List.mem_of_getElem? (i := 450) rfl)
set_option maxRecDepth 20000 in
theorem mx_451 : (Cond.methodLink RX6 3 objectInit) ∈ WAX := List.mem_append_left _ (List.mem_of_getElem? (i := 451) rfl)
set_option maxRecDepth 20000 in
theorem mx_452 : (Cond.code yX6_append cX6_append 2 (some .boolean)) ∈ WAX := List.mem_append_left _ (List.mem_of_getElem? (i := 452) rfl)
set_option maxRecDepth 20000 in
theorem mx_453 : (Cond.code yX6_empty cX6_empty 1 none) ∈ WAX := List.mem_append_left _ (List.mem_of_getElem? (i := 453) rfl)
set_option maxRecDepth 20000 in
theorem mx_454 : (Cond.code yX6_rewind cX6_rewind 1 none) ∈ WAX := List.mem_append_left _ (List.mem_of_getElem? (i := 454) rfl)
set_option maxRecDepth 20000 in
theorem mx_455 : (Cond.code yX7_init cX7_init 1 none) ∈ WAX := List.mem_append_left _ (List.mem_of_getElem? (i := 455) rfl)
set_option maxRecDepth 20000 in
theorem mx_456 : (Cond.methodLink RX7 3 objectInit) ∈ WAX := List.mem_append_left _ (List.mem_of_getElem? (i := 456) rfl)
set_option maxRecDepth 20000 in
theorem mx_457 : (Cond.arrayClass .int) ∈ WAX := List.mem_append_left _ (List.mem_of_getElem? (i := 457) rfl)
set_option maxRecDepth 20000 in
theorem mx_458 : (Cond.arrayClass .long) ∈ WAX := List.mem_append_left _ (List.mem_of_getElem? (i := 458) rfl)
set_option maxRecDepth 20000 in
theorem mx_459 : (Cond.fieldLink RX7 60 "SchematicText$Tree" "version" "I") ∈ WAX := List.mem_append_left _ (List.mem_of_getElem? (i := 459) rfl)
set_option maxRecDepth 20000 in
theorem mx_460 : (Cond.code yX7_forget cX7_forget 1 none) ∈ WAX := List.mem_append_left _ (List.mem_of_getElem? (i := 460) rfl)
set_option maxRecDepth 20000 in
theorem mx_461 : (Cond.code yX7_fitsText cX7_fitsText 8 (some .boolean)) ∈ WAX := List.mem_append_left _ (List.mem_of_getElem? (i := 461) rfl)
set_option maxRecDepth 20000 in
theorem mx_462 : (Cond.code yX7_extendText cX7_extendText 7 none) ∈ WAX := List.mem_append_left _ (List.mem_of_getElem? (i := 462) rfl)
set_option maxRecDepth 20000 in
theorem mx_463 : (Cond.methodLink RX7 143 yX7_appendToText) ∈ WAX := List.mem_append_left _ (List.mem_of_getElem? (i := 463) rfl)
set_option maxRecDepth 20000 in
theorem mx_464 : (Cond.code yX8_init cX8_init 2 none) ∈ WAX := List.mem_append_left _ (List.mem_of_getElem? (i := 464) rfl)
set_option maxRecDepth 20000 in
theorem mx_465 : (Cond.methodLink RX8 1 objectInit) ∈ WAX := List.mem_append_left _ (List.mem_of_getElem? (i := 465) rfl)
set_option maxRecDepth 20000 in
theorem mx_466 : (Cond.classLink RX8 7 RX4) ∈ WAX := List.mem_append_left _ (List.mem_of_getElem? (i := 466) rfl)
set_option maxRecDepth 20000 in
theorem mx_467 : (Cond.instantiable RX4 0) ∈ WAX := List.mem_append_left _ (List.mem_of_getElem? (i := 467) rfl)
set_option maxRecDepth 20000 in
theorem mx_468 : (Cond.classLink RX8 10 RX3) ∈ WAX := List.mem_append_left _ (List.mem_of_getElem? (i := 468) rfl)
set_option maxRecDepth 20000 in
theorem mx_469 : (Cond.instantiable RX3 0) ∈ WAX := List.mem_append_left _ (List.mem_of_getElem? (i := 469) rfl)
set_option maxRecDepth 20000 in
theorem mx_470 : (Cond.fieldLink RX8 13 "SchematicText" "form" "LSchematicText$Form;") ∈ WAX := List.mem_append_left _ (List.mem_of_getElem? (i := 470) rfl)
set_option maxRecDepth 20000 in
theorem mx_471 : (Cond.classLink RX8 19 RX6) ∈ WAX := List.mem_append_left _ (List.mem_of_getElem? (i := 471) rfl)
set_option maxRecDepth 20000 in
theorem mx_472 : (Cond.instantiable RX6 5) ∈ WAX := List.mem_append_left _ (List.mem_of_getElem? (i := 472) rfl)
set_option maxRecDepth 20000 in
theorem mx_473 : (Cond.fieldLink RX8 22 "SchematicText" "source" "LSchematicText$Source;") ∈ WAX := List.mem_append_left _ (List.mem_of_getElem? (i := 473) rfl)
set_option maxRecDepth 20000 in
theorem mx_474 : (Cond.classLink RX8 26 RX5) ∈ WAX := List.mem_append_left _ (List.mem_of_getElem? (i := 474) rfl)
set_option maxRecDepth 20000 in
theorem mx_475 : (Cond.instantiable RX5 2) ∈ WAX := List.mem_append_left _ (List.mem_of_getElem? (i := 475) rfl)
set_option maxRecDepth 20000 in
theorem mx_476 : (Cond.fieldLink RX8 29 "SchematicText" "page" "LSchematicText$Page;") ∈ WAX := List.mem_append_left _ (List.mem_of_getElem? (i := 476) rfl)
set_option maxRecDepth 20000 in
theorem mx_477 : (Cond.classLink RX8 33 RX7) ∈ WAX := List.mem_append_left _ (List.mem_of_getElem? (i := 477) rfl)
set_option maxRecDepth 20000 in
theorem mx_478 : (Cond.instantiable RX7 16) ∈ WAX := List.mem_append_left _ (List.mem_of_getElem? (i := 478) rfl)
set_option maxRecDepth 20000 in
theorem mx_479 : (Cond.fieldLink RX8 36 "SchematicText" "tree" "LSchematicText$Tree;") ∈ WAX := List.mem_append_left _ (List.mem_of_getElem? (i := 479) rfl)
set_option maxRecDepth 20000 in
theorem mx_480 : (Cond.fieldLink RX8 40 "SchematicText" "spare" "LSchematicText$Tree;") ∈ WAX := List.mem_append_left _ (List.mem_of_getElem? (i := 480) rfl)
set_option maxRecDepth 20000 in
theorem mx_481 : (Cond.fieldLink RX8 43 "SchematicText" "pageHolds" "Z") ∈ WAX := List.mem_append_left _ (List.mem_of_getElem? (i := 481) rfl)
set_option maxRecDepth 20000 in
theorem mx_482 : (Cond.instanceMethod yX4_init) ∈ WAX := List.mem_append_left _ (List.mem_of_getElem? (i := 482) rfl)
set_option maxRecDepth 20000 in
theorem mx_483 : (Cond.instanceMethod yX3_init) ∈ WAX := List.mem_append_left _ (List.mem_of_getElem? (i := 483) rfl)
set_option maxRecDepth 20000 in
theorem mx_484 : (Cond.instanceMethod yX6_init) ∈ WAX := List.mem_append_left _ (List.mem_of_getElem? (i := 484) rfl)
set_option maxRecDepth 20000 in
theorem mx_485 : (Cond.instanceMethod yX5_init) ∈ WAX := List.mem_append_left _ (List.mem_of_getElem? (i := 485) rfl)
set_option maxRecDepth 20000 in
theorem mx_486 : (Cond.instanceMethod yX7_init) ∈ WAX := List.mem_append_left _ (List.mem_of_getElem? (i := 486) rfl)
set_option maxRecDepth 20000 in
theorem mx_487 : (Cond.code yX8_unit cX8_unit 2 (some .boolean)) ∈ WAX := List.mem_append_left _ (List.mem_of_getElem? (i := 487) rfl)
set_option maxRecDepth 20000 in
theorem mx_488 : (Cond.methodLink RX8 47 yX6_append) ∈ WAX := List.mem_append_left _ (List.mem_of_getElem? (i := 488) rfl)
set_option maxRecDepth 20000 in
theorem mx_489 : (Cond.instanceMethod yX6_append) ∈ WAX := List.mem_append_left _ (List.mem_of_getElem? (i := 489) rfl)
set_option maxRecDepth 20000 in
theorem mx_490 : (Cond.selects RX6 yX6_append yX6_append) ∈ WAX := List.mem_append_left _ (List.mem_of_getElem? (i := 490) rfl)
set_option maxRecDepth 20000 in
theorem mx_491 : (Cond.code yX8_read cX8_read 2 (some .int)) ∈ WAX := List.mem_append_left _ (List.mem_of_getElem? (i := 491) rfl)
set_option maxRecDepth 20000 in
theorem mx_492 : (Cond.methodLink RX8 51 yX7_forget) ∈ WAX := List.mem_append_left _ (List.mem_of_getElem? (i := 492) rfl)
set_option maxRecDepth 20000 in
theorem mx_493 : (Cond.instanceMethod yX7_forget) ∈ WAX := List.mem_append_left _ (List.mem_of_getElem? (i := 493) rfl)
set_option maxRecDepth 20000 in
theorem mx_494 : (Cond.selects RX7 yX7_forget yX7_forget) ∈ WAX := List.mem_append_left _ (List.mem_of_getElem? (i := 494) rfl)
set_option maxRecDepth 20000 in
theorem mx_495 : (Cond.methodLink RX8 54 yX6_rewind) ∈ WAX := List.mem_append_left _ (List.mem_of_getElem? (i := 495) rfl)
set_option maxRecDepth 20000 in
theorem mx_496 : (Cond.instanceMethod yX6_rewind) ∈ WAX := List.mem_append_left _ (List.mem_of_getElem? (i := 496) rfl)
set_option maxRecDepth 20000 in
theorem mx_497 : (Cond.selects RX6 yX6_rewind yX6_rewind) ∈ WAX := List.mem_append_left _ (List.mem_of_getElem? (i := 497) rfl)
set_option maxRecDepth 20000 in
theorem mx_498 : (Cond.methodLink RX8 57 ⟨"SchematicText$Form", "take", "(LSchematicText$Source;LSchematicText$Tree;)Z"⟩) ∈ WAX := List.mem_append_left _ (List.mem_of_getElem? (i := 498) rfl)
set_option maxRecDepth 20000 in
theorem mx_499 : (Cond.sameMethod "SchematicText$Form" "SchematicText$Form" "take" "(LSchematicText$Source;LSchematicText$Tree;)Z") ∈ WAX := List.mem_append_left _ (List.mem_of_getElem? (i := 499) rfl)
set_option maxRecDepth 20000 in
theorem mx_500 : (Cond.selects RX3 ⟨"SchematicText$Form", "take", "(LSchematicText$Source;LSchematicText$Tree;)Z"⟩ yX3_take) ∈ WAX := List.mem_append_left _ (List.mem_of_getElem? (i := 500) rfl)
set_option maxRecDepth 20000 in
theorem mx_501 : (Cond.instanceMethod yX3_take) ∈ WAX := List.mem_append_left _ (List.mem_of_getElem? (i := 501) rfl)
set_option maxRecDepth 20000 in
theorem mx_502 : (Cond.selects RX4 ⟨"SchematicText$Form", "take", "(LSchematicText$Source;LSchematicText$Tree;)Z"⟩ yX4_take) ∈ WAX := List.mem_append_left _ (List.mem_of_getElem? (i := 502) rfl)
set_option maxRecDepth 20000 in
theorem mx_503 : (Cond.instanceMethod yX4_take) ∈ WAX := List.mem_append_left _ (List.mem_of_getElem? (i := 503) rfl)
set_option maxRecDepth 20000 in
theorem mx_504 : (Cond.code yX8_kind cX8_kind 2 (some .int)) ∈ WAX := List.mem_append_left _ (List.mem_of_getElem? (i := 504) rfl)
set_option maxRecDepth 20000 in
theorem mx_505 : (Cond.methodLink RX8 70 yX8_kindOfObject) ∈ WAX := List.mem_append_left _ (List.mem_of_getElem? (i := 505) rfl)
set_option maxRecDepth 20000 in
theorem mx_506 : (Cond.instanceMethod yX8_kindOfObject) ∈ WAX := List.mem_append_left _ (List.mem_of_getElem? (i := 506) rfl)
set_option maxRecDepth 20000 in
theorem mx_507 : (Cond.selects RX8 yX8_kindOfObject yX8_kindOfObject) ∈ WAX := List.mem_append_left _ (List.mem_of_getElem? (i := 507) rfl)
set_option maxRecDepth 20000 in
theorem mx_508 : (Cond.code yX8_kindOfObject cX8_kindOfObject 2 (some (.object "SchematicText$Kind"))) ∈ WAX := List.mem_append_left _ (List.mem_of_getElem? (i := 508) rfl)
set_option maxRecDepth 20000 in
theorem mx_509 : (Cond.classLink RX8 82 "java/lang/IndexOutOfBoundsException") ∈ WAX := List.mem_append_left _ (List.mem_of_getElem? (i := 509) rfl)
set_option maxRecDepth 20000 in
theorem mx_510 : (Cond.initialized "java/lang/IndexOutOfBoundsException") ∈ WAX := List.mem_append_left _ (List.mem_of_getElem? (i := 510) rfl)
set_option maxRecDepth 20000 in
theorem mx_511 : (Cond.methodLink RX8 79 yX7_has) ∈ WAX := List.mem_append_left _ (List.mem_of_getElem? (i := 511) rfl)
set_option maxRecDepth 20000 in
theorem mx_512 : (Cond.methodLink RX8 195 yX7_kindOf) ∈ WAX := List.mem_append_left _ (List.mem_of_getElem? (i := 512) rfl)
set_option maxRecDepth 20000 in
theorem mx_513 : (Cond.code yX8_parent cX8_parent 2 (some .int)) ∈ WAX := List.mem_append_left _ (List.mem_of_getElem? (i := 513) rfl)
set_option maxRecDepth 20000 in
theorem mx_514 : (Cond.methodLink RX8 89 yX7_parentOf) ∈ WAX := List.mem_append_left _ (List.mem_of_getElem? (i := 514) rfl)
set_option maxRecDepth 20000 in
theorem mx_515 : (Cond.code yX8_number cX8_number 3 (some .long)) ∈ WAX := List.mem_append_left _ (List.mem_of_getElem? (i := 515) rfl)
set_option maxRecDepth 20000 in
theorem mx_516 : (Cond.methodLink RX8 93 yX2_spotOf) ∈ WAX := List.mem_append_left _ (List.mem_of_getElem? (i := 516) rfl)
set_option maxRecDepth 20000 in
theorem mx_517 : (Cond.instanceMethod yX2_spotOf) ∈ WAX := List.mem_append_left _ (List.mem_of_getElem? (i := 517) rfl)
set_option maxRecDepth 20000 in
theorem mx_518 : (Cond.selects RX2 yX2_spotOf yX2_spotOf) ∈ WAX := List.mem_append_left _ (List.mem_of_getElem? (i := 518) rfl)
set_option maxRecDepth 20000 in
theorem mx_519 : (Cond.methodLink RX8 99 yX7_numberOf) ∈ WAX := List.mem_append_left _ (List.mem_of_getElem? (i := 519) rfl)
set_option maxRecDepth 20000 in
theorem mx_520 : (Cond.code yX8_text cX8_text 5 (some .int)) ∈ WAX := List.mem_append_left _ (List.mem_of_getElem? (i := 520) rfl)
set_option maxRecDepth 20000 in
theorem mx_521 : (Cond.methodLink RX8 105 yX7_textSize) ∈ WAX := List.mem_append_left _ (List.mem_of_getElem? (i := 521) rfl)
set_option maxRecDepth 20000 in
theorem mx_522 : (Cond.methodLink RX8 111 yX7_textMark) ∈ WAX := List.mem_append_left _ (List.mem_of_getElem? (i := 522) rfl)
set_option maxRecDepth 20000 in
theorem mx_523 : (Cond.code yX8_version cX8_version 1 (some .int)) ∈ WAX := List.mem_append_left _ (List.mem_of_getElem? (i := 523) rfl)
set_option maxRecDepth 20000 in
theorem mx_524 : (Cond.code yX8_unknown cX8_unknown 4 (some .int)) ∈ WAX := List.mem_append_left _ (List.mem_of_getElem? (i := 524) rfl)
set_option maxRecDepth 20000 in
theorem mx_525 : (Cond.classLink RX8 122 "java/lang/IllegalStateException") ∈ WAX := List.mem_append_left _ (List.mem_of_getElem? (i := 525) rfl)
set_option maxRecDepth 20000 in
theorem mx_526 : (Cond.initialized "java/lang/IllegalStateException") ∈ WAX := List.mem_append_left _ (List.mem_of_getElem? (i := 526) rfl)
set_option maxRecDepth 20000 in
theorem mx_527 : (Cond.fieldLink RX8 118 "SchematicText$Kind" "UNKNOWN" "LSchematicText$Kind;") ∈ WAX := List.mem_append_left _ (List.mem_of_getElem? (i := 527) rfl)
set_option maxRecDepth 20000 in
theorem mx_528 : (Cond.methodLink RX8 127 yX7_keptSizeOf) ∈ WAX := List.mem_append_left _ (List.mem_of_getElem? (i := 528) rfl)
set_option maxRecDepth 20000 in
theorem mx_529 : (Cond.methodLink RX8 130 yX7_keptMark) ∈ WAX := List.mem_append_left _ (List.mem_of_getElem? (i := 529) rfl)
set_option maxRecDepth 20000 in
theorem mx_530 : (Cond.code yX8_write cX8_write 2 (some .int)) ∈ WAX := List.mem_append_left _ (List.mem_of_getElem? (i := 530) rfl)
set_option maxRecDepth 20000 in
theorem mx_531 : (Cond.methodLink RX8 137 yX5_forget) ∈ WAX := List.mem_append_left _ (List.mem_of_getElem? (i := 531) rfl)
set_option maxRecDepth 20000 in
theorem mx_532 : (Cond.instanceMethod yX5_forget) ∈ WAX := List.mem_append_left _ (List.mem_of_getElem? (i := 532) rfl)
set_option maxRecDepth 20000 in
theorem mx_533 : (Cond.selects RX5 yX5_forget yX5_forget) ∈ WAX := List.mem_append_left _ (List.mem_of_getElem? (i := 533) rfl)
set_option maxRecDepth 20000 in
theorem mx_534 : (Cond.methodLink RX8 138 ⟨"SchematicText$Form", "tell", "(LSchematicText$Tree;LSchematicText$Page;)V"⟩) ∈ WAX := List.mem_append_left _ (List.mem_of_getElem? (i := 534) rfl)
set_option maxRecDepth 20000 in
theorem mx_535 : (Cond.sameMethod "SchematicText$Form" "SchematicText$Form" "tell" "(LSchematicText$Tree;LSchematicText$Page;)V") ∈ WAX := List.mem_append_left _ (List.mem_of_getElem? (i := 535) rfl)
set_option maxRecDepth 20000 in
theorem mx_536 : (Cond.selects RX3 ⟨"SchematicText$Form", "tell", "(LSchematicText$Tree;LSchematicText$Page;)V"⟩ yX3_tell) ∈ WAX := List.mem_append_left _ (List.mem_of_getElem? (i := 536) rfl)
set_option maxRecDepth 20000 in
theorem mx_537 : (Cond.instanceMethod yX3_tell) ∈ WAX := List.mem_append_left _ (List.mem_of_getElem? (i := 537) rfl)
set_option maxRecDepth 20000 in
theorem mx_538 : (Cond.selects RX4 ⟨"SchematicText$Form", "tell", "(LSchematicText$Tree;LSchematicText$Page;)V"⟩ yX4_tell) ∈ WAX := List.mem_append_left _ (List.mem_of_getElem? (i := 538) rfl)
set_option maxRecDepth 20000 in
theorem mx_539 : (Cond.instanceMethod yX4_tell) ∈ WAX := List.mem_append_left _ (List.mem_of_getElem? (i := 539) rfl)
set_option maxRecDepth 20000 in
theorem mx_540 : (Cond.methodLink RX8 142 yX5_markAt) ∈ WAX := List.mem_append_left _ (List.mem_of_getElem? (i := 540) rfl)
set_option maxRecDepth 20000 in
theorem mx_541 : (Cond.instanceMethod yX5_markAt) ∈ WAX := List.mem_append_left _ (List.mem_of_getElem? (i := 541) rfl)
set_option maxRecDepth 20000 in
theorem mx_542 : (Cond.selects RX5 yX5_markAt yX5_markAt) ∈ WAX := List.mem_append_left _ (List.mem_of_getElem? (i := 542) rfl)
set_option maxRecDepth 20000 in
theorem mx_543 : (Cond.code yX8_object cX8_object 4 (some .int)) ∈ WAX := List.mem_append_left _ (List.mem_of_getElem? (i := 543) rfl)
set_option maxRecDepth 20000 in
theorem mx_544 : (Cond.classLink RX8 150 "java/lang/IllegalArgumentException") ∈ WAX := List.mem_append_left _ (List.mem_of_getElem? (i := 544) rfl)
set_option maxRecDepth 20000 in
theorem mx_545 : (Cond.initialized "java/lang/IllegalArgumentException") ∈ WAX := List.mem_append_left _ (List.mem_of_getElem? (i := 545) rfl)
set_option maxRecDepth 20000 in
theorem mx_546 : (Cond.fieldLink RX8 147 "SchematicText$Kind" "DESIGN" "LSchematicText$Kind;") ∈ WAX := List.mem_append_left _ (List.mem_of_getElem? (i := 546) rfl)
set_option maxRecDepth 20000 in
theorem mx_547 : (Cond.methodLink RX8 155 yX2_numbered) ∈ WAX := List.mem_append_left _ (List.mem_of_getElem? (i := 547) rfl)
set_option maxRecDepth 20000 in
theorem mx_548 : (Cond.methodLink RX8 158 yX7_mayHold) ∈ WAX := List.mem_append_left _ (List.mem_of_getElem? (i := 548) rfl)
set_option maxRecDepth 20000 in
theorem mx_549 : (Cond.methodLink RX8 162 yX7_grow) ∈ WAX := List.mem_append_left _ (List.mem_of_getElem? (i := 549) rfl)
set_option maxRecDepth 20000 in
theorem mx_550 : (Cond.code yX8_set cX8_set 10 (some .boolean)) ∈ WAX := List.mem_append_left _ (List.mem_of_getElem? (i := 550) rfl)
set_option maxRecDepth 20000 in
theorem mx_551 : (Cond.methodLink RX8 168 yX7_fitsText) ∈ WAX := List.mem_append_left _ (List.mem_of_getElem? (i := 551) rfl)
set_option maxRecDepth 20000 in
theorem mx_552 : (Cond.instanceMethod yX7_fitsText) ∈ WAX := List.mem_append_left _ (List.mem_of_getElem? (i := 552) rfl)
set_option maxRecDepth 20000 in
theorem mx_553 : (Cond.selects RX7 yX7_fitsText yX7_fitsText) ∈ WAX := List.mem_append_left _ (List.mem_of_getElem? (i := 553) rfl)
set_option maxRecDepth 20000 in
theorem mx_554 : (Cond.methodLink RX8 172 yX2_fieldAt) ∈ WAX := List.mem_append_left _ (List.mem_of_getElem? (i := 554) rfl)
set_option maxRecDepth 20000 in
theorem mx_555 : (Cond.methodLink RX8 176 yX0_admits) ∈ WAX := List.mem_append_left _ (List.mem_of_getElem? (i := 555) rfl)
set_option maxRecDepth 20000 in
theorem mx_556 : (Cond.methodLink RX8 182 yX7_extendText) ∈ WAX := List.mem_append_left _ (List.mem_of_getElem? (i := 556) rfl)
set_option maxRecDepth 20000 in
theorem mx_557 : (Cond.instanceMethod yX7_extendText) ∈ WAX := List.mem_append_left _ (List.mem_of_getElem? (i := 557) rfl)
set_option maxRecDepth 20000 in
theorem mx_558 : (Cond.selects RX7 yX7_extendText yX7_extendText) ∈ WAX := List.mem_append_left _ (List.mem_of_getElem? (i := 558) rfl)
set_option maxRecDepth 20000 in
theorem mx_559 : (Cond.methodLink RX8 186 yX7_putNumber) ∈ WAX := List.mem_append_left _ (List.mem_of_getElem? (i := 559) rfl)
set_option maxRecDepth 20000 in
theorem mx_560 : (Cond.code yX8_depth cX8_depth 1 (some .int)) ∈ WAX := List.mem_append_left _ (List.mem_of_getElem? (i := 560) rfl)
set_option maxRecDepth 20000 in
theorem mx_561 : (Cond.code yX8_clear cX8_clear 1 none) ∈ WAX := List.mem_append_left _ (List.mem_of_getElem? (i := 561) rfl)
set_option maxRecDepth 20000 in
theorem mx_562 : (Cond.methodLink RX8 192 yX6_empty) ∈ WAX := List.mem_append_left _ (List.mem_of_getElem? (i := 562) rfl)
set_option maxRecDepth 20000 in
theorem mx_563 : (Cond.instanceMethod yX6_empty) ∈ WAX := List.mem_append_left _ (List.mem_of_getElem? (i := 563) rfl)
set_option maxRecDepth 20000 in
theorem mx_564 : (Cond.selects RX6 yX6_empty yX6_empty) ∈ WAX := List.mem_append_left _ (List.mem_of_getElem? (i := 564) rfl)
set_option maxRecDepth 20000 in
theorem mx_565 : (Cond.code yJ9_abs_067f4 cJ9_abs_067f4 2 (some .long)) ∈ WAX := List.mem_append_left _ (List.mem_of_getElem? (i := 565) rfl)
set_option maxRecDepth 20000 in
theorem mx_566 : (Cond.code yJ9_max_7cf53 cJ9_max_7cf53 2 (some .int)) ∈ WAX := List.mem_append_left _ (List.mem_of_getElem? (i := 566) rfl)
set_option maxRecDepth 20000 in
theorem mx_567 : (Cond.code yJ9_min_7cf53 cJ9_min_7cf53 2 (some .int)) ∈ WAX := List.mem_append_left _ (List.mem_of_getElem? (i := 567) rfl)
theorem gdx {c0 : Cond} {ws : List Cond} (h : ∀ w ∈ ws, w ∈ WAX) : GoodIn (c0 :: WAX) ws := fun w hw => ⟨List.mem_cons_of_mem _ (h w hw), good_of_word (List.all_eq_true.mp WAX_good w (h w hw))⟩
theorem gdx_n {c0 cw : Cond} (h5 : cw ∈ WAX) : GoodIn (c0 :: WAX) (cw :: WAX) := gdx (fun w hw => by
  rcases List.mem_cons.mp hw with rfl | h
  · exact h5
  · exact h)
theorem gdx_v {c0 cw : Cond} {own C : String} {idx : Nat} {y : MethodName} (h1 : Cond.methodLink own idx y ∈ WAX) (h2 : Cond.instanceMethod y ∈ WAX) (h3 : Cond.selects C y y ∈ WAX) (h4 : Cond.initialized C ∈ WAX) (h5 : cw ∈ WAX) : GoodIn (c0 :: WAX) (wsV own idx C y (cw :: WAX)) := by
  refine gdx (fun w hw => ?_)
  rcases List.mem_append.mp hw with h | h
  · simp only [List.mem_cons, List.not_mem_nil, or_false] at h
    rcases h with rfl | rfl | rfl | rfl
    · exact h1
    · exact h2
    · exact h3
    · exact h4
  · rcases List.mem_cons.mp h with rfl | h
    · exact h5
    · exact h
theorem gdx_s {c0 cw : Cond} {own : String} {idx : Nat} {y : MethodName} (h1 : Cond.methodLink own idx y ∈ WAX) (h2 : Cond.static y ∈ WAX) (h3 : Cond.initialized y.cls ∈ WAX) (h5 : cw ∈ WAX) : GoodIn (c0 :: WAX) (va_wsS own idx y (cw :: WAX)) := by
  refine gdx (fun w hw => ?_)
  rcases List.mem_append.mp hw with h | h
  · simp only [List.mem_cons, List.not_mem_nil, or_false] at h
    rcases h with rfl | rfl | rfl
    · exact h1
    · exact h2
    · exact h3
  · rcases List.mem_cons.mp h with rfl | h
    · exact h5
    · exact h
theorem gdx_u {c0 cw : Cond} {own C owner : String} {idx : Nat} {x y : MethodName} (h1 : Cond.methodLink own idx x ∈ WAX) (h2 : Cond.sameMethod x.cls owner x.name x.desc ∈ WAX) (h3 : Cond.selects C x y ∈ WAX) (h4 : Cond.instanceMethod y ∈ WAX) (h6 : Cond.initialized y.cls ∈ WAX) (h5 : cw ∈ WAX) : GoodIn (c0 :: WAX) (va_wsU own idx C owner x y (cw :: WAX)) := by
  refine gdx (fun w hw => ?_)
  rcases List.mem_append.mp hw with h | h
  · simp only [List.mem_cons, List.not_mem_nil, or_false] at h
    rcases h with rfl | rfl | rfl | rfl | rfl
    · exact h1
    · exact h2
    · exact h3
    · exact h4
    · exact h6
  · rcases List.mem_cons.mp h with rfl | h
    · exact h5
    · exact h
theorem pi2 {α β : Type} {a a' : α} {b b' : β} (h : (a, b) = (a', b')) : a = a' ∧ b = b' := Prod.mk.inj h
theorem pi3 {α β γ : Type} {a a' : α} {b b' : β} {c c' : γ} (h : (a, b, c) = (a', b', c')) : a = a' ∧ b = b' ∧ c = c' := ⟨(Prod.mk.inj h).1, Prod.mk.inj (Prod.mk.inj h).2⟩
theorem nc_c {v : Int32} (h : vp_nar .char v = v) : narrow .char (.int v) = .int v := congrArg Value.int h
theorem nc_b {v : Int32} (h : vp_nar .byte v = v) : narrow .byte (.int v) = .int v := congrArg Value.int h
abbrev fsS (b : Nat → Nat) (u : Md) : List Value := [.ref (b 1), .int (gi u 1), .int (gi u 2), .int (gi u 3), .long (gl u)]
def cS (G : Gx) (b : Nat → Nat) (u : Md) : va_W := [(b 0, .inr (3, fsS b u)), (b 1, .inl (gC G, 4000, .inl (ga u 0)))]
abbrev fsT (b : Nat → Nat) (u : Md) : List Value := [.ref (b 1), .ref (b 2), .ref (b 3), .ref (b 4), .ref (b 5), .ref (b 6), .ref (b 7), .ref (b 8), .ref (b 9), .ref (b 10), .ref (b 11), .ref (b 12), .int (gi u 12), .int (gi u 13), .int (gi u 14), .int (gi u 15)]
def cT (G : Gx) (b : Nat → Nat) (u : Md) : va_W := [(b 0, .inr (4, fsT b u)), (b 1, .inl (gI G, 200, .inl (ga u 0))), (b 2, .inl (gI G, 200, .inl (ga u 1))), (b 3, .inl (gI G, 200, .inl (ga u 2))), (b 4, .inl (gI G, 200, .inl (ga u 3))), (b 5, .inl (gI G, 200, .inl (ga u 4))), (b 6, .inl (gI G, 200, .inl (ga u 5))), (b 7, .inl (gJ G, 1000, .inr (.inl (gn u)))), (b 8, .inl (gI G, 400, .inl (ga u 7))), (b 9, .inl (gC G, 16000, .inl (ga u 8))), (b 10, .inl (gI G, 200, .inl (ga u 9))), (b 11, .inl (gI G, 200, .inl (ga u 10))), (b 12, .inl (gC G, 2000, .inl (ga u 11)))]
abbrev fsP (b : Nat → Nat) (u : Md) : List Value := [.ref (b 1), .int (gi u 1)]
def cP (G : Gx) (b : Nat → Nat) (u : Md) : va_W := [(b 0, .inr (2, fsP b u)), (b 1, .inl (gC G, 60000, .inl (ga u 0)))]
def cF (ci : Nat) (b : Nat → Nat) : va_W := [(b 0, .inr (ci, []))]
theorem hw_P_P_i1 {G : Gx} {bP : Nat → Nat} {uP : Md} {v : Int32} : (cP G bP uP).set 0 (bP 0, .inr (2, (fsP bP uP).set 1 (.int v))) = (cP G bP (si uP 1 v)) := rfl
theorem hw_P_P_a0 {G : Gx} {bP : Nat → Nat} {uP : Md} {f : Nat → Int32} : (cP G bP uP).set 1 (bP 1, .inl (gC G, 60000, .inl f)) = (cP G bP (sa uP 0 f)) := rfl
theorem hw_S_S_a0 {G : Gx} {bS : Nat → Nat} {uS : Md} {f : Nat → Int32} : (cS G bS uS).set 1 (bS 1, .inl (gC G, 4000, .inl f)) = (cS G bS (sa uS 0 f)) := rfl
theorem hw_S_S_i1 {G : Gx} {bS : Nat → Nat} {uS : Md} {v : Int32} : (cS G bS uS).set 0 (bS 0, .inr (3, (fsS bS uS).set 1 (.int v))) = (cS G bS (si uS 1 v)) := rfl
theorem hw_S_S_i2 {G : Gx} {bS : Nat → Nat} {uS : Md} {v : Int32} : (cS G bS uS).set 0 (bS 0, .inr (3, (fsS bS uS).set 2 (.int v))) = (cS G bS (si uS 2 v)) := rfl
theorem hw_S_S_i3 {G : Gx} {bS : Nat → Nat} {uS : Md} {v : Int32} : (cS G bS uS).set 0 (bS 0, .inr (3, (fsS bS uS).set 3 (.int v))) = (cS G bS (si uS 3 v)) := rfl
theorem hw_S_S_l4 {G : Gx} {bS : Nat → Nat} {uS : Md} {v : Int64} : (cS G bS uS).set 0 (bS 0, .inr (3, (fsS bS uS).set 4 (.long v))) = (cS G bS (sl uS v)) := rfl
theorem hw_T_T_a8 {G : Gx} {bT : Nat → Nat} {uT : Md} {f : Nat → Int32} : (cT G bT uT).set 9 (bT 9, .inl (gC G, 16000, .inl f)) = (cT G bT (sa uT 8 f)) := rfl
theorem hw_T_T_a7 {G : Gx} {bT : Nat → Nat} {uT : Md} {f : Nat → Int32} : (cT G bT uT).set 8 (bT 8, .inl (gI G, 400, .inl f)) = (cT G bT (sa uT 7 f)) := rfl
theorem hw_ST_S_i2 {G : Gx} {bS : Nat → Nat} {bT : Nat → Nat} {uS : Md} {uT : Md} {v : Int32} : (cS G bS uS ++ cT G bT uT).set 0 (bS 0, .inr (3, (fsS bS uS).set 2 (.int v))) = (cS G bS (si uS 2 v) ++ cT G bT uT) := rfl
theorem hw_T_T_i12 {G : Gx} {bT : Nat → Nat} {uT : Md} {v : Int32} : (cT G bT uT).set 0 (bT 0, .inr (4, (fsT bT uT).set 12 (.int v))) = (cT G bT (si uT 12 v)) := rfl
theorem hw_T_T_i13 {G : Gx} {bT : Nat → Nat} {uT : Md} {v : Int32} : (cT G bT uT).set 0 (bT 0, .inr (4, (fsT bT uT).set 13 (.int v))) = (cT G bT (si uT 13 v)) := rfl
theorem hw_T_T_i14 {G : Gx} {bT : Nat → Nat} {uT : Md} {v : Int32} : (cT G bT uT).set 0 (bT 0, .inr (4, (fsT bT uT).set 14 (.int v))) = (cT G bT (si uT 14 v)) := rfl
theorem hw_T_T_i15 {G : Gx} {bT : Nat → Nat} {uT : Md} {v : Int32} : (cT G bT uT).set 0 (bT 0, .inr (4, (fsT bT uT).set 15 (.int v))) = (cT G bT (si uT 15 v)) := rfl
theorem hw_T_T_a3 {G : Gx} {bT : Nat → Nat} {uT : Md} {f : Nat → Int32} : (cT G bT uT).set 4 (bT 4, .inl (gI G, 200, .inl f)) = (cT G bT (sa uT 3 f)) := rfl
theorem hw_T_T_a5 {G : Gx} {bT : Nat → Nat} {uT : Md} {f : Nat → Int32} : (cT G bT uT).set 6 (bT 6, .inl (gI G, 200, .inl f)) = (cT G bT (sa uT 5 f)) := rfl
theorem hw_T_T_a4 {G : Gx} {bT : Nat → Nat} {uT : Md} {f : Nat → Int32} : (cT G bT uT).set 5 (bT 5, .inl (gI G, 200, .inl f)) = (cT G bT (sa uT 4 f)) := rfl
theorem hw_T_T_a6 {G : Gx} {bT : Nat → Nat} {uT : Md} {f : Nat → Int64} : (cT G bT uT).set 7 (bT 7, .inl (gJ G, 1000, .inr (.inl f))) = (cT G bT (sn uT f)) := rfl
theorem hw_T_T_a0 {G : Gx} {bT : Nat → Nat} {uT : Md} {f : Nat → Int32} : (cT G bT uT).set 1 (bT 1, .inl (gI G, 200, .inl f)) = (cT G bT (sa uT 0 f)) := rfl
theorem hw_T_T_a1 {G : Gx} {bT : Nat → Nat} {uT : Md} {f : Nat → Int32} : (cT G bT uT).set 2 (bT 2, .inl (gI G, 200, .inl f)) = (cT G bT (sa uT 1 f)) := rfl
theorem hw_T_T_a2 {G : Gx} {bT : Nat → Nat} {uT : Md} {f : Nat → Int32} : (cT G bT uT).set 3 (bT 3, .inl (gI G, 200, .inl f)) = (cT G bT (sa uT 2 f)) := rfl
theorem hw_T_T_a9 {G : Gx} {bT : Nat → Nat} {uT : Md} {f : Nat → Int32} : (cT G bT uT).set 10 (bT 10, .inl (gI G, 200, .inl f)) = (cT G bT (sa uT 9 f)) := rfl
theorem hw_T_T_a10 {G : Gx} {bT : Nat → Nat} {uT : Md} {f : Nat → Int32} : (cT G bT uT).set 11 (bT 11, .inl (gI G, 200, .inl f)) = (cT G bT (sa uT 10 f)) := rfl
theorem hw_ST_T_a9 {G : Gx} {bS : Nat → Nat} {bT : Nat → Nat} {uS : Md} {uT : Md} {f : Nat → Int32} : (cS G bS uS ++ cT G bT uT).set 12 (bT 10, .inl (gI G, 200, .inl f)) = (cS G bS uS ++ cT G bT (sa uT 9 f)) := rfl
theorem hw_ST_T_a11 {G : Gx} {bS : Nat → Nat} {bT : Nat → Nat} {uS : Md} {uT : Md} {f : Nat → Int32} : (cS G bS uS ++ cT G bT uT).set 14 (bT 12, .inl (gC G, 2000, .inl f)) = (cS G bS uS ++ cT G bT (sa uT 11 f)) := rfl
theorem hw_ST_T_i12 {G : Gx} {bS : Nat → Nat} {bT : Nat → Nat} {uS : Md} {uT : Md} {v : Int32} : (cS G bS uS ++ cT G bT uT).set 2 (bT 0, .inr (4, (fsT bT uT).set 12 (.int v))) = (cS G bS uS ++ cT G bT (si uT 12 v)) := rfl
theorem hw_ST_T_a10 {G : Gx} {bS : Nat → Nat} {bT : Nat → Nat} {uS : Md} {uT : Md} {f : Nat → Int32} : (cS G bS uS ++ cT G bT uT).set 13 (bT 11, .inl (gI G, 200, .inl f)) = (cS G bS uS ++ cT G bT (sa uT 10 f)) := rfl
theorem hw_F0ST_S_i2 {G : Gx} {bF : Nat → Nat} {bS : Nat → Nat} {bT : Nat → Nat} {uS : Md} {uT : Md} {v : Int32} : (cF 0 bF ++ cS G bS uS ++ cT G bT uT).set 1 (bS 0, .inr (3, (fsS bS uS).set 2 (.int v))) = (cF 0 bF ++ cS G bS (si uS 2 v) ++ cT G bT uT) := rfl
theorem hw_F0ST_T_i15 {G : Gx} {bF : Nat → Nat} {bS : Nat → Nat} {bT : Nat → Nat} {uS : Md} {uT : Md} {v : Int32} : (cF 0 bF ++ cS G bS uS ++ cT G bT uT).set 3 (bT 0, .inr (4, (fsT bT uT).set 15 (.int v))) = (cF 0 bF ++ cS G bS uS ++ cT G bT (si uT 15 v)) := rfl
theorem hw_F1ST_T_i15 {G : Gx} {bF : Nat → Nat} {bS : Nat → Nat} {bT : Nat → Nat} {uS : Md} {uT : Md} {v : Int32} : (cF 1 bF ++ cS G bS uS ++ cT G bT uT).set 3 (bT 0, .inr (4, (fsT bT uT).set 15 (.int v))) = (cF 1 bF ++ cS G bS uS ++ cT G bT (si uT 15 v)) := rfl

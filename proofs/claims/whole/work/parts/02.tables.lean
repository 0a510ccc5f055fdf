def qx_gt : List Cond := lw_tbl.filter goodWord
def qx_cn : Nat → String
  | 0 => "ClassFileReader"
  | 1 => "ClassFileReader$Tables"
  | 2 => "ClassFileReader$Pool"
  | 3 => "ClassFileReader$Tape"
  | 4 => "ClassFileReader$Reading"
  | 5 => "ClassFileReaderModel"
  | 6 => "ClassFileReader$Known"
  | 7 => "java/lang/String"
  | 8 => "ClassFileReaderLaw"
  | 9 => "ClassFileReader$Access"
  | 10 => "ClassFileReader$Grammar"
  | 11 => "java/lang/StringLatin1"
  | 12 => "java/lang/StringUTF16"
  | 13 => "java/lang/Integer"
  | 14 => "java/lang/Math"
  | 15 => "java/lang/Character"
  | 16 => "java/util/Arrays"
  | 17 => "jdk/internal/util/Preconditions"
  | 18 => "java/lang/System"
  | _ => ""
def qx_NM : Nat := 188
def qx_KK : Nat := 43
def qx_host : String := "ClassFileReader"
def qx_ys : List MethodName := [⟨"ClassFileReader", "<init>", "()V"⟩, ⟨"ClassFileReader$Tables", "<init>", "()V"⟩, ⟨"ClassFileReader$Pool", "<init>", "()V"⟩, ⟨"ClassFileReader$Tape", "<init>", "()V"⟩, ⟨"ClassFileReader", "put", "(JI)I"⟩, ⟨"ClassFileReader", "patch", "(II)I"⟩, ⟨"ClassFileReader", "drop", "()I"⟩, ⟨"ClassFileReader", "read", "()I"⟩, ⟨"ClassFileReader$Reading", "<init>", "(LClassFileReader$Tables;)V"⟩, ⟨"ClassFileReader$Tape", "load", "([BI)V"⟩, ⟨"ClassFileReader$Tables", "empty", "()V"⟩, ⟨"ClassFileReader$Pool", "empty", "()V"⟩, ⟨"java/util/Arrays", "fill", "([II)V"⟩, ⟨"ClassFileReader$Reading", "readStart", "()V"⟩, ⟨"ClassFileReader$Tape", "item", "(I)J"⟩, ⟨"ClassFileReader$Tape", "want", "(ZII)V"⟩, ⟨"ClassFileReader$Tape", "numberAt", "(II)J"⟩, ⟨"ClassFileReader$Tape", "u2", "()I"⟩, ⟨"ClassFileReader$Reading", "readPool", "()V"⟩, ⟨"ClassFileReader$Pool", "readEntries", "(I)V"⟩, ⟨"ClassFileReader$Tape", "isSound", "()Z"⟩, ⟨"ClassFileReader$Pool", "readEntry", "(II)V"⟩, ⟨"ClassFileReader$Pool", "readText", "(I)V"⟩, ⟨"ClassFileReader$Tape", "skip", "(J)V"⟩, ⟨"ClassFileReader$Pool", "lookAtEntries", "()V"⟩, ⟨"ClassFileReader$Grammar", "shapesOf", "(LClassFileReader$Tape;II)I"⟩, ⟨"ClassFileReader$Grammar", "isClassName", "(LClassFileReader$Tape;II)Z"⟩, ⟨"ClassFileReader$Tape", "u1At", "(I)I"⟩, ⟨"java/lang/String", "indexOf", "(I)I"⟩, ⟨"java/lang/String", "indexOf", "(II)I"⟩, ⟨"java/lang/String", "isLatin1", "()Z"⟩, ⟨"java/lang/String", "length", "()I"⟩, ⟨"java/lang/String", "coder", "()B"⟩, ⟨"java/lang/StringLatin1", "indexOf", "([BIII)I"⟩, ⟨"java/lang/StringLatin1", "canEncode", "(I)Z"⟩, ⟨"java/lang/Math", "max", "(II)I"⟩, ⟨"java/lang/Math", "min", "(II)I"⟩, ⟨"java/lang/StringLatin1", "indexOfChar", "([BIII)I"⟩, ⟨"java/lang/StringUTF16", "indexOf", "([BIII)I"⟩, ⟨"java/lang/StringUTF16", "indexOfChar", "([BIII)I"⟩, ⟨"java/lang/StringUTF16", "checkBoundsBeginEnd", "(II[B)V"⟩, ⟨"java/lang/StringUTF16", "length", "([B)I"⟩, ⟨"java/lang/String", "checkBoundsBeginEnd", "(III)V"⟩, ⟨"jdk/internal/util/Preconditions", "checkFromToIndex", "(IIILjava/util/function/BiFunction;)I"⟩, ⟨"java/lang/StringUTF16", "indexOfCharUnsafe", "([BIII)I"⟩, ⟨"java/lang/StringUTF16", "getChar", "([BI)C"⟩, ⟨"java/lang/StringUTF16", "indexOfSupplementary", "([BIII)I"⟩, ⟨"java/lang/Character", "isValidCodePoint", "(I)Z"⟩, ⟨"java/lang/Character", "highSurrogate", "(I)C"⟩, ⟨"java/lang/Character", "lowSurrogate", "(I)C"⟩, ⟨"ClassFileReader$Grammar", "fieldTypeEnd", "(LClassFileReader$Tape;II)I"⟩, ⟨"ClassFileReader$Grammar", "isMethodType", "(LClassFileReader$Tape;II)Z"⟩, ⟨"ClassFileReader$Grammar", "isMemberName", "(LClassFileReader$Tape;II)Z"⟩, ⟨"ClassFileReader$Pool", "lookAtEntry", "(I)V"⟩, ⟨"ClassFileReader$Tape", "u2At", "(I)I"⟩, ⟨"ClassFileReader$Pool", "names", "(II)Z"⟩, ⟨"ClassFileReader$Pool", "hasShape", "(II)Z"⟩, ⟨"ClassFileReader$Pool", "spells", "(ILjava/lang/String;)Z"⟩, ⟨"java/lang/String", "charAt", "(I)C"⟩, ⟨"java/lang/StringLatin1", "charAt", "([BI)C"⟩, ⟨"java/lang/String", "checkIndex", "(II)V"⟩, ⟨"jdk/internal/util/Preconditions", "checkIndex", "(IILjava/util/function/BiFunction;)I"⟩, ⟨"java/lang/StringUTF16", "charAt", "([BI)C"⟩, ⟨"java/lang/StringUTF16", "checkIndex", "(I[B)V"⟩, ⟨"ClassFileReader$Reading", "readHeader", "()V"⟩, ⟨"ClassFileReader$Access", "fitFile", "(I)Z"⟩, ⟨"ClassFileReader$Access", "isInterface", "(I)Z"⟩, ⟨"ClassFileReader$Access", "hasAny", "(II)Z"⟩, ⟨"ClassFileReader$Access", "hasAll", "(II)Z"⟩, ⟨"ClassFileReader$Reading", "readNamedClass", "(Z)V"⟩, ⟨"ClassFileReader$Reading", "readIndex", "(IZ)I"⟩, ⟨"ClassFileReader$Pool", "isNamedClass", "(I)Z"⟩, ⟨"ClassFileReader$Pool", "classText", "(I)I"⟩, ⟨"ClassFileReader$Reading", "readInterface", "(I)V"⟩, ⟨"ClassFileReader$Tables", "interfaceText", "(I)I"⟩, ⟨"ClassFileReader$Tables", "interfaces", "()I"⟩, ⟨"ClassFileReader$Pool", "areSameTexts", "(II)Z"⟩, ⟨"ClassFileReader$Reading", "readMembers", "(I)V"⟩, ⟨"ClassFileReader$Reading", "readMember", "(II)V"⟩, ⟨"ClassFileReader$Reading", "readNameAndType", "(II)V"⟩, ⟨"ClassFileReader$Tables", "begin", "(III)V"⟩, ⟨"ClassFileReader$Reading", "fitMember", "(III)Z"⟩, ⟨"ClassFileReader$Tables", "fileFlags", "()I"⟩, ⟨"ClassFileReader$Access", "fitField", "(IZ)Z"⟩, ⟨"ClassFileReader$Access", "hasOneReach", "(I)Z"⟩, ⟨"java/lang/Integer", "bitCount", "(I)I"⟩, ⟨"ClassFileReader$Tables", "nameOf", "(II)I"⟩, ⟨"ClassFileReader$Tables", "has", "(II)Z"⟩, ⟨"ClassFileReader$Access", "fitMethod", "(IZZ)Z"⟩, ⟨"ClassFileReader$Tables", "typeOf", "(II)I"⟩, ⟨"ClassFileReader$Reading", "readTable", "(II)V"⟩, ⟨"ClassFileReader$Reading", "readAttributeHead", "(II)LClassFileReader$Known;"⟩, ⟨"ClassFileReader$Known", "find", "(LClassFileReader$Pool;II)LClassFileReader$Known;"⟩, ⟨"ClassFileReader$Tables", "contentOf", "(IILClassFileReader$Known;)I"⟩, ⟨"ClassFileReader$Tables", "slotOf", "(IILClassFileReader$Known;)I"⟩, ⟨"ClassFileReader$Tables", "keepContent", "(IILClassFileReader$Known;I)V"⟩, ⟨"ClassFileReader$Known", "isList", "()Z"⟩, ⟨"ClassFileReader$Reading", "readList", "(LClassFileReader$Known;)V"⟩, ⟨"ClassFileReader$Reading", "readSingle", "(IILClassFileReader$Known;)V"⟩, ⟨"ClassFileReader$Reading", "wantLength", "(J)V"⟩, ⟨"ClassFileReader$Pool", "constantTag", "(I)I"⟩, ⟨"ClassFileReader$Pool", "characterOf", "(II)I"⟩, ⟨"ClassFileReader$Reading", "readFileTable", "()V"⟩, ⟨"ClassFileReader$Reading", "readRecord", "()V"⟩, ⟨"ClassFileReader$Reading", "wantEnd", "()V"⟩, ⟨"ClassFileReader", "mirrorSpare", "()V"⟩, ⟨"ClassFileReader", "place", "()I"⟩, ⟨"ClassFileReader", "number", "(I)I"⟩, ⟨"ClassFileReader$Tables", "numberOf", "(I)I"⟩, ⟨"ClassFileReader$Tables", "elementsOf", "(IILClassFileReader$Known;)I"⟩, ⟨"ClassFileReader$Tables", "contentItem", "(IILClassFileReader$Known;)I"⟩, ⟨"ClassFileReader", "flags", "(II)I"⟩, ⟨"ClassFileReader$Tables", "flagsOf", "(II)I"⟩, ⟨"ClassFileReader$Tables", "elementItem", "(IILClassFileReader$Known;II)I"⟩, ⟨"ClassFileReader", "text", "(III)I"⟩, ⟨"ClassFileReader$Tables", "textOf", "(II)I"⟩, ⟨"ClassFileReader$Tables", "classListTextOf", "(II)I"⟩, ⟨"ClassFileReader", "exceptions", "(I)I"⟩, ⟨"ClassFileReader", "exception", "(III)I"⟩, ⟨"ClassFileReader", "constant", "(I)J"⟩, ⟨"ClassFileReader$Pool", "constantOf", "(I)J"⟩, ⟨"ClassFileReader", "deprecated", "(II)I"⟩, ⟨"ClassFileReaderModel", "<init>", "()V"⟩, ⟨"ClassFileReaderModel", "put", "(JI)I"⟩, ⟨"ClassFileReaderModel", "patch", "(II)I"⟩, ⟨"ClassFileReaderModel", "drop", "()I"⟩, ⟨"ClassFileReaderModel", "read", "()I"⟩, ⟨"ClassFileReaderModel", "file", "()V"⟩, ⟨"ClassFileReaderModel", "u4", "()J"⟩, ⟨"ClassFileReaderModel", "room", "(J)Z"⟩, ⟨"ClassFileReaderModel", "fail", "(II)V"⟩, ⟨"ClassFileReaderModel", "u2", "()I"⟩, ⟨"ClassFileReaderModel", "pool", "()V"⟩, ⟨"ClassFileReaderModel", "entry", "(I)I"⟩, ⟨"ClassFileReaderModel", "u1", "()I"⟩, ⟨"ClassFileReaderModel", "look", "(I)V"⟩, ⟨"ClassFileReaderModel", "tag", "(I)I"⟩, ⟨"ClassFileReaderModel", "note", "(I)I"⟩, ⟨"ClassFileReaderModel", "byteAt", "(I)I"⟩, ⟨"ClassFileReaderModel", "operand", "(I)I"⟩, ⟨"ClassFileReaderModel", "two", "(I)I"⟩, ⟨"ClassFileReaderModel", "isClassName", "(I)Z"⟩, ⟨"ClassFileReaderModel", "start", "(I)I"⟩, ⟨"ClassFileReaderModel", "count", "(I)I"⟩, ⟨"ClassFileReaderModel", "className", "(II)Z"⟩, ⟨"ClassFileReaderModel", "plain", "(I)Z"⟩, ⟨"ClassFileReaderModel", "character", "(II)I"⟩, ⟨"ClassFileReaderModel", "isField", "(I)Z"⟩, ⟨"ClassFileReaderModel", "fieldType", "(II)I"⟩, ⟨"ClassFileReaderModel", "isMember", "(I)Z"⟩, ⟨"ClassFileReaderModel", "known", "(I)I"⟩, ⟨"ClassFileReaderModel", "same", "(IIJJJ)Z"⟩, ⟨"ClassFileReaderModel", "isMethod", "(I)Z"⟩, ⟨"ClassFileReaderModel", "badFile", "(I)Z"⟩, ⟨"ClassFileReaderModel", "has", "(II)Z"⟩, ⟨"ClassFileReaderModel", "named", "()I"⟩, ⟨"ClassFileReaderModel", "classRef", "(Z)I"⟩, ⟨"ClassFileReaderModel", "index", "(IZ)I"⟩, ⟨"ClassFileReaderModel", "interfaces", "()V"⟩, ⟨"ClassFileReaderModel", "alike", "(II)Z"⟩, ⟨"ClassFileReaderModel", "members", "(II)V"⟩, ⟨"ClassFileReaderModel", "few", "()I"⟩, ⟨"ClassFileReaderModel", "member", "(II)V"⟩, ⟨"ClassFileReaderModel", "judge", "(IIII)V"⟩, ⟨"ClassFileReaderModel", "badFlags", "(III)Z"⟩, ⟨"ClassFileReaderModel", "single", "(I)Z"⟩, ⟨"ClassFileReaderModel", "table", "(II)V"⟩, ⟨"ClassFileReaderModel", "knows", "(II)Z"⟩, ⟨"ClassFileReaderModel", "parts", "(JI)V"⟩, ⟨"ClassFileReaderModel", "part", "(I)V"⟩, ⟨"ClassFileReaderModel", "fixed", "(IIJI)V"⟩, ⟨"ClassFileReaderModel", "constantKind", "(I)I"⟩, ⟨"ClassFileReaderModel", "list", "(IIJI)V"⟩, ⟨"ClassFileReaderModel", "place", "()I"⟩, ⟨"ClassFileReaderModel", "number", "(I)I"⟩, ⟨"ClassFileReaderModel", "flags", "(II)I"⟩, ⟨"ClassFileReaderModel", "element", "(III)I"⟩, ⟨"ClassFileReaderModel", "member2", "(II)I"⟩, ⟨"ClassFileReaderModel", "text", "(III)I"⟩, ⟨"ClassFileReaderModel", "textIndex", "(II)I"⟩, ⟨"ClassFileReaderModel", "classText", "(I)I"⟩, ⟨"ClassFileReaderModel", "elementText", "(IIII)I"⟩, ⟨"ClassFileReaderModel", "characterOf", "(II)I"⟩, ⟨"ClassFileReaderModel", "exceptions", "(I)I"⟩, ⟨"ClassFileReaderModel", "exception", "(III)I"⟩, ⟨"ClassFileReaderModel", "constant", "(I)J"⟩, ⟨"ClassFileReaderModel", "four", "(I)J"⟩, ⟨"ClassFileReaderModel", "deprecated", "(II)I"⟩]
def qx_y (m : Nat) : MethodName := qx_ys.getD m x
def qx_cds : List ByteArray := [prog_1_method_1_code, prog_7_method_1_code, prog_5_method_1_code, prog_8_method_1_code, prog_1_method_2_code, prog_1_method_3_code, prog_1_method_4_code, prog_1_method_5_code, prog_6_method_1_code, prog_8_method_2_code, prog_7_method_2_code, prog_5_method_2_code, prog_19_method_103_code, prog_6_method_2_code, prog_8_method_5_code, prog_8_method_4_code, prog_8_method_8_code, prog_8_method_6_code, prog_6_method_3_code, prog_5_method_3_code, prog_8_method_3_code, prog_5_method_4_code, prog_5_method_5_code, prog_8_method_7_code, prog_5_method_6_code, prog_3_method_2_code, prog_3_method_3_code, prog_8_method_9_code, prog_15_method_79_code, prog_15_method_80_code, prog_15_method_154_code, prog_15_method_54_code, prog_15_method_152_code, prog_16_method_22_code, prog_16_method_4_code, prog_14_method_65_code, prog_14_method_69_code, prog_16_method_23_code, prog_17_method_40_code, prog_17_method_47_code, prog_17_method_93_code, prog_17_method_6_code, prog_15_method_158_code, prog_20_method_12_code, prog_17_method_48_code, prog_17_method_5_code, prog_17_method_49_code, prog_11_method_11_code, prog_11_method_28_code, prog_11_method_29_code, prog_3_method_6_code, prog_3_method_5_code, prog_3_method_4_code, prog_5_method_7_code, prog_8_method_10_code, prog_5_method_8_code, prog_5_method_9_code, prog_5_method_12_code, prog_15_method_56_code, prog_16_method_2_code, prog_15_method_155_code, prog_20_method_11_code, prog_17_method_83_code, prog_17_method_91_code, prog_6_method_4_code, prog_2_method_3_code, prog_2_method_2_code, prog_2_method_7_code, prog_2_method_8_code, prog_6_method_6_code, prog_6_method_7_code, prog_5_method_11_code, prog_5_method_10_code, prog_6_method_5_code, prog_7_method_15_code, prog_7_method_14_code, prog_5_method_13_code, prog_6_method_8_code, prog_6_method_9_code, prog_6_method_10_code, prog_7_method_3_code, prog_6_method_11_code, prog_7_method_13_code, prog_2_method_4_code, prog_2_method_6_code, prog_13_method_49_code, prog_7_method_11_code, prog_7_method_4_code, prog_2_method_5_code, prog_7_method_12_code, prog_6_method_13_code, prog_6_method_14_code, prog_4_method_5_code, prog_7_method_6_code, prog_7_method_7_code, prog_7_method_5_code, prog_4_method_4_code, prog_6_method_17_code, prog_6_method_15_code, prog_6_method_16_code, prog_5_method_16_code, prog_5_method_14_code, prog_6_method_12_code, prog_6_method_18_code, prog_6_method_19_code, prog_1_method_14_code, prog_1_method_6_code, prog_1_method_7_code, prog_7_method_16_code, prog_7_method_9_code, prog_7_method_8_code, prog_1_method_8_code, prog_7_method_17_code, prog_7_method_10_code, prog_1_method_9_code, prog_7_method_18_code, prog_7_method_19_code, prog_1_method_10_code, prog_1_method_11_code, prog_1_method_12_code, prog_5_method_15_code, prog_1_method_13_code, prog_10_method_1_code, prog_10_method_2_code, prog_10_method_3_code, prog_10_method_4_code, prog_10_method_51_code, prog_10_method_50_code, prog_10_method_27_code, prog_10_method_24_code, prog_10_method_23_code, prog_10_method_26_code, prog_10_method_31_code, prog_10_method_29_code, prog_10_method_25_code, prog_10_method_30_code, prog_10_method_8_code, prog_10_method_7_code, prog_10_method_5_code, prog_10_method_12_code, prog_10_method_6_code, prog_10_method_21_code, prog_10_method_9_code, prog_10_method_10_code, prog_10_method_17_code, prog_10_method_16_code, prog_10_method_11_code, prog_10_method_19_code, prog_10_method_18_code, prog_10_method_22_code, prog_10_method_14_code, prog_10_method_13_code, prog_10_method_20_code, prog_10_method_37_code, prog_10_method_35_code, prog_10_method_34_code, prog_10_method_32_code, prog_10_method_28_code, prog_10_method_33_code, prog_10_method_15_code, prog_10_method_42_code, prog_10_method_41_code, prog_10_method_40_code, prog_10_method_39_code, prog_10_method_38_code, prog_10_method_36_code, prog_10_method_44_code, prog_10_method_43_code, prog_10_method_48_code, prog_10_method_49_code, prog_10_method_45_code, prog_10_method_46_code, prog_10_method_47_code, prog_10_method_52_code, prog_10_method_53_code, prog_10_method_56_code, prog_10_method_55_code, prog_10_method_54_code, prog_10_method_61_code, prog_10_method_59_code, prog_10_method_57_code, prog_10_method_58_code, prog_10_method_60_code, prog_10_method_62_code, prog_10_method_63_code, prog_10_method_65_code, prog_10_method_64_code, prog_10_method_66_code]
def qx_code (m : Nat) : ByteArray := qx_cds.getD m code
def qx_mLs : List Nat := [1, 1, 1, 1, 5, 4, 2, 3, 2, 3, 1, 1, 4, 2, 2, 4, 6, 1, 2, 3, 1, 3, 7, 3, 3, 4, 6, 2, 2, 3, 1, 1, 1, 4, 1, 2, 2, 6, 4, 4, 3, 1, 3, 4, 5, 2, 7, 2, 1, 1, 5, 5, 4, 5, 2, 3, 3, 5, 2, 2, 2, 3, 2, 2, 3, 1, 1, 2, 2, 4, 5, 2, 2, 5, 2, 1, 6, 5, 7, 8, 4, 6, 1, 2, 1, 1, 3, 3, 3, 3, 6, 8, 4, 4, 3, 5, 1, 7, 5, 4, 2, 3, 4, 7, 1, 2, 1, 2, 2, 4, 5, 3, 3, 6, 4, 3, 3, 2, 5, 2, 5, 4, 1, 5, 4, 2, 2, 2, 1, 3, 3, 1, 3, 7, 1, 6, 2, 2, 2, 2, 2, 2, 2, 2, 6, 1, 3, 2, 6, 4, 2, 12, 4, 1, 2, 1, 4, 5, 7, 4, 5, 3, 6, 5, 5, 2, 12, 2, 9, 11, 6, 3, 10, 1, 2, 4, 4, 3, 4, 6, 2, 6, 3, 3, 5, 8, 2, 4]
def qx_mL (m : Nat) : Nat := qx_mLs.getD m maxLocals
def qx_rts : List (Option FieldType) := [none, none, none, none, some .int, some .int, some .int, some .int, none, none, none, none, none, none, some .long, none, some .long, some .int, none, none, some .boolean, none, none, none, none, some .int, some .boolean, some .int, some .int, some .int, some .boolean, some .int, some .byte, some .int, some .boolean, some .int, some .int, some .int, some .int, some .int, none, some .int, none, some .int, some .int, some .char, some .int, some .boolean, some .char, some .char, some .int, some .boolean, some .boolean, none, some .int, some .boolean, some .boolean, some .boolean, some .char, some .char, none, some .int, some .char, none, none, some .boolean, some .boolean, some .boolean, some .boolean, none, some .int, some .boolean, some .int, none, some .int, some .int, some .boolean, none, none, none, none, some .boolean, some .int, some .boolean, some .boolean, some .int, some .int, some .boolean, some .boolean, some .int, none, some (.object "ClassFileReader$Known"), some (.object "ClassFileReader$Known"), some .int, some .int, none, some .boolean, none, none, none, some .int, some .int, none, none, none, none, some .int, some .int, some .int, some .int, some .int, some .int, some .int, some .int, some .int, some .int, some .int, some .int, some .int, some .long, some .long, some .int, none, some .int, some .int, some .int, some .int, none, some .long, some .boolean, none, some .int, none, some .int, some .int, none, some .int, some .int, some .int, some .int, some .int, some .boolean, some .int, some .int, some .boolean, some .boolean, some .int, some .boolean, some .int, some .boolean, some .int, some .boolean, some .boolean, some .boolean, some .boolean, some .int, some .int, some .int, none, some .boolean, none, some .int, none, none, some .boolean, some .boolean, none, some .boolean, none, none, none, some .int, none, some .int, some .int, some .int, some .int, some .int, some .int, some .int, some .int, some .int, some .int, some .int, some .int, some .long, some .long, some .int]
def qx_rt (m : Nat) : Option FieldType := qx_rts.getD m ret
def qx_cls : List Nat := [0, 1, 2, 3, 0, 0, 0, 0, 4, 3, 1, 2, 16, 4, 3, 3, 3, 3, 4, 2, 3, 2, 2, 3, 2, 10, 10, 3, 7, 7, 7, 7, 7, 11, 11, 14, 14, 11, 12, 12, 12, 12, 7, 17, 12, 12, 12, 15, 15, 15, 10, 10, 10, 2, 3, 2, 2, 2, 7, 11, 7, 17, 12, 12, 4, 9, 9, 9, 9, 4, 4, 2, 2, 4, 1, 1, 2, 4, 4, 4, 1, 4, 1, 9, 9, 13, 1, 1, 9, 1, 4, 4, 6, 1, 1, 1, 6, 4, 4, 4, 2, 2, 4, 4, 4, 0, 0, 0, 1, 1, 1, 0, 1, 1, 0, 1, 1, 0, 0, 0, 2, 0, 5, 5, 5, 5, 5, 5, 5, 5, 5, 5, 5, 5, 5, 5, 5, 5, 5, 5, 5, 5, 5, 5, 5, 5, 5, 5, 5, 5, 5, 5, 5, 5, 5, 5, 5, 5, 5, 5, 5, 5, 5, 5, 5, 5, 5, 5, 5, 5, 5, 5, 5, 5, 5, 5, 5, 5, 5, 5, 5, 5, 5, 5, 5, 5, 5, 5]
def qx_cl (m : Nat) : Nat := qx_cls.getD m 8
def qx_ow (m : Nat) : Nat := qx_cl m
def qx_rr : Option FieldType → Bool
  | some (.object _) => true
  | some (.array _) => true
  | _ => false
def qx_T0 : u_T := fun k => match k with
  | 0 => ("ClassFileReader", "bytes", "[B", true)
  | 1 => ("ClassFileReader", "size", "I", false)
  | 2 => ("ClassFileReader", "wrongPlace", "I", false)
  | 3 => ("ClassFileReader", "mirror", "LClassFileReader$Tables;", false)
  | _ => ("ClassFileReader", "spare", "LClassFileReader$Tables;", false)
def qx_T1 : u_T := fun k => match k with
  | 0 => ("ClassFileReader$Tables", "pool", "LClassFileReader$Pool;", true)
  | 1 => ("ClassFileReader$Tables", "tape", "LClassFileReader$Tape;", true)
  | 2 => ("ClassFileReader$Tables", "flagsPlace", "I", false)
  | 3 => ("ClassFileReader$Tables", "counts", "[I", true)
  | 4 => ("ClassFileReader$Tables", "namePlaces", "[I", true)
  | _ => ("ClassFileReader$Tables", "contents", "[I", true)
def qx_T2 : u_T := fun k => match k with
  | 0 => ("ClassFileReader$Pool", "tape", "LClassFileReader$Tape;", true)
  | 1 => ("ClassFileReader$Pool", "tags", "[I", true)
  | 2 => ("ClassFileReader$Pool", "places", "[I", true)
  | 3 => ("ClassFileReader$Pool", "lengths", "[I", true)
  | _ => ("ClassFileReader$Pool", "shapes", "[I", true)
def qx_T3 : u_T := fun k => match k with
  | 0 => ("ClassFileReader$Tape", "row", "[B", true)
  | 1 => ("ClassFileReader$Tape", "size", "I", false)
  | 2 => ("ClassFileReader$Tape", "at", "I", false)
  | 3 => ("ClassFileReader$Tape", "code", "I", false)
  | _ => ("ClassFileReader$Tape", "wrongPlace", "I", false)
def qx_T4 : u_T := fun k => match k with
  | 0 => ("ClassFileReader$Reading", "tables", "LClassFileReader$Tables;", true)
  | 1 => ("ClassFileReader$Reading", "pool", "LClassFileReader$Pool;", true)
  | _ => ("ClassFileReader$Reading", "tape", "LClassFileReader$Tape;", true)
def qx_T5 : u_T := fun k => match k with
  | 0 => ("ClassFileReaderModel", "bytes", "[I", true)
  | 1 => ("ClassFileReaderModel", "size", "I", false)
  | 2 => ("ClassFileReaderModel", "notes", "[I", true)
  | 3 => ("ClassFileReaderModel", "mirror", "[I", true)
  | 4 => ("ClassFileReaderModel", "kept", "[I", true)
  | 5 => ("ClassFileReaderModel", "any", "Z", false)
  | 6 => ("ClassFileReaderModel", "mirrored", "Z", false)
  | 7 => ("ClassFileReaderModel", "at", "I", false)
  | 8 => ("ClassFileReaderModel", "code", "I", false)
  | _ => ("ClassFileReaderModel", "wrong", "I", false)
abbrev qx_cs : List vw_C := [("ClassFileReader", qx_T0, 5), ("ClassFileReader$Tables", qx_T1, 6), ("ClassFileReader$Pool", qx_T2, 5), ("ClassFileReader$Tape", qx_T3, 5), ("ClassFileReader$Reading", qx_T4, 3), ("ClassFileReaderModel", qx_T5, 10)]
def qx_cN : Nat → Nat
  | 0 => 5
  | 1 => 6
  | 2 => 5
  | 3 => 5
  | 4 => 3
  | 5 => 10
  | _ => 0
def qx_fty : Nat → Nat → FieldType
  | 0, 0 => .array .byte
  | 0, 1 => .int
  | 0, 2 => .int
  | 0, 3 => .object "ClassFileReader$Tables"
  | 0, 4 => .object "ClassFileReader$Tables"
  | 1, 0 => .object "ClassFileReader$Pool"
  | 1, 1 => .object "ClassFileReader$Tape"
  | 1, 2 => .int
  | 1, 3 => .array .int
  | 1, 4 => .array .int
  | 1, 5 => .array .int
  | 2, 0 => .object "ClassFileReader$Tape"
  | 2, 1 => .array .int
  | 2, 2 => .array .int
  | 2, 3 => .array .int
  | 2, 4 => .array .int
  | 3, 0 => .array .byte
  | 3, 1 => .int
  | 3, 2 => .int
  | 3, 3 => .int
  | 3, 4 => .int
  | 4, 0 => .object "ClassFileReader$Tables"
  | 4, 1 => .object "ClassFileReader$Pool"
  | 4, 2 => .object "ClassFileReader$Tape"
  | 5, 0 => .array .int
  | 5, 1 => .int
  | 5, 2 => .array .int
  | 5, 3 => .array .int
  | 5, 4 => .array .int
  | 5, 5 => .boolean
  | 5, 6 => .boolean
  | 5, 7 => .int
  | 5, 8 => .int
  | 5, 9 => .int
  | _, _ => .int
def qx_fr : List (Nat × Nat × Nat × Nat × Nat × Nat) := [(3, 9, 3, 0, 0, 46), (3, 15, 3, 1, 0, 47), (4, 212, 3, 1, 1, 48), (3, 19, 3, 2, 0, 49), (2, 41, 3, 2, 1, 50), (4, 52, 3, 2, 1, 51), (3, 22, 3, 3, 0, 52), (0, 75, 3, 3, 1, 53), (3, 25, 3, 4, 0, 54), (0, 67, 3, 4, 1, 55), (2, 12, 2, 0, 0, 68), (1, 18, 2, 0, 1, 69), (2, 18, 2, 1, 0, 70), (2, 22, 2, 2, 0, 71), (2, 25, 2, 3, 0, 72), (2, 28, 2, 4, 0, 73), (4, 15, 1, 0, 1, 86), (1, 14, 1, 0, 0, 87), (0, 86, 1, 0, 1, 88), (4, 22, 1, 1, 1, 89), (1, 22, 1, 1, 0, 90), (0, 30, 1, 1, 1, 91), (1, 23, 1, 2, 0, 92), (4, 56, 1, 2, 1, 93), (1, 27, 1, 3, 0, 94), (1, 31, 1, 4, 0, 95), (1, 36, 1, 5, 0, 96), (0, 9, 0, 0, 0, 110), (0, 13, 0, 1, 0, 111), (0, 17, 0, 2, 0, 112), (0, 20, 0, 3, 0, 113), (0, 27, 0, 4, 0, 114), (4, 9, 4, 0, 0, 148), (4, 21, 4, 1, 0, 149), (4, 26, 4, 2, 0, 150), (5, 7, 5, 0, 0, 673), (5, 26, 5, 1, 0, 674), (5, 13, 5, 2, 0, 675), (5, 16, 5, 3, 0, 676), (5, 19, 5, 4, 0, 677), (5, 249, 5, 5, 0, 678), (5, 31, 5, 6, 0, 679), (5, 119, 5, 7, 0, 680), (5, 116, 5, 8, 0, 681), (5, 22, 5, 9, 0, 682), (7, 15, 7, 1, 0, 991), (7, 9, 7, 0, 0, 992), (6, 58, 6, 2, 0, 993), (6, 50, 6, 0, 0, 994), (1, 56, 6, 1, 1, 995), (6, 64, 6, 4, 0, 996), (4, 206, 6, 4, 1, 997), (4, 199, 6, 3, 1, 998), (1, 74, 6, 4, 1, 999)]
def qx_frow (c k : Nat) : Option (Nat × Nat × Nat × Nat × Nat × Nat) := qx_fr.find? (fun r => r.1 == c && r.2.1 == k)
def qx_fld (m k : Nat) : Option (Nat × Nat) := match qx_frow (qx_cl m) k with
  | some r => some (r.2.2.1, r.2.2.2.1)
  | none => none
def qx_kT : Nat → u_T
  | 0 => qx_T0
  | 1 => qx_T1
  | 2 => qx_T2
  | 3 => qx_T3
  | 4 => qx_T4
  | 5 => qx_T5
  | 6 => fun k => match k with
    | 0 => ("ClassFileReader$Known", "title", "Ljava/lang/String;", true)
    | 1 => ("ClassFileReader$Known", "slot", "I", true)
    | 2 => ("ClassFileReader$Known", "tables", "I", true)
    | 3 => ("ClassFileReader$Known", "tag", "I", true)
    | _ => ("ClassFileReader$Known", "elementSize", "I", true)
  | _ => fun k => match k with
    | 0 => ("java/lang/String", "value", "[B", true)
    | _ => ("java/lang/String", "coder", "B", true)
def qx_kn (ci : Nat) : String := qx_cn ci
def qx_pok (m k : Nat) : Bool := match qx_frow (qx_cl m) k with
  | some r => !(qx_kT r.2.2.1 r.2.2.2.1).2.2.2 || (r.2.2.2.2.1 == 0 && (qx_y m).name == "<init>" && (qx_kT r.2.2.1 r.2.2.2.1).1 == (qx_y m).cls)
  | none => false
def qx_nr : List (Nat × Nat × Nat × Nat) := [(8, 7, 0, 20), (0, 24, 1, 28), (1, 11, 2, 34), (2, 9, 3, 40), (0, 34, 4, 142), (8, 10, 5, 667)]
def qx_df : Nat → List Value
  | 0 => [.null, .int 0, .int 0, .null, .null]
  | 1 => [.null, .null, .int 0, .null, .null, .null]
  | 2 => [.null, .null, .null, .null, .null]
  | 3 => [.null, .int 0, .int 0, .int 0, .int 0]
  | 4 => [.null, .null, .null]
  | 5 => [.null, .int 0, .null, .null, .null, .int 0, .int 0, .int 0, .int 0, .int 0]
  | _ => []
def qx_new (m k : Nat) : Option (Nat × List Value) := match qx_nr.find? (fun r => r.1 == qx_cl m && r.2.1 == k) with
  | some r => some (r.2.2.1, qx_df r.2.2.1)
  | none => none
def qx_lr : List (Nat × Nat × Int32 × Nat) := [(12, 227, 65536, 288), (15, 110, 55232, 327), (15, 76, 56320, 331), (13, 265, 1431655765, 476), (13, 266, 858993459, 477), (13, 267, 252645135, 478)]
def qx_sr : List (Nat × Nat × String × Nat × Nat) := [(10, 29, ".;[", 11, 245), (10, 38, "BCDFIJSZ", 12, 335), (10, 36, ".;[/<>", 13, 342), (2, 97, "<init>", 14, 359), (4, 119, "<init>", 14, 454), (4, 124, "<clinit>", 15, 456), (2, 125, "Ljava/lang/String;", 16, 548), (6, 94, "InnerClasses", 17, 1000), (6, 85, "Deprecated", 18, 1001), (6, 88, "ConstantValue", 19, 1002), (6, 106, "Record", 20, 1003), (6, 97, "NestMembers", 21, 1004), (6, 100, "PermittedSubclasses", 22, 1005), (6, 77, "Signature", 23, 1006), (6, 103, "NestHost", 24, 1007), (6, 91, "Exceptions", 25, 1008)]
def qx_ldcw (m k : Nat) : Option Int32 := match qx_lr.find? (fun r => r.1 == qx_cl m && r.2.1 == k) with
  | some r => some r.2.2.1
  | none => none
def qx_ldc (m k : Nat) : Option Value := match qx_lr.find? (fun r => r.1 == qx_cl m && r.2.1 == k) with
  | some r => some (.int r.2.2.1)
  | none => match qx_sr.find? (fun r => r.1 == qx_cl m && r.2.1 == k) with
    | some r => some (.retAddr r.2.2.2.1)
    | none => none
def qx_l2r : List (Nat × Nat × Int64 × Nat) := [(4, 33, 3405691582, 193), (2, 75, 127, 222), (2, 57, 2, 224), (2, 63, 4, 229), (2, 69, 8, 230), (4, 194, 2, 529), (0, 119, 1000000000000000000, 651), (2, 117, 1000000000000000000, 658), (2, 123, -1000000000000000000, 660), (5, 29, 255, 708), (5, 132, 4, 729), (5, 232, 3405691582, 738), (5, 130, 2, 743), (5, 57, 47190209803926258, 819), (5, 59, 101, 820), (5, 51, 128, 825), (5, 65, 38728678636056820, 826), (5, 67, 13028, 827), (5, 69, 38209640728131444, 828), (5, 71, 23290657509, 829), (5, 73, 39374741330277615, 830), (5, 75, 14195, 831), (5, 77, 41582938639365729, 832), (5, 79, 243069683, 833), (5, 81, 44358281736058594, 834), (5, 83, 1669491, 835), (5, 85, 45484145463081573, 836), (5, 87, 56664079808016627, 837), (5, 89, 1897203, 838), (5, 91, 44358281725737460, 839), (5, 93, 2844819978596, 840), (5, 95, 43253754164409953, 841), (5, 97, 62379131099985134, 842), (5, 99, 13243, 843), (5, 101, 2090002446910, 844), (5, 103, 34216143079766590, 845), (5, 227, 8, 926), (5, 274, 1000000000000000000, 979), (5, 272, 65536, 984), (5, 280, -1000000000000000000, 985), (8, 13, 4294967295, 990)]
def qx_ldc2 (m k : Nat) : Option Int64 := match qx_l2r.find? (fun r => r.1 == qx_cl m && r.2.1 == k) with
  | some r => some r.2.2.1
  | none => none
def qx_kZ : List (String × String × String × Value) := [("ClassFileReader$Known", "SIGNATURE", "LClassFileReader$Known;", .retAddr 1), ("ClassFileReader$Known", "DEPRECATED", "LClassFileReader$Known;", .retAddr 2), ("ClassFileReader$Known", "CONSTANT_VALUE", "LClassFileReader$Known;", .retAddr 3), ("ClassFileReader$Known", "EXCEPTIONS", "LClassFileReader$Known;", .retAddr 4), ("ClassFileReader$Known", "INNER_CLASSES", "LClassFileReader$Known;", .retAddr 5), ("ClassFileReader$Known", "NEST_MEMBERS", "LClassFileReader$Known;", .retAddr 6), ("ClassFileReader$Known", "PERMITTED_SUBCLASSES", "LClassFileReader$Known;", .retAddr 7), ("ClassFileReader$Known", "NEST_HOST", "LClassFileReader$Known;", .retAddr 8), ("ClassFileReader$Known", "RECORD", "LClassFileReader$Known;", .retAddr 9), ("ClassFileReader$Known", "ALL", "[LClassFileReader$Known;", .retAddr 10), ("java/lang/String", "COMPACT_STRINGS", "Z", .int 1), ("jdk/internal/util/Preconditions", "SIOOBE_FORMATTER", "Ljava/util/function/BiFunction;", .retAddr 41)]
def qx_zr : List (Nat × Nat × Nat × Nat × Nat) := [(7, 38, 10, 0, 258), (7, 1053, 11, 0, 301), (6, 67, 9, 0, 505), (4, 209, 4, 0, 530), (4, 185, 1, 0, 536), (4, 191, 2, 0, 542), (4, 149, 8, 0, 557), (1, 87, 4, 0, 585), (1, 91, 5, 0, 595), (1, 94, 6, 0, 597), (1, 97, 1, 0, 599), (1, 100, 8, 0, 600), (1, 117, 0, 0, 624), (1, 123, 7, 0, 630), (0, 102, 3, 0, 638), (0, 121, 2, 0, 652), (0, 131, 1, 0, 665)]
def qx_sta (m k : Nat) : Option Value := match qx_zr.find? (fun r => r.1 == qx_cl m && r.2.1 == k) with
  | some r => (qx_kZ[r.2.2.1]?).map (fun z => z.2.2.2)
  | none => none
def qx_kR : List (String × Nat × String × Nat) := qx_sr.map (fun r => (qx_cn r.1, r.2.1, r.2.2.1, r.2.2.2.1))
def qx_kNF : List (String × Nat × String × String × String) := [("ClassFileReader$Reading", 212, "ClassFileReader$Tape", "size", "I"), ("ClassFileReader$Pool", 41, "ClassFileReader$Tape", "at", "I"), ("ClassFileReader$Reading", 52, "ClassFileReader$Tape", "at", "I"), ("ClassFileReader", 75, "ClassFileReader$Tape", "code", "I"), ("ClassFileReader", 67, "ClassFileReader$Tape", "wrongPlace", "I"), ("ClassFileReader$Tables", 18, "ClassFileReader$Pool", "tape", "LClassFileReader$Tape;"), ("ClassFileReader$Reading", 15, "ClassFileReader$Tables", "pool", "LClassFileReader$Pool;"), ("ClassFileReader", 86, "ClassFileReader$Tables", "pool", "LClassFileReader$Pool;"), ("ClassFileReader$Reading", 22, "ClassFileReader$Tables", "tape", "LClassFileReader$Tape;"), ("ClassFileReader", 30, "ClassFileReader$Tables", "tape", "LClassFileReader$Tape;"), ("ClassFileReader$Reading", 56, "ClassFileReader$Tables", "flagsPlace", "I"), ("ClassFileReader$Tables", 56, "ClassFileReader$Known", "slot", "I"), ("ClassFileReader$Reading", 206, "ClassFileReader$Known", "elementSize", "I"), ("ClassFileReader$Reading", 199, "ClassFileReader$Known", "tag", "I"), ("ClassFileReader$Tables", 74, "ClassFileReader$Known", "elementSize", "I")]
def qx_kNM : List (String × Nat × MethodName) := [("ClassFileReader", 26, ⟨"ClassFileReader$Tables", "<init>", "()V"⟩), ("ClassFileReader$Tables", 13, ⟨"ClassFileReader$Pool", "<init>", "()V"⟩), ("ClassFileReader$Pool", 11, ⟨"ClassFileReader$Tape", "<init>", "()V"⟩)]
def qx_en (k : Nat) : Bool := decide (1 ≤ k) && decide (k ≤ 9)
def qx_ttl : List Nat := [23, 18, 19, 25, 17, 21, 22, 24, 20]
def qx_etb : List Int32 := [15, 15, 1, 2, 8, 8, 8, 8, 8]
def qx_etg : List Int32 := [1, -1, -1, 7, 7, 7, 7, 7, -1]
def qx_esz : List Int32 := [0, 0, 0, 2, 8, 2, 2, 0, 0]
def qx_ko (k : Nat) : Option (Nat × List Value) := if qx_en k = true then some (6, [.retAddr (qx_ttl.getD (k - 1) 0), .int (Int32.ofNat (k - 1)), .int (qx_etb.getD (k - 1) 0), .int (qx_etg.getD (k - 1) 0), .int (qx_esz.getD (k - 1) 0)]) else if 11 ≤ k ∧ k < 26 then some (7, [.retAddr (k + 15), .int 0]) else none
def qx_txs : List (List Int32) := [[46, 59, 91], [66, 67, 68, 70, 73, 74, 83, 90], [46, 59, 91, 47, 60, 62], [60, 105, 110, 105, 116, 62], [60, 99, 108, 105, 110, 105, 116, 62], [76, 106, 97, 118, 97, 47, 108, 97, 110, 103, 47, 83, 116, 114, 105, 110, 103, 59], [73, 110, 110, 101, 114, 67, 108, 97, 115, 115, 101, 115], [68, 101, 112, 114, 101, 99, 97, 116, 101, 100], [67, 111, 110, 115, 116, 97, 110, 116, 86, 97, 108, 117, 101], [82, 101, 99, 111, 114, 100], [78, 101, 115, 116, 77, 101, 109, 98, 101, 114, 115], [80, 101, 114, 109, 105, 116, 116, 101, 100, 83, 117, 98, 99, 108, 97, 115, 115, 101, 115], [83, 105, 103, 110, 97, 116, 117, 114, 101], [78, 101, 115, 116, 72, 111, 115, 116], [69, 120, 99, 101, 112, 116, 105, 111, 110, 115]]
def qx_ka (k : Nat) : Option (FieldType × Nat × (Nat → Value)) := if k = 10 then some (.object "ClassFileReader$Known", 9, fun j => .retAddr (j + 1)) else if 26 ≤ k ∧ k < 41 then some (.byte, (qx_txs.getD (k - 26) []).length, fun j => .int ((qx_txs.getD (k - 26) []).getD j 0)) else none
def qx_mr : List (Nat × Nat × Nat × Nat × Nat × Nat) := [(8, 9, 0, 0, 0, 22), (0, 26, 1, 0, 1, 30), (1, 13, 2, 0, 1, 36), (2, 11, 3, 0, 1, 42), (8, 15, 4, 2, 0, 126), (8, 20, 5, 2, 0, 130), (8, 25, 6, 0, 0, 134), (8, 30, 7, 0, 0, 138), (0, 36, 8, 1, 0, 144), (0, 39, 9, 2, 0, 158), (0, 45, 10, 0, 0, 165), (1, 39, 11, 0, 0, 169), (2, 31, 12, 2, 0, 173), (1, 42, 12, 2, 0, 176), (0, 48, 13, 0, 0, 177), (4, 27, 14, 1, 0, 181), (3, 34, 15, 3, 0, 185), (3, 38, 16, 2, 0, 189), (4, 35, 15, 3, 0, 194), (4, 39, 17, 0, 0, 195), (3, 42, 14, 1, 0, 199), (0, 51, 18, 0, 0, 200), (4, 45, 19, 1, 0, 204), (2, 37, 20, 0, 0, 208), (2, 45, 14, 1, 0, 212), (2, 49, 21, 2, 0, 213), (2, 53, 22, 1, 0, 217), (2, 71, 17, 0, 0, 221), (2, 65, 15, 3, 0, 223), (2, 59, 23, 1, 0, 225), (4, 49, 24, 0, 0, 231), (2, 77, 25, 3, 0, 235), (10, 7, 26, 3, 0, 238), (10, 17, 27, 1, 0, 241), (10, 31, 28, 1, 0, 246), (7, 633, 29, 2, 0, 250), (7, 492, 30, 0, 0, 254), (7, 505, 31, 0, 0, 260), (7, 335, 32, 0, 0, 264), (7, 637, 33, 4, 0, 268), (11, 88, 34, 1, 0, 271), (11, 92, 35, 2, 0, 274), (11, 38, 36, 2, 0, 277), (11, 95, 37, 4, 0, 280), (7, 640, 38, 4, 0, 283), (12, 224, 35, 2, 0, 286), (12, 183, 36, 2, 0, 287), (12, 228, 39, 4, 0, 289), (12, 96, 40, 3, 0, 292), (12, 48, 41, 1, 0, 295), (12, 241, 42, 3, 0, 298), (7, 1062, 43, 4, 0, 303), (12, 244, 44, 4, 0, 306), (12, 71, 45, 2, 0, 309), (12, 232, 46, 4, 0, 318), (12, 164, 47, 1, 0, 321), (12, 157, 48, 1, 0, 324), (12, 161, 49, 1, 0, 328), (10, 13, 50, 3, 0, 332), (10, 23, 51, 3, 0, 336), (10, 26, 52, 3, 0, 339), (2, 83, 53, 1, 0, 343), (2, 86, 54, 1, 0, 347), (2, 90, 55, 2, 0, 351), (2, 94, 56, 2, 0, 355), (2, 98, 57, 2, 0, 360), (2, 105, 31, 0, 0, 364), (2, 110, 27, 1, 0, 365), (2, 113, 58, 1, 0, 366), (7, 495, 59, 2, 0, 370), (11, 9, 60, 2, 0, 373), (7, 1059, 61, 3, 0, 376), (7, 498, 62, 2, 0, 379), (12, 67, 63, 2, 0, 382), (12, 414, 60, 2, 0, 385), (0, 54, 64, 0, 0, 386), (4, 59, 65, 1, 0, 390), (9, 13, 66, 1, 0, 393), (9, 9, 67, 2, 0, 396), (9, 17, 68, 2, 0, 399), (4, 65, 69, 1, 0, 402), (4, 84, 70, 2, 0, 406), (4, 91, 55, 2, 0, 410), (4, 88, 71, 1, 0, 411), (2, 102, 72, 1, 0, 415), (4, 69, 20, 0, 0, 419), (4, 73, 73, 1, 0, 420), (4, 76, 74, 1, 0, 424), (1, 77, 75, 0, 0, 428), (1, 62, 54, 1, 0, 432), (1, 81, 72, 1, 0, 433), (4, 80, 76, 2, 0, 434), (0, 57, 77, 1, 0, 438), (4, 94, 78, 2, 0, 442), (4, 101, 79, 2, 0, 446), (4, 115, 80, 3, 0, 450), (4, 120, 57, 2, 0, 455), (4, 128, 56, 2, 0, 457), (4, 104, 81, 3, 0, 458), (4, 131, 82, 0, 0, 462), (4, 134, 66, 1, 0, 466), (4, 137, 83, 2, 0, 467), (9, 20, 84, 1, 0, 470), (9, 23, 85, 1, 0, 473), (4, 108, 86, 2, 0, 479), (1, 48, 87, 2, 0, 483), (4, 141, 88, 3, 0, 487), (4, 112, 89, 2, 0, 490), (4, 98, 90, 2, 0, 494), (4, 145, 91, 2, 0, 498), (4, 169, 92, 3, 0, 502), (6, 70, 57, 2, 0, 507), (4, 173, 23, 1, 0, 508), (4, 177, 93, 3, 0, 509), (1, 52, 94, 3, 0, 513), (4, 181, 95, 4, 0, 516), (4, 158, 96, 0, 0, 520), (4, 161, 97, 1, 0, 524), (4, 202, 16, 2, 0, 528), (4, 165, 98, 3, 0, 532), (4, 188, 99, 1, 0, 538), (4, 196, 100, 1, 0, 544), (2, 127, 101, 2, 0, 549), (0, 61, 102, 0, 0, 553), (4, 155, 103, 0, 0, 559), (0, 64, 104, 0, 0, 563), (0, 68, 20, 0, 0, 567), (0, 72, 105, 0, 0, 568), (8, 34, 106, 0, 0, 572), (8, 38, 107, 1, 0, 576), (0, 78, 108, 1, 0, 580), (1, 84, 82, 0, 0, 584), (1, 71, 109, 3, 0, 586), (1, 68, 110, 3, 0, 590), (1, 59, 93, 3, 0, 594), (8, 43, 111, 2, 0, 601), (0, 82, 112, 2, 0, 605), (1, 103, 113, 5, 0, 609), (8, 47, 114, 3, 0, 613), (0, 90, 115, 2, 0, 617), (1, 107, 74, 1, 0, 621), (1, 110, 86, 2, 0, 622), (1, 114, 89, 2, 0, 623), (1, 120, 116, 2, 0, 626), (0, 93, 101, 2, 0, 632), (8, 52, 117, 1, 0, 633), (0, 98, 87, 2, 0, 637), (0, 108, 109, 3, 0, 640), (8, 56, 118, 3, 0, 641), (0, 112, 113, 5, 0, 645), (0, 116, 72, 1, 0, 646), (8, 60, 119, 1, 0, 647), (0, 124, 110, 3, 0, 653), (0, 127, 120, 1, 0, 654), (2, 119, 16, 2, 0, 659), (8, 65, 121, 2, 0, 661), (0, 134, 93, 3, 0, 666), (8, 12, 122, 0, 0, 669), (8, 19, 123, 2, 0, 704), (8, 24, 124, 2, 0, 709), (8, 29, 125, 0, 0, 713), (8, 33, 126, 0, 0, 717), (5, 246, 127, 0, 0, 721), (5, 144, 128, 0, 0, 725), (5, 126, 129, 1, 0, 730), (5, 122, 130, 2, 0, 734), (5, 134, 131, 0, 0, 739), (5, 234, 132, 0, 0, 744), (5, 166, 133, 1, 0, 748), (5, 141, 134, 0, 0, 752), (5, 169, 135, 1, 0, 756), (5, 138, 136, 1, 0, 760), (5, 39, 137, 1, 0, 764), (5, 35, 138, 1, 0, 768), (5, 148, 139, 1, 0, 772), (5, 42, 140, 1, 0, 776), (5, 151, 141, 1, 0, 780), (5, 45, 142, 1, 0, 784), (5, 48, 143, 1, 0, 788), (5, 109, 144, 2, 0, 792), (5, 105, 145, 1, 0, 796), (5, 53, 146, 2, 0, 799), (5, 154, 147, 1, 0, 803), (5, 113, 148, 2, 0, 807), (5, 157, 149, 1, 0, 811), (5, 160, 150, 1, 0, 815), (5, 61, 151, 5, 0, 821), (5, 163, 152, 1, 0, 846), (5, 237, 153, 1, 0, 850), (5, 187, 154, 2, 0, 853), (5, 177, 155, 0, 0, 856), (5, 183, 156, 1, 0, 860), (5, 173, 157, 2, 0, 864), (5, 240, 158, 0, 0, 868), (5, 180, 159, 2, 0, 872), (5, 243, 160, 2, 0, 876), (5, 204, 161, 0, 0, 880), (5, 207, 162, 2, 0, 884), (5, 193, 163, 4, 0, 888), (5, 197, 164, 3, 0, 892), (5, 190, 165, 1, 0, 896), (5, 201, 166, 2, 0, 899), (5, 210, 167, 2, 0, 903), (5, 213, 168, 2, 0, 906), (5, 229, 169, 1, 0, 910), (5, 221, 170, 4, 0, 914), (5, 224, 171, 1, 0, 918), (5, 217, 172, 4, 0, 922), (8, 37, 173, 0, 0, 927), (8, 42, 174, 1, 0, 931), (8, 46, 175, 2, 0, 935), (5, 252, 176, 3, 0, 939), (5, 256, 177, 2, 0, 943), (8, 51, 178, 3, 0, 947), (5, 266, 179, 2, 0, 951), (5, 259, 180, 1, 0, 955), (5, 262, 181, 4, 0, 959), (5, 269, 182, 2, 0, 963), (8, 55, 183, 1, 0, 967), (8, 59, 184, 3, 0, 971), (8, 64, 185, 1, 0, 975), (5, 276, 186, 1, 0, 980), (8, 68, 187, 2, 0, 986)]
def qx_mrow (c k : Nat) : Option (Nat × Nat × Nat × Nat × Nat × Nat) := qx_mr.find? (fun r => r.1 == c && r.2.1 == k)
def qx_mth (m k : Nat) : Option (Nat × Nat) := match qx_mrow (qx_cl m) k with
  | some r => some (r.2.2.1, r.2.2.2.1)
  | none => none
def qx_oir : List (Nat × Nat × Nat) := [(0, 1, 25), (1, 5, 33), (2, 3, 39), (3, 3, 45), (4, 3, 147), (5, 1, 672)]
def qx_oi (m k : Nat) : Bool := (qx_oir.find? (fun r => r.1 == qx_cl m && r.2.1 == k)).isSome
def qx_cpr : List (Nat × Nat × Nat) := [(3, 28, 162)]
def qx_cp (m k : Nat) : Bool := (qx_cpr.find? (fun r => r.1 == qx_cl m && r.2.1 == k)).isSome
def qx_kds : List Nat := [2, 2, 2, 2, 0, 0, 0, 0, 2, 0, 0, 0, 1, 0, 0, 0, 0, 0, 0, 0, 0, 0, 0, 0, 0, 1, 1, 0, 0, 0, 0, 0, 0, 1, 1, 1, 1, 1, 1, 1, 1, 1, 1, 1, 1, 1, 1, 1, 1, 1, 1, 1, 1, 0, 0, 0, 0, 0, 0, 1, 1, 1, 1, 1, 0, 1, 1, 1, 1, 0, 0, 0, 0, 0, 0, 0, 0, 0, 0, 0, 0, 0, 0, 1, 1, 1, 0, 0, 1, 0, 0, 0, 1, 0, 1, 0, 0, 0, 0, 0, 0, 0, 0, 0, 0, 0, 0, 0, 0, 0, 0, 0, 0, 0, 0, 0, 0, 0, 0, 0, 0, 0, 2, 0, 0, 0, 0, 0, 0, 0, 0, 0, 0, 0, 0, 0, 0, 0, 0, 0, 0, 0, 0, 0, 0, 1, 0, 0, 0, 0, 0, 0, 0, 1, 1, 0, 0, 0, 0, 0, 0, 0, 0, 0, 0, 1, 0, 1, 0, 0, 0, 0, 0, 0, 0, 0, 0, 0, 0, 0, 0, 0, 0, 0, 0, 0, 0, 0]
def qx_kd (y : Nat) : Nat := qx_kds.getD y 9

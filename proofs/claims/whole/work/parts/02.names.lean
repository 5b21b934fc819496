/-! Names: classes, fields, methods, words. By program (wip/gen/names.py). -/
abbrev RX0 : String := "NoiseRing"
abbrev RX1 : String := "NoiseRingModel"
abbrev RL : String := "NoiseRingLaw"
def TX0 : u_T := fun k => match k with
  | 0 => ("NoiseRing", "registers", "[[I", true)
  | 1 => ("NoiseRing", "work", "[I", true)
  | 2 => ("NoiseRing", "kind", "I", false)
  | 3 => ("NoiseRing", "q", "I", false)
  | _ => ("NoiseRing", "z", "I", false)
def tyX0 : Nat → FieldType := fun k => match k with
  | 0 => .array (.array .int)
  | 1 => .array .int
  | 2 => .int
  | 3 => .int
  | _ => .int
def TX1 : u_T := fun k => match k with
  | 0 => ("NoiseRingModel", "thrown", "I", false)
  | 1 => ("NoiseRingModel", "kind", "I", false)
  | 2 => ("NoiseRingModel", "q", "I", false)
  | 3 => ("NoiseRingModel", "register", "[I", true)
  | _ => ("NoiseRingModel", "made", "[I", true)
def tyX1 : Nat → FieldType := fun k => match k with
  | 0 => .int
  | 1 => .int
  | 2 => .int
  | 3 => .array .int
  | _ => .array .int
theorem nmX0 : ∀ a, a < 5 → ∀ b, b < 5 → a ≠ b → (TX0 a).2.1 ≠ (TX0 b).2.1 := by decide +kernel
theorem tyX0_ok : ∀ k, k < 5 → parseFieldDescriptor (TX0 k).2.2.1 = some (tyX0 k) := by decide +kernel
theorem nmX1 : ∀ a, a < 5 → ∀ b, b < 5 → a ≠ b → (TX1 a).2.1 ≠ (TX1 b).2.1 := by decide +kernel
theorem tyX1_ok : ∀ k, k < 5 → parseFieldDescriptor (TX1 k).2.2.1 = some (tyX1 k) := by decide +kernel
abbrev vwCl : List vw_C := [(RX0, TX0, 5), (RX1, TX1, 5)]
set_option maxRecDepth 100000 in
def wsU : List Cond := [
  .selects "NoiseRing" ⟨"NoiseRing", "takeKind", "(I)V"⟩ ⟨"NoiseRing", "takeKind", "(I)V"⟩,
  .selects "NoiseRing" ⟨"NoiseRing", "power", "(II)I"⟩ ⟨"NoiseRing", "power", "(II)I"⟩,
  .selects "NoiseRing" ⟨"NoiseRing", "emptyRegisters", "()I"⟩ ⟨"NoiseRing", "emptyRegisters", "()I"⟩,
  .selects "java/lang/Throwable" ⟨"java/lang/Throwable", "fillInStackTrace", "(I)Ljava/lang/Throwable;"⟩ ⟨"java/lang/Throwable", "fillInStackTrace", "(I)Ljava/lang/Throwable;"⟩,
  .selects "NoiseRing" ⟨"NoiseRing", "joined", "(I[I[II)I"⟩ ⟨"NoiseRing", "joined", "(I[I[II)I"⟩,
  .selects "NoiseRing" ⟨"NoiseRing", "productAt", "([I[II)I"⟩ ⟨"NoiseRing", "productAt", "([I[II)I"⟩,
  .selects "NoiseRing" ⟨"NoiseRing", "greatestSize", "([I)I"⟩ ⟨"NoiseRing", "greatestSize", "([I)I"⟩,
  .selects "NoiseRing" ⟨"NoiseRing", "centredSize", "(I)I"⟩ ⟨"NoiseRing", "centredSize", "(I)I"⟩,
  .selects "NoiseRing" ⟨"NoiseRing", "rounded", "(III)I"⟩ ⟨"NoiseRing", "rounded", "(III)I"⟩,
  .selects "NoiseRing" ⟨"NoiseRing", "fewerBits", "(II)I"⟩ ⟨"NoiseRing", "fewerBits", "(II)I"⟩,
  .selects "NoiseRing" ⟨"NoiseRing", "moreBits", "(II)I"⟩ ⟨"NoiseRing", "moreBits", "(II)I"⟩,
  .selects "NoiseRing" ⟨"NoiseRing", "isAlpha", "(I)Z"⟩ ⟨"NoiseRing", "isAlpha", "(I)Z"⟩,
  .selects "NoiseRing" ⟨"NoiseRing", "partOf", "(II)I"⟩ ⟨"NoiseRing", "partOf", "(II)I"⟩,
  .selects "NoiseRing" ⟨"NoiseRing", "restOf", "(II)I"⟩ ⟨"NoiseRing", "restOf", "(II)I"⟩,
  .selects "NoiseRing" ⟨"NoiseRing", "movedPart", "(II)I"⟩ ⟨"NoiseRing", "movedPart", "(II)I"⟩,
  .selects "NoiseRing" ⟨"NoiseRing", "valueAt", "([IIII)I"⟩ ⟨"NoiseRing", "valueAt", "([IIII)I"⟩,
  .selects "NoiseRingModel" ⟨"NoiseRingModel", "at", "(II)I"⟩ ⟨"NoiseRingModel", "at", "(II)I"⟩,
  .selects "NoiseRingModel" ⟨"NoiseRingModel", "of", "(J)I"⟩ ⟨"NoiseRingModel", "of", "(J)I"⟩,
  .selects "NoiseRingModel" ⟨"NoiseRingModel", "put", "(I)I"⟩ ⟨"NoiseRingModel", "put", "(I)I"⟩,
  .selects "NoiseRingModel" ⟨"NoiseRingModel", "most", "([I)I"⟩ ⟨"NoiseRingModel", "most", "([I)I"⟩,
  .selects "NoiseRingModel" ⟨"NoiseRingModel", "size0", "(I)I"⟩ ⟨"NoiseRingModel", "size0", "(I)I"⟩,
  .selects "NoiseRingModel" ⟨"NoiseRingModel", "isAlpha", "(I)Z"⟩ ⟨"NoiseRingModel", "isAlpha", "(I)Z"⟩,
  .selects "NoiseRingModel" ⟨"NoiseRingModel", "partOf", "(II)I"⟩ ⟨"NoiseRingModel", "partOf", "(II)I"⟩,
  .selects "NoiseRingModel" ⟨"NoiseRingModel", "restOf", "(II)I"⟩ ⟨"NoiseRingModel", "restOf", "(II)I"⟩,
  .selects "NoiseRingModel" ⟨"NoiseRingModel", "valueOf", "(II)I"⟩ ⟨"NoiseRingModel", "valueOf", "(II)I"⟩,
  .selects "NoiseRingModel" ⟨"NoiseRingModel", "root", "()I"⟩ ⟨"NoiseRingModel", "root", "()I"⟩,
  .selects "NoiseRingModel" ⟨"NoiseRingModel", "power", "(II)I"⟩ ⟨"NoiseRingModel", "power", "(II)I"⟩,
  .selects "NoiseRingModel" ⟨"NoiseRingModel", "along", "(IIIJ)I"⟩ ⟨"NoiseRingModel", "along", "(IIIJ)I"⟩,
  .initialized "NoiseRingLaw",
  .initialized "NoiseRing",
  .initialized "NoiseRingModel",
  .initialized "java/lang/Throwable",
  .initialized "java/lang/Exception",
  .initialized "java/lang/RuntimeException",
  .initialized "java/lang/IllegalArgumentException",
  .initialized "java/util/NoSuchElementException",
  .initialized "java/lang/Math",
  .initialized "java/lang/System",
  .classLink "NoiseRingLaw" 8 "NoiseRing",
  .instantiable "NoiseRing" 5,
  .methodLink "NoiseRingLaw" 59 ⟨"NoiseRing", "<init>", "()V"⟩,
  .instanceMethod ⟨"NoiseRing", "<init>", "()V"⟩,
  .code ⟨"NoiseRing", "<init>", "()V"⟩ prog_1_method_1_code 1 (none : Option Jvm.ClassFile.FieldType),
  .methodLink "NoiseRing" 1 ⟨"java/lang/Object", "<init>", "()V"⟩,
  .instanceMethod ⟨"java/lang/Object", "<init>", "()V"⟩,
  .code ⟨"java/lang/Object", "<init>", "()V"⟩ object_method_1_code 1 (none : Option Jvm.ClassFile.FieldType),
  .classLink "NoiseRing" 9 "[[I",
  .methodLink "NoiseRing" 18 ⟨"NoiseRing", "takeKind", "(I)V"⟩,
  .instanceMethod ⟨"NoiseRing", "takeKind", "(I)V"⟩,
  .code ⟨"NoiseRing", "takeKind", "(I)V"⟩ prog_1_method_19_code 2 (none : Option Jvm.ClassFile.FieldType),
  .fieldLink "NoiseRing" 22 "NoiseRing" "MODULUS" "[I",
  .fieldLink "NoiseRing" 103 "NoiseRing" "BASE_ROOT" "[I",
  .methodLink "NoiseRing" 96 ⟨"NoiseRing", "power", "(II)I"⟩,
  .instanceMethod ⟨"NoiseRing", "power", "(II)I"⟩,
  .code ⟨"NoiseRing", "power", "(II)I"⟩ prog_1_method_20_code 6 (some .int),
  .fieldLink "NoiseRing" 11 "NoiseRing" "registers" "[[I",
  .fieldLink "NoiseRing" 14 "NoiseRing" "work" "[I",
  .fieldLink "NoiseRing" 62 "NoiseRing" "kind" "I",
  .fieldLink "NoiseRing" 29 "NoiseRing" "q" "I",
  .fieldLink "NoiseRing" 93 "NoiseRing" "z" "I",
  .laysFinal "NoiseRing" "NoiseRing" "registers" "[[I",
  .soleField "NoiseRing" "registers",
  .laysFinal "NoiseRing" "NoiseRing" "work" "[I",
  .soleField "NoiseRing" "work",
  .lays "NoiseRing" "NoiseRing" "kind" "I",
  .soleField "NoiseRing" "kind",
  .lays "NoiseRing" "NoiseRing" "q" "I",
  .soleField "NoiseRing" "q",
  .lays "NoiseRing" "NoiseRing" "z" "I",
  .soleField "NoiseRing" "z",
  .superclass "NoiseRing" "java/lang/Object",
  .arrayClass .int,
  .methodLink "NoiseRingLaw" 116 ⟨"NoiseRing", "count", "(I)I"⟩,
  .instanceMethod ⟨"NoiseRing", "count", "(I)I"⟩,
  .selects "NoiseRing" ⟨"NoiseRing", "count", "(I)I"⟩ ⟨"NoiseRing", "count", "(I)I"⟩,
  .code ⟨"NoiseRing", "count", "(I)I"⟩ prog_1_method_15_code 2 (some .int),
  .methodLink "NoiseRing" 109 ⟨"NoiseRing", "emptyRegisters", "()I"⟩,
  .instanceMethod ⟨"NoiseRing", "emptyRegisters", "()I"⟩,
  .code ⟨"NoiseRing", "emptyRegisters", "()I"⟩ prog_1_method_26_code 3 (some .int),
  .methodLink "NoiseRing" 69 ⟨"NoiseRing", "notZero", "([I)I"⟩,
  .static ⟨"NoiseRing", "notZero", "([I)I"⟩,
  .code ⟨"NoiseRing", "notZero", "([I)I"⟩ prog_1_method_25_code 3 (some .int),
  .methodLink "NoiseRingLaw" 63 ⟨"NoiseRingLaw", "begin", "(LNoiseRing;I[J)I"⟩,
  .static ⟨"NoiseRingLaw", "begin", "(LNoiseRing;I[J)I"⟩,
  .codeWith ⟨"NoiseRingLaw", "begin", "(LNoiseRing;I[J)I"⟩ method_3_code 4 (some .int) [(0, 9, 12, 13)],
  .classLink "NoiseRingLaw" 13 "java/lang/IllegalArgumentException",
  .methodLink "NoiseRingLaw" 7 ⟨"NoiseRing", "begin", "(I)I"⟩,
  .instanceMethod ⟨"NoiseRing", "begin", "(I)I"⟩,
  .selects "NoiseRing" ⟨"NoiseRing", "begin", "(I)I"⟩ ⟨"NoiseRing", "begin", "(I)I"⟩,
  .code ⟨"NoiseRing", "begin", "(I)I"⟩ prog_1_method_2_code 4 (some .int),
  .methodLink "NoiseRing" 25 ⟨"NoiseRing", "needArgument", "(Z)V"⟩,
  .static ⟨"NoiseRing", "needArgument", "(Z)V"⟩,
  .code ⟨"NoiseRing", "needArgument", "(Z)V"⟩ prog_1_method_18_code 1 (none : Option Jvm.ClassFile.FieldType),
  .classLink "NoiseRing" 122 "java/lang/IllegalArgumentException",
  .instantiable "java/lang/IllegalArgumentException" 6,
  .selects "java/lang/IllegalArgumentException" ⟨"java/lang/Throwable", "fillInStackTrace", "(I)Ljava/lang/Throwable;"⟩ ⟨"java/lang/Throwable", "fillInStackTrace", "(I)Ljava/lang/Throwable;"⟩,
  .selects "java/lang/IllegalArgumentException" ⟨"java/lang/Throwable", "fillInStackTrace", "()Ljava/lang/Throwable;"⟩ ⟨"java/lang/Throwable", "fillInStackTrace", "()Ljava/lang/Throwable;"⟩,
  .lays "java/lang/IllegalArgumentException" "java/lang/Throwable" "cause" "Ljava/lang/Throwable;",
  .lays "java/lang/Throwable" "java/lang/Throwable" "cause" "Ljava/lang/Throwable;",
  .lays "java/lang/IllegalArgumentException" "java/lang/Throwable" "stackTrace" "[Ljava/lang/StackTraceElement;",
  .lays "java/lang/Throwable" "java/lang/Throwable" "stackTrace" "[Ljava/lang/StackTraceElement;",
  .lays "java/lang/IllegalArgumentException" "java/lang/Throwable" "suppressedExceptions" "Ljava/util/List;",
  .lays "java/lang/Throwable" "java/lang/Throwable" "suppressedExceptions" "Ljava/util/List;",
  .lays "java/lang/IllegalArgumentException" "java/lang/Throwable" "detailMessage" "Ljava/lang/String;",
  .lays "java/lang/Throwable" "java/lang/Throwable" "detailMessage" "Ljava/lang/String;",
  .lays "java/lang/IllegalArgumentException" "java/lang/Throwable" "backtrace" "Ljava/lang/Object;",
  .lays "java/lang/Throwable" "java/lang/Throwable" "backtrace" "Ljava/lang/Object;",
  .fieldLink "java/lang/Throwable" 198 "java/lang/Throwable" "backtrace" "Ljava/lang/Object;",
  .superclass "java/lang/Throwable" "java/lang/Object",
  .instanceMethod ⟨"java/lang/Throwable", "<init>", "()V"⟩,
  .code ⟨"java/lang/Throwable", "<init>", "()V"⟩ prog_10_method_1_code 1 (none : Option Jvm.ClassFile.FieldType),
  .methodLink "java/lang/Throwable" 1 ⟨"java/lang/Object", "<init>", "()V"⟩,
  .fieldLink "java/lang/Throwable" 13 "java/lang/Throwable" "UNASSIGNED_STACK" "[Ljava/lang/StackTraceElement;",
  .fieldLink "java/lang/Throwable" 20 "java/lang/Throwable" "SUPPRESSED_SENTINEL" "Ljava/util/List;",
  .methodLink "java/lang/Throwable" 27 ⟨"java/lang/Throwable", "fillInStackTrace", "()Ljava/lang/Throwable;"⟩,
  .instanceMethod ⟨"java/lang/Throwable", "fillInStackTrace", "()Ljava/lang/Throwable;"⟩,
  .selects "java/util/NoSuchElementException" ⟨"java/lang/Throwable", "fillInStackTrace", "()Ljava/lang/Throwable;"⟩ ⟨"java/lang/Throwable", "fillInStackTrace", "()Ljava/lang/Throwable;"⟩,
  .codeSync ⟨"java/lang/Throwable", "fillInStackTrace", "()Ljava/lang/Throwable;"⟩ prog_10_method_18_code 1 (some (.object "java/lang/Throwable")),
  .methodLink "java/lang/Throwable" 202 ⟨"java/lang/Throwable", "fillInStackTrace", "(I)Ljava/lang/Throwable;"⟩,
  .instanceMethod ⟨"java/lang/Throwable", "fillInStackTrace", "(I)Ljava/lang/Throwable;"⟩,
  .instantiable "java/lang/Throwable" 6,
  .native ⟨"java/lang/Throwable", "fillInStackTrace", "(I)Ljava/lang/Throwable;"⟩,
  .methodLink "NoiseRing" 126 ⟨"java/lang/IllegalArgumentException", "<init>", "(Ljava/lang/String;)V"⟩,
  .instanceMethod ⟨"java/lang/IllegalArgumentException", "<init>", "(Ljava/lang/String;)V"⟩,
  .code ⟨"java/lang/IllegalArgumentException", "<init>", "(Ljava/lang/String;)V"⟩ prog_5_method_2_code 2 (none : Option Jvm.ClassFile.FieldType),
  .methodLink "java/lang/IllegalArgumentException" 7 ⟨"java/lang/RuntimeException", "<init>", "(Ljava/lang/String;)V"⟩,
  .instanceMethod ⟨"java/lang/RuntimeException", "<init>", "(Ljava/lang/String;)V"⟩,
  .code ⟨"java/lang/RuntimeException", "<init>", "(Ljava/lang/String;)V"⟩ prog_7_method_2_code 2 (none : Option Jvm.ClassFile.FieldType),
  .methodLink "java/lang/RuntimeException" 7 ⟨"java/lang/Exception", "<init>", "(Ljava/lang/String;)V"⟩,
  .instanceMethod ⟨"java/lang/Exception", "<init>", "(Ljava/lang/String;)V"⟩,
  .code ⟨"java/lang/Exception", "<init>", "(Ljava/lang/String;)V"⟩ prog_4_method_2_code 2 (none : Option Jvm.ClassFile.FieldType),
  .methodLink "java/lang/Exception" 7 ⟨"java/lang/Throwable", "<init>", "(Ljava/lang/String;)V"⟩,
  .instanceMethod ⟨"java/lang/Throwable", "<init>", "(Ljava/lang/String;)V"⟩,
  .code ⟨"java/lang/Throwable", "<init>", "(Ljava/lang/String;)V"⟩ prog_10_method_2_code 2 (none : Option Jvm.ClassFile.FieldType),
  .fieldLink "java/lang/Throwable" 31 "java/lang/Throwable" "detailMessage" "Ljava/lang/String;",
  .fieldLink "java/lang/Throwable" 7 "java/lang/Throwable" "cause" "Ljava/lang/Throwable;",
  .fieldLink "java/lang/Throwable" 17 "java/lang/Throwable" "stackTrace" "[Ljava/lang/StackTraceElement;",
  .fieldLink "java/lang/Throwable" 24 "java/lang/Throwable" "suppressedExceptions" "Ljava/util/List;",
  .soleField "java/lang/Throwable" "backtrace",
  .soleField "java/lang/Throwable" "detailMessage",
  .soleField "java/lang/Throwable" "cause",
  .soleField "java/lang/Throwable" "stackTrace",
  .lays "java/lang/IllegalArgumentException" "java/lang/Throwable" "depth" "I",
  .soleField "java/lang/Throwable" "depth",
  .soleField "java/lang/Throwable" "suppressedExceptions",
  .superclass "java/lang/IllegalArgumentException" "java/lang/RuntimeException",
  .arrayClass .byte,
  .methodLink "NoiseRingLaw" 73 ⟨"NoiseRingLaw", "set", "(LNoiseRing;III[J)I"⟩,
  .static ⟨"NoiseRingLaw", "set", "(LNoiseRing;III[J)I"⟩,
  .codeWith ⟨"NoiseRingLaw", "set", "(LNoiseRing;III[J)I"⟩ method_4_code 6 (some .int) [(0, 12, 15, 19)],
  .classLink "NoiseRingLaw" 19 "java/util/NoSuchElementException",
  .methodLink "NoiseRingLaw" 15 ⟨"NoiseRing", "set", "(III)I"⟩,
  .instanceMethod ⟨"NoiseRing", "set", "(III)I"⟩,
  .selects "NoiseRing" ⟨"NoiseRing", "set", "(III)I"⟩ ⟨"NoiseRing", "set", "(III)I"⟩,
  .code ⟨"NoiseRing", "set", "(III)I"⟩ prog_1_method_3_code 5 (some .int),
  .methodLink "NoiseRing" 33 ⟨"NoiseRing", "needRegister", "(I)V"⟩,
  .static ⟨"NoiseRing", "needRegister", "(I)V"⟩,
  .code ⟨"NoiseRing", "needRegister", "(I)V"⟩ prog_1_method_16_code 1 (none : Option Jvm.ClassFile.FieldType),
  .classLink "NoiseRing" 113 "java/util/NoSuchElementException",
  .instantiable "java/util/NoSuchElementException" 6,
  .selects "java/util/NoSuchElementException" ⟨"java/lang/Throwable", "fillInStackTrace", "(I)Ljava/lang/Throwable;"⟩ ⟨"java/lang/Throwable", "fillInStackTrace", "(I)Ljava/lang/Throwable;"⟩,
  .lays "java/util/NoSuchElementException" "java/lang/Throwable" "cause" "Ljava/lang/Throwable;",
  .lays "java/util/NoSuchElementException" "java/lang/Throwable" "stackTrace" "[Ljava/lang/StackTraceElement;",
  .lays "java/util/NoSuchElementException" "java/lang/Throwable" "suppressedExceptions" "Ljava/util/List;",
  .lays "java/util/NoSuchElementException" "java/lang/Throwable" "detailMessage" "Ljava/lang/String;",
  .lays "java/util/NoSuchElementException" "java/lang/Throwable" "backtrace" "Ljava/lang/Object;",
  .methodLink "NoiseRing" 117 ⟨"java/util/NoSuchElementException", "<init>", "(Ljava/lang/String;)V"⟩,
  .instanceMethod ⟨"java/util/NoSuchElementException", "<init>", "(Ljava/lang/String;)V"⟩,
  .code ⟨"java/util/NoSuchElementException", "<init>", "(Ljava/lang/String;)V"⟩ prog_11_method_4_code 2 (none : Option Jvm.ClassFile.FieldType),
  .methodLink "java/util/NoSuchElementException" 13 ⟨"java/lang/RuntimeException", "<init>", "(Ljava/lang/String;)V"⟩,
  .lays "java/util/NoSuchElementException" "java/lang/Throwable" "depth" "I",
  .superclass "java/util/NoSuchElementException" "java/lang/RuntimeException",
  .methodLink "NoiseRing" 36 ⟨"NoiseRing", "needPlace", "(I)V"⟩,
  .static ⟨"NoiseRing", "needPlace", "(I)V"⟩,
  .code ⟨"NoiseRing", "needPlace", "(I)V"⟩ prog_1_method_17_code 1 (none : Option Jvm.ClassFile.FieldType),
  .methodLink "NoiseRing" 39 ⟨"java/lang/Math", "floorMod", "(II)I"⟩,
  .static ⟨"java/lang/Math", "floorMod", "(II)I"⟩,
  .code ⟨"java/lang/Math", "floorMod", "(II)I"⟩ prog_6_method_50_code 3 (some .int),
  .methodLink "NoiseRingLaw" 77 ⟨"NoiseRingLaw", "get", "(LNoiseRing;II[J)I"⟩,
  .static ⟨"NoiseRingLaw", "get", "(LNoiseRing;II[J)I"⟩,
  .codeWith ⟨"NoiseRingLaw", "get", "(LNoiseRing;II[J)I"⟩ method_5_code 5 (some .int) [(0, 10, 13, 19)],
  .methodLink "NoiseRingLaw" 21 ⟨"NoiseRing", "get", "(II)I"⟩,
  .instanceMethod ⟨"NoiseRing", "get", "(II)I"⟩,
  .selects "NoiseRing" ⟨"NoiseRing", "get", "(II)I"⟩ ⟨"NoiseRing", "get", "(II)I"⟩,
  .code ⟨"NoiseRing", "get", "(II)I"⟩ prog_1_method_4_code 3 (some .int),
  .methodLink "NoiseRingLaw" 81 ⟨"NoiseRingLaw", "join", "(LNoiseRing;IIII[J)I"⟩,
  .static ⟨"NoiseRingLaw", "join", "(LNoiseRing;IIII[J)I"⟩,
  .codeWith ⟨"NoiseRingLaw", "join", "(LNoiseRing;IIII[J)I"⟩ method_6_code 7 (some .int) [(0, 14, 17, 19), (0, 14, 21, 13)],
  .methodLink "NoiseRingLaw" 25 ⟨"NoiseRing", "join", "(IIII)I"⟩,
  .instanceMethod ⟨"NoiseRing", "join", "(IIII)I"⟩,
  .selects "NoiseRing" ⟨"NoiseRing", "join", "(IIII)I"⟩ ⟨"NoiseRing", "join", "(IIII)I"⟩,
  .code ⟨"NoiseRing", "join", "(IIII)I"⟩ prog_1_method_5_code 6 (some .int),
  .methodLink "NoiseRing" 45 ⟨"NoiseRing", "joined", "(I[I[II)I"⟩,
  .instanceMethod ⟨"NoiseRing", "joined", "(I[I[II)I"⟩,
  .code ⟨"NoiseRing", "joined", "(I[I[II)I"⟩ prog_1_method_21_code 5 (some .int),
  .methodLink "NoiseRing" 127 ⟨"NoiseRing", "productAt", "([I[II)I"⟩,
  .instanceMethod ⟨"NoiseRing", "productAt", "([I[II)I"⟩,
  .code ⟨"NoiseRing", "productAt", "([I[II)I"⟩ prog_1_method_22_code 7 (some .int),
  .methodLink "NoiseRing" 131 ⟨"java/lang/Math", "floorMod", "(JJ)J"⟩,
  .static ⟨"java/lang/Math", "floorMod", "(JJ)J"⟩,
  .code ⟨"java/lang/Math", "floorMod", "(JJ)J"⟩ prog_6_method_52_code 6 (some .long),
  .methodLink "NoiseRing" 49 ⟨"java/lang/System", "arraycopy", "(Ljava/lang/Object;ILjava/lang/Object;II)V"⟩,
  .static ⟨"java/lang/System", "arraycopy", "(Ljava/lang/Object;ILjava/lang/Object;II)V"⟩,
  .native ⟨"java/lang/System", "arraycopy", "(Ljava/lang/Object;ILjava/lang/Object;II)V"⟩,
  .methodLink "NoiseRing" 55 ⟨"NoiseRing", "greatestSize", "([I)I"⟩,
  .instanceMethod ⟨"NoiseRing", "greatestSize", "([I)I"⟩,
  .code ⟨"NoiseRing", "greatestSize", "([I)I"⟩ prog_1_method_24_code 4 (some .int),
  .methodLink "NoiseRing" 85 ⟨"NoiseRing", "centredSize", "(I)I"⟩,
  .instanceMethod ⟨"NoiseRing", "centredSize", "(I)I"⟩,
  .code ⟨"NoiseRing", "centredSize", "(I)I"⟩ prog_1_method_23_code 2 (some .int),
  .methodLink "NoiseRing" 134 ⟨"java/lang/Math", "min", "(II)I"⟩,
  .static ⟨"java/lang/Math", "min", "(II)I"⟩,
  .code ⟨"java/lang/Math", "min", "(II)I"⟩ prog_6_method_69_code 2 (some .int),
  .methodLink "NoiseRing" 137 ⟨"java/lang/Math", "max", "(II)I"⟩,
  .static ⟨"java/lang/Math", "max", "(II)I"⟩,
  .code ⟨"java/lang/Math", "max", "(II)I"⟩ prog_6_method_65_code 2 (some .int),
  .methodLink "NoiseRingLaw" 85 ⟨"NoiseRingLaw", "round", "(LNoiseRing;IIII[J)I"⟩,
  .static ⟨"NoiseRingLaw", "round", "(LNoiseRing;IIII[J)I"⟩,
  .codeWith ⟨"NoiseRingLaw", "round", "(LNoiseRing;IIII[J)I"⟩ method_7_code 7 (some .int) [(0, 14, 17, 19), (0, 14, 21, 13)],
  .methodLink "NoiseRingLaw" 29 ⟨"NoiseRing", "round", "(IIII)I"⟩,
  .instanceMethod ⟨"NoiseRing", "round", "(IIII)I"⟩,
  .selects "NoiseRing" ⟨"NoiseRing", "round", "(IIII)I"⟩ ⟨"NoiseRing", "round", "(IIII)I"⟩,
  .code ⟨"NoiseRing", "round", "(IIII)I"⟩ prog_1_method_6_code 6 (some .int),
  .fieldLink "NoiseRing" 59 "NoiseRing" "MOST_BITS" "[I",
  .methodLink "NoiseRing" 65 ⟨"NoiseRing", "rounded", "(III)I"⟩,
  .instanceMethod ⟨"NoiseRing", "rounded", "(III)I"⟩,
  .code ⟨"NoiseRing", "rounded", "(III)I"⟩ prog_1_method_27_code 4 (some .int),
  .methodLink "NoiseRing" 140 ⟨"NoiseRing", "fewerBits", "(II)I"⟩,
  .instanceMethod ⟨"NoiseRing", "fewerBits", "(II)I"⟩,
  .code ⟨"NoiseRing", "fewerBits", "(II)I"⟩ prog_1_method_29_code 5 (some .int),
  .constantLong "NoiseRing" 152 (2 : Int64),
  .methodLink "NoiseRing" 143 ⟨"NoiseRing", "lowMask", "(I)I"⟩,
  .static ⟨"NoiseRing", "lowMask", "(I)I"⟩,
  .code ⟨"NoiseRing", "lowMask", "(I)I"⟩ prog_1_method_28_code 1 (some .int),
  .methodLink "NoiseRing" 146 ⟨"NoiseRing", "moreBits", "(II)I"⟩,
  .instanceMethod ⟨"NoiseRing", "moreBits", "(II)I"⟩,
  .code ⟨"NoiseRing", "moreBits", "(II)I"⟩ prog_1_method_30_code 3 (some .int),
  .methodLink "NoiseRing" 149 ⟨"NoiseRing", "lowBits", "(II)I"⟩,
  .static ⟨"NoiseRing", "lowBits", "(II)I"⟩,
  .code ⟨"NoiseRing", "lowBits", "(II)I"⟩ prog_1_method_31_code 3 (some .int),
  .methodLink "NoiseRingLaw" 88 ⟨"NoiseRingLaw", "part", "(LNoiseRing;IIIZ[J)I"⟩,
  .static ⟨"NoiseRingLaw", "part", "(LNoiseRing;IIIZ[J)I"⟩,
  .codeWith ⟨"NoiseRingLaw", "part", "(LNoiseRing;IIIZ[J)I"⟩ method_8_code 7 (some .int) [(0, 14, 17, 19), (0, 14, 21, 13)],
  .methodLink "NoiseRingLaw" 32 ⟨"NoiseRing", "part", "(IIIZ)I"⟩,
  .instanceMethod ⟨"NoiseRing", "part", "(IIIZ)I"⟩,
  .selects "NoiseRing" ⟨"NoiseRing", "part", "(IIIZ)I"⟩ ⟨"NoiseRing", "part", "(IIIZ)I"⟩,
  .code ⟨"NoiseRing", "part", "(IIIZ)I"⟩ prog_1_method_7_code 7 (some .int),
  .methodLink "NoiseRing" 72 ⟨"NoiseRing", "isAlpha", "(I)Z"⟩,
  .instanceMethod ⟨"NoiseRing", "isAlpha", "(I)Z"⟩,
  .code ⟨"NoiseRing", "isAlpha", "(I)Z"⟩ prog_1_method_32_code 2 (some .boolean),
  .methodLink "NoiseRing" 76 ⟨"NoiseRing", "partOf", "(II)I"⟩,
  .instanceMethod ⟨"NoiseRing", "partOf", "(II)I"⟩,
  .code ⟨"NoiseRing", "partOf", "(II)I"⟩ prog_1_method_35_code 4 (some .int),
  .methodLink "NoiseRing" 154 ⟨"NoiseRing", "nearRest", "(II)I"⟩,
  .static ⟨"NoiseRing", "nearRest", "(II)I"⟩,
  .code ⟨"NoiseRing", "nearRest", "(II)I"⟩ prog_1_method_33_code 3 (some .int),
  .methodLink "NoiseRing" 79 ⟨"NoiseRing", "restOf", "(II)I"⟩,
  .instanceMethod ⟨"NoiseRing", "restOf", "(II)I"⟩,
  .code ⟨"NoiseRing", "restOf", "(II)I"⟩ prog_1_method_34_code 4 (some .int),
  .methodLink "NoiseRingLaw" 92 ⟨"NoiseRingLaw", "hint", "(LNoiseRing;IIII[J)I"⟩,
  .static ⟨"NoiseRingLaw", "hint", "(LNoiseRing;IIII[J)I"⟩,
  .codeWith ⟨"NoiseRingLaw", "hint", "(LNoiseRing;IIII[J)I"⟩ method_9_code 7 (some .int) [(0, 14, 17, 19), (0, 14, 21, 13)],
  .methodLink "NoiseRingLaw" 36 ⟨"NoiseRing", "hint", "(IIII)I"⟩,
  .instanceMethod ⟨"NoiseRing", "hint", "(IIII)I"⟩,
  .selects "NoiseRing" ⟨"NoiseRing", "hint", "(IIII)I"⟩ ⟨"NoiseRing", "hint", "(IIII)I"⟩,
  .code ⟨"NoiseRing", "hint", "(IIII)I"⟩ prog_1_method_8_code 8 (some .int),
  .methodLink "NoiseRingLaw" 95 ⟨"NoiseRingLaw", "use", "(LNoiseRing;IIII[J)I"⟩,
  .static ⟨"NoiseRingLaw", "use", "(LNoiseRing;IIII[J)I"⟩,
  .codeWith ⟨"NoiseRingLaw", "use", "(LNoiseRing;IIII[J)I"⟩ method_10_code 7 (some .int) [(0, 14, 17, 19), (0, 14, 21, 13)],
  .methodLink "NoiseRingLaw" 39 ⟨"NoiseRing", "use", "(IIII)I"⟩,
  .instanceMethod ⟨"NoiseRing", "use", "(IIII)I"⟩,
  .selects "NoiseRing" ⟨"NoiseRing", "use", "(IIII)I"⟩ ⟨"NoiseRing", "use", "(IIII)I"⟩,
  .code ⟨"NoiseRing", "use", "(IIII)I"⟩ prog_1_method_9_code 10 (some .int),
  .methodLink "NoiseRing" 82 ⟨"NoiseRing", "movedPart", "(II)I"⟩,
  .instanceMethod ⟨"NoiseRing", "movedPart", "(II)I"⟩,
  .code ⟨"NoiseRing", "movedPart", "(II)I"⟩ prog_1_method_36_code 4 (some .int),
  .methodLink "NoiseRingLaw" 98 ⟨"NoiseRingLaw", "size", "(LNoiseRing;I[J)I"⟩,
  .static ⟨"NoiseRingLaw", "size", "(LNoiseRing;I[J)I"⟩,
  .codeWith ⟨"NoiseRingLaw", "size", "(LNoiseRing;I[J)I"⟩ method_11_code 4 (some .int) [(0, 9, 12, 19)],
  .methodLink "NoiseRingLaw" 42 ⟨"NoiseRing", "size", "(I)I"⟩,
  .instanceMethod ⟨"NoiseRing", "size", "(I)I"⟩,
  .selects "NoiseRing" ⟨"NoiseRing", "size", "(I)I"⟩ ⟨"NoiseRing", "size", "(I)I"⟩,
  .code ⟨"NoiseRing", "size", "(I)I"⟩ prog_1_method_10_code 2 (some .int),
  .methodLink "NoiseRingLaw" 101 ⟨"NoiseRingLaw", "far", "(LNoiseRing;II[J)I"⟩,
  .static ⟨"NoiseRingLaw", "far", "(LNoiseRing;II[J)I"⟩,
  .codeWith ⟨"NoiseRingLaw", "far", "(LNoiseRing;II[J)I"⟩ method_12_code 5 (some .int) [(0, 10, 13, 19)],
  .methodLink "NoiseRingLaw" 45 ⟨"NoiseRing", "far", "(II)I"⟩,
  .instanceMethod ⟨"NoiseRing", "far", "(II)I"⟩,
  .selects "NoiseRing" ⟨"NoiseRing", "far", "(II)I"⟩ ⟨"NoiseRing", "far", "(II)I"⟩,
  .code ⟨"NoiseRing", "far", "(II)I"⟩ prog_1_method_11_code 5 (some .int),
  .methodLink "NoiseRingLaw" 106 ⟨"NoiseRingLaw", "noise", "(LNoiseRing;IIJJ[J)I"⟩,
  .static ⟨"NoiseRingLaw", "noise", "(LNoiseRing;IIJJ[J)I"⟩,
  .codeWith ⟨"NoiseRingLaw", "noise", "(LNoiseRing;IIJJ[J)I"⟩ method_13_code 9 (some .int) [(0, 14, 17, 19), (0, 14, 21, 13)],
  .methodLink "NoiseRingLaw" 48 ⟨"NoiseRing", "noise", "(IIJJ)I"⟩,
  .instanceMethod ⟨"NoiseRing", "noise", "(IIJJ)I"⟩,
  .selects "NoiseRing" ⟨"NoiseRing", "noise", "(IIJJ)I"⟩ ⟨"NoiseRing", "noise", "(IIJJ)I"⟩,
  .code ⟨"NoiseRing", "noise", "(IIJJ)I"⟩ prog_1_method_12_code 11 (some .int),
  .methodLink "NoiseRing" 89 ⟨"NoiseRing", "ones", "(IIJJ)I"⟩,
  .static ⟨"NoiseRing", "ones", "(IIJJ)I"⟩,
  .code ⟨"NoiseRing", "ones", "(IIJJ)I"⟩ prog_1_method_37_code 10 (some .int),
  .methodLink "NoiseRingLaw" 110 ⟨"NoiseRingLaw", "value", "(LNoiseRing;II[J)I"⟩,
  .static ⟨"NoiseRingLaw", "value", "(LNoiseRing;II[J)I"⟩,
  .codeWith ⟨"NoiseRingLaw", "value", "(LNoiseRing;II[J)I"⟩ method_14_code 5 (some .int) [(0, 10, 13, 19)],
  .methodLink "NoiseRingLaw" 52 ⟨"NoiseRing", "value", "(II)I"⟩,
  .instanceMethod ⟨"NoiseRing", "value", "(II)I"⟩,
  .selects "NoiseRing" ⟨"NoiseRing", "value", "(II)I"⟩ ⟨"NoiseRing", "value", "(II)I"⟩,
  .code ⟨"NoiseRing", "value", "(II)I"⟩ prog_1_method_13_code 3 (some .int),
  .methodLink "NoiseRing" 99 ⟨"NoiseRing", "valueAt", "([IIII)I"⟩,
  .instanceMethod ⟨"NoiseRing", "valueAt", "([IIII)I"⟩,
  .code ⟨"NoiseRing", "valueAt", "([IIII)I"⟩ prog_1_method_38_code 10 (some .int),
  .methodLink "NoiseRingLaw" 113 ⟨"NoiseRingLaw", "unit", "(LNoiseRing;I[J)I"⟩,
  .static ⟨"NoiseRingLaw", "unit", "(LNoiseRing;I[J)I"⟩,
  .codeWith ⟨"NoiseRingLaw", "unit", "(LNoiseRing;I[J)I"⟩ method_15_code 4 (some .int) [(0, 16, 19, 19)],
  .methodLink "NoiseRingLaw" 55 ⟨"NoiseRing", "unit", "(I)Z"⟩,
  .instanceMethod ⟨"NoiseRing", "unit", "(I)Z"⟩,
  .selects "NoiseRing" ⟨"NoiseRing", "unit", "(I)Z"⟩ ⟨"NoiseRing", "unit", "(I)Z"⟩,
  .code ⟨"NoiseRing", "unit", "(I)Z"⟩ prog_1_method_14_code 4 (some .boolean),
  .fieldLink "NoiseRing" 106 "NoiseRing" "ZERO_EXPONENT" "[I",
  .classLink "NoiseRingLaw" 60 "NoiseRingModel",
  .instantiable "NoiseRingModel" 5,
  .methodLink "NoiseRingLaw" 62 ⟨"NoiseRingModel", "<init>", "()V"⟩,
  .instanceMethod ⟨"NoiseRingModel", "<init>", "()V"⟩,
  .code ⟨"NoiseRingModel", "<init>", "()V"⟩ prog_3_method_1_code 1 (none : Option Jvm.ClassFile.FieldType),
  .methodLink "NoiseRingModel" 1 ⟨"java/lang/Object", "<init>", "()V"⟩,
  .fieldLink "NoiseRingModel" 20 "NoiseRingModel" "thrown" "I",
  .fieldLink "NoiseRingModel" 37 "NoiseRingModel" "kind" "I",
  .fieldLink "NoiseRingModel" 7 "NoiseRingModel" "q" "I",
  .fieldLink "NoiseRingModel" 13 "NoiseRingModel" "register" "[I",
  .fieldLink "NoiseRingModel" 17 "NoiseRingModel" "made" "[I",
  .lays "NoiseRingModel" "NoiseRingModel" "thrown" "I",
  .soleField "NoiseRingModel" "thrown",
  .lays "NoiseRingModel" "NoiseRingModel" "kind" "I",
  .soleField "NoiseRingModel" "kind",
  .lays "NoiseRingModel" "NoiseRingModel" "q" "I",
  .soleField "NoiseRingModel" "q",
  .laysFinal "NoiseRingModel" "NoiseRingModel" "register" "[I",
  .soleField "NoiseRingModel" "register",
  .laysFinal "NoiseRingModel" "NoiseRingModel" "made" "[I",
  .soleField "NoiseRingModel" "made",
  .superclass "NoiseRingModel" "java/lang/Object",
  .methodLink "NoiseRingLaw" 69 ⟨"NoiseRingModel", "thrown", "()I"⟩,
  .instanceMethod ⟨"NoiseRingModel", "thrown", "()I"⟩,
  .selects "NoiseRingModel" ⟨"NoiseRingModel", "thrown", "()I"⟩ ⟨"NoiseRingModel", "thrown", "()I"⟩,
  .code ⟨"NoiseRingModel", "thrown", "()I"⟩ prog_3_method_2_code 1 (some .int),
  .methodLink "NoiseRingLaw" 68 ⟨"NoiseRingModel", "begin", "(I)I"⟩,
  .instanceMethod ⟨"NoiseRingModel", "begin", "(I)I"⟩,
  .selects "NoiseRingModel" ⟨"NoiseRingModel", "begin", "(I)I"⟩ ⟨"NoiseRingModel", "begin", "(I)I"⟩,
  .code ⟨"NoiseRingModel", "begin", "(I)I"⟩ prog_3_method_10_code 3 (some .int),
  .constant "NoiseRingModel" 40 (8380417 : Int32),
  .methodLink "NoiseRingLaw" 76 ⟨"NoiseRingModel", "set", "(III)I"⟩,
  .instanceMethod ⟨"NoiseRingModel", "set", "(III)I"⟩,
  .selects "NoiseRingModel" ⟨"NoiseRingModel", "set", "(III)I"⟩ ⟨"NoiseRingModel", "set", "(III)I"⟩,
  .code ⟨"NoiseRingModel", "set", "(III)I"⟩ prog_3_method_11_code 5 (some .int),
  .methodLink "NoiseRingModel" 41 ⟨"NoiseRingModel", "none", "(I)Z"⟩,
  .static ⟨"NoiseRingModel", "none", "(I)Z"⟩,
  .code ⟨"NoiseRingModel", "none", "(I)Z"⟩ prog_3_method_4_code 1 (some .boolean),
  .methodLink "NoiseRingModel" 45 ⟨"NoiseRingModel", "at", "(II)I"⟩,
  .instanceMethod ⟨"NoiseRingModel", "at", "(II)I"⟩,
  .code ⟨"NoiseRingModel", "at", "(II)I"⟩ prog_3_method_5_code 3 (some .int),
  .methodLink "NoiseRingModel" 48 ⟨"NoiseRingModel", "of", "(J)I"⟩,
  .instanceMethod ⟨"NoiseRingModel", "of", "(J)I"⟩,
  .code ⟨"NoiseRingModel", "of", "(J)I"⟩ prog_3_method_6_code 3 (some .int),
  .methodLink "NoiseRingModel" 23 ⟨"java/lang/Math", "floorMod", "(JJ)J"⟩,
  .methodLink "NoiseRingLaw" 80 ⟨"NoiseRingModel", "get", "(II)I"⟩,
  .instanceMethod ⟨"NoiseRingModel", "get", "(II)I"⟩,
  .selects "NoiseRingModel" ⟨"NoiseRingModel", "get", "(II)I"⟩ ⟨"NoiseRingModel", "get", "(II)I"⟩,
  .code ⟨"NoiseRingModel", "get", "(II)I"⟩ prog_3_method_12_code 3 (some .int),
  .methodLink "NoiseRingLaw" 84 ⟨"NoiseRingModel", "join", "(IIII)I"⟩,
  .instanceMethod ⟨"NoiseRingModel", "join", "(IIII)I"⟩,
  .selects "NoiseRingModel" ⟨"NoiseRingModel", "join", "(IIII)I"⟩ ⟨"NoiseRingModel", "join", "(IIII)I"⟩,
  .code ⟨"NoiseRingModel", "join", "(IIII)I"⟩ prog_3_method_13_code 11 (some .int),
  .methodLink "NoiseRingModel" 52 ⟨"NoiseRingModel", "put", "(I)I"⟩,
  .instanceMethod ⟨"NoiseRingModel", "put", "(I)I"⟩,
  .code ⟨"NoiseRingModel", "put", "(I)I"⟩ prog_3_method_9_code 4 (some .int),
  .methodLink "NoiseRingModel" 55 ⟨"NoiseRingModel", "most", "([I)I"⟩,
  .instanceMethod ⟨"NoiseRingModel", "most", "([I)I"⟩,
  .code ⟨"NoiseRingModel", "most", "([I)I"⟩ prog_3_method_8_code 4 (some .int),
  .methodLink "NoiseRingModel" 29 ⟨"NoiseRingModel", "size0", "(I)I"⟩,
  .instanceMethod ⟨"NoiseRingModel", "size0", "(I)I"⟩,
  .code ⟨"NoiseRingModel", "size0", "(I)I"⟩ prog_3_method_7_code 2 (some .int),
  .methodLink "NoiseRingModel" 33 ⟨"java/lang/Math", "max", "(II)I"⟩,
  .methodLink "NoiseRingLaw" 87 ⟨"NoiseRingModel", "round", "(IIII)I"⟩,
  .instanceMethod ⟨"NoiseRingModel", "round", "(IIII)I"⟩,
  .selects "NoiseRingModel" ⟨"NoiseRingModel", "round", "(IIII)I"⟩ ⟨"NoiseRingModel", "round", "(IIII)I"⟩,
  .code ⟨"NoiseRingModel", "round", "(IIII)I"⟩ prog_3_method_15_code 11 (some .int),
  .methodLink "NoiseRingModel" 59 ⟨"NoiseRingModel", "rest", "(II)I"⟩,
  .static ⟨"NoiseRingModel", "rest", "(II)I"⟩,
  .code ⟨"NoiseRingModel", "rest", "(II)I"⟩ prog_3_method_14_code 3 (some .int),
  .constantLong "NoiseRingModel" 62 (2 : Int64),
  .methodLink "NoiseRingLaw" 91 ⟨"NoiseRingModel", "part", "(IIIZ)I"⟩,
  .instanceMethod ⟨"NoiseRingModel", "part", "(IIIZ)I"⟩,
  .selects "NoiseRingModel" ⟨"NoiseRingModel", "part", "(IIIZ)I"⟩ ⟨"NoiseRingModel", "part", "(IIIZ)I"⟩,
  .code ⟨"NoiseRingModel", "part", "(IIIZ)I"⟩ prog_3_method_19_code 6 (some .int),
  .methodLink "NoiseRingModel" 64 ⟨"NoiseRingModel", "isAlpha", "(I)Z"⟩,
  .instanceMethod ⟨"NoiseRingModel", "isAlpha", "(I)Z"⟩,
  .code ⟨"NoiseRingModel", "isAlpha", "(I)Z"⟩ prog_3_method_16_code 2 (some .boolean),
  .methodLink "NoiseRingModel" 67 ⟨"NoiseRingModel", "partOf", "(II)I"⟩,
  .instanceMethod ⟨"NoiseRingModel", "partOf", "(II)I"⟩,
  .code ⟨"NoiseRingModel", "partOf", "(II)I"⟩ prog_3_method_17_code 4 (some .int),
  .methodLink "NoiseRingModel" 70 ⟨"NoiseRingModel", "restOf", "(II)I"⟩,
  .instanceMethod ⟨"NoiseRingModel", "restOf", "(II)I"⟩,
  .code ⟨"NoiseRingModel", "restOf", "(II)I"⟩ prog_3_method_18_code 4 (some .int),
  .methodLink "NoiseRingLaw" 94 ⟨"NoiseRingModel", "hint", "(IIII)I"⟩,
  .instanceMethod ⟨"NoiseRingModel", "hint", "(IIII)I"⟩,
  .selects "NoiseRingModel" ⟨"NoiseRingModel", "hint", "(IIII)I"⟩ ⟨"NoiseRingModel", "hint", "(IIII)I"⟩,
  .code ⟨"NoiseRingModel", "hint", "(IIII)I"⟩ prog_3_method_20_code 6 (some .int),
  .methodLink "NoiseRingLaw" 97 ⟨"NoiseRingModel", "use", "(IIII)I"⟩,
  .instanceMethod ⟨"NoiseRingModel", "use", "(IIII)I"⟩,
  .selects "NoiseRingModel" ⟨"NoiseRingModel", "use", "(IIII)I"⟩ ⟨"NoiseRingModel", "use", "(IIII)I"⟩,
  .code ⟨"NoiseRingModel", "use", "(IIII)I"⟩ prog_3_method_21_code 9 (some .int),
  .methodLink "NoiseRingModel" 73 ⟨"java/lang/Math", "floorMod", "(II)I"⟩,
  .methodLink "NoiseRingLaw" 100 ⟨"NoiseRingModel", "size", "(I)I"⟩,
  .instanceMethod ⟨"NoiseRingModel", "size", "(I)I"⟩,
  .selects "NoiseRingModel" ⟨"NoiseRingModel", "size", "(I)I"⟩ ⟨"NoiseRingModel", "size", "(I)I"⟩,
  .code ⟨"NoiseRingModel", "size", "(I)I"⟩ prog_3_method_22_code 4 (some .int),
  .methodLink "NoiseRingLaw" 103 ⟨"NoiseRingModel", "far", "(II)I"⟩,
  .instanceMethod ⟨"NoiseRingModel", "far", "(II)I"⟩,
  .selects "NoiseRingModel" ⟨"NoiseRingModel", "far", "(II)I"⟩ ⟨"NoiseRingModel", "far", "(II)I"⟩,
  .code ⟨"NoiseRingModel", "far", "(II)I"⟩ prog_3_method_23_code 5 (some .int),
  .methodLink "NoiseRingLaw" 109 ⟨"NoiseRingModel", "noise", "(IIJJ)I"⟩,
  .instanceMethod ⟨"NoiseRingModel", "noise", "(IIJJ)I"⟩,
  .selects "NoiseRingModel" ⟨"NoiseRingModel", "noise", "(IIJJ)I"⟩ ⟨"NoiseRingModel", "noise", "(IIJJ)I"⟩,
  .code ⟨"NoiseRingModel", "noise", "(IIJJ)I"⟩ prog_3_method_25_code 10 (some .int),
  .methodLink "NoiseRingModel" 75 ⟨"NoiseRingModel", "bit", "(JJI)I"⟩,
  .static ⟨"NoiseRingModel", "bit", "(JJI)I"⟩,
  .code ⟨"NoiseRingModel", "bit", "(JJI)I"⟩ prog_3_method_24_code 5 (some .int),
  .methodLink "NoiseRingLaw" 112 ⟨"NoiseRingModel", "value", "(II)I"⟩,
  .instanceMethod ⟨"NoiseRingModel", "value", "(II)I"⟩,
  .selects "NoiseRingModel" ⟨"NoiseRingModel", "value", "(II)I"⟩ ⟨"NoiseRingModel", "value", "(II)I"⟩,
  .code ⟨"NoiseRingModel", "value", "(II)I"⟩ prog_3_method_30_code 3 (some .int),
  .methodLink "NoiseRingModel" 90 ⟨"NoiseRingModel", "valueOf", "(II)I"⟩,
  .instanceMethod ⟨"NoiseRingModel", "valueOf", "(II)I"⟩,
  .code ⟨"NoiseRingModel", "valueOf", "(II)I"⟩ prog_3_method_29_code 4 (some .int),
  .methodLink "NoiseRingModel" 82 ⟨"NoiseRingModel", "root", "()I"⟩,
  .instanceMethod ⟨"NoiseRingModel", "root", "()I"⟩,
  .code ⟨"NoiseRingModel", "root", "()I"⟩ prog_3_method_27_code 1 (some .int),
  .methodLink "NoiseRingModel" 79 ⟨"NoiseRingModel", "power", "(II)I"⟩,
  .instanceMethod ⟨"NoiseRingModel", "power", "(II)I"⟩,
  .code ⟨"NoiseRingModel", "power", "(II)I"⟩ prog_3_method_26_code 6 (some .int),
  .methodLink "NoiseRingModel" 86 ⟨"NoiseRingModel", "along", "(IIIJ)I"⟩,
  .instanceMethod ⟨"NoiseRingModel", "along", "(IIIJ)I"⟩,
  .code ⟨"NoiseRingModel", "along", "(IIIJ)I"⟩ prog_3_method_28_code 9 (some .int),
  .methodLink "NoiseRingLaw" 115 ⟨"NoiseRingModel", "unit", "(I)Z"⟩,
  .instanceMethod ⟨"NoiseRingModel", "unit", "(I)Z"⟩,
  .selects "NoiseRingModel" ⟨"NoiseRingModel", "unit", "(I)Z"⟩ ⟨"NoiseRingModel", "unit", "(I)Z"⟩,
  .code ⟨"NoiseRingModel", "unit", "(I)Z"⟩ prog_3_method_31_code 7 (some .boolean),
  .methodLink "NoiseRingLaw" 119 ⟨"NoiseRingModel", "count", "(I)I"⟩,
  .instanceMethod ⟨"NoiseRingModel", "count", "(I)I"⟩,
  .selects "NoiseRingModel" ⟨"NoiseRingModel", "count", "(I)I"⟩ ⟨"NoiseRingModel", "count", "(I)I"⟩,
  .code ⟨"NoiseRingModel", "count", "(I)I"⟩ prog_3_method_32_code 6 (some .int),
  .constantLong "NoiseRingLaw" 104 (4294967295 : Int64),
  .arrayClass .long]
set_option maxRecDepth 100000 in
theorem wsU_good : wsU.all goodWord = true := by decide +kernel
set_option maxRecDepth 100000 in
theorem u0 : (.selects "NoiseRing" ⟨"NoiseRing", "takeKind", "(I)V"⟩ ⟨"NoiseRing", "takeKind", "(I)V"⟩ : Cond) ∈ wsU := List.mem_of_getElem? (i := 0) rfl
set_option maxRecDepth 100000 in
theorem u1 : (.selects "NoiseRing" ⟨"NoiseRing", "power", "(II)I"⟩ ⟨"NoiseRing", "power", "(II)I"⟩ : Cond) ∈ wsU := List.mem_of_getElem? (i := 1) rfl
set_option maxRecDepth 100000 in
theorem u2 : (.selects "NoiseRing" ⟨"NoiseRing", "emptyRegisters", "()I"⟩ ⟨"NoiseRing", "emptyRegisters", "()I"⟩ : Cond) ∈ wsU := List.mem_of_getElem? (i := 2) rfl
set_option maxRecDepth 100000 in
theorem u3 : (.selects "java/lang/Throwable" ⟨"java/lang/Throwable", "fillInStackTrace", "(I)Ljava/lang/Throwable;"⟩ ⟨"java/lang/Throwable", "fillInStackTrace", "(I)Ljava/lang/Throwable;"⟩ : Cond) ∈ wsU := List.mem_of_getElem? (i := 3) rfl
set_option maxRecDepth 100000 in
theorem u4 : (.selects "NoiseRing" ⟨"NoiseRing", "joined", "(I[I[II)I"⟩ ⟨"NoiseRing", "joined", "(I[I[II)I"⟩ : Cond) ∈ wsU := List.mem_of_getElem? (i := 4) rfl
set_option maxRecDepth 100000 in
theorem u5 : (.selects "NoiseRing" ⟨"NoiseRing", "productAt", "([I[II)I"⟩ ⟨"NoiseRing", "productAt", "([I[II)I"⟩ : Cond) ∈ wsU := List.mem_of_getElem? (i := 5) rfl
set_option maxRecDepth 100000 in
theorem u6 : (.selects "NoiseRing" ⟨"NoiseRing", "greatestSize", "([I)I"⟩ ⟨"NoiseRing", "greatestSize", "([I)I"⟩ : Cond) ∈ wsU := List.mem_of_getElem? (i := 6) rfl
set_option maxRecDepth 100000 in
theorem u7 : (.selects "NoiseRing" ⟨"NoiseRing", "centredSize", "(I)I"⟩ ⟨"NoiseRing", "centredSize", "(I)I"⟩ : Cond) ∈ wsU := List.mem_of_getElem? (i := 7) rfl
set_option maxRecDepth 100000 in
theorem u8 : (.selects "NoiseRing" ⟨"NoiseRing", "rounded", "(III)I"⟩ ⟨"NoiseRing", "rounded", "(III)I"⟩ : Cond) ∈ wsU := List.mem_of_getElem? (i := 8) rfl
set_option maxRecDepth 100000 in
theorem u9 : (.selects "NoiseRing" ⟨"NoiseRing", "fewerBits", "(II)I"⟩ ⟨"NoiseRing", "fewerBits", "(II)I"⟩ : Cond) ∈ wsU := List.mem_of_getElem? (i := 9) rfl
set_option maxRecDepth 100000 in
theorem u10 : (.selects "NoiseRing" ⟨"NoiseRing", "moreBits", "(II)I"⟩ ⟨"NoiseRing", "moreBits", "(II)I"⟩ : Cond) ∈ wsU := List.mem_of_getElem? (i := 10) rfl
set_option maxRecDepth 100000 in
theorem u11 : (.selects "NoiseRing" ⟨"NoiseRing", "isAlpha", "(I)Z"⟩ ⟨"NoiseRing", "isAlpha", "(I)Z"⟩ : Cond) ∈ wsU := List.mem_of_getElem? (i := 11) rfl
set_option maxRecDepth 100000 in
theorem u12 : (.selects "NoiseRing" ⟨"NoiseRing", "partOf", "(II)I"⟩ ⟨"NoiseRing", "partOf", "(II)I"⟩ : Cond) ∈ wsU := List.mem_of_getElem? (i := 12) rfl
set_option maxRecDepth 100000 in
theorem u13 : (.selects "NoiseRing" ⟨"NoiseRing", "restOf", "(II)I"⟩ ⟨"NoiseRing", "restOf", "(II)I"⟩ : Cond) ∈ wsU := List.mem_of_getElem? (i := 13) rfl
set_option maxRecDepth 100000 in
theorem u14 : (.selects "NoiseRing" ⟨"NoiseRing", "movedPart", "(II)I"⟩ ⟨"NoiseRing", "movedPart", "(II)I"⟩ : Cond) ∈ wsU := List.mem_of_getElem? (i := 14) rfl
set_option maxRecDepth 100000 in
theorem u15 : (.selects "NoiseRing" ⟨"NoiseRing", "valueAt", "([IIII)I"⟩ ⟨"NoiseRing", "valueAt", "([IIII)I"⟩ : Cond) ∈ wsU := List.mem_of_getElem? (i := 15) rfl
set_option maxRecDepth 100000 in
theorem u16 : (.selects "NoiseRingModel" ⟨"NoiseRingModel", "at", "(II)I"⟩ ⟨"NoiseRingModel", "at", "(II)I"⟩ : Cond) ∈ wsU := List.mem_of_getElem? (i := 16) rfl
set_option maxRecDepth 100000 in
theorem u17 : (.selects "NoiseRingModel" ⟨"NoiseRingModel", "of", "(J)I"⟩ ⟨"NoiseRingModel", "of", "(J)I"⟩ : Cond) ∈ wsU := List.mem_of_getElem? (i := 17) rfl
set_option maxRecDepth 100000 in
theorem u18 : (.selects "NoiseRingModel" ⟨"NoiseRingModel", "put", "(I)I"⟩ ⟨"NoiseRingModel", "put", "(I)I"⟩ : Cond) ∈ wsU := List.mem_of_getElem? (i := 18) rfl
set_option maxRecDepth 100000 in
theorem u19 : (.selects "NoiseRingModel" ⟨"NoiseRingModel", "most", "([I)I"⟩ ⟨"NoiseRingModel", "most", "([I)I"⟩ : Cond) ∈ wsU := List.mem_of_getElem? (i := 19) rfl
set_option maxRecDepth 100000 in
theorem u20 : (.selects "NoiseRingModel" ⟨"NoiseRingModel", "size0", "(I)I"⟩ ⟨"NoiseRingModel", "size0", "(I)I"⟩ : Cond) ∈ wsU := List.mem_of_getElem? (i := 20) rfl
set_option maxRecDepth 100000 in
theorem u21 : (.selects "NoiseRingModel" ⟨"NoiseRingModel", "isAlpha", "(I)Z"⟩ ⟨"NoiseRingModel", "isAlpha", "(I)Z"⟩ : Cond) ∈ wsU := List.mem_of_getElem? (i := 21) rfl
set_option maxRecDepth 100000 in
theorem u22 : (.selects "NoiseRingModel" ⟨"NoiseRingModel", "partOf", "(II)I"⟩ ⟨"NoiseRingModel", "partOf", "(II)I"⟩ : Cond) ∈ wsU := List.mem_of_getElem? (i := 22) rfl
set_option maxRecDepth 100000 in
theorem u23 : (.selects "NoiseRingModel" ⟨"NoiseRingModel", "restOf", "(II)I"⟩ ⟨"NoiseRingModel", "restOf", "(II)I"⟩ : Cond) ∈ wsU := List.mem_of_getElem? (i := 23) rfl
set_option maxRecDepth 100000 in
theorem u24 : (.selects "NoiseRingModel" ⟨"NoiseRingModel", "valueOf", "(II)I"⟩ ⟨"NoiseRingModel", "valueOf", "(II)I"⟩ : Cond) ∈ wsU := List.mem_of_getElem? (i := 24) rfl
set_option maxRecDepth 100000 in
theorem u25 : (.selects "NoiseRingModel" ⟨"NoiseRingModel", "root", "()I"⟩ ⟨"NoiseRingModel", "root", "()I"⟩ : Cond) ∈ wsU := List.mem_of_getElem? (i := 25) rfl
set_option maxRecDepth 100000 in
theorem u26 : (.selects "NoiseRingModel" ⟨"NoiseRingModel", "power", "(II)I"⟩ ⟨"NoiseRingModel", "power", "(II)I"⟩ : Cond) ∈ wsU := List.mem_of_getElem? (i := 26) rfl
set_option maxRecDepth 100000 in
theorem u27 : (.selects "NoiseRingModel" ⟨"NoiseRingModel", "along", "(IIIJ)I"⟩ ⟨"NoiseRingModel", "along", "(IIIJ)I"⟩ : Cond) ∈ wsU := List.mem_of_getElem? (i := 27) rfl
set_option maxRecDepth 100000 in
theorem u28 : (.initialized "NoiseRingLaw" : Cond) ∈ wsU := List.mem_of_getElem? (i := 28) rfl
set_option maxRecDepth 100000 in
theorem u29 : (.initialized "NoiseRing" : Cond) ∈ wsU := List.mem_of_getElem? (i := 29) rfl
set_option maxRecDepth 100000 in
theorem u30 : (.initialized "NoiseRingModel" : Cond) ∈ wsU := List.mem_of_getElem? (i := 30) rfl
set_option maxRecDepth 100000 in
theorem u31 : (.initialized "java/lang/Throwable" : Cond) ∈ wsU := List.mem_of_getElem? (i := 31) rfl
set_option maxRecDepth 100000 in
theorem u32 : (.initialized "java/lang/Exception" : Cond) ∈ wsU := List.mem_of_getElem? (i := 32) rfl
set_option maxRecDepth 100000 in
theorem u33 : (.initialized "java/lang/RuntimeException" : Cond) ∈ wsU := List.mem_of_getElem? (i := 33) rfl
set_option maxRecDepth 100000 in
theorem u34 : (.initialized "java/lang/IllegalArgumentException" : Cond) ∈ wsU := List.mem_of_getElem? (i := 34) rfl
set_option maxRecDepth 100000 in
theorem u35 : (.initialized "java/util/NoSuchElementException" : Cond) ∈ wsU := List.mem_of_getElem? (i := 35) rfl
set_option maxRecDepth 100000 in
theorem u36 : (.initialized "java/lang/Math" : Cond) ∈ wsU := List.mem_of_getElem? (i := 36) rfl
set_option maxRecDepth 100000 in
theorem u37 : (.initialized "java/lang/System" : Cond) ∈ wsU := List.mem_of_getElem? (i := 37) rfl
set_option maxRecDepth 100000 in
theorem u38 : (.classLink "NoiseRingLaw" 8 "NoiseRing" : Cond) ∈ wsU := List.mem_of_getElem? (i := 38) rfl
set_option maxRecDepth 100000 in
theorem u39 : (.instantiable "NoiseRing" 5 : Cond) ∈ wsU := List.mem_of_getElem? (i := 39) rfl
set_option maxRecDepth 100000 in
theorem u40 : (.methodLink "NoiseRingLaw" 59 ⟨"NoiseRing", "<init>", "()V"⟩ : Cond) ∈ wsU := List.mem_of_getElem? (i := 40) rfl
set_option maxRecDepth 100000 in
theorem u41 : (.instanceMethod ⟨"NoiseRing", "<init>", "()V"⟩ : Cond) ∈ wsU := List.mem_of_getElem? (i := 41) rfl
set_option maxRecDepth 100000 in
theorem u42 : (.code ⟨"NoiseRing", "<init>", "()V"⟩ prog_1_method_1_code 1 (none : Option Jvm.ClassFile.FieldType) : Cond) ∈ wsU := List.mem_of_getElem? (i := 42) rfl
set_option maxRecDepth 100000 in
theorem u43 : (.methodLink "NoiseRing" 1 ⟨"java/lang/Object", "<init>", "()V"⟩ : Cond) ∈ wsU := List.mem_of_getElem? (i := 43) rfl
set_option maxRecDepth 100000 in
theorem u44 : (.instanceMethod ⟨"java/lang/Object", "<init>", "()V"⟩ : Cond) ∈ wsU := List.mem_of_getElem? (i := 44) rfl
set_option maxRecDepth 100000 in
theorem u45 : (.code ⟨"java/lang/Object", "<init>", "()V"⟩ object_method_1_code 1 (none : Option Jvm.ClassFile.FieldType) : Cond) ∈ wsU := List.mem_of_getElem? (i := 45) rfl
set_option maxRecDepth 100000 in
theorem u46 : (.classLink "NoiseRing" 9 "[[I" : Cond) ∈ wsU := List.mem_of_getElem? (i := 46) rfl
set_option maxRecDepth 100000 in
theorem u47 : (.methodLink "NoiseRing" 18 ⟨"NoiseRing", "takeKind", "(I)V"⟩ : Cond) ∈ wsU := List.mem_of_getElem? (i := 47) rfl
set_option maxRecDepth 100000 in
theorem u48 : (.instanceMethod ⟨"NoiseRing", "takeKind", "(I)V"⟩ : Cond) ∈ wsU := List.mem_of_getElem? (i := 48) rfl
set_option maxRecDepth 100000 in
theorem u49 : (.code ⟨"NoiseRing", "takeKind", "(I)V"⟩ prog_1_method_19_code 2 (none : Option Jvm.ClassFile.FieldType) : Cond) ∈ wsU := List.mem_of_getElem? (i := 49) rfl
set_option maxRecDepth 100000 in
theorem u50 : (.fieldLink "NoiseRing" 22 "NoiseRing" "MODULUS" "[I" : Cond) ∈ wsU := List.mem_of_getElem? (i := 50) rfl
set_option maxRecDepth 100000 in
theorem u51 : (.fieldLink "NoiseRing" 103 "NoiseRing" "BASE_ROOT" "[I" : Cond) ∈ wsU := List.mem_of_getElem? (i := 51) rfl
set_option maxRecDepth 100000 in
theorem u52 : (.methodLink "NoiseRing" 96 ⟨"NoiseRing", "power", "(II)I"⟩ : Cond) ∈ wsU := List.mem_of_getElem? (i := 52) rfl
set_option maxRecDepth 100000 in
theorem u53 : (.instanceMethod ⟨"NoiseRing", "power", "(II)I"⟩ : Cond) ∈ wsU := List.mem_of_getElem? (i := 53) rfl
set_option maxRecDepth 100000 in
theorem u54 : (.code ⟨"NoiseRing", "power", "(II)I"⟩ prog_1_method_20_code 6 (some .int) : Cond) ∈ wsU := List.mem_of_getElem? (i := 54) rfl
set_option maxRecDepth 100000 in
theorem u55 : (.fieldLink "NoiseRing" 11 "NoiseRing" "registers" "[[I" : Cond) ∈ wsU := List.mem_of_getElem? (i := 55) rfl
set_option maxRecDepth 100000 in
theorem u56 : (.fieldLink "NoiseRing" 14 "NoiseRing" "work" "[I" : Cond) ∈ wsU := List.mem_of_getElem? (i := 56) rfl
set_option maxRecDepth 100000 in
theorem u57 : (.fieldLink "NoiseRing" 62 "NoiseRing" "kind" "I" : Cond) ∈ wsU := List.mem_of_getElem? (i := 57) rfl
set_option maxRecDepth 100000 in
theorem u58 : (.fieldLink "NoiseRing" 29 "NoiseRing" "q" "I" : Cond) ∈ wsU := List.mem_of_getElem? (i := 58) rfl
set_option maxRecDepth 100000 in
theorem u59 : (.fieldLink "NoiseRing" 93 "NoiseRing" "z" "I" : Cond) ∈ wsU := List.mem_of_getElem? (i := 59) rfl
set_option maxRecDepth 100000 in
theorem u60 : (.laysFinal "NoiseRing" "NoiseRing" "registers" "[[I" : Cond) ∈ wsU := List.mem_of_getElem? (i := 60) rfl
set_option maxRecDepth 100000 in
theorem u61 : (.soleField "NoiseRing" "registers" : Cond) ∈ wsU := List.mem_of_getElem? (i := 61) rfl
set_option maxRecDepth 100000 in
theorem u62 : (.laysFinal "NoiseRing" "NoiseRing" "work" "[I" : Cond) ∈ wsU := List.mem_of_getElem? (i := 62) rfl
set_option maxRecDepth 100000 in
theorem u63 : (.soleField "NoiseRing" "work" : Cond) ∈ wsU := List.mem_of_getElem? (i := 63) rfl
set_option maxRecDepth 100000 in
theorem u64 : (.lays "NoiseRing" "NoiseRing" "kind" "I" : Cond) ∈ wsU := List.mem_of_getElem? (i := 64) rfl
set_option maxRecDepth 100000 in
theorem u65 : (.soleField "NoiseRing" "kind" : Cond) ∈ wsU := List.mem_of_getElem? (i := 65) rfl
set_option maxRecDepth 100000 in
theorem u66 : (.lays "NoiseRing" "NoiseRing" "q" "I" : Cond) ∈ wsU := List.mem_of_getElem? (i := 66) rfl
set_option maxRecDepth 100000 in
theorem u67 : (.soleField "NoiseRing" "q" : Cond) ∈ wsU := List.mem_of_getElem? (i := 67) rfl
set_option maxRecDepth 100000 in
theorem u68 : (.lays "NoiseRing" "NoiseRing" "z" "I" : Cond) ∈ wsU := List.mem_of_getElem? (i := 68) rfl
set_option maxRecDepth 100000 in
theorem u69 : (.soleField "NoiseRing" "z" : Cond) ∈ wsU := List.mem_of_getElem? (i := 69) rfl
set_option maxRecDepth 100000 in
theorem u70 : (.superclass "NoiseRing" "java/lang/Object" : Cond) ∈ wsU := List.mem_of_getElem? (i := 70) rfl
set_option maxRecDepth 100000 in
theorem u71 : (.arrayClass .int : Cond) ∈ wsU := List.mem_of_getElem? (i := 71) rfl
set_option maxRecDepth 100000 in
theorem u72 : (.methodLink "NoiseRingLaw" 116 ⟨"NoiseRing", "count", "(I)I"⟩ : Cond) ∈ wsU := List.mem_of_getElem? (i := 72) rfl
set_option maxRecDepth 100000 in
theorem u73 : (.instanceMethod ⟨"NoiseRing", "count", "(I)I"⟩ : Cond) ∈ wsU := List.mem_of_getElem? (i := 73) rfl
set_option maxRecDepth 100000 in
theorem u74 : (.selects "NoiseRing" ⟨"NoiseRing", "count", "(I)I"⟩ ⟨"NoiseRing", "count", "(I)I"⟩ : Cond) ∈ wsU := List.mem_of_getElem? (i := 74) rfl
set_option maxRecDepth 100000 in
theorem u75 : (.code ⟨"NoiseRing", "count", "(I)I"⟩ prog_1_method_15_code 2 (some .int) : Cond) ∈ wsU := List.mem_of_getElem? (i := 75) rfl
set_option maxRecDepth 100000 in
theorem u76 : (.methodLink "NoiseRing" 109 ⟨"NoiseRing", "emptyRegisters", "()I"⟩ : Cond) ∈ wsU := List.mem_of_getElem? (i := 76) rfl
set_option maxRecDepth 100000 in
theorem u77 : (.instanceMethod ⟨"NoiseRing", "emptyRegisters", "()I"⟩ : Cond) ∈ wsU := List.mem_of_getElem? (i := 77) rfl
set_option maxRecDepth 100000 in
theorem u78 : (.code ⟨"NoiseRing", "emptyRegisters", "()I"⟩ prog_1_method_26_code 3 (some .int) : Cond) ∈ wsU := List.mem_of_getElem? (i := 78) rfl
set_option maxRecDepth 100000 in
theorem u79 : (.methodLink "NoiseRing" 69 ⟨"NoiseRing", "notZero", "([I)I"⟩ : Cond) ∈ wsU := List.mem_of_getElem? (i := 79) rfl
set_option maxRecDepth 100000 in
theorem u80 : (.static ⟨"NoiseRing", "notZero", "([I)I"⟩ : Cond) ∈ wsU := List.mem_of_getElem? (i := 80) rfl
set_option maxRecDepth 100000 in
theorem u81 : (.code ⟨"NoiseRing", "notZero", "([I)I"⟩ prog_1_method_25_code 3 (some .int) : Cond) ∈ wsU := List.mem_of_getElem? (i := 81) rfl
set_option maxRecDepth 100000 in
theorem u82 : (.methodLink "NoiseRingLaw" 63 ⟨"NoiseRingLaw", "begin", "(LNoiseRing;I[J)I"⟩ : Cond) ∈ wsU := List.mem_of_getElem? (i := 82) rfl
set_option maxRecDepth 100000 in
theorem u83 : (.static ⟨"NoiseRingLaw", "begin", "(LNoiseRing;I[J)I"⟩ : Cond) ∈ wsU := List.mem_of_getElem? (i := 83) rfl
set_option maxRecDepth 100000 in
theorem u84 : (.codeWith ⟨"NoiseRingLaw", "begin", "(LNoiseRing;I[J)I"⟩ method_3_code 4 (some .int) [(0, 9, 12, 13)] : Cond) ∈ wsU := List.mem_of_getElem? (i := 84) rfl
set_option maxRecDepth 100000 in
theorem u85 : (.classLink "NoiseRingLaw" 13 "java/lang/IllegalArgumentException" : Cond) ∈ wsU := List.mem_of_getElem? (i := 85) rfl
set_option maxRecDepth 100000 in
theorem u86 : (.methodLink "NoiseRingLaw" 7 ⟨"NoiseRing", "begin", "(I)I"⟩ : Cond) ∈ wsU := List.mem_of_getElem? (i := 86) rfl
set_option maxRecDepth 100000 in
theorem u87 : (.instanceMethod ⟨"NoiseRing", "begin", "(I)I"⟩ : Cond) ∈ wsU := List.mem_of_getElem? (i := 87) rfl
set_option maxRecDepth 100000 in
theorem u88 : (.selects "NoiseRing" ⟨"NoiseRing", "begin", "(I)I"⟩ ⟨"NoiseRing", "begin", "(I)I"⟩ : Cond) ∈ wsU := List.mem_of_getElem? (i := 88) rfl
set_option maxRecDepth 100000 in
theorem u89 : (.code ⟨"NoiseRing", "begin", "(I)I"⟩ prog_1_method_2_code 4 (some .int) : Cond) ∈ wsU := List.mem_of_getElem? (i := 89) rfl
set_option maxRecDepth 100000 in
theorem u90 : (.methodLink "NoiseRing" 25 ⟨"NoiseRing", "needArgument", "(Z)V"⟩ : Cond) ∈ wsU := List.mem_of_getElem? (i := 90) rfl
set_option maxRecDepth 100000 in
theorem u91 : (.static ⟨"NoiseRing", "needArgument", "(Z)V"⟩ : Cond) ∈ wsU := List.mem_of_getElem? (i := 91) rfl
set_option maxRecDepth 100000 in
theorem u92 : (.code ⟨"NoiseRing", "needArgument", "(Z)V"⟩ prog_1_method_18_code 1 (none : Option Jvm.ClassFile.FieldType) : Cond) ∈ wsU := List.mem_of_getElem? (i := 92) rfl
set_option maxRecDepth 100000 in
theorem u93 : (.classLink "NoiseRing" 122 "java/lang/IllegalArgumentException" : Cond) ∈ wsU := List.mem_of_getElem? (i := 93) rfl
set_option maxRecDepth 100000 in
theorem u94 : (.instantiable "java/lang/IllegalArgumentException" 6 : Cond) ∈ wsU := List.mem_of_getElem? (i := 94) rfl
set_option maxRecDepth 100000 in
theorem u95 : (.selects "java/lang/IllegalArgumentException" ⟨"java/lang/Throwable", "fillInStackTrace", "(I)Ljava/lang/Throwable;"⟩ ⟨"java/lang/Throwable", "fillInStackTrace", "(I)Ljava/lang/Throwable;"⟩ : Cond) ∈ wsU := List.mem_of_getElem? (i := 95) rfl
set_option maxRecDepth 100000 in
theorem u96 : (.selects "java/lang/IllegalArgumentException" ⟨"java/lang/Throwable", "fillInStackTrace", "()Ljava/lang/Throwable;"⟩ ⟨"java/lang/Throwable", "fillInStackTrace", "()Ljava/lang/Throwable;"⟩ : Cond) ∈ wsU := List.mem_of_getElem? (i := 96) rfl
set_option maxRecDepth 100000 in
theorem u97 : (.lays "java/lang/IllegalArgumentException" "java/lang/Throwable" "cause" "Ljava/lang/Throwable;" : Cond) ∈ wsU := List.mem_of_getElem? (i := 97) rfl
set_option maxRecDepth 100000 in
theorem u98 : (.lays "java/lang/Throwable" "java/lang/Throwable" "cause" "Ljava/lang/Throwable;" : Cond) ∈ wsU := List.mem_of_getElem? (i := 98) rfl
set_option maxRecDepth 100000 in
theorem u99 : (.lays "java/lang/IllegalArgumentException" "java/lang/Throwable" "stackTrace" "[Ljava/lang/StackTraceElement;" : Cond) ∈ wsU := List.mem_of_getElem? (i := 99) rfl
set_option maxRecDepth 100000 in
theorem u100 : (.lays "java/lang/Throwable" "java/lang/Throwable" "stackTrace" "[Ljava/lang/StackTraceElement;" : Cond) ∈ wsU := List.mem_of_getElem? (i := 100) rfl
set_option maxRecDepth 100000 in
theorem u101 : (.lays "java/lang/IllegalArgumentException" "java/lang/Throwable" "suppressedExceptions" "Ljava/util/List;" : Cond) ∈ wsU := List.mem_of_getElem? (i := 101) rfl
set_option maxRecDepth 100000 in
theorem u102 : (.lays "java/lang/Throwable" "java/lang/Throwable" "suppressedExceptions" "Ljava/util/List;" : Cond) ∈ wsU := List.mem_of_getElem? (i := 102) rfl
set_option maxRecDepth 100000 in
theorem u103 : (.lays "java/lang/IllegalArgumentException" "java/lang/Throwable" "detailMessage" "Ljava/lang/String;" : Cond) ∈ wsU := List.mem_of_getElem? (i := 103) rfl
set_option maxRecDepth 100000 in
theorem u104 : (.lays "java/lang/Throwable" "java/lang/Throwable" "detailMessage" "Ljava/lang/String;" : Cond) ∈ wsU := List.mem_of_getElem? (i := 104) rfl
set_option maxRecDepth 100000 in
theorem u105 : (.lays "java/lang/IllegalArgumentException" "java/lang/Throwable" "backtrace" "Ljava/lang/Object;" : Cond) ∈ wsU := List.mem_of_getElem? (i := 105) rfl
set_option maxRecDepth 100000 in
theorem u106 : (.lays "java/lang/Throwable" "java/lang/Throwable" "backtrace" "Ljava/lang/Object;" : Cond) ∈ wsU := List.mem_of_getElem? (i := 106) rfl
set_option maxRecDepth 100000 in
theorem u107 : (.fieldLink "java/lang/Throwable" 198 "java/lang/Throwable" "backtrace" "Ljava/lang/Object;" : Cond) ∈ wsU := List.mem_of_getElem? (i := 107) rfl
set_option maxRecDepth 100000 in
theorem u108 : (.superclass "java/lang/Throwable" "java/lang/Object" : Cond) ∈ wsU := List.mem_of_getElem? (i := 108) rfl
set_option maxRecDepth 100000 in
theorem u109 : (.instanceMethod ⟨"java/lang/Throwable", "<init>", "()V"⟩ : Cond) ∈ wsU := List.mem_of_getElem? (i := 109) rfl
set_option maxRecDepth 100000 in
theorem u110 : (.code ⟨"java/lang/Throwable", "<init>", "()V"⟩ prog_10_method_1_code 1 (none : Option Jvm.ClassFile.FieldType) : Cond) ∈ wsU := List.mem_of_getElem? (i := 110) rfl
set_option maxRecDepth 100000 in
theorem u111 : (.methodLink "java/lang/Throwable" 1 ⟨"java/lang/Object", "<init>", "()V"⟩ : Cond) ∈ wsU := List.mem_of_getElem? (i := 111) rfl
set_option maxRecDepth 100000 in
theorem u112 : (.fieldLink "java/lang/Throwable" 13 "java/lang/Throwable" "UNASSIGNED_STACK" "[Ljava/lang/StackTraceElement;" : Cond) ∈ wsU := List.mem_of_getElem? (i := 112) rfl
set_option maxRecDepth 100000 in
theorem u113 : (.fieldLink "java/lang/Throwable" 20 "java/lang/Throwable" "SUPPRESSED_SENTINEL" "Ljava/util/List;" : Cond) ∈ wsU := List.mem_of_getElem? (i := 113) rfl
set_option maxRecDepth 100000 in
theorem u114 : (.methodLink "java/lang/Throwable" 27 ⟨"java/lang/Throwable", "fillInStackTrace", "()Ljava/lang/Throwable;"⟩ : Cond) ∈ wsU := List.mem_of_getElem? (i := 114) rfl
set_option maxRecDepth 100000 in
theorem u115 : (.instanceMethod ⟨"java/lang/Throwable", "fillInStackTrace", "()Ljava/lang/Throwable;"⟩ : Cond) ∈ wsU := List.mem_of_getElem? (i := 115) rfl
set_option maxRecDepth 100000 in
theorem u116 : (.selects "java/util/NoSuchElementException" ⟨"java/lang/Throwable", "fillInStackTrace", "()Ljava/lang/Throwable;"⟩ ⟨"java/lang/Throwable", "fillInStackTrace", "()Ljava/lang/Throwable;"⟩ : Cond) ∈ wsU := List.mem_of_getElem? (i := 116) rfl
set_option maxRecDepth 100000 in
theorem u117 : (.codeSync ⟨"java/lang/Throwable", "fillInStackTrace", "()Ljava/lang/Throwable;"⟩ prog_10_method_18_code 1 (some (.object "java/lang/Throwable")) : Cond) ∈ wsU := List.mem_of_getElem? (i := 117) rfl
set_option maxRecDepth 100000 in
theorem u118 : (.methodLink "java/lang/Throwable" 202 ⟨"java/lang/Throwable", "fillInStackTrace", "(I)Ljava/lang/Throwable;"⟩ : Cond) ∈ wsU := List.mem_of_getElem? (i := 118) rfl
set_option maxRecDepth 100000 in
theorem u119 : (.instanceMethod ⟨"java/lang/Throwable", "fillInStackTrace", "(I)Ljava/lang/Throwable;"⟩ : Cond) ∈ wsU := List.mem_of_getElem? (i := 119) rfl
set_option maxRecDepth 100000 in
theorem u120 : (.instantiable "java/lang/Throwable" 6 : Cond) ∈ wsU := List.mem_of_getElem? (i := 120) rfl
set_option maxRecDepth 100000 in
theorem u121 : (.native ⟨"java/lang/Throwable", "fillInStackTrace", "(I)Ljava/lang/Throwable;"⟩ : Cond) ∈ wsU := List.mem_of_getElem? (i := 121) rfl
set_option maxRecDepth 100000 in
theorem u122 : (.methodLink "NoiseRing" 126 ⟨"java/lang/IllegalArgumentException", "<init>", "(Ljava/lang/String;)V"⟩ : Cond) ∈ wsU := List.mem_of_getElem? (i := 122) rfl
set_option maxRecDepth 100000 in
theorem u123 : (.instanceMethod ⟨"java/lang/IllegalArgumentException", "<init>", "(Ljava/lang/String;)V"⟩ : Cond) ∈ wsU := List.mem_of_getElem? (i := 123) rfl
set_option maxRecDepth 100000 in
theorem u124 : (.code ⟨"java/lang/IllegalArgumentException", "<init>", "(Ljava/lang/String;)V"⟩ prog_5_method_2_code 2 (none : Option Jvm.ClassFile.FieldType) : Cond) ∈ wsU := List.mem_of_getElem? (i := 124) rfl
set_option maxRecDepth 100000 in
theorem u125 : (.methodLink "java/lang/IllegalArgumentException" 7 ⟨"java/lang/RuntimeException", "<init>", "(Ljava/lang/String;)V"⟩ : Cond) ∈ wsU := List.mem_of_getElem? (i := 125) rfl
set_option maxRecDepth 100000 in
theorem u126 : (.instanceMethod ⟨"java/lang/RuntimeException", "<init>", "(Ljava/lang/String;)V"⟩ : Cond) ∈ wsU := List.mem_of_getElem? (i := 126) rfl
set_option maxRecDepth 100000 in
theorem u127 : (.code ⟨"java/lang/RuntimeException", "<init>", "(Ljava/lang/String;)V"⟩ prog_7_method_2_code 2 (none : Option Jvm.ClassFile.FieldType) : Cond) ∈ wsU := List.mem_of_getElem? (i := 127) rfl
set_option maxRecDepth 100000 in
theorem u128 : (.methodLink "java/lang/RuntimeException" 7 ⟨"java/lang/Exception", "<init>", "(Ljava/lang/String;)V"⟩ : Cond) ∈ wsU := List.mem_of_getElem? (i := 128) rfl
set_option maxRecDepth 100000 in
theorem u129 : (.instanceMethod ⟨"java/lang/Exception", "<init>", "(Ljava/lang/String;)V"⟩ : Cond) ∈ wsU := List.mem_of_getElem? (i := 129) rfl
set_option maxRecDepth 100000 in
theorem u130 : (.code ⟨"java/lang/Exception", "<init>", "(Ljava/lang/String;)V"⟩ prog_4_method_2_code 2 (none : Option Jvm.ClassFile.FieldType) : Cond) ∈ wsU := List.mem_of_getElem? (i := 130) rfl
set_option maxRecDepth 100000 in
theorem u131 : (.methodLink "java/lang/Exception" 7 ⟨"java/lang/Throwable", "<init>", "(Ljava/lang/String;)V"⟩ : Cond) ∈ wsU := List.mem_of_getElem? (i := 131) rfl
set_option maxRecDepth 100000 in
theorem u132 : (.instanceMethod ⟨"java/lang/Throwable", "<init>", "(Ljava/lang/String;)V"⟩ : Cond) ∈ wsU := List.mem_of_getElem? (i := 132) rfl
set_option maxRecDepth 100000 in
theorem u133 : (.code ⟨"java/lang/Throwable", "<init>", "(Ljava/lang/String;)V"⟩ prog_10_method_2_code 2 (none : Option Jvm.ClassFile.FieldType) : Cond) ∈ wsU := List.mem_of_getElem? (i := 133) rfl
set_option maxRecDepth 100000 in
theorem u134 : (.fieldLink "java/lang/Throwable" 31 "java/lang/Throwable" "detailMessage" "Ljava/lang/String;" : Cond) ∈ wsU := List.mem_of_getElem? (i := 134) rfl
set_option maxRecDepth 100000 in
theorem u135 : (.fieldLink "java/lang/Throwable" 7 "java/lang/Throwable" "cause" "Ljava/lang/Throwable;" : Cond) ∈ wsU := List.mem_of_getElem? (i := 135) rfl
set_option maxRecDepth 100000 in
theorem u136 : (.fieldLink "java/lang/Throwable" 17 "java/lang/Throwable" "stackTrace" "[Ljava/lang/StackTraceElement;" : Cond) ∈ wsU := List.mem_of_getElem? (i := 136) rfl
set_option maxRecDepth 100000 in
theorem u137 : (.fieldLink "java/lang/Throwable" 24 "java/lang/Throwable" "suppressedExceptions" "Ljava/util/List;" : Cond) ∈ wsU := List.mem_of_getElem? (i := 137) rfl
set_option maxRecDepth 100000 in
theorem u138 : (.soleField "java/lang/Throwable" "backtrace" : Cond) ∈ wsU := List.mem_of_getElem? (i := 138) rfl
set_option maxRecDepth 100000 in
theorem u139 : (.soleField "java/lang/Throwable" "detailMessage" : Cond) ∈ wsU := List.mem_of_getElem? (i := 139) rfl
set_option maxRecDepth 100000 in
theorem u140 : (.soleField "java/lang/Throwable" "cause" : Cond) ∈ wsU := List.mem_of_getElem? (i := 140) rfl
set_option maxRecDepth 100000 in
theorem u141 : (.soleField "java/lang/Throwable" "stackTrace" : Cond) ∈ wsU := List.mem_of_getElem? (i := 141) rfl
set_option maxRecDepth 100000 in
theorem u142 : (.lays "java/lang/IllegalArgumentException" "java/lang/Throwable" "depth" "I" : Cond) ∈ wsU := List.mem_of_getElem? (i := 142) rfl
set_option maxRecDepth 100000 in
theorem u143 : (.soleField "java/lang/Throwable" "depth" : Cond) ∈ wsU := List.mem_of_getElem? (i := 143) rfl
set_option maxRecDepth 100000 in
theorem u144 : (.soleField "java/lang/Throwable" "suppressedExceptions" : Cond) ∈ wsU := List.mem_of_getElem? (i := 144) rfl
set_option maxRecDepth 100000 in
theorem u145 : (.superclass "java/lang/IllegalArgumentException" "java/lang/RuntimeException" : Cond) ∈ wsU := List.mem_of_getElem? (i := 145) rfl
set_option maxRecDepth 100000 in
theorem u146 : (.arrayClass .byte : Cond) ∈ wsU := List.mem_of_getElem? (i := 146) rfl
set_option maxRecDepth 100000 in
theorem u147 : (.methodLink "NoiseRingLaw" 73 ⟨"NoiseRingLaw", "set", "(LNoiseRing;III[J)I"⟩ : Cond) ∈ wsU := List.mem_of_getElem? (i := 147) rfl
set_option maxRecDepth 100000 in
theorem u148 : (.static ⟨"NoiseRingLaw", "set", "(LNoiseRing;III[J)I"⟩ : Cond) ∈ wsU := List.mem_of_getElem? (i := 148) rfl
set_option maxRecDepth 100000 in
theorem u149 : (.codeWith ⟨"NoiseRingLaw", "set", "(LNoiseRing;III[J)I"⟩ method_4_code 6 (some .int) [(0, 12, 15, 19)] : Cond) ∈ wsU := List.mem_of_getElem? (i := 149) rfl
set_option maxRecDepth 100000 in
theorem u150 : (.classLink "NoiseRingLaw" 19 "java/util/NoSuchElementException" : Cond) ∈ wsU := List.mem_of_getElem? (i := 150) rfl
set_option maxRecDepth 100000 in
theorem u151 : (.methodLink "NoiseRingLaw" 15 ⟨"NoiseRing", "set", "(III)I"⟩ : Cond) ∈ wsU := List.mem_of_getElem? (i := 151) rfl
set_option maxRecDepth 100000 in
theorem u152 : (.instanceMethod ⟨"NoiseRing", "set", "(III)I"⟩ : Cond) ∈ wsU := List.mem_of_getElem? (i := 152) rfl
set_option maxRecDepth 100000 in
theorem u153 : (.selects "NoiseRing" ⟨"NoiseRing", "set", "(III)I"⟩ ⟨"NoiseRing", "set", "(III)I"⟩ : Cond) ∈ wsU := List.mem_of_getElem? (i := 153) rfl
set_option maxRecDepth 100000 in
theorem u154 : (.code ⟨"NoiseRing", "set", "(III)I"⟩ prog_1_method_3_code 5 (some .int) : Cond) ∈ wsU := List.mem_of_getElem? (i := 154) rfl
set_option maxRecDepth 100000 in
theorem u155 : (.methodLink "NoiseRing" 33 ⟨"NoiseRing", "needRegister", "(I)V"⟩ : Cond) ∈ wsU := List.mem_of_getElem? (i := 155) rfl
set_option maxRecDepth 100000 in
theorem u156 : (.static ⟨"NoiseRing", "needRegister", "(I)V"⟩ : Cond) ∈ wsU := List.mem_of_getElem? (i := 156) rfl
set_option maxRecDepth 100000 in
theorem u157 : (.code ⟨"NoiseRing", "needRegister", "(I)V"⟩ prog_1_method_16_code 1 (none : Option Jvm.ClassFile.FieldType) : Cond) ∈ wsU := List.mem_of_getElem? (i := 157) rfl
set_option maxRecDepth 100000 in
theorem u158 : (.classLink "NoiseRing" 113 "java/util/NoSuchElementException" : Cond) ∈ wsU := List.mem_of_getElem? (i := 158) rfl
set_option maxRecDepth 100000 in
theorem u159 : (.instantiable "java/util/NoSuchElementException" 6 : Cond) ∈ wsU := List.mem_of_getElem? (i := 159) rfl
set_option maxRecDepth 100000 in
theorem u160 : (.selects "java/util/NoSuchElementException" ⟨"java/lang/Throwable", "fillInStackTrace", "(I)Ljava/lang/Throwable;"⟩ ⟨"java/lang/Throwable", "fillInStackTrace", "(I)Ljava/lang/Throwable;"⟩ : Cond) ∈ wsU := List.mem_of_getElem? (i := 160) rfl
set_option maxRecDepth 100000 in
theorem u161 : (.lays "java/util/NoSuchElementException" "java/lang/Throwable" "cause" "Ljava/lang/Throwable;" : Cond) ∈ wsU := List.mem_of_getElem? (i := 161) rfl
set_option maxRecDepth 100000 in
theorem u162 : (.lays "java/util/NoSuchElementException" "java/lang/Throwable" "stackTrace" "[Ljava/lang/StackTraceElement;" : Cond) ∈ wsU := List.mem_of_getElem? (i := 162) rfl
set_option maxRecDepth 100000 in
theorem u163 : (.lays "java/util/NoSuchElementException" "java/lang/Throwable" "suppressedExceptions" "Ljava/util/List;" : Cond) ∈ wsU := List.mem_of_getElem? (i := 163) rfl
set_option maxRecDepth 100000 in
theorem u164 : (.lays "java/util/NoSuchElementException" "java/lang/Throwable" "detailMessage" "Ljava/lang/String;" : Cond) ∈ wsU := List.mem_of_getElem? (i := 164) rfl
set_option maxRecDepth 100000 in
theorem u165 : (.lays "java/util/NoSuchElementException" "java/lang/Throwable" "backtrace" "Ljava/lang/Object;" : Cond) ∈ wsU := List.mem_of_getElem? (i := 165) rfl
set_option maxRecDepth 100000 in
theorem u166 : (.methodLink "NoiseRing" 117 ⟨"java/util/NoSuchElementException", "<init>", "(Ljava/lang/String;)V"⟩ : Cond) ∈ wsU := List.mem_of_getElem? (i := 166) rfl
set_option maxRecDepth 100000 in
theorem u167 : (.instanceMethod ⟨"java/util/NoSuchElementException", "<init>", "(Ljava/lang/String;)V"⟩ : Cond) ∈ wsU := List.mem_of_getElem? (i := 167) rfl
set_option maxRecDepth 100000 in
theorem u168 : (.code ⟨"java/util/NoSuchElementException", "<init>", "(Ljava/lang/String;)V"⟩ prog_11_method_4_code 2 (none : Option Jvm.ClassFile.FieldType) : Cond) ∈ wsU := List.mem_of_getElem? (i := 168) rfl
set_option maxRecDepth 100000 in
theorem u169 : (.methodLink "java/util/NoSuchElementException" 13 ⟨"java/lang/RuntimeException", "<init>", "(Ljava/lang/String;)V"⟩ : Cond) ∈ wsU := List.mem_of_getElem? (i := 169) rfl
set_option maxRecDepth 100000 in
theorem u170 : (.lays "java/util/NoSuchElementException" "java/lang/Throwable" "depth" "I" : Cond) ∈ wsU := List.mem_of_getElem? (i := 170) rfl
set_option maxRecDepth 100000 in
theorem u171 : (.superclass "java/util/NoSuchElementException" "java/lang/RuntimeException" : Cond) ∈ wsU := List.mem_of_getElem? (i := 171) rfl
set_option maxRecDepth 100000 in
theorem u172 : (.methodLink "NoiseRing" 36 ⟨"NoiseRing", "needPlace", "(I)V"⟩ : Cond) ∈ wsU := List.mem_of_getElem? (i := 172) rfl
set_option maxRecDepth 100000 in
theorem u173 : (.static ⟨"NoiseRing", "needPlace", "(I)V"⟩ : Cond) ∈ wsU := List.mem_of_getElem? (i := 173) rfl
set_option maxRecDepth 100000 in
theorem u174 : (.code ⟨"NoiseRing", "needPlace", "(I)V"⟩ prog_1_method_17_code 1 (none : Option Jvm.ClassFile.FieldType) : Cond) ∈ wsU := List.mem_of_getElem? (i := 174) rfl
set_option maxRecDepth 100000 in
theorem u175 : (.methodLink "NoiseRing" 39 ⟨"java/lang/Math", "floorMod", "(II)I"⟩ : Cond) ∈ wsU := List.mem_of_getElem? (i := 175) rfl
set_option maxRecDepth 100000 in
theorem u176 : (.static ⟨"java/lang/Math", "floorMod", "(II)I"⟩ : Cond) ∈ wsU := List.mem_of_getElem? (i := 176) rfl
set_option maxRecDepth 100000 in
theorem u177 : (.code ⟨"java/lang/Math", "floorMod", "(II)I"⟩ prog_6_method_50_code 3 (some .int) : Cond) ∈ wsU := List.mem_of_getElem? (i := 177) rfl
set_option maxRecDepth 100000 in
theorem u178 : (.methodLink "NoiseRingLaw" 77 ⟨"NoiseRingLaw", "get", "(LNoiseRing;II[J)I"⟩ : Cond) ∈ wsU := List.mem_of_getElem? (i := 178) rfl
set_option maxRecDepth 100000 in
theorem u179 : (.static ⟨"NoiseRingLaw", "get", "(LNoiseRing;II[J)I"⟩ : Cond) ∈ wsU := List.mem_of_getElem? (i := 179) rfl
set_option maxRecDepth 100000 in
theorem u180 : (.codeWith ⟨"NoiseRingLaw", "get", "(LNoiseRing;II[J)I"⟩ method_5_code 5 (some .int) [(0, 10, 13, 19)] : Cond) ∈ wsU := List.mem_of_getElem? (i := 180) rfl
set_option maxRecDepth 100000 in
theorem u181 : (.methodLink "NoiseRingLaw" 21 ⟨"NoiseRing", "get", "(II)I"⟩ : Cond) ∈ wsU := List.mem_of_getElem? (i := 181) rfl
set_option maxRecDepth 100000 in
theorem u182 : (.instanceMethod ⟨"NoiseRing", "get", "(II)I"⟩ : Cond) ∈ wsU := List.mem_of_getElem? (i := 182) rfl
set_option maxRecDepth 100000 in
theorem u183 : (.selects "NoiseRing" ⟨"NoiseRing", "get", "(II)I"⟩ ⟨"NoiseRing", "get", "(II)I"⟩ : Cond) ∈ wsU := List.mem_of_getElem? (i := 183) rfl
set_option maxRecDepth 100000 in
theorem u184 : (.code ⟨"NoiseRing", "get", "(II)I"⟩ prog_1_method_4_code 3 (some .int) : Cond) ∈ wsU := List.mem_of_getElem? (i := 184) rfl
set_option maxRecDepth 100000 in
theorem u185 : (.methodLink "NoiseRingLaw" 81 ⟨"NoiseRingLaw", "join", "(LNoiseRing;IIII[J)I"⟩ : Cond) ∈ wsU := List.mem_of_getElem? (i := 185) rfl
set_option maxRecDepth 100000 in
theorem u186 : (.static ⟨"NoiseRingLaw", "join", "(LNoiseRing;IIII[J)I"⟩ : Cond) ∈ wsU := List.mem_of_getElem? (i := 186) rfl
set_option maxRecDepth 100000 in
theorem u187 : (.codeWith ⟨"NoiseRingLaw", "join", "(LNoiseRing;IIII[J)I"⟩ method_6_code 7 (some .int) [(0, 14, 17, 19), (0, 14, 21, 13)] : Cond) ∈ wsU := List.mem_of_getElem? (i := 187) rfl
set_option maxRecDepth 100000 in
theorem u188 : (.methodLink "NoiseRingLaw" 25 ⟨"NoiseRing", "join", "(IIII)I"⟩ : Cond) ∈ wsU := List.mem_of_getElem? (i := 188) rfl
set_option maxRecDepth 100000 in
theorem u189 : (.instanceMethod ⟨"NoiseRing", "join", "(IIII)I"⟩ : Cond) ∈ wsU := List.mem_of_getElem? (i := 189) rfl
set_option maxRecDepth 100000 in
theorem u190 : (.selects "NoiseRing" ⟨"NoiseRing", "join", "(IIII)I"⟩ ⟨"NoiseRing", "join", "(IIII)I"⟩ : Cond) ∈ wsU := List.mem_of_getElem? (i := 190) rfl
set_option maxRecDepth 100000 in
theorem u191 : (.code ⟨"NoiseRing", "join", "(IIII)I"⟩ prog_1_method_5_code 6 (some .int) : Cond) ∈ wsU := List.mem_of_getElem? (i := 191) rfl
set_option maxRecDepth 100000 in
theorem u192 : (.methodLink "NoiseRing" 45 ⟨"NoiseRing", "joined", "(I[I[II)I"⟩ : Cond) ∈ wsU := List.mem_of_getElem? (i := 192) rfl
set_option maxRecDepth 100000 in
theorem u193 : (.instanceMethod ⟨"NoiseRing", "joined", "(I[I[II)I"⟩ : Cond) ∈ wsU := List.mem_of_getElem? (i := 193) rfl
set_option maxRecDepth 100000 in
theorem u194 : (.code ⟨"NoiseRing", "joined", "(I[I[II)I"⟩ prog_1_method_21_code 5 (some .int) : Cond) ∈ wsU := List.mem_of_getElem? (i := 194) rfl
set_option maxRecDepth 100000 in
theorem u195 : (.methodLink "NoiseRing" 127 ⟨"NoiseRing", "productAt", "([I[II)I"⟩ : Cond) ∈ wsU := List.mem_of_getElem? (i := 195) rfl
set_option maxRecDepth 100000 in
theorem u196 : (.instanceMethod ⟨"NoiseRing", "productAt", "([I[II)I"⟩ : Cond) ∈ wsU := List.mem_of_getElem? (i := 196) rfl
set_option maxRecDepth 100000 in
theorem u197 : (.code ⟨"NoiseRing", "productAt", "([I[II)I"⟩ prog_1_method_22_code 7 (some .int) : Cond) ∈ wsU := List.mem_of_getElem? (i := 197) rfl
set_option maxRecDepth 100000 in
theorem u198 : (.methodLink "NoiseRing" 131 ⟨"java/lang/Math", "floorMod", "(JJ)J"⟩ : Cond) ∈ wsU := List.mem_of_getElem? (i := 198) rfl
set_option maxRecDepth 100000 in
theorem u199 : (.static ⟨"java/lang/Math", "floorMod", "(JJ)J"⟩ : Cond) ∈ wsU := List.mem_of_getElem? (i := 199) rfl
set_option maxRecDepth 100000 in
theorem u200 : (.code ⟨"java/lang/Math", "floorMod", "(JJ)J"⟩ prog_6_method_52_code 6 (some .long) : Cond) ∈ wsU := List.mem_of_getElem? (i := 200) rfl
set_option maxRecDepth 100000 in
theorem u201 : (.methodLink "NoiseRing" 49 ⟨"java/lang/System", "arraycopy", "(Ljava/lang/Object;ILjava/lang/Object;II)V"⟩ : Cond) ∈ wsU := List.mem_of_getElem? (i := 201) rfl
set_option maxRecDepth 100000 in
theorem u202 : (.static ⟨"java/lang/System", "arraycopy", "(Ljava/lang/Object;ILjava/lang/Object;II)V"⟩ : Cond) ∈ wsU := List.mem_of_getElem? (i := 202) rfl
set_option maxRecDepth 100000 in
theorem u203 : (.native ⟨"java/lang/System", "arraycopy", "(Ljava/lang/Object;ILjava/lang/Object;II)V"⟩ : Cond) ∈ wsU := List.mem_of_getElem? (i := 203) rfl
set_option maxRecDepth 100000 in
theorem u204 : (.methodLink "NoiseRing" 55 ⟨"NoiseRing", "greatestSize", "([I)I"⟩ : Cond) ∈ wsU := List.mem_of_getElem? (i := 204) rfl
set_option maxRecDepth 100000 in
theorem u205 : (.instanceMethod ⟨"NoiseRing", "greatestSize", "([I)I"⟩ : Cond) ∈ wsU := List.mem_of_getElem? (i := 205) rfl
set_option maxRecDepth 100000 in
theorem u206 : (.code ⟨"NoiseRing", "greatestSize", "([I)I"⟩ prog_1_method_24_code 4 (some .int) : Cond) ∈ wsU := List.mem_of_getElem? (i := 206) rfl
set_option maxRecDepth 100000 in
theorem u207 : (.methodLink "NoiseRing" 85 ⟨"NoiseRing", "centredSize", "(I)I"⟩ : Cond) ∈ wsU := List.mem_of_getElem? (i := 207) rfl
set_option maxRecDepth 100000 in
theorem u208 : (.instanceMethod ⟨"NoiseRing", "centredSize", "(I)I"⟩ : Cond) ∈ wsU := List.mem_of_getElem? (i := 208) rfl
set_option maxRecDepth 100000 in
theorem u209 : (.code ⟨"NoiseRing", "centredSize", "(I)I"⟩ prog_1_method_23_code 2 (some .int) : Cond) ∈ wsU := List.mem_of_getElem? (i := 209) rfl
set_option maxRecDepth 100000 in
theorem u210 : (.methodLink "NoiseRing" 134 ⟨"java/lang/Math", "min", "(II)I"⟩ : Cond) ∈ wsU := List.mem_of_getElem? (i := 210) rfl
set_option maxRecDepth 100000 in
theorem u211 : (.static ⟨"java/lang/Math", "min", "(II)I"⟩ : Cond) ∈ wsU := List.mem_of_getElem? (i := 211) rfl
set_option maxRecDepth 100000 in
theorem u212 : (.code ⟨"java/lang/Math", "min", "(II)I"⟩ prog_6_method_69_code 2 (some .int) : Cond) ∈ wsU := List.mem_of_getElem? (i := 212) rfl
set_option maxRecDepth 100000 in
theorem u213 : (.methodLink "NoiseRing" 137 ⟨"java/lang/Math", "max", "(II)I"⟩ : Cond) ∈ wsU := List.mem_of_getElem? (i := 213) rfl
set_option maxRecDepth 100000 in
theorem u214 : (.static ⟨"java/lang/Math", "max", "(II)I"⟩ : Cond) ∈ wsU := List.mem_of_getElem? (i := 214) rfl
set_option maxRecDepth 100000 in
theorem u215 : (.code ⟨"java/lang/Math", "max", "(II)I"⟩ prog_6_method_65_code 2 (some .int) : Cond) ∈ wsU := List.mem_of_getElem? (i := 215) rfl
set_option maxRecDepth 100000 in
theorem u216 : (.methodLink "NoiseRingLaw" 85 ⟨"NoiseRingLaw", "round", "(LNoiseRing;IIII[J)I"⟩ : Cond) ∈ wsU := List.mem_of_getElem? (i := 216) rfl
set_option maxRecDepth 100000 in
theorem u217 : (.static ⟨"NoiseRingLaw", "round", "(LNoiseRing;IIII[J)I"⟩ : Cond) ∈ wsU := List.mem_of_getElem? (i := 217) rfl
set_option maxRecDepth 100000 in
theorem u218 : (.codeWith ⟨"NoiseRingLaw", "round", "(LNoiseRing;IIII[J)I"⟩ method_7_code 7 (some .int) [(0, 14, 17, 19), (0, 14, 21, 13)] : Cond) ∈ wsU := List.mem_of_getElem? (i := 218) rfl
set_option maxRecDepth 100000 in
theorem u219 : (.methodLink "NoiseRingLaw" 29 ⟨"NoiseRing", "round", "(IIII)I"⟩ : Cond) ∈ wsU := List.mem_of_getElem? (i := 219) rfl
set_option maxRecDepth 100000 in
theorem u220 : (.instanceMethod ⟨"NoiseRing", "round", "(IIII)I"⟩ : Cond) ∈ wsU := List.mem_of_getElem? (i := 220) rfl
set_option maxRecDepth 100000 in
theorem u221 : (.selects "NoiseRing" ⟨"NoiseRing", "round", "(IIII)I"⟩ ⟨"NoiseRing", "round", "(IIII)I"⟩ : Cond) ∈ wsU := List.mem_of_getElem? (i := 221) rfl
set_option maxRecDepth 100000 in
theorem u222 : (.code ⟨"NoiseRing", "round", "(IIII)I"⟩ prog_1_method_6_code 6 (some .int) : Cond) ∈ wsU := List.mem_of_getElem? (i := 222) rfl
set_option maxRecDepth 100000 in
theorem u223 : (.fieldLink "NoiseRing" 59 "NoiseRing" "MOST_BITS" "[I" : Cond) ∈ wsU := List.mem_of_getElem? (i := 223) rfl
set_option maxRecDepth 100000 in
theorem u224 : (.methodLink "NoiseRing" 65 ⟨"NoiseRing", "rounded", "(III)I"⟩ : Cond) ∈ wsU := List.mem_of_getElem? (i := 224) rfl
set_option maxRecDepth 100000 in
theorem u225 : (.instanceMethod ⟨"NoiseRing", "rounded", "(III)I"⟩ : Cond) ∈ wsU := List.mem_of_getElem? (i := 225) rfl
set_option maxRecDepth 100000 in
theorem u226 : (.code ⟨"NoiseRing", "rounded", "(III)I"⟩ prog_1_method_27_code 4 (some .int) : Cond) ∈ wsU := List.mem_of_getElem? (i := 226) rfl
set_option maxRecDepth 100000 in
theorem u227 : (.methodLink "NoiseRing" 140 ⟨"NoiseRing", "fewerBits", "(II)I"⟩ : Cond) ∈ wsU := List.mem_of_getElem? (i := 227) rfl
set_option maxRecDepth 100000 in
theorem u228 : (.instanceMethod ⟨"NoiseRing", "fewerBits", "(II)I"⟩ : Cond) ∈ wsU := List.mem_of_getElem? (i := 228) rfl
set_option maxRecDepth 100000 in
theorem u229 : (.code ⟨"NoiseRing", "fewerBits", "(II)I"⟩ prog_1_method_29_code 5 (some .int) : Cond) ∈ wsU := List.mem_of_getElem? (i := 229) rfl
set_option maxRecDepth 100000 in
theorem u230 : (.constantLong "NoiseRing" 152 (2 : Int64) : Cond) ∈ wsU := List.mem_of_getElem? (i := 230) rfl
set_option maxRecDepth 100000 in
theorem u231 : (.methodLink "NoiseRing" 143 ⟨"NoiseRing", "lowMask", "(I)I"⟩ : Cond) ∈ wsU := List.mem_of_getElem? (i := 231) rfl
set_option maxRecDepth 100000 in
theorem u232 : (.static ⟨"NoiseRing", "lowMask", "(I)I"⟩ : Cond) ∈ wsU := List.mem_of_getElem? (i := 232) rfl
set_option maxRecDepth 100000 in
theorem u233 : (.code ⟨"NoiseRing", "lowMask", "(I)I"⟩ prog_1_method_28_code 1 (some .int) : Cond) ∈ wsU := List.mem_of_getElem? (i := 233) rfl
set_option maxRecDepth 100000 in
theorem u234 : (.methodLink "NoiseRing" 146 ⟨"NoiseRing", "moreBits", "(II)I"⟩ : Cond) ∈ wsU := List.mem_of_getElem? (i := 234) rfl
set_option maxRecDepth 100000 in
theorem u235 : (.instanceMethod ⟨"NoiseRing", "moreBits", "(II)I"⟩ : Cond) ∈ wsU := List.mem_of_getElem? (i := 235) rfl
set_option maxRecDepth 100000 in
theorem u236 : (.code ⟨"NoiseRing", "moreBits", "(II)I"⟩ prog_1_method_30_code 3 (some .int) : Cond) ∈ wsU := List.mem_of_getElem? (i := 236) rfl
set_option maxRecDepth 100000 in
theorem u237 : (.methodLink "NoiseRing" 149 ⟨"NoiseRing", "lowBits", "(II)I"⟩ : Cond) ∈ wsU := List.mem_of_getElem? (i := 237) rfl
set_option maxRecDepth 100000 in
theorem u238 : (.static ⟨"NoiseRing", "lowBits", "(II)I"⟩ : Cond) ∈ wsU := List.mem_of_getElem? (i := 238) rfl
set_option maxRecDepth 100000 in
theorem u239 : (.code ⟨"NoiseRing", "lowBits", "(II)I"⟩ prog_1_method_31_code 3 (some .int) : Cond) ∈ wsU := List.mem_of_getElem? (i := 239) rfl
set_option maxRecDepth 100000 in
theorem u240 : (.methodLink "NoiseRingLaw" 88 ⟨"NoiseRingLaw", "part", "(LNoiseRing;IIIZ[J)I"⟩ : Cond) ∈ wsU := List.mem_of_getElem? (i := 240) rfl
set_option maxRecDepth 100000 in
theorem u241 : (.static ⟨"NoiseRingLaw", "part", "(LNoiseRing;IIIZ[J)I"⟩ : Cond) ∈ wsU := List.mem_of_getElem? (i := 241) rfl
set_option maxRecDepth 100000 in
theorem u242 : (.codeWith ⟨"NoiseRingLaw", "part", "(LNoiseRing;IIIZ[J)I"⟩ method_8_code 7 (some .int) [(0, 14, 17, 19), (0, 14, 21, 13)] : Cond) ∈ wsU := List.mem_of_getElem? (i := 242) rfl
set_option maxRecDepth 100000 in
theorem u243 : (.methodLink "NoiseRingLaw" 32 ⟨"NoiseRing", "part", "(IIIZ)I"⟩ : Cond) ∈ wsU := List.mem_of_getElem? (i := 243) rfl
set_option maxRecDepth 100000 in
theorem u244 : (.instanceMethod ⟨"NoiseRing", "part", "(IIIZ)I"⟩ : Cond) ∈ wsU := List.mem_of_getElem? (i := 244) rfl
set_option maxRecDepth 100000 in
theorem u245 : (.selects "NoiseRing" ⟨"NoiseRing", "part", "(IIIZ)I"⟩ ⟨"NoiseRing", "part", "(IIIZ)I"⟩ : Cond) ∈ wsU := List.mem_of_getElem? (i := 245) rfl
set_option maxRecDepth 100000 in
theorem u246 : (.code ⟨"NoiseRing", "part", "(IIIZ)I"⟩ prog_1_method_7_code 7 (some .int) : Cond) ∈ wsU := List.mem_of_getElem? (i := 246) rfl
set_option maxRecDepth 100000 in
theorem u247 : (.methodLink "NoiseRing" 72 ⟨"NoiseRing", "isAlpha", "(I)Z"⟩ : Cond) ∈ wsU := List.mem_of_getElem? (i := 247) rfl
set_option maxRecDepth 100000 in
theorem u248 : (.instanceMethod ⟨"NoiseRing", "isAlpha", "(I)Z"⟩ : Cond) ∈ wsU := List.mem_of_getElem? (i := 248) rfl
set_option maxRecDepth 100000 in
theorem u249 : (.code ⟨"NoiseRing", "isAlpha", "(I)Z"⟩ prog_1_method_32_code 2 (some .boolean) : Cond) ∈ wsU := List.mem_of_getElem? (i := 249) rfl
set_option maxRecDepth 100000 in
theorem u250 : (.methodLink "NoiseRing" 76 ⟨"NoiseRing", "partOf", "(II)I"⟩ : Cond) ∈ wsU := List.mem_of_getElem? (i := 250) rfl
set_option maxRecDepth 100000 in
theorem u251 : (.instanceMethod ⟨"NoiseRing", "partOf", "(II)I"⟩ : Cond) ∈ wsU := List.mem_of_getElem? (i := 251) rfl
set_option maxRecDepth 100000 in
theorem u252 : (.code ⟨"NoiseRing", "partOf", "(II)I"⟩ prog_1_method_35_code 4 (some .int) : Cond) ∈ wsU := List.mem_of_getElem? (i := 252) rfl
set_option maxRecDepth 100000 in
theorem u253 : (.methodLink "NoiseRing" 154 ⟨"NoiseRing", "nearRest", "(II)I"⟩ : Cond) ∈ wsU := List.mem_of_getElem? (i := 253) rfl
set_option maxRecDepth 100000 in
theorem u254 : (.static ⟨"NoiseRing", "nearRest", "(II)I"⟩ : Cond) ∈ wsU := List.mem_of_getElem? (i := 254) rfl
set_option maxRecDepth 100000 in
theorem u255 : (.code ⟨"NoiseRing", "nearRest", "(II)I"⟩ prog_1_method_33_code 3 (some .int) : Cond) ∈ wsU := List.mem_of_getElem? (i := 255) rfl
set_option maxRecDepth 100000 in
theorem u256 : (.methodLink "NoiseRing" 79 ⟨"NoiseRing", "restOf", "(II)I"⟩ : Cond) ∈ wsU := List.mem_of_getElem? (i := 256) rfl
set_option maxRecDepth 100000 in
theorem u257 : (.instanceMethod ⟨"NoiseRing", "restOf", "(II)I"⟩ : Cond) ∈ wsU := List.mem_of_getElem? (i := 257) rfl
set_option maxRecDepth 100000 in
theorem u258 : (.code ⟨"NoiseRing", "restOf", "(II)I"⟩ prog_1_method_34_code 4 (some .int) : Cond) ∈ wsU := List.mem_of_getElem? (i := 258) rfl
set_option maxRecDepth 100000 in
theorem u259 : (.methodLink "NoiseRingLaw" 92 ⟨"NoiseRingLaw", "hint", "(LNoiseRing;IIII[J)I"⟩ : Cond) ∈ wsU := List.mem_of_getElem? (i := 259) rfl
set_option maxRecDepth 100000 in
theorem u260 : (.static ⟨"NoiseRingLaw", "hint", "(LNoiseRing;IIII[J)I"⟩ : Cond) ∈ wsU := List.mem_of_getElem? (i := 260) rfl
set_option maxRecDepth 100000 in
theorem u261 : (.codeWith ⟨"NoiseRingLaw", "hint", "(LNoiseRing;IIII[J)I"⟩ method_9_code 7 (some .int) [(0, 14, 17, 19), (0, 14, 21, 13)] : Cond) ∈ wsU := List.mem_of_getElem? (i := 261) rfl
set_option maxRecDepth 100000 in
theorem u262 : (.methodLink "NoiseRingLaw" 36 ⟨"NoiseRing", "hint", "(IIII)I"⟩ : Cond) ∈ wsU := List.mem_of_getElem? (i := 262) rfl
set_option maxRecDepth 100000 in
theorem u263 : (.instanceMethod ⟨"NoiseRing", "hint", "(IIII)I"⟩ : Cond) ∈ wsU := List.mem_of_getElem? (i := 263) rfl
set_option maxRecDepth 100000 in
theorem u264 : (.selects "NoiseRing" ⟨"NoiseRing", "hint", "(IIII)I"⟩ ⟨"NoiseRing", "hint", "(IIII)I"⟩ : Cond) ∈ wsU := List.mem_of_getElem? (i := 264) rfl
set_option maxRecDepth 100000 in
theorem u265 : (.code ⟨"NoiseRing", "hint", "(IIII)I"⟩ prog_1_method_8_code 8 (some .int) : Cond) ∈ wsU := List.mem_of_getElem? (i := 265) rfl
set_option maxRecDepth 100000 in
theorem u266 : (.methodLink "NoiseRingLaw" 95 ⟨"NoiseRingLaw", "use", "(LNoiseRing;IIII[J)I"⟩ : Cond) ∈ wsU := List.mem_of_getElem? (i := 266) rfl
set_option maxRecDepth 100000 in
theorem u267 : (.static ⟨"NoiseRingLaw", "use", "(LNoiseRing;IIII[J)I"⟩ : Cond) ∈ wsU := List.mem_of_getElem? (i := 267) rfl
set_option maxRecDepth 100000 in
theorem u268 : (.codeWith ⟨"NoiseRingLaw", "use", "(LNoiseRing;IIII[J)I"⟩ method_10_code 7 (some .int) [(0, 14, 17, 19), (0, 14, 21, 13)] : Cond) ∈ wsU := List.mem_of_getElem? (i := 268) rfl
set_option maxRecDepth 100000 in
theorem u269 : (.methodLink "NoiseRingLaw" 39 ⟨"NoiseRing", "use", "(IIII)I"⟩ : Cond) ∈ wsU := List.mem_of_getElem? (i := 269) rfl
set_option maxRecDepth 100000 in
theorem u270 : (.instanceMethod ⟨"NoiseRing", "use", "(IIII)I"⟩ : Cond) ∈ wsU := List.mem_of_getElem? (i := 270) rfl
set_option maxRecDepth 100000 in
theorem u271 : (.selects "NoiseRing" ⟨"NoiseRing", "use", "(IIII)I"⟩ ⟨"NoiseRing", "use", "(IIII)I"⟩ : Cond) ∈ wsU := List.mem_of_getElem? (i := 271) rfl
set_option maxRecDepth 100000 in
theorem u272 : (.code ⟨"NoiseRing", "use", "(IIII)I"⟩ prog_1_method_9_code 10 (some .int) : Cond) ∈ wsU := List.mem_of_getElem? (i := 272) rfl
set_option maxRecDepth 100000 in
theorem u273 : (.methodLink "NoiseRing" 82 ⟨"NoiseRing", "movedPart", "(II)I"⟩ : Cond) ∈ wsU := List.mem_of_getElem? (i := 273) rfl
set_option maxRecDepth 100000 in
theorem u274 : (.instanceMethod ⟨"NoiseRing", "movedPart", "(II)I"⟩ : Cond) ∈ wsU := List.mem_of_getElem? (i := 274) rfl
set_option maxRecDepth 100000 in
theorem u275 : (.code ⟨"NoiseRing", "movedPart", "(II)I"⟩ prog_1_method_36_code 4 (some .int) : Cond) ∈ wsU := List.mem_of_getElem? (i := 275) rfl
set_option maxRecDepth 100000 in
theorem u276 : (.methodLink "NoiseRingLaw" 98 ⟨"NoiseRingLaw", "size", "(LNoiseRing;I[J)I"⟩ : Cond) ∈ wsU := List.mem_of_getElem? (i := 276) rfl
set_option maxRecDepth 100000 in
theorem u277 : (.static ⟨"NoiseRingLaw", "size", "(LNoiseRing;I[J)I"⟩ : Cond) ∈ wsU := List.mem_of_getElem? (i := 277) rfl
set_option maxRecDepth 100000 in
theorem u278 : (.codeWith ⟨"NoiseRingLaw", "size", "(LNoiseRing;I[J)I"⟩ method_11_code 4 (some .int) [(0, 9, 12, 19)] : Cond) ∈ wsU := List.mem_of_getElem? (i := 278) rfl
set_option maxRecDepth 100000 in
theorem u279 : (.methodLink "NoiseRingLaw" 42 ⟨"NoiseRing", "size", "(I)I"⟩ : Cond) ∈ wsU := List.mem_of_getElem? (i := 279) rfl
set_option maxRecDepth 100000 in
theorem u280 : (.instanceMethod ⟨"NoiseRing", "size", "(I)I"⟩ : Cond) ∈ wsU := List.mem_of_getElem? (i := 280) rfl
set_option maxRecDepth 100000 in
theorem u281 : (.selects "NoiseRing" ⟨"NoiseRing", "size", "(I)I"⟩ ⟨"NoiseRing", "size", "(I)I"⟩ : Cond) ∈ wsU := List.mem_of_getElem? (i := 281) rfl
set_option maxRecDepth 100000 in
theorem u282 : (.code ⟨"NoiseRing", "size", "(I)I"⟩ prog_1_method_10_code 2 (some .int) : Cond) ∈ wsU := List.mem_of_getElem? (i := 282) rfl
set_option maxRecDepth 100000 in
theorem u283 : (.methodLink "NoiseRingLaw" 101 ⟨"NoiseRingLaw", "far", "(LNoiseRing;II[J)I"⟩ : Cond) ∈ wsU := List.mem_of_getElem? (i := 283) rfl
set_option maxRecDepth 100000 in
theorem u284 : (.static ⟨"NoiseRingLaw", "far", "(LNoiseRing;II[J)I"⟩ : Cond) ∈ wsU := List.mem_of_getElem? (i := 284) rfl
set_option maxRecDepth 100000 in
theorem u285 : (.codeWith ⟨"NoiseRingLaw", "far", "(LNoiseRing;II[J)I"⟩ method_12_code 5 (some .int) [(0, 10, 13, 19)] : Cond) ∈ wsU := List.mem_of_getElem? (i := 285) rfl
set_option maxRecDepth 100000 in
theorem u286 : (.methodLink "NoiseRingLaw" 45 ⟨"NoiseRing", "far", "(II)I"⟩ : Cond) ∈ wsU := List.mem_of_getElem? (i := 286) rfl
set_option maxRecDepth 100000 in
theorem u287 : (.instanceMethod ⟨"NoiseRing", "far", "(II)I"⟩ : Cond) ∈ wsU := List.mem_of_getElem? (i := 287) rfl
set_option maxRecDepth 100000 in
theorem u288 : (.selects "NoiseRing" ⟨"NoiseRing", "far", "(II)I"⟩ ⟨"NoiseRing", "far", "(II)I"⟩ : Cond) ∈ wsU := List.mem_of_getElem? (i := 288) rfl
set_option maxRecDepth 100000 in
theorem u289 : (.code ⟨"NoiseRing", "far", "(II)I"⟩ prog_1_method_11_code 5 (some .int) : Cond) ∈ wsU := List.mem_of_getElem? (i := 289) rfl
set_option maxRecDepth 100000 in
theorem u290 : (.methodLink "NoiseRingLaw" 106 ⟨"NoiseRingLaw", "noise", "(LNoiseRing;IIJJ[J)I"⟩ : Cond) ∈ wsU := List.mem_of_getElem? (i := 290) rfl
set_option maxRecDepth 100000 in
theorem u291 : (.static ⟨"NoiseRingLaw", "noise", "(LNoiseRing;IIJJ[J)I"⟩ : Cond) ∈ wsU := List.mem_of_getElem? (i := 291) rfl
set_option maxRecDepth 100000 in
theorem u292 : (.codeWith ⟨"NoiseRingLaw", "noise", "(LNoiseRing;IIJJ[J)I"⟩ method_13_code 9 (some .int) [(0, 14, 17, 19), (0, 14, 21, 13)] : Cond) ∈ wsU := List.mem_of_getElem? (i := 292) rfl
set_option maxRecDepth 100000 in
theorem u293 : (.methodLink "NoiseRingLaw" 48 ⟨"NoiseRing", "noise", "(IIJJ)I"⟩ : Cond) ∈ wsU := List.mem_of_getElem? (i := 293) rfl
set_option maxRecDepth 100000 in
theorem u294 : (.instanceMethod ⟨"NoiseRing", "noise", "(IIJJ)I"⟩ : Cond) ∈ wsU := List.mem_of_getElem? (i := 294) rfl
set_option maxRecDepth 100000 in
theorem u295 : (.selects "NoiseRing" ⟨"NoiseRing", "noise", "(IIJJ)I"⟩ ⟨"NoiseRing", "noise", "(IIJJ)I"⟩ : Cond) ∈ wsU := List.mem_of_getElem? (i := 295) rfl
set_option maxRecDepth 100000 in
theorem u296 : (.code ⟨"NoiseRing", "noise", "(IIJJ)I"⟩ prog_1_method_12_code 11 (some .int) : Cond) ∈ wsU := List.mem_of_getElem? (i := 296) rfl
set_option maxRecDepth 100000 in
theorem u297 : (.methodLink "NoiseRing" 89 ⟨"NoiseRing", "ones", "(IIJJ)I"⟩ : Cond) ∈ wsU := List.mem_of_getElem? (i := 297) rfl
set_option maxRecDepth 100000 in
theorem u298 : (.static ⟨"NoiseRing", "ones", "(IIJJ)I"⟩ : Cond) ∈ wsU := List.mem_of_getElem? (i := 298) rfl
set_option maxRecDepth 100000 in
theorem u299 : (.code ⟨"NoiseRing", "ones", "(IIJJ)I"⟩ prog_1_method_37_code 10 (some .int) : Cond) ∈ wsU := List.mem_of_getElem? (i := 299) rfl
set_option maxRecDepth 100000 in
theorem u300 : (.methodLink "NoiseRingLaw" 110 ⟨"NoiseRingLaw", "value", "(LNoiseRing;II[J)I"⟩ : Cond) ∈ wsU := List.mem_of_getElem? (i := 300) rfl
set_option maxRecDepth 100000 in
theorem u301 : (.static ⟨"NoiseRingLaw", "value", "(LNoiseRing;II[J)I"⟩ : Cond) ∈ wsU := List.mem_of_getElem? (i := 301) rfl
set_option maxRecDepth 100000 in
theorem u302 : (.codeWith ⟨"NoiseRingLaw", "value", "(LNoiseRing;II[J)I"⟩ method_14_code 5 (some .int) [(0, 10, 13, 19)] : Cond) ∈ wsU := List.mem_of_getElem? (i := 302) rfl
set_option maxRecDepth 100000 in
theorem u303 : (.methodLink "NoiseRingLaw" 52 ⟨"NoiseRing", "value", "(II)I"⟩ : Cond) ∈ wsU := List.mem_of_getElem? (i := 303) rfl
set_option maxRecDepth 100000 in
theorem u304 : (.instanceMethod ⟨"NoiseRing", "value", "(II)I"⟩ : Cond) ∈ wsU := List.mem_of_getElem? (i := 304) rfl
set_option maxRecDepth 100000 in
theorem u305 : (.selects "NoiseRing" ⟨"NoiseRing", "value", "(II)I"⟩ ⟨"NoiseRing", "value", "(II)I"⟩ : Cond) ∈ wsU := List.mem_of_getElem? (i := 305) rfl
set_option maxRecDepth 100000 in
theorem u306 : (.code ⟨"NoiseRing", "value", "(II)I"⟩ prog_1_method_13_code 3 (some .int) : Cond) ∈ wsU := List.mem_of_getElem? (i := 306) rfl
set_option maxRecDepth 100000 in
theorem u307 : (.methodLink "NoiseRing" 99 ⟨"NoiseRing", "valueAt", "([IIII)I"⟩ : Cond) ∈ wsU := List.mem_of_getElem? (i := 307) rfl
set_option maxRecDepth 100000 in
theorem u308 : (.instanceMethod ⟨"NoiseRing", "valueAt", "([IIII)I"⟩ : Cond) ∈ wsU := List.mem_of_getElem? (i := 308) rfl
set_option maxRecDepth 100000 in
theorem u309 : (.code ⟨"NoiseRing", "valueAt", "([IIII)I"⟩ prog_1_method_38_code 10 (some .int) : Cond) ∈ wsU := List.mem_of_getElem? (i := 309) rfl
set_option maxRecDepth 100000 in
theorem u310 : (.methodLink "NoiseRingLaw" 113 ⟨"NoiseRingLaw", "unit", "(LNoiseRing;I[J)I"⟩ : Cond) ∈ wsU := List.mem_of_getElem? (i := 310) rfl
set_option maxRecDepth 100000 in
theorem u311 : (.static ⟨"NoiseRingLaw", "unit", "(LNoiseRing;I[J)I"⟩ : Cond) ∈ wsU := List.mem_of_getElem? (i := 311) rfl
set_option maxRecDepth 100000 in
theorem u312 : (.codeWith ⟨"NoiseRingLaw", "unit", "(LNoiseRing;I[J)I"⟩ method_15_code 4 (some .int) [(0, 16, 19, 19)] : Cond) ∈ wsU := List.mem_of_getElem? (i := 312) rfl
set_option maxRecDepth 100000 in
theorem u313 : (.methodLink "NoiseRingLaw" 55 ⟨"NoiseRing", "unit", "(I)Z"⟩ : Cond) ∈ wsU := List.mem_of_getElem? (i := 313) rfl
set_option maxRecDepth 100000 in
theorem u314 : (.instanceMethod ⟨"NoiseRing", "unit", "(I)Z"⟩ : Cond) ∈ wsU := List.mem_of_getElem? (i := 314) rfl
set_option maxRecDepth 100000 in
theorem u315 : (.selects "NoiseRing" ⟨"NoiseRing", "unit", "(I)Z"⟩ ⟨"NoiseRing", "unit", "(I)Z"⟩ : Cond) ∈ wsU := List.mem_of_getElem? (i := 315) rfl
set_option maxRecDepth 100000 in
theorem u316 : (.code ⟨"NoiseRing", "unit", "(I)Z"⟩ prog_1_method_14_code 4 (some .boolean) : Cond) ∈ wsU := List.mem_of_getElem? (i := 316) rfl
set_option maxRecDepth 100000 in
theorem u317 : (.fieldLink "NoiseRing" 106 "NoiseRing" "ZERO_EXPONENT" "[I" : Cond) ∈ wsU := List.mem_of_getElem? (i := 317) rfl
set_option maxRecDepth 100000 in
theorem u318 : (.classLink "NoiseRingLaw" 60 "NoiseRingModel" : Cond) ∈ wsU := List.mem_of_getElem? (i := 318) rfl
set_option maxRecDepth 100000 in
theorem u319 : (.instantiable "NoiseRingModel" 5 : Cond) ∈ wsU := List.mem_of_getElem? (i := 319) rfl
set_option maxRecDepth 100000 in
theorem u320 : (.methodLink "NoiseRingLaw" 62 ⟨"NoiseRingModel", "<init>", "()V"⟩ : Cond) ∈ wsU := List.mem_of_getElem? (i := 320) rfl
set_option maxRecDepth 100000 in
theorem u321 : (.instanceMethod ⟨"NoiseRingModel", "<init>", "()V"⟩ : Cond) ∈ wsU := List.mem_of_getElem? (i := 321) rfl
set_option maxRecDepth 100000 in
theorem u322 : (.code ⟨"NoiseRingModel", "<init>", "()V"⟩ prog_3_method_1_code 1 (none : Option Jvm.ClassFile.FieldType) : Cond) ∈ wsU := List.mem_of_getElem? (i := 322) rfl
set_option maxRecDepth 100000 in
theorem u323 : (.methodLink "NoiseRingModel" 1 ⟨"java/lang/Object", "<init>", "()V"⟩ : Cond) ∈ wsU := List.mem_of_getElem? (i := 323) rfl
set_option maxRecDepth 100000 in
theorem u324 : (.fieldLink "NoiseRingModel" 20 "NoiseRingModel" "thrown" "I" : Cond) ∈ wsU := List.mem_of_getElem? (i := 324) rfl
set_option maxRecDepth 100000 in
theorem u325 : (.fieldLink "NoiseRingModel" 37 "NoiseRingModel" "kind" "I" : Cond) ∈ wsU := List.mem_of_getElem? (i := 325) rfl
set_option maxRecDepth 100000 in
theorem u326 : (.fieldLink "NoiseRingModel" 7 "NoiseRingModel" "q" "I" : Cond) ∈ wsU := List.mem_of_getElem? (i := 326) rfl
set_option maxRecDepth 100000 in
theorem u327 : (.fieldLink "NoiseRingModel" 13 "NoiseRingModel" "register" "[I" : Cond) ∈ wsU := List.mem_of_getElem? (i := 327) rfl
set_option maxRecDepth 100000 in
theorem u328 : (.fieldLink "NoiseRingModel" 17 "NoiseRingModel" "made" "[I" : Cond) ∈ wsU := List.mem_of_getElem? (i := 328) rfl
set_option maxRecDepth 100000 in
theorem u329 : (.lays "NoiseRingModel" "NoiseRingModel" "thrown" "I" : Cond) ∈ wsU := List.mem_of_getElem? (i := 329) rfl
set_option maxRecDepth 100000 in
theorem u330 : (.soleField "NoiseRingModel" "thrown" : Cond) ∈ wsU := List.mem_of_getElem? (i := 330) rfl
set_option maxRecDepth 100000 in
theorem u331 : (.lays "NoiseRingModel" "NoiseRingModel" "kind" "I" : Cond) ∈ wsU := List.mem_of_getElem? (i := 331) rfl
set_option maxRecDepth 100000 in
theorem u332 : (.soleField "NoiseRingModel" "kind" : Cond) ∈ wsU := List.mem_of_getElem? (i := 332) rfl
set_option maxRecDepth 100000 in
theorem u333 : (.lays "NoiseRingModel" "NoiseRingModel" "q" "I" : Cond) ∈ wsU := List.mem_of_getElem? (i := 333) rfl
set_option maxRecDepth 100000 in
theorem u334 : (.soleField "NoiseRingModel" "q" : Cond) ∈ wsU := List.mem_of_getElem? (i := 334) rfl
set_option maxRecDepth 100000 in
theorem u335 : (.laysFinal "NoiseRingModel" "NoiseRingModel" "register" "[I" : Cond) ∈ wsU := List.mem_of_getElem? (i := 335) rfl
set_option maxRecDepth 100000 in
theorem u336 : (.soleField "NoiseRingModel" "register" : Cond) ∈ wsU := List.mem_of_getElem? (i := 336) rfl
set_option maxRecDepth 100000 in
theorem u337 : (.laysFinal "NoiseRingModel" "NoiseRingModel" "made" "[I" : Cond) ∈ wsU := List.mem_of_getElem? (i := 337) rfl
set_option maxRecDepth 100000 in
theorem u338 : (.soleField "NoiseRingModel" "made" : Cond) ∈ wsU := List.mem_of_getElem? (i := 338) rfl
set_option maxRecDepth 100000 in
theorem u339 : (.superclass "NoiseRingModel" "java/lang/Object" : Cond) ∈ wsU := List.mem_of_getElem? (i := 339) rfl
set_option maxRecDepth 100000 in
theorem u340 : (.methodLink "NoiseRingLaw" 69 ⟨"NoiseRingModel", "thrown", "()I"⟩ : Cond) ∈ wsU := List.mem_of_getElem? (i := 340) rfl
set_option maxRecDepth 100000 in
theorem u341 : (.instanceMethod ⟨"NoiseRingModel", "thrown", "()I"⟩ : Cond) ∈ wsU := List.mem_of_getElem? (i := 341) rfl
set_option maxRecDepth 100000 in
theorem u342 : (.selects "NoiseRingModel" ⟨"NoiseRingModel", "thrown", "()I"⟩ ⟨"NoiseRingModel", "thrown", "()I"⟩ : Cond) ∈ wsU := List.mem_of_getElem? (i := 342) rfl
set_option maxRecDepth 100000 in
theorem u343 : (.code ⟨"NoiseRingModel", "thrown", "()I"⟩ prog_3_method_2_code 1 (some .int) : Cond) ∈ wsU := List.mem_of_getElem? (i := 343) rfl
set_option maxRecDepth 100000 in
theorem u344 : (.methodLink "NoiseRingLaw" 68 ⟨"NoiseRingModel", "begin", "(I)I"⟩ : Cond) ∈ wsU := List.mem_of_getElem? (i := 344) rfl
set_option maxRecDepth 100000 in
theorem u345 : (.instanceMethod ⟨"NoiseRingModel", "begin", "(I)I"⟩ : Cond) ∈ wsU := List.mem_of_getElem? (i := 345) rfl
set_option maxRecDepth 100000 in
theorem u346 : (.selects "NoiseRingModel" ⟨"NoiseRingModel", "begin", "(I)I"⟩ ⟨"NoiseRingModel", "begin", "(I)I"⟩ : Cond) ∈ wsU := List.mem_of_getElem? (i := 346) rfl
set_option maxRecDepth 100000 in
theorem u347 : (.code ⟨"NoiseRingModel", "begin", "(I)I"⟩ prog_3_method_10_code 3 (some .int) : Cond) ∈ wsU := List.mem_of_getElem? (i := 347) rfl
set_option maxRecDepth 100000 in
theorem u348 : (.constant "NoiseRingModel" 40 (8380417 : Int32) : Cond) ∈ wsU := List.mem_of_getElem? (i := 348) rfl
set_option maxRecDepth 100000 in
theorem u349 : (.methodLink "NoiseRingLaw" 76 ⟨"NoiseRingModel", "set", "(III)I"⟩ : Cond) ∈ wsU := List.mem_of_getElem? (i := 349) rfl
set_option maxRecDepth 100000 in
theorem u350 : (.instanceMethod ⟨"NoiseRingModel", "set", "(III)I"⟩ : Cond) ∈ wsU := List.mem_of_getElem? (i := 350) rfl
set_option maxRecDepth 100000 in
theorem u351 : (.selects "NoiseRingModel" ⟨"NoiseRingModel", "set", "(III)I"⟩ ⟨"NoiseRingModel", "set", "(III)I"⟩ : Cond) ∈ wsU := List.mem_of_getElem? (i := 351) rfl
set_option maxRecDepth 100000 in
theorem u352 : (.code ⟨"NoiseRingModel", "set", "(III)I"⟩ prog_3_method_11_code 5 (some .int) : Cond) ∈ wsU := List.mem_of_getElem? (i := 352) rfl
set_option maxRecDepth 100000 in
theorem u353 : (.methodLink "NoiseRingModel" 41 ⟨"NoiseRingModel", "none", "(I)Z"⟩ : Cond) ∈ wsU := List.mem_of_getElem? (i := 353) rfl
set_option maxRecDepth 100000 in
theorem u354 : (.static ⟨"NoiseRingModel", "none", "(I)Z"⟩ : Cond) ∈ wsU := List.mem_of_getElem? (i := 354) rfl
set_option maxRecDepth 100000 in
theorem u355 : (.code ⟨"NoiseRingModel", "none", "(I)Z"⟩ prog_3_method_4_code 1 (some .boolean) : Cond) ∈ wsU := List.mem_of_getElem? (i := 355) rfl
set_option maxRecDepth 100000 in
theorem u356 : (.methodLink "NoiseRingModel" 45 ⟨"NoiseRingModel", "at", "(II)I"⟩ : Cond) ∈ wsU := List.mem_of_getElem? (i := 356) rfl
set_option maxRecDepth 100000 in
theorem u357 : (.instanceMethod ⟨"NoiseRingModel", "at", "(II)I"⟩ : Cond) ∈ wsU := List.mem_of_getElem? (i := 357) rfl
set_option maxRecDepth 100000 in
theorem u358 : (.code ⟨"NoiseRingModel", "at", "(II)I"⟩ prog_3_method_5_code 3 (some .int) : Cond) ∈ wsU := List.mem_of_getElem? (i := 358) rfl
set_option maxRecDepth 100000 in
theorem u359 : (.methodLink "NoiseRingModel" 48 ⟨"NoiseRingModel", "of", "(J)I"⟩ : Cond) ∈ wsU := List.mem_of_getElem? (i := 359) rfl
set_option maxRecDepth 100000 in
theorem u360 : (.instanceMethod ⟨"NoiseRingModel", "of", "(J)I"⟩ : Cond) ∈ wsU := List.mem_of_getElem? (i := 360) rfl
set_option maxRecDepth 100000 in
theorem u361 : (.code ⟨"NoiseRingModel", "of", "(J)I"⟩ prog_3_method_6_code 3 (some .int) : Cond) ∈ wsU := List.mem_of_getElem? (i := 361) rfl
set_option maxRecDepth 100000 in
theorem u362 : (.methodLink "NoiseRingModel" 23 ⟨"java/lang/Math", "floorMod", "(JJ)J"⟩ : Cond) ∈ wsU := List.mem_of_getElem? (i := 362) rfl
set_option maxRecDepth 100000 in
theorem u363 : (.methodLink "NoiseRingLaw" 80 ⟨"NoiseRingModel", "get", "(II)I"⟩ : Cond) ∈ wsU := List.mem_of_getElem? (i := 363) rfl
set_option maxRecDepth 100000 in
theorem u364 : (.instanceMethod ⟨"NoiseRingModel", "get", "(II)I"⟩ : Cond) ∈ wsU := List.mem_of_getElem? (i := 364) rfl
set_option maxRecDepth 100000 in
theorem u365 : (.selects "NoiseRingModel" ⟨"NoiseRingModel", "get", "(II)I"⟩ ⟨"NoiseRingModel", "get", "(II)I"⟩ : Cond) ∈ wsU := List.mem_of_getElem? (i := 365) rfl
set_option maxRecDepth 100000 in
theorem u366 : (.code ⟨"NoiseRingModel", "get", "(II)I"⟩ prog_3_method_12_code 3 (some .int) : Cond) ∈ wsU := List.mem_of_getElem? (i := 366) rfl
set_option maxRecDepth 100000 in
theorem u367 : (.methodLink "NoiseRingLaw" 84 ⟨"NoiseRingModel", "join", "(IIII)I"⟩ : Cond) ∈ wsU := List.mem_of_getElem? (i := 367) rfl
set_option maxRecDepth 100000 in
theorem u368 : (.instanceMethod ⟨"NoiseRingModel", "join", "(IIII)I"⟩ : Cond) ∈ wsU := List.mem_of_getElem? (i := 368) rfl
set_option maxRecDepth 100000 in
theorem u369 : (.selects "NoiseRingModel" ⟨"NoiseRingModel", "join", "(IIII)I"⟩ ⟨"NoiseRingModel", "join", "(IIII)I"⟩ : Cond) ∈ wsU := List.mem_of_getElem? (i := 369) rfl
set_option maxRecDepth 100000 in
theorem u370 : (.code ⟨"NoiseRingModel", "join", "(IIII)I"⟩ prog_3_method_13_code 11 (some .int) : Cond) ∈ wsU := List.mem_of_getElem? (i := 370) rfl
set_option maxRecDepth 100000 in
theorem u371 : (.methodLink "NoiseRingModel" 52 ⟨"NoiseRingModel", "put", "(I)I"⟩ : Cond) ∈ wsU := List.mem_of_getElem? (i := 371) rfl
set_option maxRecDepth 100000 in
theorem u372 : (.instanceMethod ⟨"NoiseRingModel", "put", "(I)I"⟩ : Cond) ∈ wsU := List.mem_of_getElem? (i := 372) rfl
set_option maxRecDepth 100000 in
theorem u373 : (.code ⟨"NoiseRingModel", "put", "(I)I"⟩ prog_3_method_9_code 4 (some .int) : Cond) ∈ wsU := List.mem_of_getElem? (i := 373) rfl
set_option maxRecDepth 100000 in
theorem u374 : (.methodLink "NoiseRingModel" 55 ⟨"NoiseRingModel", "most", "([I)I"⟩ : Cond) ∈ wsU := List.mem_of_getElem? (i := 374) rfl
set_option maxRecDepth 100000 in
theorem u375 : (.instanceMethod ⟨"NoiseRingModel", "most", "([I)I"⟩ : Cond) ∈ wsU := List.mem_of_getElem? (i := 375) rfl
set_option maxRecDepth 100000 in
theorem u376 : (.code ⟨"NoiseRingModel", "most", "([I)I"⟩ prog_3_method_8_code 4 (some .int) : Cond) ∈ wsU := List.mem_of_getElem? (i := 376) rfl
set_option maxRecDepth 100000 in
theorem u377 : (.methodLink "NoiseRingModel" 29 ⟨"NoiseRingModel", "size0", "(I)I"⟩ : Cond) ∈ wsU := List.mem_of_getElem? (i := 377) rfl
set_option maxRecDepth 100000 in
theorem u378 : (.instanceMethod ⟨"NoiseRingModel", "size0", "(I)I"⟩ : Cond) ∈ wsU := List.mem_of_getElem? (i := 378) rfl
set_option maxRecDepth 100000 in
theorem u379 : (.code ⟨"NoiseRingModel", "size0", "(I)I"⟩ prog_3_method_7_code 2 (some .int) : Cond) ∈ wsU := List.mem_of_getElem? (i := 379) rfl
set_option maxRecDepth 100000 in
theorem u380 : (.methodLink "NoiseRingModel" 33 ⟨"java/lang/Math", "max", "(II)I"⟩ : Cond) ∈ wsU := List.mem_of_getElem? (i := 380) rfl
set_option maxRecDepth 100000 in
theorem u381 : (.methodLink "NoiseRingLaw" 87 ⟨"NoiseRingModel", "round", "(IIII)I"⟩ : Cond) ∈ wsU := List.mem_of_getElem? (i := 381) rfl
set_option maxRecDepth 100000 in
theorem u382 : (.instanceMethod ⟨"NoiseRingModel", "round", "(IIII)I"⟩ : Cond) ∈ wsU := List.mem_of_getElem? (i := 382) rfl
set_option maxRecDepth 100000 in
theorem u383 : (.selects "NoiseRingModel" ⟨"NoiseRingModel", "round", "(IIII)I"⟩ ⟨"NoiseRingModel", "round", "(IIII)I"⟩ : Cond) ∈ wsU := List.mem_of_getElem? (i := 383) rfl
set_option maxRecDepth 100000 in
theorem u384 : (.code ⟨"NoiseRingModel", "round", "(IIII)I"⟩ prog_3_method_15_code 11 (some .int) : Cond) ∈ wsU := List.mem_of_getElem? (i := 384) rfl
set_option maxRecDepth 100000 in
theorem u385 : (.methodLink "NoiseRingModel" 59 ⟨"NoiseRingModel", "rest", "(II)I"⟩ : Cond) ∈ wsU := List.mem_of_getElem? (i := 385) rfl
set_option maxRecDepth 100000 in
theorem u386 : (.static ⟨"NoiseRingModel", "rest", "(II)I"⟩ : Cond) ∈ wsU := List.mem_of_getElem? (i := 386) rfl
set_option maxRecDepth 100000 in
theorem u387 : (.code ⟨"NoiseRingModel", "rest", "(II)I"⟩ prog_3_method_14_code 3 (some .int) : Cond) ∈ wsU := List.mem_of_getElem? (i := 387) rfl
set_option maxRecDepth 100000 in
theorem u388 : (.constantLong "NoiseRingModel" 62 (2 : Int64) : Cond) ∈ wsU := List.mem_of_getElem? (i := 388) rfl
set_option maxRecDepth 100000 in
theorem u389 : (.methodLink "NoiseRingLaw" 91 ⟨"NoiseRingModel", "part", "(IIIZ)I"⟩ : Cond) ∈ wsU := List.mem_of_getElem? (i := 389) rfl
set_option maxRecDepth 100000 in
theorem u390 : (.instanceMethod ⟨"NoiseRingModel", "part", "(IIIZ)I"⟩ : Cond) ∈ wsU := List.mem_of_getElem? (i := 390) rfl
set_option maxRecDepth 100000 in
theorem u391 : (.selects "NoiseRingModel" ⟨"NoiseRingModel", "part", "(IIIZ)I"⟩ ⟨"NoiseRingModel", "part", "(IIIZ)I"⟩ : Cond) ∈ wsU := List.mem_of_getElem? (i := 391) rfl
set_option maxRecDepth 100000 in
theorem u392 : (.code ⟨"NoiseRingModel", "part", "(IIIZ)I"⟩ prog_3_method_19_code 6 (some .int) : Cond) ∈ wsU := List.mem_of_getElem? (i := 392) rfl
set_option maxRecDepth 100000 in
theorem u393 : (.methodLink "NoiseRingModel" 64 ⟨"NoiseRingModel", "isAlpha", "(I)Z"⟩ : Cond) ∈ wsU := List.mem_of_getElem? (i := 393) rfl
set_option maxRecDepth 100000 in
theorem u394 : (.instanceMethod ⟨"NoiseRingModel", "isAlpha", "(I)Z"⟩ : Cond) ∈ wsU := List.mem_of_getElem? (i := 394) rfl
set_option maxRecDepth 100000 in
theorem u395 : (.code ⟨"NoiseRingModel", "isAlpha", "(I)Z"⟩ prog_3_method_16_code 2 (some .boolean) : Cond) ∈ wsU := List.mem_of_getElem? (i := 395) rfl
set_option maxRecDepth 100000 in
theorem u396 : (.methodLink "NoiseRingModel" 67 ⟨"NoiseRingModel", "partOf", "(II)I"⟩ : Cond) ∈ wsU := List.mem_of_getElem? (i := 396) rfl
set_option maxRecDepth 100000 in
theorem u397 : (.instanceMethod ⟨"NoiseRingModel", "partOf", "(II)I"⟩ : Cond) ∈ wsU := List.mem_of_getElem? (i := 397) rfl
set_option maxRecDepth 100000 in
theorem u398 : (.code ⟨"NoiseRingModel", "partOf", "(II)I"⟩ prog_3_method_17_code 4 (some .int) : Cond) ∈ wsU := List.mem_of_getElem? (i := 398) rfl
set_option maxRecDepth 100000 in
theorem u399 : (.methodLink "NoiseRingModel" 70 ⟨"NoiseRingModel", "restOf", "(II)I"⟩ : Cond) ∈ wsU := List.mem_of_getElem? (i := 399) rfl
set_option maxRecDepth 100000 in
theorem u400 : (.instanceMethod ⟨"NoiseRingModel", "restOf", "(II)I"⟩ : Cond) ∈ wsU := List.mem_of_getElem? (i := 400) rfl
set_option maxRecDepth 100000 in
theorem u401 : (.code ⟨"NoiseRingModel", "restOf", "(II)I"⟩ prog_3_method_18_code 4 (some .int) : Cond) ∈ wsU := List.mem_of_getElem? (i := 401) rfl
set_option maxRecDepth 100000 in
theorem u402 : (.methodLink "NoiseRingLaw" 94 ⟨"NoiseRingModel", "hint", "(IIII)I"⟩ : Cond) ∈ wsU := List.mem_of_getElem? (i := 402) rfl
set_option maxRecDepth 100000 in
theorem u403 : (.instanceMethod ⟨"NoiseRingModel", "hint", "(IIII)I"⟩ : Cond) ∈ wsU := List.mem_of_getElem? (i := 403) rfl
set_option maxRecDepth 100000 in
theorem u404 : (.selects "NoiseRingModel" ⟨"NoiseRingModel", "hint", "(IIII)I"⟩ ⟨"NoiseRingModel", "hint", "(IIII)I"⟩ : Cond) ∈ wsU := List.mem_of_getElem? (i := 404) rfl
set_option maxRecDepth 100000 in
theorem u405 : (.code ⟨"NoiseRingModel", "hint", "(IIII)I"⟩ prog_3_method_20_code 6 (some .int) : Cond) ∈ wsU := List.mem_of_getElem? (i := 405) rfl
set_option maxRecDepth 100000 in
theorem u406 : (.methodLink "NoiseRingLaw" 97 ⟨"NoiseRingModel", "use", "(IIII)I"⟩ : Cond) ∈ wsU := List.mem_of_getElem? (i := 406) rfl
set_option maxRecDepth 100000 in
theorem u407 : (.instanceMethod ⟨"NoiseRingModel", "use", "(IIII)I"⟩ : Cond) ∈ wsU := List.mem_of_getElem? (i := 407) rfl
set_option maxRecDepth 100000 in
theorem u408 : (.selects "NoiseRingModel" ⟨"NoiseRingModel", "use", "(IIII)I"⟩ ⟨"NoiseRingModel", "use", "(IIII)I"⟩ : Cond) ∈ wsU := List.mem_of_getElem? (i := 408) rfl
set_option maxRecDepth 100000 in
theorem u409 : (.code ⟨"NoiseRingModel", "use", "(IIII)I"⟩ prog_3_method_21_code 9 (some .int) : Cond) ∈ wsU := List.mem_of_getElem? (i := 409) rfl
set_option maxRecDepth 100000 in
theorem u410 : (.methodLink "NoiseRingModel" 73 ⟨"java/lang/Math", "floorMod", "(II)I"⟩ : Cond) ∈ wsU := List.mem_of_getElem? (i := 410) rfl
set_option maxRecDepth 100000 in
theorem u411 : (.methodLink "NoiseRingLaw" 100 ⟨"NoiseRingModel", "size", "(I)I"⟩ : Cond) ∈ wsU := List.mem_of_getElem? (i := 411) rfl
set_option maxRecDepth 100000 in
theorem u412 : (.instanceMethod ⟨"NoiseRingModel", "size", "(I)I"⟩ : Cond) ∈ wsU := List.mem_of_getElem? (i := 412) rfl
set_option maxRecDepth 100000 in
theorem u413 : (.selects "NoiseRingModel" ⟨"NoiseRingModel", "size", "(I)I"⟩ ⟨"NoiseRingModel", "size", "(I)I"⟩ : Cond) ∈ wsU := List.mem_of_getElem? (i := 413) rfl
set_option maxRecDepth 100000 in
theorem u414 : (.code ⟨"NoiseRingModel", "size", "(I)I"⟩ prog_3_method_22_code 4 (some .int) : Cond) ∈ wsU := List.mem_of_getElem? (i := 414) rfl
set_option maxRecDepth 100000 in
theorem u415 : (.methodLink "NoiseRingLaw" 103 ⟨"NoiseRingModel", "far", "(II)I"⟩ : Cond) ∈ wsU := List.mem_of_getElem? (i := 415) rfl
set_option maxRecDepth 100000 in
theorem u416 : (.instanceMethod ⟨"NoiseRingModel", "far", "(II)I"⟩ : Cond) ∈ wsU := List.mem_of_getElem? (i := 416) rfl
set_option maxRecDepth 100000 in
theorem u417 : (.selects "NoiseRingModel" ⟨"NoiseRingModel", "far", "(II)I"⟩ ⟨"NoiseRingModel", "far", "(II)I"⟩ : Cond) ∈ wsU := List.mem_of_getElem? (i := 417) rfl
set_option maxRecDepth 100000 in
theorem u418 : (.code ⟨"NoiseRingModel", "far", "(II)I"⟩ prog_3_method_23_code 5 (some .int) : Cond) ∈ wsU := List.mem_of_getElem? (i := 418) rfl
set_option maxRecDepth 100000 in
theorem u419 : (.methodLink "NoiseRingLaw" 109 ⟨"NoiseRingModel", "noise", "(IIJJ)I"⟩ : Cond) ∈ wsU := List.mem_of_getElem? (i := 419) rfl
set_option maxRecDepth 100000 in
theorem u420 : (.instanceMethod ⟨"NoiseRingModel", "noise", "(IIJJ)I"⟩ : Cond) ∈ wsU := List.mem_of_getElem? (i := 420) rfl
set_option maxRecDepth 100000 in
theorem u421 : (.selects "NoiseRingModel" ⟨"NoiseRingModel", "noise", "(IIJJ)I"⟩ ⟨"NoiseRingModel", "noise", "(IIJJ)I"⟩ : Cond) ∈ wsU := List.mem_of_getElem? (i := 421) rfl
set_option maxRecDepth 100000 in
theorem u422 : (.code ⟨"NoiseRingModel", "noise", "(IIJJ)I"⟩ prog_3_method_25_code 10 (some .int) : Cond) ∈ wsU := List.mem_of_getElem? (i := 422) rfl
set_option maxRecDepth 100000 in
theorem u423 : (.methodLink "NoiseRingModel" 75 ⟨"NoiseRingModel", "bit", "(JJI)I"⟩ : Cond) ∈ wsU := List.mem_of_getElem? (i := 423) rfl
set_option maxRecDepth 100000 in
theorem u424 : (.static ⟨"NoiseRingModel", "bit", "(JJI)I"⟩ : Cond) ∈ wsU := List.mem_of_getElem? (i := 424) rfl
set_option maxRecDepth 100000 in
theorem u425 : (.code ⟨"NoiseRingModel", "bit", "(JJI)I"⟩ prog_3_method_24_code 5 (some .int) : Cond) ∈ wsU := List.mem_of_getElem? (i := 425) rfl
set_option maxRecDepth 100000 in
theorem u426 : (.methodLink "NoiseRingLaw" 112 ⟨"NoiseRingModel", "value", "(II)I"⟩ : Cond) ∈ wsU := List.mem_of_getElem? (i := 426) rfl
set_option maxRecDepth 100000 in
theorem u427 : (.instanceMethod ⟨"NoiseRingModel", "value", "(II)I"⟩ : Cond) ∈ wsU := List.mem_of_getElem? (i := 427) rfl
set_option maxRecDepth 100000 in
theorem u428 : (.selects "NoiseRingModel" ⟨"NoiseRingModel", "value", "(II)I"⟩ ⟨"NoiseRingModel", "value", "(II)I"⟩ : Cond) ∈ wsU := List.mem_of_getElem? (i := 428) rfl
set_option maxRecDepth 100000 in
theorem u429 : (.code ⟨"NoiseRingModel", "value", "(II)I"⟩ prog_3_method_30_code 3 (some .int) : Cond) ∈ wsU := List.mem_of_getElem? (i := 429) rfl
set_option maxRecDepth 100000 in
theorem u430 : (.methodLink "NoiseRingModel" 90 ⟨"NoiseRingModel", "valueOf", "(II)I"⟩ : Cond) ∈ wsU := List.mem_of_getElem? (i := 430) rfl
set_option maxRecDepth 100000 in
theorem u431 : (.instanceMethod ⟨"NoiseRingModel", "valueOf", "(II)I"⟩ : Cond) ∈ wsU := List.mem_of_getElem? (i := 431) rfl
set_option maxRecDepth 100000 in
theorem u432 : (.code ⟨"NoiseRingModel", "valueOf", "(II)I"⟩ prog_3_method_29_code 4 (some .int) : Cond) ∈ wsU := List.mem_of_getElem? (i := 432) rfl
set_option maxRecDepth 100000 in
theorem u433 : (.methodLink "NoiseRingModel" 82 ⟨"NoiseRingModel", "root", "()I"⟩ : Cond) ∈ wsU := List.mem_of_getElem? (i := 433) rfl
set_option maxRecDepth 100000 in
theorem u434 : (.instanceMethod ⟨"NoiseRingModel", "root", "()I"⟩ : Cond) ∈ wsU := List.mem_of_getElem? (i := 434) rfl
set_option maxRecDepth 100000 in
theorem u435 : (.code ⟨"NoiseRingModel", "root", "()I"⟩ prog_3_method_27_code 1 (some .int) : Cond) ∈ wsU := List.mem_of_getElem? (i := 435) rfl
set_option maxRecDepth 100000 in
theorem u436 : (.methodLink "NoiseRingModel" 79 ⟨"NoiseRingModel", "power", "(II)I"⟩ : Cond) ∈ wsU := List.mem_of_getElem? (i := 436) rfl
set_option maxRecDepth 100000 in
theorem u437 : (.instanceMethod ⟨"NoiseRingModel", "power", "(II)I"⟩ : Cond) ∈ wsU := List.mem_of_getElem? (i := 437) rfl
set_option maxRecDepth 100000 in
theorem u438 : (.code ⟨"NoiseRingModel", "power", "(II)I"⟩ prog_3_method_26_code 6 (some .int) : Cond) ∈ wsU := List.mem_of_getElem? (i := 438) rfl
set_option maxRecDepth 100000 in
theorem u439 : (.methodLink "NoiseRingModel" 86 ⟨"NoiseRingModel", "along", "(IIIJ)I"⟩ : Cond) ∈ wsU := List.mem_of_getElem? (i := 439) rfl
set_option maxRecDepth 100000 in
theorem u440 : (.instanceMethod ⟨"NoiseRingModel", "along", "(IIIJ)I"⟩ : Cond) ∈ wsU := List.mem_of_getElem? (i := 440) rfl
set_option maxRecDepth 100000 in
theorem u441 : (.code ⟨"NoiseRingModel", "along", "(IIIJ)I"⟩ prog_3_method_28_code 9 (some .int) : Cond) ∈ wsU := List.mem_of_getElem? (i := 441) rfl
set_option maxRecDepth 100000 in
theorem u442 : (.methodLink "NoiseRingLaw" 115 ⟨"NoiseRingModel", "unit", "(I)Z"⟩ : Cond) ∈ wsU := List.mem_of_getElem? (i := 442) rfl
set_option maxRecDepth 100000 in
theorem u443 : (.instanceMethod ⟨"NoiseRingModel", "unit", "(I)Z"⟩ : Cond) ∈ wsU := List.mem_of_getElem? (i := 443) rfl
set_option maxRecDepth 100000 in
theorem u444 : (.selects "NoiseRingModel" ⟨"NoiseRingModel", "unit", "(I)Z"⟩ ⟨"NoiseRingModel", "unit", "(I)Z"⟩ : Cond) ∈ wsU := List.mem_of_getElem? (i := 444) rfl
set_option maxRecDepth 100000 in
theorem u445 : (.code ⟨"NoiseRingModel", "unit", "(I)Z"⟩ prog_3_method_31_code 7 (some .boolean) : Cond) ∈ wsU := List.mem_of_getElem? (i := 445) rfl
set_option maxRecDepth 100000 in
theorem u446 : (.methodLink "NoiseRingLaw" 119 ⟨"NoiseRingModel", "count", "(I)I"⟩ : Cond) ∈ wsU := List.mem_of_getElem? (i := 446) rfl
set_option maxRecDepth 100000 in
theorem u447 : (.instanceMethod ⟨"NoiseRingModel", "count", "(I)I"⟩ : Cond) ∈ wsU := List.mem_of_getElem? (i := 447) rfl
set_option maxRecDepth 100000 in
theorem u448 : (.selects "NoiseRingModel" ⟨"NoiseRingModel", "count", "(I)I"⟩ ⟨"NoiseRingModel", "count", "(I)I"⟩ : Cond) ∈ wsU := List.mem_of_getElem? (i := 448) rfl
set_option maxRecDepth 100000 in
theorem u449 : (.code ⟨"NoiseRingModel", "count", "(I)I"⟩ prog_3_method_32_code 6 (some .int) : Cond) ∈ wsU := List.mem_of_getElem? (i := 449) rfl
set_option maxRecDepth 100000 in
theorem u450 : (.constantLong "NoiseRingLaw" 104 (4294967295 : Int64) : Cond) ∈ wsU := List.mem_of_getElem? (i := 450) rfl
set_option maxRecDepth 100000 in
theorem u451 : (.arrayClass .long : Cond) ∈ wsU := List.mem_of_getElem? (i := 451) rfl
set_option maxRecDepth 100000 in
theorem inX0 : ∀ w ∈ u_ws RX0 TX0 5, w ∈ wsU := by decide +kernel
set_option maxRecDepth 100000 in
theorem inX1 : ∀ w ∈ u_ws RX1 TX1 5, w ∈ wsU := by decide +kernel
theorem gU {hd : List Cond} {w0 : Cond} (h : ∀ w ∈ hd, w ∈ wsU) (h0 : w0 ∈ wsU) : GoodIn wsU (hd ++ (w0 :: wsU)) := by
  have key : ∀ w ∈ wsU, w ∈ wsU ∧ ((w.onTables && w.keeps) = true ∨ ∃ ty, w = .arrayClass ty) := fun w hw => ⟨hw, good_of_word (List.all_eq_true.mp wsU_good w hw)⟩
  intro w hw
  rcases List.mem_append.mp hw with hw | hw
  · exact key w (h w hw)
  · rcases List.mem_cons.mp hw with hw | hw
    · rw [hw]; exact key w0 h0
    · exact key w hw
theorem gU1 {w0 : Cond} (h0 : w0 ∈ wsU) : GoodIn wsU (w0 :: wsU) := gU (hd := []) (fun _ h => by cases h) h0
abbrev cX0_init : ByteArray := prog_1_method_1_code
abbrev yX0_init : MethodName := ⟨"NoiseRing", "<init>", "()V"⟩
abbrev wsX0_init : List Cond := .code yX0_init cX0_init 1 (none : Option Jvm.ClassFile.FieldType) :: wsU
abbrev cX0_begin : ByteArray := prog_1_method_2_code
abbrev yX0_begin : MethodName := ⟨"NoiseRing", "begin", "(I)I"⟩
abbrev wsX0_begin : List Cond := .code yX0_begin cX0_begin 4 (some .int) :: wsU
abbrev cX0_set : ByteArray := prog_1_method_3_code
abbrev yX0_set : MethodName := ⟨"NoiseRing", "set", "(III)I"⟩
abbrev wsX0_set : List Cond := .code yX0_set cX0_set 5 (some .int) :: wsU
abbrev cX0_get : ByteArray := prog_1_method_4_code
abbrev yX0_get : MethodName := ⟨"NoiseRing", "get", "(II)I"⟩
abbrev wsX0_get : List Cond := .code yX0_get cX0_get 3 (some .int) :: wsU
abbrev cX0_join : ByteArray := prog_1_method_5_code
abbrev yX0_join : MethodName := ⟨"NoiseRing", "join", "(IIII)I"⟩
abbrev wsX0_join : List Cond := .code yX0_join cX0_join 6 (some .int) :: wsU
abbrev cX0_round : ByteArray := prog_1_method_6_code
abbrev yX0_round : MethodName := ⟨"NoiseRing", "round", "(IIII)I"⟩
abbrev wsX0_round : List Cond := .code yX0_round cX0_round 6 (some .int) :: wsU
abbrev cX0_part : ByteArray := prog_1_method_7_code
abbrev yX0_part : MethodName := ⟨"NoiseRing", "part", "(IIIZ)I"⟩
abbrev wsX0_part : List Cond := .code yX0_part cX0_part 7 (some .int) :: wsU
abbrev cX0_hint : ByteArray := prog_1_method_8_code
abbrev yX0_hint : MethodName := ⟨"NoiseRing", "hint", "(IIII)I"⟩
abbrev wsX0_hint : List Cond := .code yX0_hint cX0_hint 8 (some .int) :: wsU
abbrev cX0_use : ByteArray := prog_1_method_9_code
abbrev yX0_use : MethodName := ⟨"NoiseRing", "use", "(IIII)I"⟩
abbrev wsX0_use : List Cond := .code yX0_use cX0_use 10 (some .int) :: wsU
abbrev cX0_size : ByteArray := prog_1_method_10_code
abbrev yX0_size : MethodName := ⟨"NoiseRing", "size", "(I)I"⟩
abbrev wsX0_size : List Cond := .code yX0_size cX0_size 2 (some .int) :: wsU
abbrev cX0_far : ByteArray := prog_1_method_11_code
abbrev yX0_far : MethodName := ⟨"NoiseRing", "far", "(II)I"⟩
abbrev wsX0_far : List Cond := .code yX0_far cX0_far 5 (some .int) :: wsU
abbrev cX0_noise : ByteArray := prog_1_method_12_code
abbrev yX0_noise : MethodName := ⟨"NoiseRing", "noise", "(IIJJ)I"⟩
abbrev wsX0_noise : List Cond := .code yX0_noise cX0_noise 11 (some .int) :: wsU
abbrev cX0_value : ByteArray := prog_1_method_13_code
abbrev yX0_value : MethodName := ⟨"NoiseRing", "value", "(II)I"⟩
abbrev wsX0_value : List Cond := .code yX0_value cX0_value 3 (some .int) :: wsU
abbrev cX0_unit : ByteArray := prog_1_method_14_code
abbrev yX0_unit : MethodName := ⟨"NoiseRing", "unit", "(I)Z"⟩
abbrev wsX0_unit : List Cond := .code yX0_unit cX0_unit 4 (some .boolean) :: wsU
abbrev cX0_count : ByteArray := prog_1_method_15_code
abbrev yX0_count : MethodName := ⟨"NoiseRing", "count", "(I)I"⟩
abbrev wsX0_count : List Cond := .code yX0_count cX0_count 2 (some .int) :: wsU
abbrev cX0_needRegister : ByteArray := prog_1_method_16_code
abbrev yX0_needRegister : MethodName := ⟨"NoiseRing", "needRegister", "(I)V"⟩
abbrev wsX0_needRegister : List Cond := .code yX0_needRegister cX0_needRegister 1 (none : Option Jvm.ClassFile.FieldType) :: wsU
abbrev cX0_needPlace : ByteArray := prog_1_method_17_code
abbrev yX0_needPlace : MethodName := ⟨"NoiseRing", "needPlace", "(I)V"⟩
abbrev wsX0_needPlace : List Cond := .code yX0_needPlace cX0_needPlace 1 (none : Option Jvm.ClassFile.FieldType) :: wsU
abbrev cX0_needArgument : ByteArray := prog_1_method_18_code
abbrev yX0_needArgument : MethodName := ⟨"NoiseRing", "needArgument", "(Z)V"⟩
abbrev wsX0_needArgument : List Cond := .code yX0_needArgument cX0_needArgument 1 (none : Option Jvm.ClassFile.FieldType) :: wsU
abbrev cX0_takeKind : ByteArray := prog_1_method_19_code
abbrev yX0_takeKind : MethodName := ⟨"NoiseRing", "takeKind", "(I)V"⟩
abbrev wsX0_takeKind : List Cond := .code yX0_takeKind cX0_takeKind 2 (none : Option Jvm.ClassFile.FieldType) :: wsU
abbrev cX0_power : ByteArray := prog_1_method_20_code
abbrev yX0_power : MethodName := ⟨"NoiseRing", "power", "(II)I"⟩
abbrev wsX0_power : List Cond := .code yX0_power cX0_power 6 (some .int) :: wsU
abbrev cX0_joined : ByteArray := prog_1_method_21_code
abbrev yX0_joined : MethodName := ⟨"NoiseRing", "joined", "(I[I[II)I"⟩
abbrev wsX0_joined : List Cond := .code yX0_joined cX0_joined 5 (some .int) :: wsU
abbrev cX0_productAt : ByteArray := prog_1_method_22_code
abbrev yX0_productAt : MethodName := ⟨"NoiseRing", "productAt", "([I[II)I"⟩
abbrev wsX0_productAt : List Cond := .code yX0_productAt cX0_productAt 7 (some .int) :: wsU
abbrev cX0_centredSize : ByteArray := prog_1_method_23_code
abbrev yX0_centredSize : MethodName := ⟨"NoiseRing", "centredSize", "(I)I"⟩
abbrev wsX0_centredSize : List Cond := .code yX0_centredSize cX0_centredSize 2 (some .int) :: wsU
abbrev cX0_greatestSize : ByteArray := prog_1_method_24_code
abbrev yX0_greatestSize : MethodName := ⟨"NoiseRing", "greatestSize", "([I)I"⟩
abbrev wsX0_greatestSize : List Cond := .code yX0_greatestSize cX0_greatestSize 4 (some .int) :: wsU
abbrev cX0_notZero : ByteArray := prog_1_method_25_code
abbrev yX0_notZero : MethodName := ⟨"NoiseRing", "notZero", "([I)I"⟩
abbrev wsX0_notZero : List Cond := .code yX0_notZero cX0_notZero 3 (some .int) :: wsU
abbrev cX0_emptyRegisters : ByteArray := prog_1_method_26_code
abbrev yX0_emptyRegisters : MethodName := ⟨"NoiseRing", "emptyRegisters", "()I"⟩
abbrev wsX0_emptyRegisters : List Cond := .code yX0_emptyRegisters cX0_emptyRegisters 3 (some .int) :: wsU
abbrev cX0_rounded : ByteArray := prog_1_method_27_code
abbrev yX0_rounded : MethodName := ⟨"NoiseRing", "rounded", "(III)I"⟩
abbrev wsX0_rounded : List Cond := .code yX0_rounded cX0_rounded 4 (some .int) :: wsU
abbrev cX0_lowMask : ByteArray := prog_1_method_28_code
abbrev yX0_lowMask : MethodName := ⟨"NoiseRing", "lowMask", "(I)I"⟩
abbrev wsX0_lowMask : List Cond := .code yX0_lowMask cX0_lowMask 1 (some .int) :: wsU
abbrev cX0_fewerBits : ByteArray := prog_1_method_29_code
abbrev yX0_fewerBits : MethodName := ⟨"NoiseRing", "fewerBits", "(II)I"⟩
abbrev wsX0_fewerBits : List Cond := .code yX0_fewerBits cX0_fewerBits 5 (some .int) :: wsU
abbrev cX0_moreBits : ByteArray := prog_1_method_30_code
abbrev yX0_moreBits : MethodName := ⟨"NoiseRing", "moreBits", "(II)I"⟩
abbrev wsX0_moreBits : List Cond := .code yX0_moreBits cX0_moreBits 3 (some .int) :: wsU
abbrev cX0_lowBits : ByteArray := prog_1_method_31_code
abbrev yX0_lowBits : MethodName := ⟨"NoiseRing", "lowBits", "(II)I"⟩
abbrev wsX0_lowBits : List Cond := .code yX0_lowBits cX0_lowBits 3 (some .int) :: wsU
abbrev cX0_isAlpha : ByteArray := prog_1_method_32_code
abbrev yX0_isAlpha : MethodName := ⟨"NoiseRing", "isAlpha", "(I)Z"⟩
abbrev wsX0_isAlpha : List Cond := .code yX0_isAlpha cX0_isAlpha 2 (some .boolean) :: wsU
abbrev cX0_nearRest : ByteArray := prog_1_method_33_code
abbrev yX0_nearRest : MethodName := ⟨"NoiseRing", "nearRest", "(II)I"⟩
abbrev wsX0_nearRest : List Cond := .code yX0_nearRest cX0_nearRest 3 (some .int) :: wsU
abbrev cX0_restOf : ByteArray := prog_1_method_34_code
abbrev yX0_restOf : MethodName := ⟨"NoiseRing", "restOf", "(II)I"⟩
abbrev wsX0_restOf : List Cond := .code yX0_restOf cX0_restOf 4 (some .int) :: wsU
abbrev cX0_partOf : ByteArray := prog_1_method_35_code
abbrev yX0_partOf : MethodName := ⟨"NoiseRing", "partOf", "(II)I"⟩
abbrev wsX0_partOf : List Cond := .code yX0_partOf cX0_partOf 4 (some .int) :: wsU
abbrev cX0_movedPart : ByteArray := prog_1_method_36_code
abbrev yX0_movedPart : MethodName := ⟨"NoiseRing", "movedPart", "(II)I"⟩
abbrev wsX0_movedPart : List Cond := .code yX0_movedPart cX0_movedPart 4 (some .int) :: wsU
abbrev cX0_ones : ByteArray := prog_1_method_37_code
abbrev yX0_ones : MethodName := ⟨"NoiseRing", "ones", "(IIJJ)I"⟩
abbrev wsX0_ones : List Cond := .code yX0_ones cX0_ones 10 (some .int) :: wsU
abbrev cX0_valueAt : ByteArray := prog_1_method_38_code
abbrev yX0_valueAt : MethodName := ⟨"NoiseRing", "valueAt", "([IIII)I"⟩
abbrev wsX0_valueAt : List Cond := .code yX0_valueAt cX0_valueAt 10 (some .int) :: wsU
abbrev cX1_init : ByteArray := prog_3_method_1_code
abbrev yX1_init : MethodName := ⟨"NoiseRingModel", "<init>", "()V"⟩
abbrev wsX1_init : List Cond := .code yX1_init cX1_init 1 (none : Option Jvm.ClassFile.FieldType) :: wsU
abbrev cX1_thrown : ByteArray := prog_3_method_2_code
abbrev yX1_thrown : MethodName := ⟨"NoiseRingModel", "thrown", "()I"⟩
abbrev wsX1_thrown : List Cond := .code yX1_thrown cX1_thrown 1 (some .int) :: wsU
abbrev cX1_none : ByteArray := prog_3_method_4_code
abbrev yX1_none : MethodName := ⟨"NoiseRingModel", "none", "(I)Z"⟩
abbrev wsX1_none : List Cond := .code yX1_none cX1_none 1 (some .boolean) :: wsU
abbrev cX1_at : ByteArray := prog_3_method_5_code
abbrev yX1_at : MethodName := ⟨"NoiseRingModel", "at", "(II)I"⟩
abbrev wsX1_at : List Cond := .code yX1_at cX1_at 3 (some .int) :: wsU
abbrev cX1_of : ByteArray := prog_3_method_6_code
abbrev yX1_of : MethodName := ⟨"NoiseRingModel", "of", "(J)I"⟩
abbrev wsX1_of : List Cond := .code yX1_of cX1_of 3 (some .int) :: wsU
abbrev cX1_size0 : ByteArray := prog_3_method_7_code
abbrev yX1_size0 : MethodName := ⟨"NoiseRingModel", "size0", "(I)I"⟩
abbrev wsX1_size0 : List Cond := .code yX1_size0 cX1_size0 2 (some .int) :: wsU
abbrev cX1_most : ByteArray := prog_3_method_8_code
abbrev yX1_most : MethodName := ⟨"NoiseRingModel", "most", "([I)I"⟩
abbrev wsX1_most : List Cond := .code yX1_most cX1_most 4 (some .int) :: wsU
abbrev cX1_put : ByteArray := prog_3_method_9_code
abbrev yX1_put : MethodName := ⟨"NoiseRingModel", "put", "(I)I"⟩
abbrev wsX1_put : List Cond := .code yX1_put cX1_put 4 (some .int) :: wsU
abbrev cX1_begin : ByteArray := prog_3_method_10_code
abbrev yX1_begin : MethodName := ⟨"NoiseRingModel", "begin", "(I)I"⟩
abbrev wsX1_begin : List Cond := .code yX1_begin cX1_begin 3 (some .int) :: wsU
abbrev cX1_set : ByteArray := prog_3_method_11_code
abbrev yX1_set : MethodName := ⟨"NoiseRingModel", "set", "(III)I"⟩
abbrev wsX1_set : List Cond := .code yX1_set cX1_set 5 (some .int) :: wsU
abbrev cX1_get : ByteArray := prog_3_method_12_code
abbrev yX1_get : MethodName := ⟨"NoiseRingModel", "get", "(II)I"⟩
abbrev wsX1_get : List Cond := .code yX1_get cX1_get 3 (some .int) :: wsU
abbrev cX1_join : ByteArray := prog_3_method_13_code
abbrev yX1_join : MethodName := ⟨"NoiseRingModel", "join", "(IIII)I"⟩
abbrev wsX1_join : List Cond := .code yX1_join cX1_join 11 (some .int) :: wsU
abbrev cX1_rest : ByteArray := prog_3_method_14_code
abbrev yX1_rest : MethodName := ⟨"NoiseRingModel", "rest", "(II)I"⟩
abbrev wsX1_rest : List Cond := .code yX1_rest cX1_rest 3 (some .int) :: wsU
abbrev cX1_round : ByteArray := prog_3_method_15_code
abbrev yX1_round : MethodName := ⟨"NoiseRingModel", "round", "(IIII)I"⟩
abbrev wsX1_round : List Cond := .code yX1_round cX1_round 11 (some .int) :: wsU
abbrev cX1_isAlpha : ByteArray := prog_3_method_16_code
abbrev yX1_isAlpha : MethodName := ⟨"NoiseRingModel", "isAlpha", "(I)Z"⟩
abbrev wsX1_isAlpha : List Cond := .code yX1_isAlpha cX1_isAlpha 2 (some .boolean) :: wsU
abbrev cX1_partOf : ByteArray := prog_3_method_17_code
abbrev yX1_partOf : MethodName := ⟨"NoiseRingModel", "partOf", "(II)I"⟩
abbrev wsX1_partOf : List Cond := .code yX1_partOf cX1_partOf 4 (some .int) :: wsU
abbrev cX1_restOf : ByteArray := prog_3_method_18_code
abbrev yX1_restOf : MethodName := ⟨"NoiseRingModel", "restOf", "(II)I"⟩
abbrev wsX1_restOf : List Cond := .code yX1_restOf cX1_restOf 4 (some .int) :: wsU
abbrev cX1_part : ByteArray := prog_3_method_19_code
abbrev yX1_part : MethodName := ⟨"NoiseRingModel", "part", "(IIIZ)I"⟩
abbrev wsX1_part : List Cond := .code yX1_part cX1_part 6 (some .int) :: wsU
abbrev cX1_hint : ByteArray := prog_3_method_20_code
abbrev yX1_hint : MethodName := ⟨"NoiseRingModel", "hint", "(IIII)I"⟩
abbrev wsX1_hint : List Cond := .code yX1_hint cX1_hint 6 (some .int) :: wsU
abbrev cX1_use : ByteArray := prog_3_method_21_code
abbrev yX1_use : MethodName := ⟨"NoiseRingModel", "use", "(IIII)I"⟩
abbrev wsX1_use : List Cond := .code yX1_use cX1_use 9 (some .int) :: wsU
abbrev cX1_size : ByteArray := prog_3_method_22_code
abbrev yX1_size : MethodName := ⟨"NoiseRingModel", "size", "(I)I"⟩
abbrev wsX1_size : List Cond := .code yX1_size cX1_size 4 (some .int) :: wsU
abbrev cX1_far : ByteArray := prog_3_method_23_code
abbrev yX1_far : MethodName := ⟨"NoiseRingModel", "far", "(II)I"⟩
abbrev wsX1_far : List Cond := .code yX1_far cX1_far 5 (some .int) :: wsU
abbrev cX1_bit : ByteArray := prog_3_method_24_code
abbrev yX1_bit : MethodName := ⟨"NoiseRingModel", "bit", "(JJI)I"⟩
abbrev wsX1_bit : List Cond := .code yX1_bit cX1_bit 5 (some .int) :: wsU
abbrev cX1_noise : ByteArray := prog_3_method_25_code
abbrev yX1_noise : MethodName := ⟨"NoiseRingModel", "noise", "(IIJJ)I"⟩
abbrev wsX1_noise : List Cond := .code yX1_noise cX1_noise 10 (some .int) :: wsU
abbrev cX1_power : ByteArray := prog_3_method_26_code
abbrev yX1_power : MethodName := ⟨"NoiseRingModel", "power", "(II)I"⟩
abbrev wsX1_power : List Cond := .code yX1_power cX1_power 6 (some .int) :: wsU
abbrev cX1_root : ByteArray := prog_3_method_27_code
abbrev yX1_root : MethodName := ⟨"NoiseRingModel", "root", "()I"⟩
abbrev wsX1_root : List Cond := .code yX1_root cX1_root 1 (some .int) :: wsU
abbrev cX1_along : ByteArray := prog_3_method_28_code
abbrev yX1_along : MethodName := ⟨"NoiseRingModel", "along", "(IIIJ)I"⟩
abbrev wsX1_along : List Cond := .code yX1_along cX1_along 9 (some .int) :: wsU
abbrev cX1_valueOf : ByteArray := prog_3_method_29_code
abbrev yX1_valueOf : MethodName := ⟨"NoiseRingModel", "valueOf", "(II)I"⟩
abbrev wsX1_valueOf : List Cond := .code yX1_valueOf cX1_valueOf 4 (some .int) :: wsU
abbrev cX1_value : ByteArray := prog_3_method_30_code
abbrev yX1_value : MethodName := ⟨"NoiseRingModel", "value", "(II)I"⟩
abbrev wsX1_value : List Cond := .code yX1_value cX1_value 3 (some .int) :: wsU
abbrev cX1_unit : ByteArray := prog_3_method_31_code
abbrev yX1_unit : MethodName := ⟨"NoiseRingModel", "unit", "(I)Z"⟩
abbrev wsX1_unit : List Cond := .code yX1_unit cX1_unit 7 (some .boolean) :: wsU
abbrev cX1_count : ByteArray := prog_3_method_32_code
abbrev yX1_count : MethodName := ⟨"NoiseRingModel", "count", "(I)I"⟩
abbrev wsX1_count : List Cond := .code yX1_count cX1_count 6 (some .int) :: wsU
abbrev cL_begin : ByteArray := method_3_code
abbrev yL_begin : MethodName := ⟨"NoiseRingLaw", "begin", "(LNoiseRing;I[J)I"⟩
abbrev wsL_begin : List Cond := .codeWith yL_begin cL_begin 4 (some .int) [(0, 9, 12, 13)] :: wsU
abbrev cL_set : ByteArray := method_4_code
abbrev yL_set : MethodName := ⟨"NoiseRingLaw", "set", "(LNoiseRing;III[J)I"⟩
abbrev wsL_set : List Cond := .codeWith yL_set cL_set 6 (some .int) [(0, 12, 15, 19)] :: wsU
abbrev cL_get : ByteArray := method_5_code
abbrev yL_get : MethodName := ⟨"NoiseRingLaw", "get", "(LNoiseRing;II[J)I"⟩
abbrev wsL_get : List Cond := .codeWith yL_get cL_get 5 (some .int) [(0, 10, 13, 19)] :: wsU
abbrev cL_join : ByteArray := method_6_code
abbrev yL_join : MethodName := ⟨"NoiseRingLaw", "join", "(LNoiseRing;IIII[J)I"⟩
abbrev wsL_join : List Cond := .codeWith yL_join cL_join 7 (some .int) [(0, 14, 17, 19), (0, 14, 21, 13)] :: wsU
abbrev cL_round : ByteArray := method_7_code
abbrev yL_round : MethodName := ⟨"NoiseRingLaw", "round", "(LNoiseRing;IIII[J)I"⟩
abbrev wsL_round : List Cond := .codeWith yL_round cL_round 7 (some .int) [(0, 14, 17, 19), (0, 14, 21, 13)] :: wsU
abbrev cL_part : ByteArray := method_8_code
abbrev yL_part : MethodName := ⟨"NoiseRingLaw", "part", "(LNoiseRing;IIIZ[J)I"⟩
abbrev wsL_part : List Cond := .codeWith yL_part cL_part 7 (some .int) [(0, 14, 17, 19), (0, 14, 21, 13)] :: wsU
abbrev cL_hint : ByteArray := method_9_code
abbrev yL_hint : MethodName := ⟨"NoiseRingLaw", "hint", "(LNoiseRing;IIII[J)I"⟩
abbrev wsL_hint : List Cond := .codeWith yL_hint cL_hint 7 (some .int) [(0, 14, 17, 19), (0, 14, 21, 13)] :: wsU
abbrev cL_use : ByteArray := method_10_code
abbrev yL_use : MethodName := ⟨"NoiseRingLaw", "use", "(LNoiseRing;IIII[J)I"⟩
abbrev wsL_use : List Cond := .codeWith yL_use cL_use 7 (some .int) [(0, 14, 17, 19), (0, 14, 21, 13)] :: wsU
abbrev cL_size : ByteArray := method_11_code
abbrev yL_size : MethodName := ⟨"NoiseRingLaw", "size", "(LNoiseRing;I[J)I"⟩
abbrev wsL_size : List Cond := .codeWith yL_size cL_size 4 (some .int) [(0, 9, 12, 19)] :: wsU
abbrev cL_far : ByteArray := method_12_code
abbrev yL_far : MethodName := ⟨"NoiseRingLaw", "far", "(LNoiseRing;II[J)I"⟩
abbrev wsL_far : List Cond := .codeWith yL_far cL_far 5 (some .int) [(0, 10, 13, 19)] :: wsU
abbrev cL_noise : ByteArray := method_13_code
abbrev yL_noise : MethodName := ⟨"NoiseRingLaw", "noise", "(LNoiseRing;IIJJ[J)I"⟩
abbrev wsL_noise : List Cond := .codeWith yL_noise cL_noise 9 (some .int) [(0, 14, 17, 19), (0, 14, 21, 13)] :: wsU
abbrev cL_value : ByteArray := method_14_code
abbrev yL_value : MethodName := ⟨"NoiseRingLaw", "value", "(LNoiseRing;II[J)I"⟩
abbrev wsL_value : List Cond := .codeWith yL_value cL_value 5 (some .int) [(0, 10, 13, 19)] :: wsU
abbrev cL_unit : ByteArray := method_15_code
abbrev yL_unit : MethodName := ⟨"NoiseRingLaw", "unit", "(LNoiseRing;I[J)I"⟩
abbrev wsL_unit : List Cond := .codeWith yL_unit cL_unit 4 (some .int) [(0, 16, 19, 19)] :: wsU
abbrev cL_law : ByteArray := code
abbrev yL_law : MethodName := ⟨"NoiseRingLaw", "law", "([I)Z"⟩
abbrev wsL_law : List Cond := .code yL_law cL_law 7 (some .boolean) :: wsU
abbrev cJ_floorModI : ByteArray := prog_6_method_50_code
abbrev yJ_floorModI : MethodName := ⟨"java/lang/Math", "floorMod", "(II)I"⟩
abbrev wsJ_floorModI : List Cond := .code yJ_floorModI cJ_floorModI 3 (some .int) :: wsU
abbrev cJ_floorModL : ByteArray := prog_6_method_52_code
abbrev yJ_floorModL : MethodName := ⟨"java/lang/Math", "floorMod", "(JJ)J"⟩
abbrev wsJ_floorModL : List Cond := .code yJ_floorModL cJ_floorModL 6 (some .long) :: wsU
abbrev cJ_max : ByteArray := prog_6_method_65_code
abbrev yJ_max : MethodName := ⟨"java/lang/Math", "max", "(II)I"⟩
abbrev wsJ_max : List Cond := .code yJ_max cJ_max 2 (some .int) :: wsU
abbrev cJ_min : ByteArray := prog_6_method_69_code
abbrev yJ_min : MethodName := ⟨"java/lang/Math", "min", "(II)I"⟩
abbrev wsJ_min : List Cond := .code yJ_min cJ_min 2 (some .int) :: wsU

-- 13.words
def wk_l : List Cond := [
  (Jvm.Cond.lays "DraftTreeModel" "DraftTreeModel" "code" "I"),
  (Jvm.Cond.lays "DraftTreeModel" "DraftTreeModel" "typed" "I"),
  (Jvm.Cond.laysFinal "DraftTreeModel" "DraftTreeModel" "slip" "[C"),
  (Jvm.Cond.lays "DraftTreeModel" "DraftTreeModel" "states" "I"),
  (Jvm.Cond.lays "DraftTreeModel" "DraftTreeModel" "present" "I"),
  (Jvm.Cond.laysFinal "DraftTreeModel" "DraftTreeModel" "texts" "[C"),
  (Jvm.Cond.laysFinal "DraftTreeModel" "DraftTreeModel" "lengths" "[I"),
  (Jvm.Cond.laysFinal "DraftTreeModel" "DraftTreeModel" "places" "[I"),
  (Jvm.Cond.laysFinal "DraftTreeModel" "DraftTreeModel" "parents" "[I"),
  (Jvm.Cond.laysFinal "DraftTreeModel" "DraftTreeModel" "came" "[I"),
  (Jvm.Cond.lays "DraftTreeModel" "DraftTreeModel" "clock" "I"),
  (Jvm.Cond.lays "DraftTreeModel" "DraftTreeModel" "cursor" "I"),
  (Jvm.Cond.lays "DraftTreeModel" "DraftTreeModel" "mark" "I"),
  (Jvm.Cond.lays "DraftTreeModel" "DraftTreeModel" "compiled" "Z"),
  (Jvm.Cond.lays "DraftTreeModel" "DraftTreeModel" "wrongAt" "I"),
  (Jvm.Cond.lays "DraftTreeModel" "DraftTreeModel" "size" "I"),
  (Jvm.Cond.laysFinal "DraftTreeModel" "DraftTreeModel" "pattern" "[C"),
  (Jvm.Cond.lays "DraftTreeModel" "DraftTreeModel" "nodes" "I"),
  (Jvm.Cond.laysFinal "DraftTreeModel" "DraftTreeModel" "kind" "[I"),
  (Jvm.Cond.laysFinal "DraftTreeModel" "DraftTreeModel" "from" "[I"),
  (Jvm.Cond.laysFinal "DraftTreeModel" "DraftTreeModel" "to" "[I"),
  (Jvm.Cond.laysFinal "DraftTreeModel" "DraftTreeModel" "one" "[I"),
  (Jvm.Cond.laysFinal "DraftTreeModel" "DraftTreeModel" "two" "[I"),
  (Jvm.Cond.lays "DraftTreeModel" "DraftTreeModel" "first" "I"),
  (Jvm.Cond.lays "DraftTreeModel" "DraftTreeModel" "last" "I"),
  (Jvm.Cond.lays "DraftTreeModel" "DraftTreeModel" "pieces" "I"),
  (Jvm.Cond.laysFinal "DraftTreeModel" "DraftTreeModel" "head" "[I"),
  (Jvm.Cond.laysFinal "DraftTreeModel" "DraftTreeModel" "tail" "[I"),
  (Jvm.Cond.lays "DraftTreeModel" "DraftTreeModel" "open" "I"),
  (Jvm.Cond.laysFinal "DraftTreeModel" "DraftTreeModel" "choice" "[I"),
  (Jvm.Cond.laysFinal "DraftTreeModel" "DraftTreeModel" "row" "[I"),
  (Jvm.Cond.laysFinal "DraftTreeModel" "DraftTreeModel" "part" "[I"),
  (Jvm.Cond.laysFinal "DraftTreeModel" "DraftTreeModel" "here" "[Z"),
  (Jvm.Cond.laysFinal "DraftTreeModel" "DraftTreeModel" "then" "[Z"),
  (Jvm.Cond.lays "DraftTreeModel" "DraftTreeModel" "foundAt" "I"),
  (Jvm.Cond.lays "DraftTreeModel" "DraftTreeModel" "foundEnd" "I"),
  (Jvm.Cond.lays "DraftTreeModel" "DraftTreeModel" "made" "I"),
  (Jvm.Cond.laysFinal "DraftTreeModel" "DraftTreeModel" "draft" "[C"),
  (Jvm.Cond.fieldLink "DraftTreeModel" (79 : Nat) "DraftTreeModel" "draft" "[C"),
  (Jvm.Cond.fieldLink "DraftTreeModel" (101 : Nat) "DraftTreeModel" "made" "I"),
  (Jvm.Cond.code ({ cls := "DraftTreeModel", name := "add", desc := "(C)V" } : Jvm.MethodName) prog_6_method_9_code (2 : Nat) (Option.none : Option Jvm.ClassFile.FieldType)),
  (Jvm.Cond.fieldLink "DraftTreeModel" (89 : Nat) "DraftTreeModel" "typed" "I"),
  (Jvm.Cond.fieldLink "DraftTreeModel" (7 : Nat) "DraftTreeModel" "slip" "[C"),
  (Jvm.Cond.methodLink "DraftTreeModel" (108 : Nat) ({ cls := "DraftTreeModel", name := "add", desc := "(C)V" } : Jvm.MethodName)),
  (Jvm.Cond.instanceMethod ({ cls := "DraftTreeModel", name := "add", desc := "(C)V" } : Jvm.MethodName)),
  (Jvm.Cond.selects "DraftTreeModel" ({ cls := "DraftTreeModel", name := "add", desc := "(C)V" } : Jvm.MethodName) ({ cls := "DraftTreeModel", name := "add", desc := "(C)V" } : Jvm.MethodName)),
  (Jvm.Cond.initialized "DraftTreeModel"),
  (Jvm.Cond.code ({ cls := "DraftTreeModel", name := "addSlip", desc := "()V" } : Jvm.MethodName) prog_6_method_11_code (2 : Nat) (Option.none : Option Jvm.ClassFile.FieldType)),
  (Jvm.Cond.fieldLink "DraftTreeModel" (17 : Nat) "DraftTreeModel" "texts" "[C"),
  (Jvm.Cond.fieldLink "DraftTreeModel" (92 : Nat) "DraftTreeModel" "present" "I"),
  (Jvm.Cond.code ({ cls := "DraftTreeModel", name := "charAt", desc := "(I)C" } : Jvm.MethodName) prog_6_method_6_code (2 : Nat) (Option.some Jvm.ClassFile.FieldType.char)),
  (Jvm.Cond.methodLink "DraftTreeModel" (104 : Nat) ({ cls := "DraftTreeModel", name := "charAt", desc := "(I)C" } : Jvm.MethodName)),
  (Jvm.Cond.instanceMethod ({ cls := "DraftTreeModel", name := "charAt", desc := "(I)C" } : Jvm.MethodName)),
  (Jvm.Cond.selects "DraftTreeModel" ({ cls := "DraftTreeModel", name := "charAt", desc := "(I)C" } : Jvm.MethodName) ({ cls := "DraftTreeModel", name := "charAt", desc := "(I)C" } : Jvm.MethodName)),
  (Jvm.Cond.code ({ cls := "DraftTreeModel", name := "addText", desc := "(II)V" } : Jvm.MethodName) prog_6_method_10_code (5 : Nat) (Option.none : Option Jvm.ClassFile.FieldType)),
  (Jvm.Cond.fieldLink "DraftTreeModel" (20 : Nat) "DraftTreeModel" "lengths" "[I"),
  (Jvm.Cond.code ({ cls := "DraftTreeModel", name := "textLength", desc := "()I" } : Jvm.MethodName) prog_6_method_7_code (1 : Nat) (Option.some Jvm.ClassFile.FieldType.int)),
  (Jvm.Cond.methodLink "DraftTreeModel" (123 : Nat) ({ cls := "DraftTreeModel", name := "textLength", desc := "()I" } : Jvm.MethodName)),
  (Jvm.Cond.instanceMethod ({ cls := "DraftTreeModel", name := "textLength", desc := "()I" } : Jvm.MethodName)),
  (Jvm.Cond.selects "DraftTreeModel" ({ cls := "DraftTreeModel", name := "textLength", desc := "()I" } : Jvm.MethodName) ({ cls := "DraftTreeModel", name := "textLength", desc := "()I" } : Jvm.MethodName)),
  (Jvm.Cond.fieldLink "DraftTreeModel" (82 : Nat) "DraftTreeModel" "code" "I"),
  (Jvm.Cond.code ({ cls := "DraftTreeModel", name := "at", desc := "(I)C" } : Jvm.MethodName) prog_6_method_48_code (2 : Nat) (Option.some Jvm.ClassFile.FieldType.char)),
  (Jvm.Cond.fieldLink "DraftTreeModel" (60 : Nat) "DraftTreeModel" "tail" "[I"),
  (Jvm.Cond.fieldLink "DraftTreeModel" (57 : Nat) "DraftTreeModel" "head" "[I"),
  (Jvm.Cond.fieldLink "DraftTreeModel" (51 : Nat) "DraftTreeModel" "one" "[I"),
  (Jvm.Cond.fieldLink "DraftTreeModel" (54 : Nat) "DraftTreeModel" "two" "[I"),
  (Jvm.Cond.code ({ cls := "DraftTreeModel", name := "link", desc := "(II)V" } : Jvm.MethodName) prog_6_method_25_code (3 : Nat) (Option.none : Option Jvm.ClassFile.FieldType)),
  (Jvm.Cond.methodLink "DraftTreeModel" (152 : Nat) ({ cls := "DraftTreeModel", name := "link", desc := "(II)V" } : Jvm.MethodName)),
  (Jvm.Cond.instanceMethod ({ cls := "DraftTreeModel", name := "link", desc := "(II)V" } : Jvm.MethodName)),
  (Jvm.Cond.selects "DraftTreeModel" ({ cls := "DraftTreeModel", name := "link", desc := "(II)V" } : Jvm.MethodName) ({ cls := "DraftTreeModel", name := "link", desc := "(II)V" } : Jvm.MethodName)),
  (Jvm.Cond.fieldLink "DraftTreeModel" (145 : Nat) "DraftTreeModel" "pieces" "I"),
  (Jvm.Cond.code ({ cls := "DraftTreeModel", name := "piece", desc := "(II)I" } : Jvm.MethodName) prog_6_method_26_code (3 : Nat) (Option.some Jvm.ClassFile.FieldType.int)),
  (Jvm.Cond.methodLink "DraftTreeModel" (155 : Nat) ({ cls := "DraftTreeModel", name := "piece", desc := "(II)I" } : Jvm.MethodName)),
  (Jvm.Cond.instanceMethod ({ cls := "DraftTreeModel", name := "piece", desc := "(II)I" } : Jvm.MethodName)),
  (Jvm.Cond.selects "DraftTreeModel" ({ cls := "DraftTreeModel", name := "piece", desc := "(II)I" } : Jvm.MethodName) ({ cls := "DraftTreeModel", name := "piece", desc := "(II)I" } : Jvm.MethodName)),
  (Jvm.Cond.code ({ cls := "DraftTreeModel", name := "behind", desc := "(II)I" } : Jvm.MethodName) prog_6_method_29_code (3 : Nat) (Option.some Jvm.ClassFile.FieldType.int)),
  (Jvm.Cond.code ({ cls := "DraftTreeModel", name := "breaks", desc := "(I)I" } : Jvm.MethodName) prog_6_method_49_code (4 : Nat) (Option.some Jvm.ClassFile.FieldType.int)),
  (Jvm.Cond.fieldLink "DraftTreeModel" (39 : Nat) "DraftTreeModel" "pattern" "[C"),
  (Jvm.Cond.fieldLink "DraftTreeModel" (159 : Nat) "DraftTreeModel" "open" "I"),
  (Jvm.Cond.code ({ cls := "DraftTreeModel", name := "isTimes", desc := "(C)Z" } : Jvm.MethodName) prog_6_method_22_code (1 : Nat) (Option.some Jvm.ClassFile.FieldType.boolean)),
  (Jvm.Cond.methodLink "DraftTreeModel" (139 : Nat) ({ cls := "DraftTreeModel", name := "isTimes", desc := "(C)Z" } : Jvm.MethodName)),
  (Jvm.Cond.static ({ cls := "DraftTreeModel", name := "isTimes", desc := "(C)Z" } : Jvm.MethodName)),
  (Jvm.Cond.fieldLink "DraftTreeModel" (42 : Nat) "DraftTreeModel" "kind" "[I"),
  (Jvm.Cond.fieldLink "DraftTreeModel" (142 : Nat) "DraftTreeModel" "nodes" "I"),
  (Jvm.Cond.fieldLink "DraftTreeModel" (45 : Nat) "DraftTreeModel" "from" "[I"),
  (Jvm.Cond.fieldLink "DraftTreeModel" (48 : Nat) "DraftTreeModel" "to" "[I"),
  (Jvm.Cond.code ({ cls := "DraftTreeModel", name := "node", desc := "(III)I" } : Jvm.MethodName) prog_6_method_24_code (4 : Nat) (Option.some Jvm.ClassFile.FieldType.int)),
  (Jvm.Cond.methodLink "DraftTreeModel" (148 : Nat) ({ cls := "DraftTreeModel", name := "node", desc := "(III)I" } : Jvm.MethodName)),
  (Jvm.Cond.instanceMethod ({ cls := "DraftTreeModel", name := "node", desc := "(III)I" } : Jvm.MethodName)),
  (Jvm.Cond.selects "DraftTreeModel" ({ cls := "DraftTreeModel", name := "node", desc := "(III)I" } : Jvm.MethodName) ({ cls := "DraftTreeModel", name := "node", desc := "(III)I" } : Jvm.MethodName)),
  (Jvm.Cond.code ({ cls := "DraftTreeModel", name := "single", desc := "(III)I" } : Jvm.MethodName) prog_6_method_27_code (6 : Nat) (Option.some Jvm.ClassFile.FieldType.int)),
  (Jvm.Cond.methodLink "DraftTreeModel" (184 : Nat) ({ cls := "DraftTreeModel", name := "single", desc := "(III)I" } : Jvm.MethodName)),
  (Jvm.Cond.instanceMethod ({ cls := "DraftTreeModel", name := "single", desc := "(III)I" } : Jvm.MethodName)),
  (Jvm.Cond.selects "DraftTreeModel" ({ cls := "DraftTreeModel", name := "single", desc := "(III)I" } : Jvm.MethodName) ({ cls := "DraftTreeModel", name := "single", desc := "(III)I" } : Jvm.MethodName)),
  (Jvm.Cond.fieldLink "DraftTreeModel" (66 : Nat) "DraftTreeModel" "row" "[I"),
  (Jvm.Cond.fieldLink "DraftTreeModel" (69 : Nat) "DraftTreeModel" "part" "[I"),
  (Jvm.Cond.methodLink "DraftTreeModel" (165 : Nat) ({ cls := "DraftTreeModel", name := "behind", desc := "(II)I" } : Jvm.MethodName)),
  (Jvm.Cond.instanceMethod ({ cls := "DraftTreeModel", name := "behind", desc := "(II)I" } : Jvm.MethodName)),
  (Jvm.Cond.selects "DraftTreeModel" ({ cls := "DraftTreeModel", name := "behind", desc := "(II)I" } : Jvm.MethodName) ({ cls := "DraftTreeModel", name := "behind", desc := "(II)I" } : Jvm.MethodName)),
  (Jvm.Cond.code ({ cls := "DraftTreeModel", name := "newPart", desc := "(I)V" } : Jvm.MethodName) prog_6_method_34_code (3 : Nat) (Option.none : Option Jvm.ClassFile.FieldType)),
  (Jvm.Cond.methodLink "DraftTreeModel" (177 : Nat) ({ cls := "DraftTreeModel", name := "newPart", desc := "(I)V" } : Jvm.MethodName)),
  (Jvm.Cond.instanceMethod ({ cls := "DraftTreeModel", name := "newPart", desc := "(I)V" } : Jvm.MethodName)),
  (Jvm.Cond.selects "DraftTreeModel" ({ cls := "DraftTreeModel", name := "newPart", desc := "(I)V" } : Jvm.MethodName) ({ cls := "DraftTreeModel", name := "newPart", desc := "(I)V" } : Jvm.MethodName)),
  (Jvm.Cond.fieldLink "DraftTreeModel" (63 : Nat) "DraftTreeModel" "choice" "[I"),
  (Jvm.Cond.code ({ cls := "DraftTreeModel", name := "either", desc := "(II)I" } : Jvm.MethodName) prog_6_method_30_code (5 : Nat) (Option.some Jvm.ClassFile.FieldType.int)),
  (Jvm.Cond.methodLink "DraftTreeModel" (168 : Nat) ({ cls := "DraftTreeModel", name := "either", desc := "(II)I" } : Jvm.MethodName)),
  (Jvm.Cond.instanceMethod ({ cls := "DraftTreeModel", name := "either", desc := "(II)I" } : Jvm.MethodName)),
  (Jvm.Cond.selects "DraftTreeModel" ({ cls := "DraftTreeModel", name := "either", desc := "(II)I" } : Jvm.MethodName) ({ cls := "DraftTreeModel", name := "either", desc := "(II)I" } : Jvm.MethodName)),
  (Jvm.Cond.code ({ cls := "DraftTreeModel", name := "endRow", desc := "()V" } : Jvm.MethodName) prog_6_method_33_code (3 : Nat) (Option.none : Option Jvm.ClassFile.FieldType)),
  (Jvm.Cond.methodLink "DraftTreeModel" (174 : Nat) ({ cls := "DraftTreeModel", name := "endRow", desc := "()V" } : Jvm.MethodName)),
  (Jvm.Cond.instanceMethod ({ cls := "DraftTreeModel", name := "endRow", desc := "()V" } : Jvm.MethodName)),
  (Jvm.Cond.selects "DraftTreeModel" ({ cls := "DraftTreeModel", name := "endRow", desc := "()V" } : Jvm.MethodName) ({ cls := "DraftTreeModel", name := "endRow", desc := "()V" } : Jvm.MethodName)),
  (Jvm.Cond.code ({ cls := "DraftTreeModel", name := "nothing", desc := "()I" } : Jvm.MethodName) prog_6_method_28_code (2 : Nat) (Option.some Jvm.ClassFile.FieldType.int)),
  (Jvm.Cond.methodLink "DraftTreeModel" (162 : Nat) ({ cls := "DraftTreeModel", name := "nothing", desc := "()I" } : Jvm.MethodName)),
  (Jvm.Cond.instanceMethod ({ cls := "DraftTreeModel", name := "nothing", desc := "()I" } : Jvm.MethodName)),
  (Jvm.Cond.selects "DraftTreeModel" ({ cls := "DraftTreeModel", name := "nothing", desc := "()I" } : Jvm.MethodName) ({ cls := "DraftTreeModel", name := "nothing", desc := "()I" } : Jvm.MethodName)),
  (Jvm.Cond.code ({ cls := "DraftTreeModel", name := "openGroup", desc := "()V" } : Jvm.MethodName) prog_6_method_32_code (1 : Nat) (Option.none : Option Jvm.ClassFile.FieldType)),
  (Jvm.Cond.methodLink "DraftTreeModel" (171 : Nat) ({ cls := "DraftTreeModel", name := "openGroup", desc := "()V" } : Jvm.MethodName)),
  (Jvm.Cond.instanceMethod ({ cls := "DraftTreeModel", name := "openGroup", desc := "()V" } : Jvm.MethodName)),
  (Jvm.Cond.selects "DraftTreeModel" ({ cls := "DraftTreeModel", name := "openGroup", desc := "()V" } : Jvm.MethodName) ({ cls := "DraftTreeModel", name := "openGroup", desc := "()V" } : Jvm.MethodName)),
  (Jvm.Cond.code ({ cls := "DraftTreeModel", name := "times", desc := "(IZZ)I" } : Jvm.MethodName) prog_6_method_31_code (6 : Nat) (Option.some Jvm.ClassFile.FieldType.int)),
  (Jvm.Cond.methodLink "DraftTreeModel" (180 : Nat) ({ cls := "DraftTreeModel", name := "times", desc := "(IZZ)I" } : Jvm.MethodName)),
  (Jvm.Cond.instanceMethod ({ cls := "DraftTreeModel", name := "times", desc := "(IZZ)I" } : Jvm.MethodName)),
  (Jvm.Cond.selects "DraftTreeModel" ({ cls := "DraftTreeModel", name := "times", desc := "(IZZ)I" } : Jvm.MethodName) ({ cls := "DraftTreeModel", name := "times", desc := "(IZZ)I" } : Jvm.MethodName)),
  (Jvm.Cond.code ({ cls := "DraftTreeModel", name := "build", desc := "(I)I" } : Jvm.MethodName) prog_6_method_35_code (6 : Nat) (Option.some Jvm.ClassFile.FieldType.int)),
  (Jvm.Cond.fieldLink "DraftTreeModel" (24 : Nat) "DraftTreeModel" "places" "[I"),
  (Jvm.Cond.fieldLink "DraftTreeModel" (95 : Nat) "DraftTreeModel" "cursor" "I"),
  (Jvm.Cond.fieldLink "DraftTreeModel" (33 : Nat) "DraftTreeModel" "mark" "I"),
  (Jvm.Cond.fieldLink "DraftTreeModel" (98 : Nat) "DraftTreeModel" "clock" "I"),
  (Jvm.Cond.fieldLink "DraftTreeModel" (30 : Nat) "DraftTreeModel" "came" "[I"),
  (Jvm.Cond.code ({ cls := "DraftTreeModel", name := "come", desc := "(I)V" } : Jvm.MethodName) prog_6_method_8_code (2 : Nat) (Option.none : Option Jvm.ClassFile.FieldType)),
  (Jvm.Cond.code ({ cls := "DraftTreeModel", name := "isPlain", desc := "(C)Z" } : Jvm.MethodName) prog_6_method_21_code (1 : Nat) (Option.some Jvm.ClassFile.FieldType.boolean)),
  (Jvm.Cond.methodLink "DraftTreeModel" (136 : Nat) ({ cls := "DraftTreeModel", name := "isPlain", desc := "(C)Z" } : Jvm.MethodName)),
  (Jvm.Cond.static ({ cls := "DraftTreeModel", name := "isPlain", desc := "(C)Z" } : Jvm.MethodName)),
  (Jvm.Cond.code ({ cls := "DraftTreeModel", name := "good", desc := "()I" } : Jvm.MethodName) prog_6_method_23_code (5 : Nat) (Option.some Jvm.ClassFile.FieldType.int)),
  (Jvm.Cond.methodLink "DraftTreeModel" (187 : Nat) ({ cls := "DraftTreeModel", name := "good", desc := "()I" } : Jvm.MethodName)),
  (Jvm.Cond.instanceMethod ({ cls := "DraftTreeModel", name := "good", desc := "()I" } : Jvm.MethodName)),
  (Jvm.Cond.selects "DraftTreeModel" ({ cls := "DraftTreeModel", name := "good", desc := "()I" } : Jvm.MethodName) ({ cls := "DraftTreeModel", name := "good", desc := "()I" } : Jvm.MethodName)),
  (Jvm.Cond.fieldLink "DraftTreeModel" (36 : Nat) "DraftTreeModel" "wrongAt" "I"),
  (Jvm.Cond.fieldLink "DraftTreeModel" (190 : Nat) "DraftTreeModel" "size" "I"),
  (Jvm.Cond.fieldLink "DraftTreeModel" (197 : Nat) "DraftTreeModel" "first" "I"),
  (Jvm.Cond.fieldLink "DraftTreeModel" (200 : Nat) "DraftTreeModel" "last" "I"),
  (Jvm.Cond.fieldLink "DraftTreeModel" (203 : Nat) "DraftTreeModel" "compiled" "Z"),
  (Jvm.Cond.methodLink "DraftTreeModel" (193 : Nat) ({ cls := "DraftTreeModel", name := "build", desc := "(I)I" } : Jvm.MethodName)),
  (Jvm.Cond.instanceMethod ({ cls := "DraftTreeModel", name := "build", desc := "(I)I" } : Jvm.MethodName)),
  (Jvm.Cond.selects "DraftTreeModel" ({ cls := "DraftTreeModel", name := "build", desc := "(I)I" } : Jvm.MethodName) ({ cls := "DraftTreeModel", name := "build", desc := "(I)I" } : Jvm.MethodName)),
  (Jvm.Cond.code ({ cls := "DraftTreeModel", name := "compile", desc := "()V" } : Jvm.MethodName) prog_6_method_36_code (4 : Nat) (Option.none : Option Jvm.ClassFile.FieldType)),
  (Jvm.Cond.fieldLink "DraftTreeModel" (13 : Nat) "DraftTreeModel" "states" "I"),
  (Jvm.Cond.fieldLink "DraftTreeModel" (27 : Nat) "DraftTreeModel" "parents" "[I"),
  (Jvm.Cond.methodLink "DraftTreeModel" (112 : Nat) ({ cls := "DraftTreeModel", name := "come", desc := "(I)V" } : Jvm.MethodName)),
  (Jvm.Cond.instanceMethod ({ cls := "DraftTreeModel", name := "come", desc := "(I)V" } : Jvm.MethodName)),
  (Jvm.Cond.selects "DraftTreeModel" ({ cls := "DraftTreeModel", name := "come", desc := "(I)V" } : Jvm.MethodName) ({ cls := "DraftTreeModel", name := "come", desc := "(I)V" } : Jvm.MethodName)),
  (Jvm.Cond.code ({ cls := "DraftTreeModel", name := "edit", desc := "(I)V" } : Jvm.MethodName) prog_6_method_12_code (4 : Nat) (Option.none : Option Jvm.ClassFile.FieldType)),
  (Jvm.Cond.code ({ cls := "DraftTreeModel", name := "low", desc := "()I" } : Jvm.MethodName) prog_6_method_13_code (1 : Nat) (Option.some Jvm.ClassFile.FieldType.int)),
  (Jvm.Cond.methodLink "DraftTreeModel" (116 : Nat) ({ cls := "DraftTreeModel", name := "low", desc := "()I" } : Jvm.MethodName)),
  (Jvm.Cond.instanceMethod ({ cls := "DraftTreeModel", name := "low", desc := "()I" } : Jvm.MethodName)),
  (Jvm.Cond.selects "DraftTreeModel" ({ cls := "DraftTreeModel", name := "low", desc := "()I" } : Jvm.MethodName) ({ cls := "DraftTreeModel", name := "low", desc := "()I" } : Jvm.MethodName)),
  (Jvm.Cond.code ({ cls := "DraftTreeModel", name := "high", desc := "()I" } : Jvm.MethodName) prog_6_method_14_code (1 : Nat) (Option.some Jvm.ClassFile.FieldType.int)),
  (Jvm.Cond.methodLink "DraftTreeModel" (120 : Nat) ({ cls := "DraftTreeModel", name := "high", desc := "()I" } : Jvm.MethodName)),
  (Jvm.Cond.instanceMethod ({ cls := "DraftTreeModel", name := "high", desc := "()I" } : Jvm.MethodName)),
  (Jvm.Cond.selects "DraftTreeModel" ({ cls := "DraftTreeModel", name := "high", desc := "()I" } : Jvm.MethodName) ({ cls := "DraftTreeModel", name := "high", desc := "()I" } : Jvm.MethodName)),
  (Jvm.Cond.methodLink "DraftTreeModel" (126 : Nat) ({ cls := "DraftTreeModel", name := "addText", desc := "(II)V" } : Jvm.MethodName)),
  (Jvm.Cond.instanceMethod ({ cls := "DraftTreeModel", name := "addText", desc := "(II)V" } : Jvm.MethodName)),
  (Jvm.Cond.selects "DraftTreeModel" ({ cls := "DraftTreeModel", name := "addText", desc := "(II)V" } : Jvm.MethodName) ({ cls := "DraftTreeModel", name := "addText", desc := "(II)V" } : Jvm.MethodName)),
  (Jvm.Cond.methodLink "DraftTreeModel" (133 : Nat) ({ cls := "DraftTreeModel", name := "edit", desc := "(I)V" } : Jvm.MethodName)),
  (Jvm.Cond.instanceMethod ({ cls := "DraftTreeModel", name := "edit", desc := "(I)V" } : Jvm.MethodName)),
  (Jvm.Cond.selects "DraftTreeModel" ({ cls := "DraftTreeModel", name := "edit", desc := "(I)V" } : Jvm.MethodName) ({ cls := "DraftTreeModel", name := "edit", desc := "(I)V" } : Jvm.MethodName)),
  (Jvm.Cond.code ({ cls := "DraftTreeModel", name := "erase", desc := "(I)I" } : Jvm.MethodName) prog_6_method_16_code (5 : Nat) (Option.some Jvm.ClassFile.FieldType.int)),
  (Jvm.Cond.code ({ cls := "DraftTreeModel", name := "fault", desc := "()I" } : Jvm.MethodName) prog_6_method_37_code (1 : Nat) (Option.some Jvm.ClassFile.FieldType.int)),
  (Jvm.Cond.code ({ cls := "DraftTreeModel", name := "figure", desc := "(I)I" } : Jvm.MethodName) prog_6_method_52_code (2 : Nat) (Option.some Jvm.ClassFile.FieldType.int)),
  (Jvm.Cond.fieldLink "DraftTreeModel" (226 : Nat) "DraftTreeModel" "foundEnd" "I"),
  (Jvm.Cond.fieldLink "DraftTreeModel" (229 : Nat) "DraftTreeModel" "foundAt" "I"),
  (Jvm.Cond.fieldLink "DraftTreeModel" (72 : Nat) "DraftTreeModel" "here" "[Z"),
  (Jvm.Cond.code ({ cls := "DraftTreeModel", name := "passes", desc := "(II)Z" } : Jvm.MethodName) prog_6_method_40_code (5 : Nat) (Option.some Jvm.ClassFile.FieldType.boolean)),
  (Jvm.Cond.methodLink "DraftTreeModel" (211 : Nat) ({ cls := "DraftTreeModel", name := "passes", desc := "(II)Z" } : Jvm.MethodName)),
  (Jvm.Cond.instanceMethod ({ cls := "DraftTreeModel", name := "passes", desc := "(II)Z" } : Jvm.MethodName)),
  (Jvm.Cond.selects "DraftTreeModel" ({ cls := "DraftTreeModel", name := "passes", desc := "(II)Z" } : Jvm.MethodName) ({ cls := "DraftTreeModel", name := "passes", desc := "(II)Z" } : Jvm.MethodName)),
  (Jvm.Cond.code ({ cls := "DraftTreeModel", name := "reach", desc := "(I)Z" } : Jvm.MethodName) prog_6_method_42_code (3 : Nat) (Option.some Jvm.ClassFile.FieldType.boolean)),
  (Jvm.Cond.methodLink "DraftTreeModel" (215 : Nat) ({ cls := "DraftTreeModel", name := "reach", desc := "(I)Z" } : Jvm.MethodName)),
  (Jvm.Cond.instanceMethod ({ cls := "DraftTreeModel", name := "reach", desc := "(I)Z" } : Jvm.MethodName)),
  (Jvm.Cond.selects "DraftTreeModel" ({ cls := "DraftTreeModel", name := "reach", desc := "(I)Z" } : Jvm.MethodName) ({ cls := "DraftTreeModel", name := "reach", desc := "(I)Z" } : Jvm.MethodName)),
  (Jvm.Cond.code ({ cls := "DraftTreeModel", name := "spread", desc := "(I)V" } : Jvm.MethodName) prog_6_method_41_code (4 : Nat) (Option.none : Option Jvm.ClassFile.FieldType)),
  (Jvm.Cond.methodLink "DraftTreeModel" (219 : Nat) ({ cls := "DraftTreeModel", name := "spread", desc := "(I)V" } : Jvm.MethodName)),
  (Jvm.Cond.instanceMethod ({ cls := "DraftTreeModel", name := "spread", desc := "(I)V" } : Jvm.MethodName)),
  (Jvm.Cond.selects "DraftTreeModel" ({ cls := "DraftTreeModel", name := "spread", desc := "(I)V" } : Jvm.MethodName) ({ cls := "DraftTreeModel", name := "spread", desc := "(I)V" } : Jvm.MethodName)),
  (Jvm.Cond.fieldLink "DraftTreeModel" (76 : Nat) "DraftTreeModel" "then" "[Z"),
  (Jvm.Cond.code ({ cls := "DraftTreeModel", name := "inSet", desc := "(CII)Z" } : Jvm.MethodName) prog_6_method_38_code (9 : Nat) (Option.some Jvm.ClassFile.FieldType.boolean)),
  (Jvm.Cond.methodLink "DraftTreeModel" (207 : Nat) ({ cls := "DraftTreeModel", name := "inSet", desc := "(CII)Z" } : Jvm.MethodName)),
  (Jvm.Cond.instanceMethod ({ cls := "DraftTreeModel", name := "inSet", desc := "(CII)Z" } : Jvm.MethodName)),
  (Jvm.Cond.selects "DraftTreeModel" ({ cls := "DraftTreeModel", name := "inSet", desc := "(CII)Z" } : Jvm.MethodName) ({ cls := "DraftTreeModel", name := "inSet", desc := "(CII)Z" } : Jvm.MethodName)),
  (Jvm.Cond.code ({ cls := "DraftTreeModel", name := "takes", desc := "(IC)Z" } : Jvm.MethodName) prog_6_method_39_code (3 : Nat) (Option.some Jvm.ClassFile.FieldType.boolean)),
  (Jvm.Cond.methodLink "DraftTreeModel" (222 : Nat) ({ cls := "DraftTreeModel", name := "takes", desc := "(IC)Z" } : Jvm.MethodName)),
  (Jvm.Cond.instanceMethod ({ cls := "DraftTreeModel", name := "takes", desc := "(IC)Z" } : Jvm.MethodName)),
  (Jvm.Cond.selects "DraftTreeModel" ({ cls := "DraftTreeModel", name := "takes", desc := "(IC)Z" } : Jvm.MethodName) ({ cls := "DraftTreeModel", name := "takes", desc := "(IC)Z" } : Jvm.MethodName)),
  (Jvm.Cond.code ({ cls := "DraftTreeModel", name := "longest", desc := "(I)I" } : Jvm.MethodName) prog_6_method_43_code (6 : Nat) (Option.some Jvm.ClassFile.FieldType.int)),
  (Jvm.Cond.methodLink "DraftTreeModel" (232 : Nat) ({ cls := "DraftTreeModel", name := "longest", desc := "(I)I" } : Jvm.MethodName)),
  (Jvm.Cond.instanceMethod ({ cls := "DraftTreeModel", name := "longest", desc := "(I)I" } : Jvm.MethodName)),
  (Jvm.Cond.selects "DraftTreeModel" ({ cls := "DraftTreeModel", name := "longest", desc := "(I)I" } : Jvm.MethodName) ({ cls := "DraftTreeModel", name := "longest", desc := "(I)I" } : Jvm.MethodName)),
  (Jvm.Cond.code ({ cls := "DraftTreeModel", name := "look", desc := "(I)Z" } : Jvm.MethodName) prog_6_method_44_code (3 : Nat) (Option.some Jvm.ClassFile.FieldType.boolean)),
  (Jvm.Cond.methodLink "DraftTreeModel" (235 : Nat) ({ cls := "DraftTreeModel", name := "look", desc := "(I)Z" } : Jvm.MethodName)),
  (Jvm.Cond.instanceMethod ({ cls := "DraftTreeModel", name := "look", desc := "(I)Z" } : Jvm.MethodName)),
  (Jvm.Cond.selects "DraftTreeModel" ({ cls := "DraftTreeModel", name := "look", desc := "(I)Z" } : Jvm.MethodName) ({ cls := "DraftTreeModel", name := "look", desc := "(I)Z" } : Jvm.MethodName)),
  (Jvm.Cond.code ({ cls := "DraftTreeModel", name := "find", desc := "(I)I" } : Jvm.MethodName) prog_6_method_45_code (2 : Nat) (Option.some Jvm.ClassFile.FieldType.int)),
  (Jvm.Cond.code ({ cls := "DraftTreeModel", name := "go", desc := "(IZ)V" } : Jvm.MethodName) prog_6_method_17_code (3 : Nat) (Option.none : Option Jvm.ClassFile.FieldType)),
  (Jvm.Cond.methodLink "DraftTreeModel" (130 : Nat) ({ cls := "DraftTreeModel", name := "addSlip", desc := "()V" } : Jvm.MethodName)),
  (Jvm.Cond.instanceMethod ({ cls := "DraftTreeModel", name := "addSlip", desc := "()V" } : Jvm.MethodName)),
  (Jvm.Cond.selects "DraftTreeModel" ({ cls := "DraftTreeModel", name := "addSlip", desc := "()V" } : Jvm.MethodName) ({ cls := "DraftTreeModel", name := "addSlip", desc := "()V" } : Jvm.MethodName)),
  (Jvm.Cond.code ({ cls := "DraftTreeModel", name := "insert", desc := "()I" } : Jvm.MethodName) prog_6_method_15_code (5 : Nat) (Option.some Jvm.ClassFile.FieldType.int)),
  (Jvm.Cond.code ({ cls := "DraftTreeModel", name := "isCharacter", desc := "(C)Z" } : Jvm.MethodName) prog_6_method_3_code (1 : Nat) (Option.some Jvm.ClassFile.FieldType.boolean)),
  (Jvm.Cond.code ({ cls := "DraftTreeModel", name := "jump", desc := "(I)V" } : Jvm.MethodName) prog_6_method_20_code (2 : Nat) (Option.none : Option Jvm.ClassFile.FieldType)),
  (Jvm.Cond.code ({ cls := "DraftTreeModel", name := "length", desc := "()I" } : Jvm.MethodName) prog_6_method_47_code (1 : Nat) (Option.some Jvm.ClassFile.FieldType.int)),
  (Jvm.Cond.methodLink "DraftTreeModel" (238 : Nat) ({ cls := "DraftTreeModel", name := "breaks", desc := "(I)I" } : Jvm.MethodName)),
  (Jvm.Cond.instanceMethod ({ cls := "DraftTreeModel", name := "breaks", desc := "(I)I" } : Jvm.MethodName)),
  (Jvm.Cond.selects "DraftTreeModel" ({ cls := "DraftTreeModel", name := "breaks", desc := "(I)I" } : Jvm.MethodName) ({ cls := "DraftTreeModel", name := "breaks", desc := "(I)I" } : Jvm.MethodName)),
  (Jvm.Cond.code ({ cls := "DraftTreeModel", name := "lineStart", desc := "(I)I" } : Jvm.MethodName) prog_6_method_50_code (3 : Nat) (Option.some Jvm.ClassFile.FieldType.int)),
  (Jvm.Cond.methodLink "DraftTreeModel" (241 : Nat) ({ cls := "DraftTreeModel", name := "lineStart", desc := "(I)I" } : Jvm.MethodName)),
  (Jvm.Cond.instanceMethod ({ cls := "DraftTreeModel", name := "lineStart", desc := "(I)I" } : Jvm.MethodName)),
  (Jvm.Cond.selects "DraftTreeModel" ({ cls := "DraftTreeModel", name := "lineStart", desc := "(I)I" } : Jvm.MethodName) ({ cls := "DraftTreeModel", name := "lineStart", desc := "(I)I" } : Jvm.MethodName)),
  (Jvm.Cond.code ({ cls := "DraftTreeModel", name := "line", desc := "(II)I" } : Jvm.MethodName) prog_6_method_51_code (7 : Nat) (Option.some Jvm.ClassFile.FieldType.int)),
  (Jvm.Cond.code ({ cls := "DraftTreeModel", name := "parent", desc := "(I)I" } : Jvm.MethodName) prog_6_method_53_code (2 : Nat) (Option.some Jvm.ClassFile.FieldType.int)),
  (Jvm.Cond.code ({ cls := "DraftTreeModel", name := "redo", desc := "()I" } : Jvm.MethodName) prog_6_method_19_code (3 : Nat) (Option.some Jvm.ClassFile.FieldType.int)),
  (Jvm.Cond.code ({ cls := "DraftTreeModel", name := "replace", desc := "()I" } : Jvm.MethodName) prog_6_method_46_code (4 : Nat) (Option.some Jvm.ClassFile.FieldType.int)),
  (Jvm.Cond.code ({ cls := "DraftTreeModel", name := "thrown", desc := "()I" } : Jvm.MethodName) prog_6_method_2_code (1 : Nat) (Option.some Jvm.ClassFile.FieldType.int)),
  (Jvm.Cond.methodLink "DraftTreeModel" (85 : Nat) ({ cls := "DraftTreeModel", name := "isCharacter", desc := "(C)Z" } : Jvm.MethodName)),
  (Jvm.Cond.static ({ cls := "DraftTreeModel", name := "isCharacter", desc := "(C)Z" } : Jvm.MethodName)),
  (Jvm.Cond.code ({ cls := "DraftTreeModel", name := "type", desc := "(C)Z" } : Jvm.MethodName) prog_6_method_4_code (2 : Nat) (Option.some Jvm.ClassFile.FieldType.boolean)),
  (Jvm.Cond.code ({ cls := "DraftTreeModel", name := "undo", desc := "()I" } : Jvm.MethodName) prog_6_method_18_code (1 : Nat) (Option.some Jvm.ClassFile.FieldType.int)),
  (Jvm.Cond.code ({ cls := "DraftTreeModel", name := "wipe", desc := "()I" } : Jvm.MethodName) prog_6_method_5_code (2 : Nat) (Option.some Jvm.ClassFile.FieldType.int)),
  (Jvm.Cond.laysFinal "DraftTree" "DraftTree" "slip" "[C"),
  (Jvm.Cond.lays "DraftTree" "DraftTree" "slipSize" "I"),
  (Jvm.Cond.laysFinal "DraftTree" "DraftTree" "states" "[LDraftTree$State;"),
  (Jvm.Cond.lays "DraftTree" "DraftTree" "stateCount" "I"),
  (Jvm.Cond.lays "DraftTree" "DraftTree" "present" "I"),
  (Jvm.Cond.lays "DraftTree" "DraftTree" "text" "[C"),
  (Jvm.Cond.lays "DraftTree" "DraftTree" "cursor" "I"),
  (Jvm.Cond.lays "DraftTree" "DraftTree" "mark" "I"),
  (Jvm.Cond.laysFinal "DraftTree" "DraftTree" "reader" "LDraftTree$PatternReader;"),
  (Jvm.Cond.lays "DraftTree" "DraftTree" "pattern" "LDraftTree$Automaton;"),
  (Jvm.Cond.lays "DraftTree" "DraftTree" "hasPattern" "Z"),
  (Jvm.Cond.lays "DraftTree" "DraftTree" "latestFault" "I"),
  (Jvm.Cond.laysFinal "DraftTree" "DraftTree" "matchStarts" "[I"),
  (Jvm.Cond.laysFinal "DraftTree" "DraftTree" "matchEnds" "[I"),
  (Jvm.Cond.fieldLink "DraftTree" (19 : Nat) "DraftTree" "text" "[C"),
  (Jvm.Cond.classLink "DraftTree" (143 : Nat) "java/lang/IndexOutOfBoundsException"),
  (Jvm.Cond.initialized "java/lang/IndexOutOfBoundsException"),
  (Jvm.Cond.code ({ cls := "DraftTree", name := "at", desc := "(I)C" } : Jvm.MethodName) prog_1_method_15_code (2 : Nat) (Option.some Jvm.ClassFile.FieldType.char)),
  (Jvm.Cond.code ({ cls := "DraftTree", name := "breaksBefore", desc := "(I)I" } : Jvm.MethodName) prog_1_method_29_code (4 : Nat) (Option.some Jvm.ClassFile.FieldType.int)),
  (Jvm.Cond.fieldLink "DraftTree" (42 : Nat) "DraftTree" "pattern" "LDraftTree$Automaton;"),
  (Jvm.Cond.laysFinal "DraftTree$Automaton" "DraftTree$Automaton" "kinds" "[I"),
  (Jvm.Cond.laysFinal "DraftTree$Automaton" "DraftTree$Automaton" "next" "[I"),
  (Jvm.Cond.laysFinal "DraftTree$Automaton" "DraftTree$Automaton" "other" "[I"),
  (Jvm.Cond.laysFinal "DraftTree$Automaton" "DraftTree$Automaton" "lowCodes" "[J"),
  (Jvm.Cond.laysFinal "DraftTree$Automaton" "DraftTree$Automaton" "highCodes" "[J"),
  (Jvm.Cond.lays "DraftTree$Automaton" "DraftTree$Automaton" "size" "I"),
  (Jvm.Cond.lays "DraftTree$Automaton" "DraftTree$Automaton" "start" "I"),
  (Jvm.Cond.lays "DraftTree$Automaton" "DraftTree$Automaton" "goal" "I"),
  (Jvm.Cond.lays "DraftTree$Automaton" "DraftTree$Automaton" "matchStart" "I"),
  (Jvm.Cond.lays "DraftTree$Automaton" "DraftTree$Automaton" "matchEnd" "I"),
  (Jvm.Cond.fieldLink "DraftTree$Automaton" (44 : Nat) "DraftTree$Automaton" "start" "I"),
  (Jvm.Cond.fieldLink "DraftTree$Automaton" (28 : Nat) "DraftTree$Automaton" "size" "I"),
  (Jvm.Cond.constant "java/lang/Integer" (264 : Nat) (65536 : Int32)),
  (Jvm.Cond.code ({ cls := "java/lang/Integer", name := "numberOfTrailingZeros", desc := "(I)I" } : Jvm.MethodName) prog_11_method_48_code (2 : Nat) (Option.some Jvm.ClassFile.FieldType.int)),
  (Jvm.Cond.methodLink "java/lang/Long" (311 : Nat) ({ cls := "java/lang/Integer", name := "numberOfTrailingZeros", desc := "(I)I" } : Jvm.MethodName)),
  (Jvm.Cond.static ({ cls := "java/lang/Integer", name := "numberOfTrailingZeros", desc := "(I)I" } : Jvm.MethodName)),
  (Jvm.Cond.initialized "java/lang/Integer"),
  (Jvm.Cond.code ({ cls := "java/lang/Long", name := "numberOfTrailingZeros", desc := "(J)I" } : Jvm.MethodName) prog_12_method_49_code (3 : Nat) (Option.some Jvm.ClassFile.FieldType.int)),
  (Jvm.Cond.methodLink "DraftTree$Automaton" (58 : Nat) ({ cls := "java/lang/Long", name := "numberOfTrailingZeros", desc := "(J)I" } : Jvm.MethodName)),
  (Jvm.Cond.static ({ cls := "java/lang/Long", name := "numberOfTrailingZeros", desc := "(J)I" } : Jvm.MethodName)),
  (Jvm.Cond.initialized "java/lang/Long"),
  (Jvm.Cond.fieldLink "DraftTree$Automaton" (11 : Nat) "DraftTree$Automaton" "kinds" "[I"),
  (Jvm.Cond.fieldLink "DraftTree$Automaton" (15 : Nat) "DraftTree$Automaton" "next" "[I"),
  (Jvm.Cond.code ({ cls := "DraftTree$Automaton", name := "asSet", desc := "(I)J" } : Jvm.MethodName) prog_2_method_11_code (1 : Nat) (Option.some Jvm.ClassFile.FieldType.long)),
  (Jvm.Cond.methodLink "DraftTree$Automaton" (68 : Nat) ({ cls := "DraftTree$Automaton", name := "asSet", desc := "(I)J" } : Jvm.MethodName)),
  (Jvm.Cond.static ({ cls := "DraftTree$Automaton", name := "asSet", desc := "(I)J" } : Jvm.MethodName)),
  (Jvm.Cond.initialized "DraftTree$Automaton"),
  (Jvm.Cond.fieldLink "DraftTree$Automaton" (18 : Nat) "DraftTree$Automaton" "other" "[I"),
  (Jvm.Cond.code ({ cls := "DraftTree$Automaton", name := "waysOut", desc := "(IZZ)J" } : Jvm.MethodName) prog_2_method_10_code (4 : Nat) (Option.some Jvm.ClassFile.FieldType.long)),
  (Jvm.Cond.methodLink "DraftTree$Automaton" (72 : Nat) ({ cls := "DraftTree$Automaton", name := "waysOut", desc := "(IZZ)J" } : Jvm.MethodName)),
  (Jvm.Cond.instanceMethod ({ cls := "DraftTree$Automaton", name := "waysOut", desc := "(IZZ)J" } : Jvm.MethodName)),
  (Jvm.Cond.selects "DraftTree$Automaton" ({ cls := "DraftTree$Automaton", name := "waysOut", desc := "(IZZ)J" } : Jvm.MethodName) ({ cls := "DraftTree$Automaton", name := "waysOut", desc := "(IZZ)J" } : Jvm.MethodName)),
  (Jvm.Cond.constantLong "DraftTree$Automaton" (32 : Nat) (-1 : Int64)),
  (Jvm.Cond.code ({ cls := "DraftTree$Automaton", name := "spread", desc := "(J[CI)J" } : Jvm.MethodName) prog_2_method_9_code (15 : Nat) (Option.some Jvm.ClassFile.FieldType.long)),
  (Jvm.Cond.methodLink "DraftTree$Automaton" (47 : Nat) ({ cls := "DraftTree$Automaton", name := "spread", desc := "(J[CI)J" } : Jvm.MethodName)),
  (Jvm.Cond.instanceMethod ({ cls := "DraftTree$Automaton", name := "spread", desc := "(J[CI)J" } : Jvm.MethodName)),
  (Jvm.Cond.selects "DraftTree$Automaton" ({ cls := "DraftTree$Automaton", name := "spread", desc := "(J[CI)J" } : Jvm.MethodName) ({ cls := "DraftTree$Automaton", name := "spread", desc := "(J[CI)J" } : Jvm.MethodName)),
  (Jvm.Cond.fieldLink "DraftTree$Automaton" (25 : Nat) "DraftTree$Automaton" "highCodes" "[J"),
  (Jvm.Cond.fieldLink "DraftTree$Automaton" (21 : Nat) "DraftTree$Automaton" "lowCodes" "[J"),
  (Jvm.Cond.code ({ cls := "DraftTree$Automaton", name := "takes", desc := "(IC)Z" } : Jvm.MethodName) prog_2_method_8_code (5 : Nat) (Option.some Jvm.ClassFile.FieldType.boolean)),
  (Jvm.Cond.methodLink "DraftTree$Automaton" (64 : Nat) ({ cls := "DraftTree$Automaton", name := "takes", desc := "(IC)Z" } : Jvm.MethodName)),
  (Jvm.Cond.instanceMethod ({ cls := "DraftTree$Automaton", name := "takes", desc := "(IC)Z" } : Jvm.MethodName)),
  (Jvm.Cond.selects "DraftTree$Automaton" ({ cls := "DraftTree$Automaton", name := "takes", desc := "(IC)Z" } : Jvm.MethodName) ({ cls := "DraftTree$Automaton", name := "takes", desc := "(IC)Z" } : Jvm.MethodName)),
  (Jvm.Cond.code ({ cls := "DraftTree$Automaton", name := "consume", desc := "(JC)J" } : Jvm.MethodName) prog_2_method_7_code (10 : Nat) (Option.some Jvm.ClassFile.FieldType.long)),
  (Jvm.Cond.methodLink "DraftTree$Automaton" (51 : Nat) ({ cls := "DraftTree$Automaton", name := "consume", desc := "(JC)J" } : Jvm.MethodName)),
  (Jvm.Cond.instanceMethod ({ cls := "DraftTree$Automaton", name := "consume", desc := "(JC)J" } : Jvm.MethodName)),
  (Jvm.Cond.selects "DraftTree$Automaton" ({ cls := "DraftTree$Automaton", name := "consume", desc := "(JC)J" } : Jvm.MethodName) ({ cls := "DraftTree$Automaton", name := "consume", desc := "(JC)J" } : Jvm.MethodName)),
  (Jvm.Cond.fieldLink "DraftTree$Automaton" (55 : Nat) "DraftTree$Automaton" "goal" "I"),
  (Jvm.Cond.code ({ cls := "DraftTree$Automaton", name := "longestFit", desc := "([CI)I" } : Jvm.MethodName) prog_2_method_6_code (7 : Nat) (Option.some Jvm.ClassFile.FieldType.int)),
  (Jvm.Cond.methodLink "DraftTree$Automaton" (34 : Nat) ({ cls := "DraftTree$Automaton", name := "longestFit", desc := "([CI)I" } : Jvm.MethodName)),
  (Jvm.Cond.instanceMethod ({ cls := "DraftTree$Automaton", name := "longestFit", desc := "([CI)I" } : Jvm.MethodName)),
  (Jvm.Cond.selects "DraftTree$Automaton" ({ cls := "DraftTree$Automaton", name := "longestFit", desc := "([CI)I" } : Jvm.MethodName) ({ cls := "DraftTree$Automaton", name := "longestFit", desc := "([CI)I" } : Jvm.MethodName)),
  (Jvm.Cond.fieldLink "DraftTree$Automaton" (38 : Nat) "DraftTree$Automaton" "matchStart" "I"),
  (Jvm.Cond.fieldLink "DraftTree$Automaton" (41 : Nat) "DraftTree$Automaton" "matchEnd" "I"),
  (Jvm.Cond.code ({ cls := "DraftTree$Automaton", name := "seek", desc := "([CI)Z" } : Jvm.MethodName) prog_2_method_5_code (5 : Nat) (Option.some Jvm.ClassFile.FieldType.boolean)),
  (Jvm.Cond.methodLink "DraftTree" (107 : Nat) ({ cls := "DraftTree$Automaton", name := "seek", desc := "([CI)Z" } : Jvm.MethodName)),
  (Jvm.Cond.instanceMethod ({ cls := "DraftTree$Automaton", name := "seek", desc := "([CI)Z" } : Jvm.MethodName)),
  (Jvm.Cond.selects "DraftTree$Automaton" ({ cls := "DraftTree$Automaton", name := "seek", desc := "([CI)Z" } : Jvm.MethodName) ({ cls := "DraftTree$Automaton", name := "seek", desc := "([CI)Z" } : Jvm.MethodName)),
  (Jvm.Cond.fieldLink "DraftTree" (49 : Nat) "DraftTree" "matchStarts" "[I"),
  (Jvm.Cond.fieldLink "DraftTree" (114 : Nat) "DraftTree$Automaton" "matchStart" "I"),
  (Jvm.Cond.fieldLink "DraftTree" (53 : Nat) "DraftTree" "matchEnds" "[I"),
  (Jvm.Cond.fieldLink "DraftTree" (117 : Nat) "DraftTree$Automaton" "matchEnd" "I"),
  (Jvm.Cond.code ({ cls := "DraftTree", name := "collectMatches", desc := "()I" } : Jvm.MethodName) prog_1_method_26_code (3 : Nat) (Option.some Jvm.ClassFile.FieldType.int)),
  (Jvm.Cond.fieldLink "DraftTree" (35 : Nat) "DraftTree" "reader" "LDraftTree$PatternReader;"),
  (Jvm.Cond.fieldLink "DraftTree" (9 : Nat) "DraftTree" "slip" "[C"),
  (Jvm.Cond.fieldLink "DraftTree" (56 : Nat) "DraftTree" "slipSize" "I"),
  (Jvm.Cond.laysFinal "DraftTree$PatternReader" "DraftTree$PatternReader" "choiceStarts" "[I"),
  (Jvm.Cond.laysFinal "DraftTree$PatternReader" "DraftTree$PatternReader" "choiceEnds" "[I"),
  (Jvm.Cond.laysFinal "DraftTree$PatternReader" "DraftTree$PatternReader" "rowHeads" "[I"),
  (Jvm.Cond.laysFinal "DraftTree$PatternReader" "DraftTree$PatternReader" "outerTails" "[I"),
  (Jvm.Cond.lays "DraftTree$PatternReader" "DraftTree$PatternReader" "made" "LDraftTree$Automaton;"),
  (Jvm.Cond.lays "DraftTree$PatternReader" "DraftTree$PatternReader" "source" "[C"),
  (Jvm.Cond.lays "DraftTree$PatternReader" "DraftTree$PatternReader" "size" "I"),
  (Jvm.Cond.lays "DraftTree$PatternReader" "DraftTree$PatternReader" "position" "I"),
  (Jvm.Cond.lays "DraftTree$PatternReader" "DraftTree$PatternReader" "depth" "I"),
  (Jvm.Cond.lays "DraftTree$PatternReader" "DraftTree$PatternReader" "fault" "I"),
  (Jvm.Cond.lays "DraftTree$PatternReader" "DraftTree$PatternReader" "lead" "I"),
  (Jvm.Cond.lays "DraftTree$PatternReader" "DraftTree$PatternReader" "first" "I"),
  (Jvm.Cond.lays "DraftTree$PatternReader" "DraftTree$PatternReader" "tail" "I"),
  (Jvm.Cond.fieldLink "DraftTree$PatternReader" (31 : Nat) "DraftTree$PatternReader" "source" "[C"),
  (Jvm.Cond.fieldLink "DraftTree$PatternReader" (35 : Nat) "DraftTree$PatternReader" "size" "I"),
  (Jvm.Cond.fieldLink "DraftTree$PatternReader" (39 : Nat) "DraftTree$PatternReader" "position" "I"),
  (Jvm.Cond.fieldLink "DraftTree$PatternReader" (42 : Nat) "DraftTree$PatternReader" "fault" "I"),
  (Jvm.Cond.fieldLink "DraftTree$PatternReader" (27 : Nat) "DraftTree$PatternReader" "made" "LDraftTree$Automaton;"),
  (Jvm.Cond.fieldLink "DraftTree$PatternReader" (45 : Nat) "DraftTree$Automaton" "size" "I"),
  (Jvm.Cond.fieldLink "DraftTree$PatternReader" (46 : Nat) "DraftTree$PatternReader" "depth" "I"),
  (Jvm.Cond.code ({ cls := "DraftTree$Automaton", name := "addNode", desc := "(I)I" } : Jvm.MethodName) prog_2_method_2_code (3 : Nat) (Option.some Jvm.ClassFile.FieldType.int)),
  (Jvm.Cond.methodLink "DraftTree$PatternReader" (113 : Nat) ({ cls := "DraftTree$Automaton", name := "addNode", desc := "(I)I" } : Jvm.MethodName)),
  (Jvm.Cond.instanceMethod ({ cls := "DraftTree$Automaton", name := "addNode", desc := "(I)I" } : Jvm.MethodName)),
  (Jvm.Cond.selects "DraftTree$Automaton" ({ cls := "DraftTree$Automaton", name := "addNode", desc := "(I)I" } : Jvm.MethodName) ({ cls := "DraftTree$Automaton", name := "addNode", desc := "(I)I" } : Jvm.MethodName)),
  (Jvm.Cond.fieldLink "DraftTree$PatternReader" (9 : Nat) "DraftTree$PatternReader" "choiceStarts" "[I"),
  (Jvm.Cond.fieldLink "DraftTree$PatternReader" (15 : Nat) "DraftTree$PatternReader" "choiceEnds" "[I"),
  (Jvm.Cond.fieldLink "DraftTree$PatternReader" (21 : Nat) "DraftTree$PatternReader" "outerTails" "[I"),
  (Jvm.Cond.fieldLink "DraftTree$PatternReader" (18 : Nat) "DraftTree$PatternReader" "rowHeads" "[I"),
  (Jvm.Cond.fieldLink "DraftTree$PatternReader" (126 : Nat) "DraftTree$PatternReader" "lead" "I"),
  (Jvm.Cond.fieldLink "DraftTree$PatternReader" (129 : Nat) "DraftTree$PatternReader" "first" "I"),
  (Jvm.Cond.fieldLink "DraftTree$PatternReader" (62 : Nat) "DraftTree$PatternReader" "tail" "I"),
  (Jvm.Cond.code ({ cls := "DraftTree$PatternReader", name := "beginRow", desc := "(I)V" } : Jvm.MethodName) prog_3_method_16_code (2 : Nat) (Option.none : Option Jvm.ClassFile.FieldType)),
  (Jvm.Cond.methodLink "DraftTree$PatternReader" (116 : Nat) ({ cls := "DraftTree$PatternReader", name := "beginRow", desc := "(I)V" } : Jvm.MethodName)),
  (Jvm.Cond.instanceMethod ({ cls := "DraftTree$PatternReader", name := "beginRow", desc := "(I)V" } : Jvm.MethodName)),
  (Jvm.Cond.selects "DraftTree$PatternReader" ({ cls := "DraftTree$PatternReader", name := "beginRow", desc := "(I)V" } : Jvm.MethodName) ({ cls := "DraftTree$PatternReader", name := "beginRow", desc := "(I)V" } : Jvm.MethodName)),
  (Jvm.Cond.initialized "DraftTree$PatternReader"),
  (Jvm.Cond.code ({ cls := "DraftTree$PatternReader", name := "openChoice", desc := "(I)V" } : Jvm.MethodName) prog_3_method_12_code (3 : Nat) (Option.none : Option Jvm.ClassFile.FieldType)),
  (Jvm.Cond.methodLink "DraftTree$PatternReader" (49 : Nat) ({ cls := "DraftTree$PatternReader", name := "openChoice", desc := "(I)V" } : Jvm.MethodName)),
  (Jvm.Cond.instanceMethod ({ cls := "DraftTree$PatternReader", name := "openChoice", desc := "(I)V" } : Jvm.MethodName)),
  (Jvm.Cond.selects "DraftTree$PatternReader" ({ cls := "DraftTree$PatternReader", name := "openChoice", desc := "(I)V" } : Jvm.MethodName) ({ cls := "DraftTree$PatternReader", name := "openChoice", desc := "(I)V" } : Jvm.MethodName)),
  (Jvm.Cond.code ({ cls := "DraftTree$PatternReader", name := "openGroup", desc := "()V" } : Jvm.MethodName) prog_3_method_13_code (1 : Nat) (Option.none : Option Jvm.ClassFile.FieldType)),
  (Jvm.Cond.methodLink "DraftTree$PatternReader" (71 : Nat) ({ cls := "DraftTree$PatternReader", name := "openGroup", desc := "()V" } : Jvm.MethodName)),
  (Jvm.Cond.instanceMethod ({ cls := "DraftTree$PatternReader", name := "openGroup", desc := "()V" } : Jvm.MethodName)),
  (Jvm.Cond.selects "DraftTree$PatternReader" ({ cls := "DraftTree$PatternReader", name := "openGroup", desc := "()V" } : Jvm.MethodName) ({ cls := "DraftTree$PatternReader", name := "openGroup", desc := "()V" } : Jvm.MethodName)),
  (Jvm.Cond.fieldLink "DraftTree$PatternReader" (59 : Nat) "DraftTree$Automaton" "next" "[I"),
  (Jvm.Cond.code ({ cls := "DraftTree$PatternReader", name := "addPart", desc := "(II)V" } : Jvm.MethodName) prog_3_method_18_code (3 : Nat) (Option.none : Option Jvm.ClassFile.FieldType)),
  (Jvm.Cond.methodLink "DraftTree$PatternReader" (119 : Nat) ({ cls := "DraftTree$PatternReader", name := "addPart", desc := "(II)V" } : Jvm.MethodName)),
  (Jvm.Cond.instanceMethod ({ cls := "DraftTree$PatternReader", name := "addPart", desc := "(II)V" } : Jvm.MethodName)),
  (Jvm.Cond.selects "DraftTree$PatternReader" ({ cls := "DraftTree$PatternReader", name := "addPart", desc := "(II)V" } : Jvm.MethodName) ({ cls := "DraftTree$PatternReader", name := "addPart", desc := "(II)V" } : Jvm.MethodName)),
  (Jvm.Cond.code ({ cls := "DraftTree$PatternReader", name := "closeGroup", desc := "()V" } : Jvm.MethodName) prog_3_method_14_code (3 : Nat) (Option.none : Option Jvm.ClassFile.FieldType)),
  (Jvm.Cond.methodLink "DraftTree$PatternReader" (74 : Nat) ({ cls := "DraftTree$PatternReader", name := "closeGroup", desc := "()V" } : Jvm.MethodName)),
  (Jvm.Cond.instanceMethod ({ cls := "DraftTree$PatternReader", name := "closeGroup", desc := "()V" } : Jvm.MethodName)),
  (Jvm.Cond.selects "DraftTree$PatternReader" ({ cls := "DraftTree$PatternReader", name := "closeGroup", desc := "()V" } : Jvm.MethodName) ({ cls := "DraftTree$PatternReader", name := "closeGroup", desc := "()V" } : Jvm.MethodName)),
  (Jvm.Cond.fieldLink "DraftTree$PatternReader" (123 : Nat) "DraftTree$Automaton" "other" "[I"),
  (Jvm.Cond.code ({ cls := "DraftTree$PatternReader", name := "repeatPart", desc := "(C)V" } : Jvm.MethodName) prog_3_method_19_code (4 : Nat) (Option.none : Option Jvm.ClassFile.FieldType)),
  (Jvm.Cond.methodLink "DraftTree$PatternReader" (80 : Nat) ({ cls := "DraftTree$PatternReader", name := "repeatPart", desc := "(C)V" } : Jvm.MethodName)),
  (Jvm.Cond.instanceMethod ({ cls := "DraftTree$PatternReader", name := "repeatPart", desc := "(C)V" } : Jvm.MethodName)),
  (Jvm.Cond.selects "DraftTree$PatternReader" ({ cls := "DraftTree$PatternReader", name := "repeatPart", desc := "(C)V" } : Jvm.MethodName) ({ cls := "DraftTree$PatternReader", name := "repeatPart", desc := "(C)V" } : Jvm.MethodName)),
  (Jvm.Cond.code ({ cls := "DraftTree$PatternReader", name := "addNodeAsPart", desc := "(I)I" } : Jvm.MethodName) prog_3_method_17_code (3 : Nat) (Option.some Jvm.ClassFile.FieldType.int)),
  (Jvm.Cond.methodLink "DraftTree$PatternReader" (93 : Nat) ({ cls := "DraftTree$PatternReader", name := "addNodeAsPart", desc := "(I)I" } : Jvm.MethodName)),
  (Jvm.Cond.instanceMethod ({ cls := "DraftTree$PatternReader", name := "addNodeAsPart", desc := "(I)I" } : Jvm.MethodName)),
  (Jvm.Cond.selects "DraftTree$PatternReader" ({ cls := "DraftTree$PatternReader", name := "addNodeAsPart", desc := "(I)I" } : Jvm.MethodName) ({ cls := "DraftTree$PatternReader", name := "addNodeAsPart", desc := "(I)I" } : Jvm.MethodName)),
  (Jvm.Cond.code ({ cls := "DraftTree$Automaton", name := "takeCodes", desc := "(III)V" } : Jvm.MethodName) prog_2_method_3_code (5 : Nat) (Option.none : Option Jvm.ClassFile.FieldType)),
  (Jvm.Cond.methodLink "DraftTree$PatternReader" (103 : Nat) ({ cls := "DraftTree$Automaton", name := "takeCodes", desc := "(III)V" } : Jvm.MethodName)),
  (Jvm.Cond.instanceMethod ({ cls := "DraftTree$Automaton", name := "takeCodes", desc := "(III)V" } : Jvm.MethodName)),
  (Jvm.Cond.selects "DraftTree$Automaton" ({ cls := "DraftTree$Automaton", name := "takeCodes", desc := "(III)V" } : Jvm.MethodName) ({ cls := "DraftTree$Automaton", name := "takeCodes", desc := "(III)V" } : Jvm.MethodName)),
  (Jvm.Cond.code ({ cls := "DraftTree$PatternReader", name := "readRange", desc := "(I)V" } : Jvm.MethodName) prog_3_method_11_code (4 : Nat) (Option.none : Option Jvm.ClassFile.FieldType)),
  (Jvm.Cond.methodLink "DraftTree$PatternReader" (110 : Nat) ({ cls := "DraftTree$PatternReader", name := "readRange", desc := "(I)V" } : Jvm.MethodName)),
  (Jvm.Cond.instanceMethod ({ cls := "DraftTree$PatternReader", name := "readRange", desc := "(I)V" } : Jvm.MethodName)),
  (Jvm.Cond.selects "DraftTree$PatternReader" ({ cls := "DraftTree$PatternReader", name := "readRange", desc := "(I)V" } : Jvm.MethodName) ({ cls := "DraftTree$PatternReader", name := "readRange", desc := "(I)V" } : Jvm.MethodName)),
  (Jvm.Cond.code ({ cls := "DraftTree$Automaton", name := "takeOtherCodes", desc := "(I)V" } : Jvm.MethodName) prog_2_method_4_code (2 : Nat) (Option.none : Option Jvm.ClassFile.FieldType)),
  (Jvm.Cond.methodLink "DraftTree$PatternReader" (107 : Nat) ({ cls := "DraftTree$Automaton", name := "takeOtherCodes", desc := "(I)V" } : Jvm.MethodName)),
  (Jvm.Cond.instanceMethod ({ cls := "DraftTree$Automaton", name := "takeOtherCodes", desc := "(I)V" } : Jvm.MethodName)),
  (Jvm.Cond.selects "DraftTree$Automaton" ({ cls := "DraftTree$Automaton", name := "takeOtherCodes", desc := "(I)V" } : Jvm.MethodName) ({ cls := "DraftTree$Automaton", name := "takeOtherCodes", desc := "(I)V" } : Jvm.MethodName)),
  (Jvm.Cond.code ({ cls := "DraftTree$PatternReader", name := "readSet", desc := "()V" } : Jvm.MethodName) prog_3_method_10_code (5 : Nat) (Option.none : Option Jvm.ClassFile.FieldType)),
  (Jvm.Cond.methodLink "DraftTree$PatternReader" (84 : Nat) ({ cls := "DraftTree$PatternReader", name := "readSet", desc := "()V" } : Jvm.MethodName)),
  (Jvm.Cond.instanceMethod ({ cls := "DraftTree$PatternReader", name := "readSet", desc := "()V" } : Jvm.MethodName)),
  (Jvm.Cond.selects "DraftTree$PatternReader" ({ cls := "DraftTree$PatternReader", name := "readSet", desc := "()V" } : Jvm.MethodName) ({ cls := "DraftTree$PatternReader", name := "readSet", desc := "()V" } : Jvm.MethodName)),
  (Jvm.Cond.code ({ cls := "DraftTree$PatternReader", name := "readLiteral", desc := "(C)V" } : Jvm.MethodName) prog_3_method_8_code (3 : Nat) (Option.none : Option Jvm.ClassFile.FieldType)),
  (Jvm.Cond.methodLink "DraftTree$PatternReader" (100 : Nat) ({ cls := "DraftTree$PatternReader", name := "readLiteral", desc := "(C)V" } : Jvm.MethodName)),
  (Jvm.Cond.instanceMethod ({ cls := "DraftTree$PatternReader", name := "readLiteral", desc := "(C)V" } : Jvm.MethodName)),
  (Jvm.Cond.selects "DraftTree$PatternReader" ({ cls := "DraftTree$PatternReader", name := "readLiteral", desc := "(C)V" } : Jvm.MethodName) ({ cls := "DraftTree$PatternReader", name := "readLiteral", desc := "(C)V" } : Jvm.MethodName)),
  (Jvm.Cond.code ({ cls := "DraftTree$PatternReader", name := "readEscaped", desc := "()V" } : Jvm.MethodName) prog_3_method_9_code (1 : Nat) (Option.none : Option Jvm.ClassFile.FieldType)),
  (Jvm.Cond.methodLink "DraftTree$PatternReader" (87 : Nat) ({ cls := "DraftTree$PatternReader", name := "readEscaped", desc := "()V" } : Jvm.MethodName)),
  (Jvm.Cond.instanceMethod ({ cls := "DraftTree$PatternReader", name := "readEscaped", desc := "()V" } : Jvm.MethodName)),
  (Jvm.Cond.selects "DraftTree$PatternReader" ({ cls := "DraftTree$PatternReader", name := "readEscaped", desc := "()V" } : Jvm.MethodName) ({ cls := "DraftTree$PatternReader", name := "readEscaped", desc := "()V" } : Jvm.MethodName)),
  (Jvm.Cond.code ({ cls := "DraftTree$PatternReader", name := "openRow", desc := "()V" } : Jvm.MethodName) prog_3_method_15_code (2 : Nat) (Option.none : Option Jvm.ClassFile.FieldType)),
  (Jvm.Cond.methodLink "DraftTree$PatternReader" (77 : Nat) ({ cls := "DraftTree$PatternReader", name := "openRow", desc := "()V" } : Jvm.MethodName)),
  (Jvm.Cond.instanceMethod ({ cls := "DraftTree$PatternReader", name := "openRow", desc := "()V" } : Jvm.MethodName)),
  (Jvm.Cond.selects "DraftTree$PatternReader" ({ cls := "DraftTree$PatternReader", name := "openRow", desc := "()V" } : Jvm.MethodName) ({ cls := "DraftTree$PatternReader", name := "openRow", desc := "()V" } : Jvm.MethodName)),
  (Jvm.Cond.code ({ cls := "DraftTree$PatternReader", name := "readDot", desc := "()V" } : Jvm.MethodName) prog_3_method_7_code (2 : Nat) (Option.none : Option Jvm.ClassFile.FieldType)),
  (Jvm.Cond.methodLink "DraftTree$PatternReader" (97 : Nat) ({ cls := "DraftTree$PatternReader", name := "readDot", desc := "()V" } : Jvm.MethodName)),
  (Jvm.Cond.instanceMethod ({ cls := "DraftTree$PatternReader", name := "readDot", desc := "()V" } : Jvm.MethodName)),
  (Jvm.Cond.selects "DraftTree$PatternReader" ({ cls := "DraftTree$PatternReader", name := "readDot", desc := "()V" } : Jvm.MethodName) ({ cls := "DraftTree$PatternReader", name := "readDot", desc := "()V" } : Jvm.MethodName)),
  (Jvm.Cond.code ({ cls := "DraftTree$PatternReader", name := "readSingle", desc := "(C)V" } : Jvm.MethodName) prog_3_method_6_code (2 : Nat) (Option.none : Option Jvm.ClassFile.FieldType)),
  (Jvm.Cond.methodLink "DraftTree$PatternReader" (90 : Nat) ({ cls := "DraftTree$PatternReader", name := "readSingle", desc := "(C)V" } : Jvm.MethodName)),
  (Jvm.Cond.instanceMethod ({ cls := "DraftTree$PatternReader", name := "readSingle", desc := "(C)V" } : Jvm.MethodName)),
  (Jvm.Cond.selects "DraftTree$PatternReader" ({ cls := "DraftTree$PatternReader", name := "readSingle", desc := "(C)V" } : Jvm.MethodName) ({ cls := "DraftTree$PatternReader", name := "readSingle", desc := "(C)V" } : Jvm.MethodName)),
  (Jvm.Cond.code ({ cls := "DraftTree$PatternReader", name := "readNext", desc := "()V" } : Jvm.MethodName) prog_3_method_5_code (2 : Nat) (Option.none : Option Jvm.ClassFile.FieldType)),
  (Jvm.Cond.methodLink "DraftTree$PatternReader" (53 : Nat) ({ cls := "DraftTree$PatternReader", name := "readNext", desc := "()V" } : Jvm.MethodName)),
  (Jvm.Cond.instanceMethod ({ cls := "DraftTree$PatternReader", name := "readNext", desc := "()V" } : Jvm.MethodName)),
  (Jvm.Cond.selects "DraftTree$PatternReader" ({ cls := "DraftTree$PatternReader", name := "readNext", desc := "()V" } : Jvm.MethodName) ({ cls := "DraftTree$PatternReader", name := "readNext", desc := "()V" } : Jvm.MethodName)),
  (Jvm.Cond.fieldLink "DraftTree$PatternReader" (65 : Nat) "DraftTree$Automaton" "start" "I"),
  (Jvm.Cond.fieldLink "DraftTree$PatternReader" (68 : Nat) "DraftTree$Automaton" "goal" "I"),
  (Jvm.Cond.code ({ cls := "DraftTree$PatternReader", name := "finish", desc := "()V" } : Jvm.MethodName) prog_3_method_4_code (1 : Nat) (Option.none : Option Jvm.ClassFile.FieldType)),
  (Jvm.Cond.methodLink "DraftTree$PatternReader" (56 : Nat) ({ cls := "DraftTree$PatternReader", name := "finish", desc := "()V" } : Jvm.MethodName)),
  (Jvm.Cond.instanceMethod ({ cls := "DraftTree$PatternReader", name := "finish", desc := "()V" } : Jvm.MethodName)),
  (Jvm.Cond.selects "DraftTree$PatternReader" ({ cls := "DraftTree$PatternReader", name := "finish", desc := "()V" } : Jvm.MethodName) ({ cls := "DraftTree$PatternReader", name := "finish", desc := "()V" } : Jvm.MethodName)),
  (Jvm.Cond.code ({ cls := "DraftTree$PatternReader", name := "read", desc := "([CI)I" } : Jvm.MethodName) prog_3_method_3_code (4 : Nat) (Option.some Jvm.ClassFile.FieldType.int)),
  (Jvm.Cond.methodLink "DraftTree" (92 : Nat) ({ cls := "DraftTree$PatternReader", name := "read", desc := "([CI)I" } : Jvm.MethodName)),
  (Jvm.Cond.instanceMethod ({ cls := "DraftTree$PatternReader", name := "read", desc := "([CI)I" } : Jvm.MethodName)),
  (Jvm.Cond.selects "DraftTree$PatternReader" ({ cls := "DraftTree$PatternReader", name := "read", desc := "([CI)I" } : Jvm.MethodName) ({ cls := "DraftTree$PatternReader", name := "read", desc := "([CI)I" } : Jvm.MethodName)),
  (Jvm.Cond.fieldLink "DraftTree" (46 : Nat) "DraftTree" "latestFault" "I"),
  (Jvm.Cond.code ({ cls := "DraftTree$PatternReader", name := "handOver", desc := "(LDraftTree$Automaton;)LDraftTree$Automaton;" } : Jvm.MethodName) prog_3_method_2_code (3 : Nat) (Option.some (Jvm.ClassFile.FieldType.object "DraftTree$Automaton"))),
  (Jvm.Cond.methodLink "DraftTree" (99 : Nat) ({ cls := "DraftTree$PatternReader", name := "handOver", desc := "(LDraftTree$Automaton;)LDraftTree$Automaton;" } : Jvm.MethodName)),
  (Jvm.Cond.instanceMethod ({ cls := "DraftTree$PatternReader", name := "handOver", desc := "(LDraftTree$Automaton;)LDraftTree$Automaton;" } : Jvm.MethodName)),
  (Jvm.Cond.selects "DraftTree$PatternReader" ({ cls := "DraftTree$PatternReader", name := "handOver", desc := "(LDraftTree$Automaton;)LDraftTree$Automaton;" } : Jvm.MethodName) ({ cls := "DraftTree$PatternReader", name := "handOver", desc := "(LDraftTree$Automaton;)LDraftTree$Automaton;" } : Jvm.MethodName)),
  (Jvm.Cond.fieldLink "DraftTree" (103 : Nat) "DraftTree" "hasPattern" "Z"),
  (Jvm.Cond.classLink "DraftTree" (96 : Nat) "java/lang/IllegalArgumentException"),
  (Jvm.Cond.initialized "java/lang/IllegalArgumentException"),
  (Jvm.Cond.code ({ cls := "DraftTree", name := "compile", desc := "()V" } : Jvm.MethodName) prog_1_method_7_code (1 : Nat) (Option.none : Option Jvm.ClassFile.FieldType)),
  (Jvm.Cond.code ({ cls := "DraftTree", name := "fault", desc := "()I" } : Jvm.MethodName) prog_1_method_8_code (1 : Nat) (Option.some Jvm.ClassFile.FieldType.int)),
  (Jvm.Cond.fieldLink "DraftTree" (73 : Nat) "DraftTree" "present" "I"),
  (Jvm.Cond.fieldLink "DraftTree" (25 : Nat) "DraftTree" "stateCount" "I"),
  (Jvm.Cond.fieldLink "DraftTree" (76 : Nat) "DraftTree" "cursor" "I"),
  (Jvm.Cond.fieldLink "DraftTree" (29 : Nat) "DraftTree" "mark" "I"),
  (Jvm.Cond.code ({ cls := "DraftTree", name := "figure", desc := "(I)I" } : Jvm.MethodName) prog_1_method_17_code (2 : Nat) (Option.some Jvm.ClassFile.FieldType.int)),
  (Jvm.Cond.code ({ cls := "DraftTree", name := "requirePlace", desc := "(I)V" } : Jvm.MethodName) prog_1_method_19_code (2 : Nat) (Option.none : Option Jvm.ClassFile.FieldType)),
  (Jvm.Cond.methodLink "DraftTree" (88 : Nat) ({ cls := "DraftTree", name := "requirePlace", desc := "(I)V" } : Jvm.MethodName)),
  (Jvm.Cond.instanceMethod ({ cls := "DraftTree", name := "requirePlace", desc := "(I)V" } : Jvm.MethodName)),
  (Jvm.Cond.selects "DraftTree" ({ cls := "DraftTree", name := "requirePlace", desc := "(I)V" } : Jvm.MethodName) ({ cls := "DraftTree", name := "requirePlace", desc := "(I)V" } : Jvm.MethodName)),
  (Jvm.Cond.initialized "DraftTree"),
  (Jvm.Cond.classLink "DraftTree" (66 : Nat) "java/lang/IllegalStateException"),
  (Jvm.Cond.initialized "java/lang/IllegalStateException"),
  (Jvm.Cond.classLink "DraftTree" (111 : Nat) "java/util/NoSuchElementException"),
  (Jvm.Cond.initialized "java/util/NoSuchElementException"),
  (Jvm.Cond.code ({ cls := "DraftTree", name := "find", desc := "(I)I" } : Jvm.MethodName) prog_1_method_9_code (2 : Nat) (Option.some Jvm.ClassFile.FieldType.int)),
  (Jvm.Cond.code ({ cls := "DraftTree", name := "go", desc := "(IZ)V" } : Jvm.MethodName) prog_1_method_6_code (3 : Nat) (Option.none : Option Jvm.ClassFile.FieldType)),
  (Jvm.Cond.code ({ cls := "DraftTree", name := "requireState", desc := "(I)V" } : Jvm.MethodName) prog_1_method_20_code (2 : Nat) (Option.none : Option Jvm.ClassFile.FieldType)),
  (Jvm.Cond.methodLink "DraftTree" (140 : Nat) ({ cls := "DraftTree", name := "requireState", desc := "(I)V" } : Jvm.MethodName)),
  (Jvm.Cond.instanceMethod ({ cls := "DraftTree", name := "requireState", desc := "(I)V" } : Jvm.MethodName)),
  (Jvm.Cond.selects "DraftTree" ({ cls := "DraftTree", name := "requireState", desc := "(I)V" } : Jvm.MethodName) ({ cls := "DraftTree", name := "requireState", desc := "(I)V" } : Jvm.MethodName)),
  (Jvm.Cond.fieldLink "DraftTree" (15 : Nat) "DraftTree" "states" "[LDraftTree$State;"),
  (Jvm.Cond.laysFinal "DraftTree$State" "DraftTree$State" "text" "[C"),
  (Jvm.Cond.laysFinal "DraftTree$State" "DraftTree$State" "origin" "I"),
  (Jvm.Cond.lays "DraftTree$State" "DraftTree$State" "place" "I"),
  (Jvm.Cond.lays "DraftTree$State" "DraftTree$State" "latestChild" "I"),
  (Jvm.Cond.fieldLink "DraftTree" (155 : Nat) "DraftTree$State" "place" "I"),
  (Jvm.Cond.fieldLink "DraftTree" (158 : Nat) "DraftTree$State" "text" "[C"),
  (Jvm.Cond.fieldLink "DraftTree" (131 : Nat) "DraftTree$State" "origin" "I"),
  (Jvm.Cond.fieldLink "DraftTree" (137 : Nat) "DraftTree$State" "latestChild" "I"),
  (Jvm.Cond.code ({ cls := "DraftTree", name := "moveTo", desc := "(I)V" } : Jvm.MethodName) prog_1_method_23_code (3 : Nat) (Option.none : Option Jvm.ClassFile.FieldType)),
  (Jvm.Cond.methodLink "DraftTree" (134 : Nat) ({ cls := "DraftTree", name := "moveTo", desc := "(I)V" } : Jvm.MethodName)),
  (Jvm.Cond.instanceMethod ({ cls := "DraftTree", name := "moveTo", desc := "(I)V" } : Jvm.MethodName)),
  (Jvm.Cond.selects "DraftTree" ({ cls := "DraftTree", name := "moveTo", desc := "(I)V" } : Jvm.MethodName) ({ cls := "DraftTree", name := "moveTo", desc := "(I)V" } : Jvm.MethodName)),
  (Jvm.Cond.code ({ cls := "DraftTree", name := "jump", desc := "(I)V" } : Jvm.MethodName) prog_1_method_13_code (2 : Nat) (Option.none : Option Jvm.ClassFile.FieldType)),
  (Jvm.Cond.code ({ cls := "DraftTree", name := "length", desc := "()I" } : Jvm.MethodName) prog_1_method_14_code (1 : Nat) (Option.some Jvm.ClassFile.FieldType.int)),
  (Jvm.Cond.methodLink "DraftTree" (146 : Nat) ({ cls := "DraftTree", name := "breaksBefore", desc := "(I)I" } : Jvm.MethodName)),
  (Jvm.Cond.instanceMethod ({ cls := "DraftTree", name := "breaksBefore", desc := "(I)I" } : Jvm.MethodName)),
  (Jvm.Cond.selects "DraftTree" ({ cls := "DraftTree", name := "breaksBefore", desc := "(I)I" } : Jvm.MethodName) ({ cls := "DraftTree", name := "breaksBefore", desc := "(I)I" } : Jvm.MethodName)),
  (Jvm.Cond.code ({ cls := "DraftTree", name := "lineBegin", desc := "(I)I" } : Jvm.MethodName) prog_1_method_30_code (4 : Nat) (Option.some Jvm.ClassFile.FieldType.int)),
  (Jvm.Cond.methodLink "DraftTree" (149 : Nat) ({ cls := "DraftTree", name := "lineBegin", desc := "(I)I" } : Jvm.MethodName)),
  (Jvm.Cond.instanceMethod ({ cls := "DraftTree", name := "lineBegin", desc := "(I)I" } : Jvm.MethodName)),
  (Jvm.Cond.selects "DraftTree" ({ cls := "DraftTree", name := "lineBegin", desc := "(I)I" } : Jvm.MethodName) ({ cls := "DraftTree", name := "lineBegin", desc := "(I)I" } : Jvm.MethodName)),
  (Jvm.Cond.code ({ cls := "DraftTree", name := "lineSize", desc := "(I)I" } : Jvm.MethodName) prog_1_method_31_code (4 : Nat) (Option.some Jvm.ClassFile.FieldType.int)),
  (Jvm.Cond.methodLink "DraftTree" (152 : Nat) ({ cls := "DraftTree", name := "lineSize", desc := "(I)I" } : Jvm.MethodName)),
  (Jvm.Cond.instanceMethod ({ cls := "DraftTree", name := "lineSize", desc := "(I)I" } : Jvm.MethodName)),
  (Jvm.Cond.selects "DraftTree" ({ cls := "DraftTree", name := "lineSize", desc := "(I)I" } : Jvm.MethodName) ({ cls := "DraftTree", name := "lineSize", desc := "(I)I" } : Jvm.MethodName)),
  (Jvm.Cond.code ({ cls := "DraftTree", name := "line", desc := "(II)I" } : Jvm.MethodName) prog_1_method_16_code (3 : Nat) (Option.some Jvm.ClassFile.FieldType.int)),
  (Jvm.Cond.code ({ cls := "DraftTree", name := "parent", desc := "(I)I" } : Jvm.MethodName) prog_1_method_18_code (2 : Nat) (Option.some Jvm.ClassFile.FieldType.int)),
  (Jvm.Cond.code ({ cls := "DraftTree", name := "redo", desc := "()I" } : Jvm.MethodName) prog_1_method_12_code (2 : Nat) (Option.some Jvm.ClassFile.FieldType.int)),
  (Jvm.Cond.methodLink "DraftTree" (79 : Nat) ({ cls := "java/lang/Math", name := "max", desc := "(II)I" } : Jvm.MethodName)),
  (Jvm.Cond.static ({ cls := "java/lang/Math", name := "max", desc := "(II)I" } : Jvm.MethodName)),
  (Jvm.Cond.initialized "java/lang/Math"),
  (Jvm.Cond.code ({ cls := "java/lang/Math", name := "max", desc := "(II)I" } : Jvm.MethodName) prog_13_method_65_code (2 : Nat) (Option.some Jvm.ClassFile.FieldType.int)),
  (Jvm.Cond.code ({ cls := "DraftTree", name := "selectionEnd", desc := "()I" } : Jvm.MethodName) prog_1_method_22_code (1 : Nat) (Option.some Jvm.ClassFile.FieldType.int)),
  (Jvm.Cond.methodLink "DraftTree" (85 : Nat) ({ cls := "java/lang/Math", name := "min", desc := "(II)I" } : Jvm.MethodName)),
  (Jvm.Cond.static ({ cls := "java/lang/Math", name := "min", desc := "(II)I" } : Jvm.MethodName)),
  (Jvm.Cond.code ({ cls := "java/lang/Math", name := "min", desc := "(II)I" } : Jvm.MethodName) prog_13_method_69_code (2 : Nat) (Option.some Jvm.ClassFile.FieldType.int)),
  (Jvm.Cond.code ({ cls := "DraftTree", name := "selectionStart", desc := "()I" } : Jvm.MethodName) prog_1_method_21_code (1 : Nat) (Option.some Jvm.ClassFile.FieldType.int)),
  (Jvm.Cond.code ({ cls := "DraftTree", name := "sizeWithSlipIn", desc := "(I)I" } : Jvm.MethodName) prog_1_method_27_code (4 : Nat) (Option.some Jvm.ClassFile.FieldType.int)),
  (Jvm.Cond.code ({ cls := "DraftTree", name := "type", desc := "(C)Z" } : Jvm.MethodName) prog_1_method_2_code (3 : Nat) (Option.some Jvm.ClassFile.FieldType.boolean)),
  (Jvm.Cond.code ({ cls := "DraftTree", name := "undo", desc := "()I" } : Jvm.MethodName) prog_1_method_11_code (2 : Nat) (Option.some Jvm.ClassFile.FieldType.int)),
  (Jvm.Cond.code ({ cls := "DraftTree", name := "wipe", desc := "()I" } : Jvm.MethodName) prog_1_method_3_code (2 : Nat) (Option.some Jvm.ClassFile.FieldType.int)),
  (Jvm.Cond.methodLink "DraftTree$State" (3 : Nat) ({ cls := "java/lang/Object", name := "<init>", desc := "()V" } : Jvm.MethodName)),
  (Jvm.Cond.instanceMethod ({ cls := "java/lang/Object", name := "<init>", desc := "()V" } : Jvm.MethodName)),
  (Jvm.Cond.code ({ cls := "java/lang/Object", name := "<init>", desc := "()V" } : Jvm.MethodName) object_method_1_code (1 : Nat) (Option.none : Option Jvm.ClassFile.FieldType)),
  (Jvm.Cond.fieldLink "DraftTree$State" (9 : Nat) "DraftTree$State" "text" "[C"),
  (Jvm.Cond.fieldLink "DraftTree$State" (15 : Nat) "DraftTree$State" "place" "I"),
  (Jvm.Cond.fieldLink "DraftTree$State" (19 : Nat) "DraftTree$State" "origin" "I"),
  (Jvm.Cond.fieldLink "DraftTree$State" (22 : Nat) "DraftTree$State" "latestChild" "I"),
  (Jvm.Cond.code ({ cls := "DraftTree$State", name := "<init>", desc := "([CII)V" } : Jvm.MethodName) prog_4_method_1_code (4 : Nat) (Option.none : Option Jvm.ClassFile.FieldType)),
  (Jvm.Cond.code ({ cls := "DraftTree", name := "erase", desc := "(I)I" } : Jvm.MethodName) prog_1_method_5_code (4 : Nat) (Option.some Jvm.ClassFile.FieldType.int)),
  (Jvm.Cond.methodLink "DraftTree" (59 : Nat) ({ cls := "DraftTree", name := "selectionStart", desc := "()I" } : Jvm.MethodName)),
  (Jvm.Cond.instanceMethod ({ cls := "DraftTree", name := "selectionStart", desc := "()I" } : Jvm.MethodName)),
  (Jvm.Cond.selects "DraftTree" ({ cls := "DraftTree", name := "selectionStart", desc := "()I" } : Jvm.MethodName) ({ cls := "DraftTree", name := "selectionStart", desc := "()I" } : Jvm.MethodName)),
  (Jvm.Cond.methodLink "DraftTree" (63 : Nat) ({ cls := "DraftTree", name := "selectionEnd", desc := "()I" } : Jvm.MethodName)),
  (Jvm.Cond.instanceMethod ({ cls := "DraftTree", name := "selectionEnd", desc := "()I" } : Jvm.MethodName)),
  (Jvm.Cond.selects "DraftTree" ({ cls := "DraftTree", name := "selectionEnd", desc := "()I" } : Jvm.MethodName) ({ cls := "DraftTree", name := "selectionEnd", desc := "()I" } : Jvm.MethodName)),
  (Jvm.Cond.code ({ cls := "DraftTree", name := "exchange", desc := "(III)V" } : Jvm.MethodName) prog_1_method_25_code (5 : Nat) (Option.none : Option Jvm.ClassFile.FieldType)),
  (Jvm.Cond.methodLink "DraftTree" (69 : Nat) ({ cls := "DraftTree", name := "exchange", desc := "(III)V" } : Jvm.MethodName)),
  (Jvm.Cond.instanceMethod ({ cls := "DraftTree", name := "exchange", desc := "(III)V" } : Jvm.MethodName)),
  (Jvm.Cond.selects "DraftTree" ({ cls := "DraftTree", name := "exchange", desc := "(III)V" } : Jvm.MethodName) ({ cls := "DraftTree", name := "exchange", desc := "(III)V" } : Jvm.MethodName)),
  (Jvm.Cond.arrayClass Jvm.ClassFile.FieldType.char),
  (Jvm.Cond.methodLink "DraftTree" (159 : Nat) ({ cls := "java/lang/System", name := "arraycopy", desc := "(Ljava/lang/Object;ILjava/lang/Object;II)V" } : Jvm.MethodName)),
  (Jvm.Cond.static ({ cls := "java/lang/System", name := "arraycopy", desc := "(Ljava/lang/Object;ILjava/lang/Object;II)V" } : Jvm.MethodName)),
  (Jvm.Cond.initialized "java/lang/System"),
  (Jvm.Cond.native ({ cls := "java/lang/System", name := "arraycopy", desc := "(Ljava/lang/Object;ILjava/lang/Object;II)V" } : Jvm.MethodName)),
  (Jvm.Cond.code ({ cls := "DraftTree", name := "makeState", desc := "([CI)V" } : Jvm.MethodName) prog_1_method_24_code (4 : Nat) (Option.none : Option Jvm.ClassFile.FieldType)),
  (Jvm.Cond.methodLink "DraftTree" (165 : Nat) ({ cls := "DraftTree", name := "makeState", desc := "([CI)V" } : Jvm.MethodName)),
  (Jvm.Cond.instanceMethod ({ cls := "DraftTree", name := "makeState", desc := "([CI)V" } : Jvm.MethodName)),
  (Jvm.Cond.selects "DraftTree" ({ cls := "DraftTree", name := "makeState", desc := "([CI)V" } : Jvm.MethodName) ({ cls := "DraftTree", name := "makeState", desc := "([CI)V" } : Jvm.MethodName)),
  (Jvm.Cond.code ({ cls := "DraftTree", name := "insert", desc := "()I" } : Jvm.MethodName) prog_1_method_4_code (3 : Nat) (Option.some Jvm.ClassFile.FieldType.int)),
  (Jvm.Cond.classLink "DraftTree" (13 : Nat) "DraftTree$State"),
  (Jvm.Cond.initialized "DraftTree$State"),
  (Jvm.Cond.instantiable "DraftTree$State" (4 : Nat)),
  (Jvm.Cond.methodLink "DraftTree" (22 : Nat) ({ cls := "DraftTree$State", name := "<init>", desc := "([CII)V" } : Jvm.MethodName)),
  (Jvm.Cond.instanceMethod ({ cls := "DraftTree$State", name := "<init>", desc := "([CII)V" } : Jvm.MethodName)),
  (Jvm.Cond.code ({ cls := "DraftTree", name := "putSlipIntoMatches", desc := "(II)V" } : Jvm.MethodName) prog_1_method_28_code (8 : Nat) (Option.none : Option Jvm.ClassFile.FieldType)),
  (Jvm.Cond.code ({ cls := "DraftTree", name := "replace", desc := "()I" } : Jvm.MethodName) prog_1_method_10_code (3 : Nat) (Option.some Jvm.ClassFile.FieldType.int)),
  (Jvm.Cond.methodLink "DraftTree" (120 : Nat) ({ cls := "DraftTree", name := "collectMatches", desc := "()I" } : Jvm.MethodName)),
  (Jvm.Cond.instanceMethod ({ cls := "DraftTree", name := "collectMatches", desc := "()I" } : Jvm.MethodName)),
  (Jvm.Cond.selects "DraftTree" ({ cls := "DraftTree", name := "collectMatches", desc := "()I" } : Jvm.MethodName) ({ cls := "DraftTree", name := "collectMatches", desc := "()I" } : Jvm.MethodName)),
  (Jvm.Cond.methodLink "DraftTree" (123 : Nat) ({ cls := "DraftTree", name := "sizeWithSlipIn", desc := "(I)I" } : Jvm.MethodName)),
  (Jvm.Cond.instanceMethod ({ cls := "DraftTree", name := "sizeWithSlipIn", desc := "(I)I" } : Jvm.MethodName)),
  (Jvm.Cond.selects "DraftTree" ({ cls := "DraftTree", name := "sizeWithSlipIn", desc := "(I)I" } : Jvm.MethodName) ({ cls := "DraftTree", name := "sizeWithSlipIn", desc := "(I)I" } : Jvm.MethodName)),
  (Jvm.Cond.methodLink "DraftTree" (127 : Nat) ({ cls := "DraftTree", name := "putSlipIntoMatches", desc := "(II)V" } : Jvm.MethodName)),
  (Jvm.Cond.instanceMethod ({ cls := "DraftTree", name := "putSlipIntoMatches", desc := "(II)V" } : Jvm.MethodName)),
  (Jvm.Cond.selects "DraftTree" ({ cls := "DraftTree", name := "putSlipIntoMatches", desc := "(II)V" } : Jvm.MethodName) ({ cls := "DraftTree", name := "putSlipIntoMatches", desc := "(II)V" } : Jvm.MethodName)),
  (Jvm.Cond.codeWith ({ cls := "DraftTreeLaw", name := "at", desc := "(LDraftTree;I[J)I" } : Jvm.MethodName) method_12_code (4 : Nat) (Option.some Jvm.ClassFile.FieldType.int) [((0 : Nat), (9 : Nat), (12 : Nat), (23 : Nat))]),
  (Jvm.Cond.methodLink "DraftTreeLaw" (48 : Nat) ({ cls := "DraftTree", name := "at", desc := "(I)C" } : Jvm.MethodName)),
  (Jvm.Cond.instanceMethod ({ cls := "DraftTree", name := "at", desc := "(I)C" } : Jvm.MethodName)),
  (Jvm.Cond.selects "DraftTree" ({ cls := "DraftTree", name := "at", desc := "(I)C" } : Jvm.MethodName) ({ cls := "DraftTree", name := "at", desc := "(I)C" } : Jvm.MethodName)),
  (Jvm.Cond.classLink "DraftTreeLaw" (23 : Nat) "java/lang/IndexOutOfBoundsException"),
  (Jvm.Cond.codeWith ({ cls := "DraftTreeLaw", name := "compile", desc := "(LDraftTree;)I" } : Jvm.MethodName) method_6_code (2 : Nat) (Option.some Jvm.ClassFile.FieldType.int) [((0 : Nat), (4 : Nat), (7 : Nat), (28 : Nat))]),
  (Jvm.Cond.methodLink "DraftTreeLaw" (25 : Nat) ({ cls := "DraftTree", name := "compile", desc := "()V" } : Jvm.MethodName)),
  (Jvm.Cond.instanceMethod ({ cls := "DraftTree", name := "compile", desc := "()V" } : Jvm.MethodName)),
  (Jvm.Cond.selects "DraftTree" ({ cls := "DraftTree", name := "compile", desc := "()V" } : Jvm.MethodName) ({ cls := "DraftTree", name := "compile", desc := "()V" } : Jvm.MethodName)),
  (Jvm.Cond.classLink "DraftTreeLaw" (28 : Nat) "java/lang/IllegalArgumentException"),
  (Jvm.Cond.codeWith ({ cls := "DraftTreeLaw", name := "erase", desc := "(LDraftTree;I[J)I" } : Jvm.MethodName) method_4_code (4 : Nat) (Option.some Jvm.ClassFile.FieldType.int) [((0 : Nat), (9 : Nat), (12 : Nat), (13 : Nat))]),
  (Jvm.Cond.methodLink "DraftTreeLaw" (15 : Nat) ({ cls := "DraftTree", name := "erase", desc := "(I)I" } : Jvm.MethodName)),
  (Jvm.Cond.instanceMethod ({ cls := "DraftTree", name := "erase", desc := "(I)I" } : Jvm.MethodName)),
  (Jvm.Cond.selects "DraftTree" ({ cls := "DraftTree", name := "erase", desc := "(I)I" } : Jvm.MethodName) ({ cls := "DraftTree", name := "erase", desc := "(I)I" } : Jvm.MethodName)),
  (Jvm.Cond.classLink "DraftTreeLaw" (13 : Nat) "java/lang/IllegalStateException"),
  (Jvm.Cond.codeWith ({ cls := "DraftTreeLaw", name := "figure", desc := "(LDraftTree;I[J)I" } : Jvm.MethodName) method_14_code (4 : Nat) (Option.some Jvm.ClassFile.FieldType.int) [((0 : Nat), (9 : Nat), (12 : Nat), (28 : Nat))]),
  (Jvm.Cond.methodLink "DraftTreeLaw" (56 : Nat) ({ cls := "DraftTree", name := "figure", desc := "(I)I" } : Jvm.MethodName)),
  (Jvm.Cond.instanceMethod ({ cls := "DraftTree", name := "figure", desc := "(I)I" } : Jvm.MethodName)),
  (Jvm.Cond.selects "DraftTree" ({ cls := "DraftTree", name := "figure", desc := "(I)I" } : Jvm.MethodName) ({ cls := "DraftTree", name := "figure", desc := "(I)I" } : Jvm.MethodName)),
  (Jvm.Cond.codeWith ({ cls := "DraftTreeLaw", name := "find", desc := "(LDraftTree;I[J)I" } : Jvm.MethodName) method_7_code (4 : Nat) (Option.some Jvm.ClassFile.FieldType.int) [((0 : Nat), (9 : Nat), (12 : Nat), (13 : Nat)), ((0 : Nat), (9 : Nat), (15 : Nat), (23 : Nat)), ((0 : Nat), (9 : Nat), (18 : Nat), (33 : Nat))]),
  (Jvm.Cond.methodLink "DraftTreeLaw" (30 : Nat) ({ cls := "DraftTree", name := "find", desc := "(I)I" } : Jvm.MethodName)),
  (Jvm.Cond.instanceMethod ({ cls := "DraftTree", name := "find", desc := "(I)I" } : Jvm.MethodName)),
  (Jvm.Cond.selects "DraftTree" ({ cls := "DraftTree", name := "find", desc := "(I)I" } : Jvm.MethodName) ({ cls := "DraftTree", name := "find", desc := "(I)I" } : Jvm.MethodName)),
  (Jvm.Cond.classLink "DraftTreeLaw" (33 : Nat) "java/util/NoSuchElementException"),
  (Jvm.Cond.codeWith ({ cls := "DraftTreeLaw", name := "go", desc := "(LDraftTree;IZ)I" } : Jvm.MethodName) method_5_code (4 : Nat) (Option.some Jvm.ClassFile.FieldType.int) [((0 : Nat), (6 : Nat), (9 : Nat), (23 : Nat))]),
  (Jvm.Cond.methodLink "DraftTreeLaw" (19 : Nat) ({ cls := "DraftTree", name := "go", desc := "(IZ)V" } : Jvm.MethodName)),
  (Jvm.Cond.instanceMethod ({ cls := "DraftTree", name := "go", desc := "(IZ)V" } : Jvm.MethodName)),
  (Jvm.Cond.selects "DraftTree" ({ cls := "DraftTree", name := "go", desc := "(IZ)V" } : Jvm.MethodName) ({ cls := "DraftTree", name := "go", desc := "(IZ)V" } : Jvm.MethodName)),
  (Jvm.Cond.codeWith ({ cls := "DraftTreeLaw", name := "insert", desc := "(LDraftTree;[J)I" } : Jvm.MethodName) method_3_code (3 : Nat) (Option.some Jvm.ClassFile.FieldType.int) [((0 : Nat), (8 : Nat), (11 : Nat), (13 : Nat))]),
  (Jvm.Cond.methodLink "DraftTreeLaw" (7 : Nat) ({ cls := "DraftTree", name := "insert", desc := "()I" } : Jvm.MethodName)),
  (Jvm.Cond.instanceMethod ({ cls := "DraftTree", name := "insert", desc := "()I" } : Jvm.MethodName)),
  (Jvm.Cond.selects "DraftTree" ({ cls := "DraftTree", name := "insert", desc := "()I" } : Jvm.MethodName) ({ cls := "DraftTree", name := "insert", desc := "()I" } : Jvm.MethodName)),
  (Jvm.Cond.codeWith ({ cls := "DraftTreeLaw", name := "jump", desc := "(LDraftTree;I)I" } : Jvm.MethodName) method_11_code (3 : Nat) (Option.some Jvm.ClassFile.FieldType.int) [((0 : Nat), (5 : Nat), (8 : Nat), (28 : Nat))]),
  (Jvm.Cond.methodLink "DraftTreeLaw" (44 : Nat) ({ cls := "DraftTree", name := "jump", desc := "(I)V" } : Jvm.MethodName)),
  (Jvm.Cond.instanceMethod ({ cls := "DraftTree", name := "jump", desc := "(I)V" } : Jvm.MethodName)),
  (Jvm.Cond.selects "DraftTree" ({ cls := "DraftTree", name := "jump", desc := "(I)V" } : Jvm.MethodName) ({ cls := "DraftTree", name := "jump", desc := "(I)V" } : Jvm.MethodName)),
  (Jvm.Cond.codeWith ({ cls := "DraftTreeLaw", name := "line", desc := "(LDraftTree;II[J)I" } : Jvm.MethodName) method_13_code (5 : Nat) (Option.some Jvm.ClassFile.FieldType.int) [((0 : Nat), (10 : Nat), (13 : Nat), (28 : Nat)), ((0 : Nat), (10 : Nat), (17 : Nat), (23 : Nat))]),
  (Jvm.Cond.methodLink "DraftTreeLaw" (52 : Nat) ({ cls := "DraftTree", name := "line", desc := "(II)I" } : Jvm.MethodName)),
  (Jvm.Cond.instanceMethod ({ cls := "DraftTree", name := "line", desc := "(II)I" } : Jvm.MethodName)),
  (Jvm.Cond.selects "DraftTree" ({ cls := "DraftTree", name := "line", desc := "(II)I" } : Jvm.MethodName) ({ cls := "DraftTree", name := "line", desc := "(II)I" } : Jvm.MethodName)),
  (Jvm.Cond.codeWith ({ cls := "DraftTreeLaw", name := "parent", desc := "(LDraftTree;I[J)I" } : Jvm.MethodName) method_15_code (4 : Nat) (Option.some Jvm.ClassFile.FieldType.int) [((0 : Nat), (9 : Nat), (12 : Nat), (28 : Nat))]),
  (Jvm.Cond.methodLink "DraftTreeLaw" (59 : Nat) ({ cls := "DraftTree", name := "parent", desc := "(I)I" } : Jvm.MethodName)),
  (Jvm.Cond.instanceMethod ({ cls := "DraftTree", name := "parent", desc := "(I)I" } : Jvm.MethodName)),
  (Jvm.Cond.selects "DraftTree" ({ cls := "DraftTree", name := "parent", desc := "(I)I" } : Jvm.MethodName) ({ cls := "DraftTree", name := "parent", desc := "(I)I" } : Jvm.MethodName)),
  (Jvm.Cond.codeWith ({ cls := "DraftTreeLaw", name := "redo", desc := "(LDraftTree;[J)I" } : Jvm.MethodName) method_10_code (3 : Nat) (Option.some Jvm.ClassFile.FieldType.int) [((0 : Nat), (8 : Nat), (11 : Nat), (33 : Nat))]),
  (Jvm.Cond.methodLink "DraftTreeLaw" (41 : Nat) ({ cls := "DraftTree", name := "redo", desc := "()I" } : Jvm.MethodName)),
  (Jvm.Cond.instanceMethod ({ cls := "DraftTree", name := "redo", desc := "()I" } : Jvm.MethodName)),
  (Jvm.Cond.selects "DraftTree" ({ cls := "DraftTree", name := "redo", desc := "()I" } : Jvm.MethodName) ({ cls := "DraftTree", name := "redo", desc := "()I" } : Jvm.MethodName)),
  (Jvm.Cond.codeWith ({ cls := "DraftTreeLaw", name := "replace", desc := "(LDraftTree;[J)I" } : Jvm.MethodName) method_8_code (3 : Nat) (Option.some Jvm.ClassFile.FieldType.int) [((0 : Nat), (8 : Nat), (11 : Nat), (13 : Nat))]),
  (Jvm.Cond.methodLink "DraftTreeLaw" (35 : Nat) ({ cls := "DraftTree", name := "replace", desc := "()I" } : Jvm.MethodName)),
  (Jvm.Cond.instanceMethod ({ cls := "DraftTree", name := "replace", desc := "()I" } : Jvm.MethodName)),
  (Jvm.Cond.selects "DraftTree" ({ cls := "DraftTree", name := "replace", desc := "()I" } : Jvm.MethodName) ({ cls := "DraftTree", name := "replace", desc := "()I" } : Jvm.MethodName)),
  (Jvm.Cond.codeWith ({ cls := "DraftTreeLaw", name := "undo", desc := "(LDraftTree;[J)I" } : Jvm.MethodName) method_9_code (3 : Nat) (Option.some Jvm.ClassFile.FieldType.int) [((0 : Nat), (8 : Nat), (11 : Nat), (33 : Nat))]),
  (Jvm.Cond.methodLink "DraftTreeLaw" (38 : Nat) ({ cls := "DraftTree", name := "undo", desc := "()I" } : Jvm.MethodName)),
  (Jvm.Cond.instanceMethod ({ cls := "DraftTree", name := "undo", desc := "()I" } : Jvm.MethodName)),
  (Jvm.Cond.selects "DraftTree" ({ cls := "DraftTree", name := "undo", desc := "()I" } : Jvm.MethodName) ({ cls := "DraftTree", name := "undo", desc := "()I" } : Jvm.MethodName)),
  (Jvm.Cond.classLink "DraftTreeLaw" (8 : Nat) "DraftTree"),
  (Jvm.Cond.instantiable "DraftTree" (14 : Nat)),
  (Jvm.Cond.code ({ cls := "DraftTree", name := "<init>", desc := "()V" } : Jvm.MethodName) prog_1_method_1_code (1 : Nat) (Option.none : Option Jvm.ClassFile.FieldType)),
  (Jvm.Cond.methodLink "DraftTreeLaw" (62 : Nat) ({ cls := "DraftTree", name := "<init>", desc := "()V" } : Jvm.MethodName)),
  (Jvm.Cond.instanceMethod ({ cls := "DraftTree", name := "<init>", desc := "()V" } : Jvm.MethodName)),
  (Jvm.Cond.classLink "DraftTreeLaw" (63 : Nat) "DraftTreeModel"),
  (Jvm.Cond.instantiable "DraftTreeModel" (38 : Nat)),
  (Jvm.Cond.code ({ cls := "DraftTreeModel", name := "<init>", desc := "()V" } : Jvm.MethodName) prog_6_method_1_code (1 : Nat) (Option.none : Option Jvm.ClassFile.FieldType)),
  (Jvm.Cond.methodLink "DraftTreeLaw" (65 : Nat) ({ cls := "DraftTreeModel", name := "<init>", desc := "()V" } : Jvm.MethodName)),
  (Jvm.Cond.instanceMethod ({ cls := "DraftTreeModel", name := "<init>", desc := "()V" } : Jvm.MethodName)),
  (Jvm.Cond.arrayClass Jvm.ClassFile.FieldType.long),
  (Jvm.Cond.methodLink "DraftTreeLaw" (66 : Nat) ({ cls := "DraftTree", name := "type", desc := "(C)Z" } : Jvm.MethodName)),
  (Jvm.Cond.instanceMethod ({ cls := "DraftTree", name := "type", desc := "(C)Z" } : Jvm.MethodName)),
  (Jvm.Cond.selects "DraftTree" ({ cls := "DraftTree", name := "type", desc := "(C)Z" } : Jvm.MethodName) ({ cls := "DraftTree", name := "type", desc := "(C)Z" } : Jvm.MethodName)),
  (Jvm.Cond.methodLink "DraftTreeLaw" (70 : Nat) ({ cls := "DraftTreeModel", name := "type", desc := "(C)Z" } : Jvm.MethodName)),
  (Jvm.Cond.instanceMethod ({ cls := "DraftTreeModel", name := "type", desc := "(C)Z" } : Jvm.MethodName)),
  (Jvm.Cond.selects "DraftTreeModel" ({ cls := "DraftTreeModel", name := "type", desc := "(C)Z" } : Jvm.MethodName) ({ cls := "DraftTreeModel", name := "type", desc := "(C)Z" } : Jvm.MethodName)),
  (Jvm.Cond.methodLink "DraftTreeLaw" (71 : Nat) ({ cls := "DraftTree", name := "wipe", desc := "()I" } : Jvm.MethodName)),
  (Jvm.Cond.instanceMethod ({ cls := "DraftTree", name := "wipe", desc := "()I" } : Jvm.MethodName)),
  (Jvm.Cond.selects "DraftTree" ({ cls := "DraftTree", name := "wipe", desc := "()I" } : Jvm.MethodName) ({ cls := "DraftTree", name := "wipe", desc := "()I" } : Jvm.MethodName)),
  (Jvm.Cond.methodLink "DraftTreeLaw" (74 : Nat) ({ cls := "DraftTreeModel", name := "wipe", desc := "()I" } : Jvm.MethodName)),
  (Jvm.Cond.instanceMethod ({ cls := "DraftTreeModel", name := "wipe", desc := "()I" } : Jvm.MethodName)),
  (Jvm.Cond.selects "DraftTreeModel" ({ cls := "DraftTreeModel", name := "wipe", desc := "()I" } : Jvm.MethodName) ({ cls := "DraftTreeModel", name := "wipe", desc := "()I" } : Jvm.MethodName)),
  (Jvm.Cond.initialized "DraftTreeLaw"),
  (Jvm.Cond.methodLink "DraftTreeLaw" (75 : Nat) ({ cls := "DraftTreeLaw", name := "insert", desc := "(LDraftTree;[J)I" } : Jvm.MethodName)),
  (Jvm.Cond.static ({ cls := "DraftTreeLaw", name := "insert", desc := "(LDraftTree;[J)I" } : Jvm.MethodName)),
  (Jvm.Cond.methodLink "DraftTreeLaw" (80 : Nat) ({ cls := "DraftTreeModel", name := "insert", desc := "()I" } : Jvm.MethodName)),
  (Jvm.Cond.instanceMethod ({ cls := "DraftTreeModel", name := "insert", desc := "()I" } : Jvm.MethodName)),
  (Jvm.Cond.selects "DraftTreeModel" ({ cls := "DraftTreeModel", name := "insert", desc := "()I" } : Jvm.MethodName) ({ cls := "DraftTreeModel", name := "insert", desc := "()I" } : Jvm.MethodName)),
  (Jvm.Cond.methodLink "DraftTreeLaw" (81 : Nat) ({ cls := "DraftTreeModel", name := "thrown", desc := "()I" } : Jvm.MethodName)),
  (Jvm.Cond.instanceMethod ({ cls := "DraftTreeModel", name := "thrown", desc := "()I" } : Jvm.MethodName)),
  (Jvm.Cond.selects "DraftTreeModel" ({ cls := "DraftTreeModel", name := "thrown", desc := "()I" } : Jvm.MethodName) ({ cls := "DraftTreeModel", name := "thrown", desc := "()I" } : Jvm.MethodName)),
  (Jvm.Cond.methodLink "DraftTreeLaw" (84 : Nat) ({ cls := "DraftTreeLaw", name := "erase", desc := "(LDraftTree;I[J)I" } : Jvm.MethodName)),
  (Jvm.Cond.static ({ cls := "DraftTreeLaw", name := "erase", desc := "(LDraftTree;I[J)I" } : Jvm.MethodName)),
  (Jvm.Cond.methodLink "DraftTreeLaw" (87 : Nat) ({ cls := "DraftTreeModel", name := "erase", desc := "(I)I" } : Jvm.MethodName)),
  (Jvm.Cond.instanceMethod ({ cls := "DraftTreeModel", name := "erase", desc := "(I)I" } : Jvm.MethodName)),
  (Jvm.Cond.selects "DraftTreeModel" ({ cls := "DraftTreeModel", name := "erase", desc := "(I)I" } : Jvm.MethodName) ({ cls := "DraftTreeModel", name := "erase", desc := "(I)I" } : Jvm.MethodName)),
  (Jvm.Cond.methodLink "DraftTreeLaw" (88 : Nat) ({ cls := "DraftTreeLaw", name := "go", desc := "(LDraftTree;IZ)I" } : Jvm.MethodName)),
  (Jvm.Cond.static ({ cls := "DraftTreeLaw", name := "go", desc := "(LDraftTree;IZ)I" } : Jvm.MethodName)),
  (Jvm.Cond.methodLink "DraftTreeLaw" (91 : Nat) ({ cls := "DraftTreeModel", name := "go", desc := "(IZ)V" } : Jvm.MethodName)),
  (Jvm.Cond.instanceMethod ({ cls := "DraftTreeModel", name := "go", desc := "(IZ)V" } : Jvm.MethodName)),
  (Jvm.Cond.selects "DraftTreeModel" ({ cls := "DraftTreeModel", name := "go", desc := "(IZ)V" } : Jvm.MethodName) ({ cls := "DraftTreeModel", name := "go", desc := "(IZ)V" } : Jvm.MethodName)),
  (Jvm.Cond.methodLink "DraftTreeLaw" (92 : Nat) ({ cls := "DraftTreeLaw", name := "compile", desc := "(LDraftTree;)I" } : Jvm.MethodName)),
  (Jvm.Cond.static ({ cls := "DraftTreeLaw", name := "compile", desc := "(LDraftTree;)I" } : Jvm.MethodName)),
  (Jvm.Cond.methodLink "DraftTreeLaw" (95 : Nat) ({ cls := "DraftTreeModel", name := "compile", desc := "()V" } : Jvm.MethodName)),
  (Jvm.Cond.instanceMethod ({ cls := "DraftTreeModel", name := "compile", desc := "()V" } : Jvm.MethodName)),
  (Jvm.Cond.selects "DraftTreeModel" ({ cls := "DraftTreeModel", name := "compile", desc := "()V" } : Jvm.MethodName) ({ cls := "DraftTreeModel", name := "compile", desc := "()V" } : Jvm.MethodName)),
  (Jvm.Cond.methodLink "DraftTreeLaw" (96 : Nat) ({ cls := "DraftTree", name := "fault", desc := "()I" } : Jvm.MethodName)),
  (Jvm.Cond.instanceMethod ({ cls := "DraftTree", name := "fault", desc := "()I" } : Jvm.MethodName)),
  (Jvm.Cond.selects "DraftTree" ({ cls := "DraftTree", name := "fault", desc := "()I" } : Jvm.MethodName) ({ cls := "DraftTree", name := "fault", desc := "()I" } : Jvm.MethodName)),
  (Jvm.Cond.methodLink "DraftTreeLaw" (99 : Nat) ({ cls := "DraftTreeModel", name := "fault", desc := "()I" } : Jvm.MethodName)),
  (Jvm.Cond.instanceMethod ({ cls := "DraftTreeModel", name := "fault", desc := "()I" } : Jvm.MethodName)),
  (Jvm.Cond.selects "DraftTreeModel" ({ cls := "DraftTreeModel", name := "fault", desc := "()I" } : Jvm.MethodName) ({ cls := "DraftTreeModel", name := "fault", desc := "()I" } : Jvm.MethodName)),
  (Jvm.Cond.methodLink "DraftTreeLaw" (100 : Nat) ({ cls := "DraftTreeLaw", name := "find", desc := "(LDraftTree;I[J)I" } : Jvm.MethodName)),
  (Jvm.Cond.static ({ cls := "DraftTreeLaw", name := "find", desc := "(LDraftTree;I[J)I" } : Jvm.MethodName)),
  (Jvm.Cond.methodLink "DraftTreeLaw" (102 : Nat) ({ cls := "DraftTreeModel", name := "find", desc := "(I)I" } : Jvm.MethodName)),
  (Jvm.Cond.instanceMethod ({ cls := "DraftTreeModel", name := "find", desc := "(I)I" } : Jvm.MethodName)),
  (Jvm.Cond.selects "DraftTreeModel" ({ cls := "DraftTreeModel", name := "find", desc := "(I)I" } : Jvm.MethodName) ({ cls := "DraftTreeModel", name := "find", desc := "(I)I" } : Jvm.MethodName)),
  (Jvm.Cond.methodLink "DraftTreeLaw" (103 : Nat) ({ cls := "DraftTreeLaw", name := "replace", desc := "(LDraftTree;[J)I" } : Jvm.MethodName)),
  (Jvm.Cond.static ({ cls := "DraftTreeLaw", name := "replace", desc := "(LDraftTree;[J)I" } : Jvm.MethodName)),
  (Jvm.Cond.methodLink "DraftTreeLaw" (105 : Nat) ({ cls := "DraftTreeModel", name := "replace", desc := "()I" } : Jvm.MethodName)),
  (Jvm.Cond.instanceMethod ({ cls := "DraftTreeModel", name := "replace", desc := "()I" } : Jvm.MethodName)),
  (Jvm.Cond.selects "DraftTreeModel" ({ cls := "DraftTreeModel", name := "replace", desc := "()I" } : Jvm.MethodName) ({ cls := "DraftTreeModel", name := "replace", desc := "()I" } : Jvm.MethodName)),
  (Jvm.Cond.methodLink "DraftTreeLaw" (106 : Nat) ({ cls := "DraftTreeLaw", name := "undo", desc := "(LDraftTree;[J)I" } : Jvm.MethodName)),
  (Jvm.Cond.static ({ cls := "DraftTreeLaw", name := "undo", desc := "(LDraftTree;[J)I" } : Jvm.MethodName)),
  (Jvm.Cond.methodLink "DraftTreeLaw" (108 : Nat) ({ cls := "DraftTreeModel", name := "undo", desc := "()I" } : Jvm.MethodName)),
  (Jvm.Cond.instanceMethod ({ cls := "DraftTreeModel", name := "undo", desc := "()I" } : Jvm.MethodName)),
  (Jvm.Cond.selects "DraftTreeModel" ({ cls := "DraftTreeModel", name := "undo", desc := "()I" } : Jvm.MethodName) ({ cls := "DraftTreeModel", name := "undo", desc := "()I" } : Jvm.MethodName)),
  (Jvm.Cond.methodLink "DraftTreeLaw" (109 : Nat) ({ cls := "DraftTreeLaw", name := "redo", desc := "(LDraftTree;[J)I" } : Jvm.MethodName)),
  (Jvm.Cond.static ({ cls := "DraftTreeLaw", name := "redo", desc := "(LDraftTree;[J)I" } : Jvm.MethodName)),
  (Jvm.Cond.methodLink "DraftTreeLaw" (111 : Nat) ({ cls := "DraftTreeModel", name := "redo", desc := "()I" } : Jvm.MethodName)),
  (Jvm.Cond.instanceMethod ({ cls := "DraftTreeModel", name := "redo", desc := "()I" } : Jvm.MethodName)),
  (Jvm.Cond.selects "DraftTreeModel" ({ cls := "DraftTreeModel", name := "redo", desc := "()I" } : Jvm.MethodName) ({ cls := "DraftTreeModel", name := "redo", desc := "()I" } : Jvm.MethodName)),
  (Jvm.Cond.methodLink "DraftTreeLaw" (112 : Nat) ({ cls := "DraftTreeLaw", name := "jump", desc := "(LDraftTree;I)I" } : Jvm.MethodName)),
  (Jvm.Cond.static ({ cls := "DraftTreeLaw", name := "jump", desc := "(LDraftTree;I)I" } : Jvm.MethodName)),
  (Jvm.Cond.methodLink "DraftTreeLaw" (115 : Nat) ({ cls := "DraftTreeModel", name := "jump", desc := "(I)V" } : Jvm.MethodName)),
  (Jvm.Cond.instanceMethod ({ cls := "DraftTreeModel", name := "jump", desc := "(I)V" } : Jvm.MethodName)),
  (Jvm.Cond.selects "DraftTreeModel" ({ cls := "DraftTreeModel", name := "jump", desc := "(I)V" } : Jvm.MethodName) ({ cls := "DraftTreeModel", name := "jump", desc := "(I)V" } : Jvm.MethodName)),
  (Jvm.Cond.methodLink "DraftTreeLaw" (116 : Nat) ({ cls := "DraftTree", name := "length", desc := "()I" } : Jvm.MethodName)),
  (Jvm.Cond.instanceMethod ({ cls := "DraftTree", name := "length", desc := "()I" } : Jvm.MethodName)),
  (Jvm.Cond.selects "DraftTree" ({ cls := "DraftTree", name := "length", desc := "()I" } : Jvm.MethodName) ({ cls := "DraftTree", name := "length", desc := "()I" } : Jvm.MethodName)),
  (Jvm.Cond.methodLink "DraftTreeLaw" (119 : Nat) ({ cls := "DraftTreeModel", name := "length", desc := "()I" } : Jvm.MethodName)),
  (Jvm.Cond.instanceMethod ({ cls := "DraftTreeModel", name := "length", desc := "()I" } : Jvm.MethodName)),
  (Jvm.Cond.selects "DraftTreeModel" ({ cls := "DraftTreeModel", name := "length", desc := "()I" } : Jvm.MethodName) ({ cls := "DraftTreeModel", name := "length", desc := "()I" } : Jvm.MethodName)),
  (Jvm.Cond.methodLink "DraftTreeLaw" (120 : Nat) ({ cls := "DraftTreeLaw", name := "at", desc := "(LDraftTree;I[J)I" } : Jvm.MethodName)),
  (Jvm.Cond.static ({ cls := "DraftTreeLaw", name := "at", desc := "(LDraftTree;I[J)I" } : Jvm.MethodName)),
  (Jvm.Cond.methodLink "DraftTreeLaw" (122 : Nat) ({ cls := "DraftTreeModel", name := "at", desc := "(I)C" } : Jvm.MethodName)),
  (Jvm.Cond.instanceMethod ({ cls := "DraftTreeModel", name := "at", desc := "(I)C" } : Jvm.MethodName)),
  (Jvm.Cond.selects "DraftTreeModel" ({ cls := "DraftTreeModel", name := "at", desc := "(I)C" } : Jvm.MethodName) ({ cls := "DraftTreeModel", name := "at", desc := "(I)C" } : Jvm.MethodName)),
  (Jvm.Cond.methodLink "DraftTreeLaw" (123 : Nat) ({ cls := "DraftTreeLaw", name := "line", desc := "(LDraftTree;II[J)I" } : Jvm.MethodName)),
  (Jvm.Cond.static ({ cls := "DraftTreeLaw", name := "line", desc := "(LDraftTree;II[J)I" } : Jvm.MethodName)),
  (Jvm.Cond.methodLink "DraftTreeLaw" (126 : Nat) ({ cls := "DraftTreeModel", name := "line", desc := "(II)I" } : Jvm.MethodName)),
  (Jvm.Cond.instanceMethod ({ cls := "DraftTreeModel", name := "line", desc := "(II)I" } : Jvm.MethodName)),
  (Jvm.Cond.selects "DraftTreeModel" ({ cls := "DraftTreeModel", name := "line", desc := "(II)I" } : Jvm.MethodName) ({ cls := "DraftTreeModel", name := "line", desc := "(II)I" } : Jvm.MethodName)),
  (Jvm.Cond.methodLink "DraftTreeLaw" (127 : Nat) ({ cls := "DraftTreeLaw", name := "figure", desc := "(LDraftTree;I[J)I" } : Jvm.MethodName)),
  (Jvm.Cond.static ({ cls := "DraftTreeLaw", name := "figure", desc := "(LDraftTree;I[J)I" } : Jvm.MethodName)),
  (Jvm.Cond.methodLink "DraftTreeLaw" (129 : Nat) ({ cls := "DraftTreeModel", name := "figure", desc := "(I)I" } : Jvm.MethodName)),
  (Jvm.Cond.instanceMethod ({ cls := "DraftTreeModel", name := "figure", desc := "(I)I" } : Jvm.MethodName)),
  (Jvm.Cond.selects "DraftTreeModel" ({ cls := "DraftTreeModel", name := "figure", desc := "(I)I" } : Jvm.MethodName) ({ cls := "DraftTreeModel", name := "figure", desc := "(I)I" } : Jvm.MethodName)),
  (Jvm.Cond.methodLink "DraftTreeLaw" (130 : Nat) ({ cls := "DraftTreeLaw", name := "parent", desc := "(LDraftTree;I[J)I" } : Jvm.MethodName)),
  (Jvm.Cond.static ({ cls := "DraftTreeLaw", name := "parent", desc := "(LDraftTree;I[J)I" } : Jvm.MethodName)),
  (Jvm.Cond.methodLink "DraftTreeLaw" (132 : Nat) ({ cls := "DraftTreeModel", name := "parent", desc := "(I)I" } : Jvm.MethodName)),
  (Jvm.Cond.instanceMethod ({ cls := "DraftTreeModel", name := "parent", desc := "(I)I" } : Jvm.MethodName)),
  (Jvm.Cond.selects "DraftTreeModel" ({ cls := "DraftTreeModel", name := "parent", desc := "(I)I" } : Jvm.MethodName) ({ cls := "DraftTreeModel", name := "parent", desc := "(I)I" } : Jvm.MethodName)),
  (Jvm.Cond.methodLink "DraftTree" (1 : Nat) ({ cls := "java/lang/Object", name := "<init>", desc := "()V" } : Jvm.MethodName)),
  (Jvm.Cond.classLink "DraftTree" (32 : Nat) "DraftTree$PatternReader"),
  (Jvm.Cond.instantiable "DraftTree$PatternReader" (13 : Nat)),
  (Jvm.Cond.methodLink "DraftTree$PatternReader" (3 : Nat) ({ cls := "java/lang/Object", name := "<init>", desc := "()V" } : Jvm.MethodName)),
  (Jvm.Cond.arrayClass Jvm.ClassFile.FieldType.int),
  (Jvm.Cond.classLink "DraftTree$PatternReader" (24 : Nat) "DraftTree$Automaton"),
  (Jvm.Cond.instantiable "DraftTree$Automaton" (10 : Nat)),
  (Jvm.Cond.methodLink "DraftTree$Automaton" (3 : Nat) ({ cls := "java/lang/Object", name := "<init>", desc := "()V" } : Jvm.MethodName)),
  (Jvm.Cond.code ({ cls := "DraftTree$Automaton", name := "<init>", desc := "()V" } : Jvm.MethodName) prog_2_method_1_code (1 : Nat) (Option.none : Option Jvm.ClassFile.FieldType)),
  (Jvm.Cond.methodLink "DraftTree$PatternReader" (26 : Nat) ({ cls := "DraftTree$Automaton", name := "<init>", desc := "()V" } : Jvm.MethodName)),
  (Jvm.Cond.instanceMethod ({ cls := "DraftTree$Automaton", name := "<init>", desc := "()V" } : Jvm.MethodName)),
  (Jvm.Cond.code ({ cls := "DraftTree$PatternReader", name := "<init>", desc := "()V" } : Jvm.MethodName) prog_3_method_1_code (1 : Nat) (Option.none : Option Jvm.ClassFile.FieldType)),
  (Jvm.Cond.methodLink "DraftTree" (34 : Nat) ({ cls := "DraftTree$PatternReader", name := "<init>", desc := "()V" } : Jvm.MethodName)),
  (Jvm.Cond.instanceMethod ({ cls := "DraftTree$PatternReader", name := "<init>", desc := "()V" } : Jvm.MethodName)),
  (Jvm.Cond.classLink "DraftTree" (39 : Nat) "DraftTree$Automaton"),
  (Jvm.Cond.methodLink "DraftTree" (41 : Nat) ({ cls := "DraftTree$Automaton", name := "<init>", desc := "()V" } : Jvm.MethodName)),
  (Jvm.Cond.methodLink "DraftTreeModel" (1 : Nat) ({ cls := "java/lang/Object", name := "<init>", desc := "()V" } : Jvm.MethodName)),
  (Jvm.Cond.arrayClass Jvm.ClassFile.FieldType.boolean)]
def wk_at_oa_0 : List Cond := (Bundle.ownAtoms0 "DraftTree" 145 "java/lang/IndexOutOfBoundsException" ["java/lang/RuntimeException", "java/lang/Exception"]).filter goodWord
def wk_at_oa_1 : List Cond := (Bundle.ownAtoms0 "DraftTree" 98 "java/lang/IllegalArgumentException" ["java/lang/RuntimeException", "java/lang/Exception"]).filter goodWord
def wk_at_oa_2 : List Cond := (Bundle.ownAtoms0 "DraftTree" 68 "java/lang/IllegalStateException" ["java/lang/RuntimeException", "java/lang/Exception"]).filter goodWord
def wk_at_oa_3 : List Cond := (Bundle.ownAtoms0 "DraftTree" 113 "java/util/NoSuchElementException" ["java/lang/RuntimeException", "java/lang/Exception"]).filter goodWord
def wk_tbl : List Cond := wk_l ++ (wk_at_oa_0 ++ (wk_at_oa_1 ++ (wk_at_oa_2 ++ (wk_at_oa_3))))
set_option maxRecDepth 20000 in
theorem lk_0 : (Jvm.Cond.lays "DraftTreeModel" "DraftTreeModel" "code" "I") ∈ wk_tbl := List.mem_append_left _ (List.mem_of_getElem? (i := 0) (by rfl))
set_option maxRecDepth 20000 in
theorem lk_1 : (Jvm.Cond.lays "DraftTreeModel" "DraftTreeModel" "typed" "I") ∈ wk_tbl := List.mem_append_left _ (List.mem_of_getElem? (i := 1) (by rfl))
set_option maxRecDepth 20000 in
theorem lk_2 : (Jvm.Cond.laysFinal "DraftTreeModel" "DraftTreeModel" "slip" "[C") ∈ wk_tbl := List.mem_append_left _ (List.mem_of_getElem? (i := 2) (by rfl))
set_option maxRecDepth 20000 in
theorem lk_3 : (Jvm.Cond.lays "DraftTreeModel" "DraftTreeModel" "states" "I") ∈ wk_tbl := List.mem_append_left _ (List.mem_of_getElem? (i := 3) (by rfl))
set_option maxRecDepth 20000 in
theorem lk_4 : (Jvm.Cond.lays "DraftTreeModel" "DraftTreeModel" "present" "I") ∈ wk_tbl := List.mem_append_left _ (List.mem_of_getElem? (i := 4) (by rfl))
set_option maxRecDepth 20000 in
theorem lk_5 : (Jvm.Cond.laysFinal "DraftTreeModel" "DraftTreeModel" "texts" "[C") ∈ wk_tbl := List.mem_append_left _ (List.mem_of_getElem? (i := 5) (by rfl))
set_option maxRecDepth 20000 in
theorem lk_6 : (Jvm.Cond.laysFinal "DraftTreeModel" "DraftTreeModel" "lengths" "[I") ∈ wk_tbl := List.mem_append_left _ (List.mem_of_getElem? (i := 6) (by rfl))
set_option maxRecDepth 20000 in
theorem lk_7 : (Jvm.Cond.laysFinal "DraftTreeModel" "DraftTreeModel" "places" "[I") ∈ wk_tbl := List.mem_append_left _ (List.mem_of_getElem? (i := 7) (by rfl))
set_option maxRecDepth 20000 in
theorem lk_8 : (Jvm.Cond.laysFinal "DraftTreeModel" "DraftTreeModel" "parents" "[I") ∈ wk_tbl := List.mem_append_left _ (List.mem_of_getElem? (i := 8) (by rfl))
set_option maxRecDepth 20000 in
theorem lk_9 : (Jvm.Cond.laysFinal "DraftTreeModel" "DraftTreeModel" "came" "[I") ∈ wk_tbl := List.mem_append_left _ (List.mem_of_getElem? (i := 9) (by rfl))
set_option maxRecDepth 20000 in
theorem lk_10 : (Jvm.Cond.lays "DraftTreeModel" "DraftTreeModel" "clock" "I") ∈ wk_tbl := List.mem_append_left _ (List.mem_of_getElem? (i := 10) (by rfl))
set_option maxRecDepth 20000 in
theorem lk_11 : (Jvm.Cond.lays "DraftTreeModel" "DraftTreeModel" "cursor" "I") ∈ wk_tbl := List.mem_append_left _ (List.mem_of_getElem? (i := 11) (by rfl))
set_option maxRecDepth 20000 in
theorem lk_12 : (Jvm.Cond.lays "DraftTreeModel" "DraftTreeModel" "mark" "I") ∈ wk_tbl := List.mem_append_left _ (List.mem_of_getElem? (i := 12) (by rfl))
set_option maxRecDepth 20000 in
theorem lk_13 : (Jvm.Cond.lays "DraftTreeModel" "DraftTreeModel" "compiled" "Z") ∈ wk_tbl := List.mem_append_left _ (List.mem_of_getElem? (i := 13) (by rfl))
set_option maxRecDepth 20000 in
theorem lk_14 : (Jvm.Cond.lays "DraftTreeModel" "DraftTreeModel" "wrongAt" "I") ∈ wk_tbl := List.mem_append_left _ (List.mem_of_getElem? (i := 14) (by rfl))
set_option maxRecDepth 20000 in
theorem lk_15 : (Jvm.Cond.lays "DraftTreeModel" "DraftTreeModel" "size" "I") ∈ wk_tbl := List.mem_append_left _ (List.mem_of_getElem? (i := 15) (by rfl))
set_option maxRecDepth 20000 in
theorem lk_16 : (Jvm.Cond.laysFinal "DraftTreeModel" "DraftTreeModel" "pattern" "[C") ∈ wk_tbl := List.mem_append_left _ (List.mem_of_getElem? (i := 16) (by rfl))
set_option maxRecDepth 20000 in
theorem lk_17 : (Jvm.Cond.lays "DraftTreeModel" "DraftTreeModel" "nodes" "I") ∈ wk_tbl := List.mem_append_left _ (List.mem_of_getElem? (i := 17) (by rfl))
set_option maxRecDepth 20000 in
theorem lk_18 : (Jvm.Cond.laysFinal "DraftTreeModel" "DraftTreeModel" "kind" "[I") ∈ wk_tbl := List.mem_append_left _ (List.mem_of_getElem? (i := 18) (by rfl))
set_option maxRecDepth 20000 in
theorem lk_19 : (Jvm.Cond.laysFinal "DraftTreeModel" "DraftTreeModel" "from" "[I") ∈ wk_tbl := List.mem_append_left _ (List.mem_of_getElem? (i := 19) (by rfl))
set_option maxRecDepth 20000 in
theorem lk_20 : (Jvm.Cond.laysFinal "DraftTreeModel" "DraftTreeModel" "to" "[I") ∈ wk_tbl := List.mem_append_left _ (List.mem_of_getElem? (i := 20) (by rfl))
set_option maxRecDepth 20000 in
theorem lk_21 : (Jvm.Cond.laysFinal "DraftTreeModel" "DraftTreeModel" "one" "[I") ∈ wk_tbl := List.mem_append_left _ (List.mem_of_getElem? (i := 21) (by rfl))
set_option maxRecDepth 20000 in
theorem lk_22 : (Jvm.Cond.laysFinal "DraftTreeModel" "DraftTreeModel" "two" "[I") ∈ wk_tbl := List.mem_append_left _ (List.mem_of_getElem? (i := 22) (by rfl))
set_option maxRecDepth 20000 in
theorem lk_23 : (Jvm.Cond.lays "DraftTreeModel" "DraftTreeModel" "first" "I") ∈ wk_tbl := List.mem_append_left _ (List.mem_of_getElem? (i := 23) (by rfl))
set_option maxRecDepth 20000 in
theorem lk_24 : (Jvm.Cond.lays "DraftTreeModel" "DraftTreeModel" "last" "I") ∈ wk_tbl := List.mem_append_left _ (List.mem_of_getElem? (i := 24) (by rfl))
set_option maxRecDepth 20000 in
theorem lk_25 : (Jvm.Cond.lays "DraftTreeModel" "DraftTreeModel" "pieces" "I") ∈ wk_tbl := List.mem_append_left _ (List.mem_of_getElem? (i := 25) (by rfl))
set_option maxRecDepth 20000 in
theorem lk_26 : (Jvm.Cond.laysFinal "DraftTreeModel" "DraftTreeModel" "head" "[I") ∈ wk_tbl := List.mem_append_left _ (List.mem_of_getElem? (i := 26) (by rfl))
set_option maxRecDepth 20000 in
theorem lk_27 : (Jvm.Cond.laysFinal "DraftTreeModel" "DraftTreeModel" "tail" "[I") ∈ wk_tbl := List.mem_append_left _ (List.mem_of_getElem? (i := 27) (by rfl))
set_option maxRecDepth 20000 in
theorem lk_28 : (Jvm.Cond.lays "DraftTreeModel" "DraftTreeModel" "open" "I") ∈ wk_tbl := List.mem_append_left _ (List.mem_of_getElem? (i := 28) (by rfl))
set_option maxRecDepth 20000 in
theorem lk_29 : (Jvm.Cond.laysFinal "DraftTreeModel" "DraftTreeModel" "choice" "[I") ∈ wk_tbl := List.mem_append_left _ (List.mem_of_getElem? (i := 29) (by rfl))
set_option maxRecDepth 20000 in
theorem lk_30 : (Jvm.Cond.laysFinal "DraftTreeModel" "DraftTreeModel" "row" "[I") ∈ wk_tbl := List.mem_append_left _ (List.mem_of_getElem? (i := 30) (by rfl))
set_option maxRecDepth 20000 in
theorem lk_31 : (Jvm.Cond.laysFinal "DraftTreeModel" "DraftTreeModel" "part" "[I") ∈ wk_tbl := List.mem_append_left _ (List.mem_of_getElem? (i := 31) (by rfl))
set_option maxRecDepth 20000 in
theorem lk_32 : (Jvm.Cond.laysFinal "DraftTreeModel" "DraftTreeModel" "here" "[Z") ∈ wk_tbl := List.mem_append_left _ (List.mem_of_getElem? (i := 32) (by rfl))
set_option maxRecDepth 20000 in
theorem lk_33 : (Jvm.Cond.laysFinal "DraftTreeModel" "DraftTreeModel" "then" "[Z") ∈ wk_tbl := List.mem_append_left _ (List.mem_of_getElem? (i := 33) (by rfl))
set_option maxRecDepth 20000 in
theorem lk_34 : (Jvm.Cond.lays "DraftTreeModel" "DraftTreeModel" "foundAt" "I") ∈ wk_tbl := List.mem_append_left _ (List.mem_of_getElem? (i := 34) (by rfl))
set_option maxRecDepth 20000 in
theorem lk_35 : (Jvm.Cond.lays "DraftTreeModel" "DraftTreeModel" "foundEnd" "I") ∈ wk_tbl := List.mem_append_left _ (List.mem_of_getElem? (i := 35) (by rfl))
set_option maxRecDepth 20000 in
theorem lk_36 : (Jvm.Cond.lays "DraftTreeModel" "DraftTreeModel" "made" "I") ∈ wk_tbl := List.mem_append_left _ (List.mem_of_getElem? (i := 36) (by rfl))
set_option maxRecDepth 20000 in
theorem lk_37 : (Jvm.Cond.laysFinal "DraftTreeModel" "DraftTreeModel" "draft" "[C") ∈ wk_tbl := List.mem_append_left _ (List.mem_of_getElem? (i := 37) (by rfl))
set_option maxRecDepth 20000 in
theorem lk_38 : (Jvm.Cond.fieldLink "DraftTreeModel" (79 : Nat) "DraftTreeModel" "draft" "[C") ∈ wk_tbl := List.mem_append_left _ (List.mem_of_getElem? (i := 38) (by rfl))
set_option maxRecDepth 20000 in
theorem lk_39 : (Jvm.Cond.fieldLink "DraftTreeModel" (101 : Nat) "DraftTreeModel" "made" "I") ∈ wk_tbl := List.mem_append_left _ (List.mem_of_getElem? (i := 39) (by rfl))
set_option maxRecDepth 20000 in
theorem lk_40 : (Jvm.Cond.code ({ cls := "DraftTreeModel", name := "add", desc := "(C)V" } : Jvm.MethodName) prog_6_method_9_code (2 : Nat) (Option.none : Option Jvm.ClassFile.FieldType)) ∈ wk_tbl := List.mem_append_left _ (List.mem_of_getElem? (i := 40) (by rfl))
set_option maxRecDepth 20000 in
theorem lk_41 : (Jvm.Cond.fieldLink "DraftTreeModel" (89 : Nat) "DraftTreeModel" "typed" "I") ∈ wk_tbl := List.mem_append_left _ (List.mem_of_getElem? (i := 41) (by rfl))
set_option maxRecDepth 20000 in
theorem lk_42 : (Jvm.Cond.fieldLink "DraftTreeModel" (7 : Nat) "DraftTreeModel" "slip" "[C") ∈ wk_tbl := List.mem_append_left _ (List.mem_of_getElem? (i := 42) (by rfl))
set_option maxRecDepth 20000 in
theorem lk_43 : (Jvm.Cond.methodLink "DraftTreeModel" (108 : Nat) ({ cls := "DraftTreeModel", name := "add", desc := "(C)V" } : Jvm.MethodName)) ∈ wk_tbl := List.mem_append_left _ (List.mem_of_getElem? (i := 43) (by rfl))
set_option maxRecDepth 20000 in
theorem lk_44 : (Jvm.Cond.instanceMethod ({ cls := "DraftTreeModel", name := "add", desc := "(C)V" } : Jvm.MethodName)) ∈ wk_tbl := List.mem_append_left _ (List.mem_of_getElem? (i := 44) (by rfl))
set_option maxRecDepth 20000 in
theorem lk_45 : (Jvm.Cond.selects "DraftTreeModel" ({ cls := "DraftTreeModel", name := "add", desc := "(C)V" } : Jvm.MethodName) ({ cls := "DraftTreeModel", name := "add", desc := "(C)V" } : Jvm.MethodName)) ∈ wk_tbl := List.mem_append_left _ (List.mem_of_getElem? (i := 45) (by rfl))
set_option maxRecDepth 20000 in
theorem lk_46 : (Jvm.Cond.initialized "DraftTreeModel") ∈ wk_tbl := List.mem_append_left _ (List.mem_of_getElem? (i := 46) (by rfl))
set_option maxRecDepth 20000 in
theorem lk_47 : (Jvm.Cond.code ({ cls := "DraftTreeModel", name := "addSlip", desc := "()V" } : Jvm.MethodName) prog_6_method_11_code (2 : Nat) (Option.none : Option Jvm.ClassFile.FieldType)) ∈ wk_tbl := List.mem_append_left _ (List.mem_of_getElem? (i := 47) (by rfl))
set_option maxRecDepth 20000 in
theorem lk_48 : (Jvm.Cond.fieldLink "DraftTreeModel" (17 : Nat) "DraftTreeModel" "texts" "[C") ∈ wk_tbl := List.mem_append_left _ (List.mem_of_getElem? (i := 48) (by rfl))
set_option maxRecDepth 20000 in
theorem lk_49 : (Jvm.Cond.fieldLink "DraftTreeModel" (92 : Nat) "DraftTreeModel" "present" "I") ∈ wk_tbl := List.mem_append_left _ (List.mem_of_getElem? (i := 49) (by rfl))
set_option maxRecDepth 20000 in
theorem lk_50 : (Jvm.Cond.code ({ cls := "DraftTreeModel", name := "charAt", desc := "(I)C" } : Jvm.MethodName) prog_6_method_6_code (2 : Nat) (Option.some Jvm.ClassFile.FieldType.char)) ∈ wk_tbl := List.mem_append_left _ (List.mem_of_getElem? (i := 50) (by rfl))
set_option maxRecDepth 20000 in
theorem lk_51 : (Jvm.Cond.methodLink "DraftTreeModel" (104 : Nat) ({ cls := "DraftTreeModel", name := "charAt", desc := "(I)C" } : Jvm.MethodName)) ∈ wk_tbl := List.mem_append_left _ (List.mem_of_getElem? (i := 51) (by rfl))
set_option maxRecDepth 20000 in
theorem lk_52 : (Jvm.Cond.instanceMethod ({ cls := "DraftTreeModel", name := "charAt", desc := "(I)C" } : Jvm.MethodName)) ∈ wk_tbl := List.mem_append_left _ (List.mem_of_getElem? (i := 52) (by rfl))
set_option maxRecDepth 20000 in
theorem lk_53 : (Jvm.Cond.selects "DraftTreeModel" ({ cls := "DraftTreeModel", name := "charAt", desc := "(I)C" } : Jvm.MethodName) ({ cls := "DraftTreeModel", name := "charAt", desc := "(I)C" } : Jvm.MethodName)) ∈ wk_tbl := List.mem_append_left _ (List.mem_of_getElem? (i := 53) (by rfl))
set_option maxRecDepth 20000 in
theorem lk_54 : (Jvm.Cond.code ({ cls := "DraftTreeModel", name := "addText", desc := "(II)V" } : Jvm.MethodName) prog_6_method_10_code (5 : Nat) (Option.none : Option Jvm.ClassFile.FieldType)) ∈ wk_tbl := List.mem_append_left _ (List.mem_of_getElem? (i := 54) (by rfl))
set_option maxRecDepth 20000 in
theorem lk_55 : (Jvm.Cond.fieldLink "DraftTreeModel" (20 : Nat) "DraftTreeModel" "lengths" "[I") ∈ wk_tbl := List.mem_append_left _ (List.mem_of_getElem? (i := 55) (by rfl))
set_option maxRecDepth 20000 in
theorem lk_56 : (Jvm.Cond.code ({ cls := "DraftTreeModel", name := "textLength", desc := "()I" } : Jvm.MethodName) prog_6_method_7_code (1 : Nat) (Option.some Jvm.ClassFile.FieldType.int)) ∈ wk_tbl := List.mem_append_left _ (List.mem_of_getElem? (i := 56) (by rfl))
set_option maxRecDepth 20000 in
theorem lk_57 : (Jvm.Cond.methodLink "DraftTreeModel" (123 : Nat) ({ cls := "DraftTreeModel", name := "textLength", desc := "()I" } : Jvm.MethodName)) ∈ wk_tbl := List.mem_append_left _ (List.mem_of_getElem? (i := 57) (by rfl))
set_option maxRecDepth 20000 in
theorem lk_58 : (Jvm.Cond.instanceMethod ({ cls := "DraftTreeModel", name := "textLength", desc := "()I" } : Jvm.MethodName)) ∈ wk_tbl := List.mem_append_left _ (List.mem_of_getElem? (i := 58) (by rfl))
set_option maxRecDepth 20000 in
theorem lk_59 : (Jvm.Cond.selects "DraftTreeModel" ({ cls := "DraftTreeModel", name := "textLength", desc := "()I" } : Jvm.MethodName) ({ cls := "DraftTreeModel", name := "textLength", desc := "()I" } : Jvm.MethodName)) ∈ wk_tbl := List.mem_append_left _ (List.mem_of_getElem? (i := 59) (by rfl))
set_option maxRecDepth 20000 in
theorem lk_60 : (Jvm.Cond.fieldLink "DraftTreeModel" (82 : Nat) "DraftTreeModel" "code" "I") ∈ wk_tbl := List.mem_append_left _ (List.mem_of_getElem? (i := 60) (by rfl))
set_option maxRecDepth 20000 in
theorem lk_61 : (Jvm.Cond.code ({ cls := "DraftTreeModel", name := "at", desc := "(I)C" } : Jvm.MethodName) prog_6_method_48_code (2 : Nat) (Option.some Jvm.ClassFile.FieldType.char)) ∈ wk_tbl := List.mem_append_left _ (List.mem_of_getElem? (i := 61) (by rfl))
set_option maxRecDepth 20000 in
theorem lk_62 : (Jvm.Cond.fieldLink "DraftTreeModel" (60 : Nat) "DraftTreeModel" "tail" "[I") ∈ wk_tbl := List.mem_append_left _ (List.mem_of_getElem? (i := 62) (by rfl))
set_option maxRecDepth 20000 in
theorem lk_63 : (Jvm.Cond.fieldLink "DraftTreeModel" (57 : Nat) "DraftTreeModel" "head" "[I") ∈ wk_tbl := List.mem_append_left _ (List.mem_of_getElem? (i := 63) (by rfl))
set_option maxRecDepth 20000 in
theorem lk_64 : (Jvm.Cond.fieldLink "DraftTreeModel" (51 : Nat) "DraftTreeModel" "one" "[I") ∈ wk_tbl := List.mem_append_left _ (List.mem_of_getElem? (i := 64) (by rfl))
set_option maxRecDepth 20000 in
theorem lk_65 : (Jvm.Cond.fieldLink "DraftTreeModel" (54 : Nat) "DraftTreeModel" "two" "[I") ∈ wk_tbl := List.mem_append_left _ (List.mem_of_getElem? (i := 65) (by rfl))
set_option maxRecDepth 20000 in
theorem lk_66 : (Jvm.Cond.code ({ cls := "DraftTreeModel", name := "link", desc := "(II)V" } : Jvm.MethodName) prog_6_method_25_code (3 : Nat) (Option.none : Option Jvm.ClassFile.FieldType)) ∈ wk_tbl := List.mem_append_left _ (List.mem_of_getElem? (i := 66) (by rfl))
set_option maxRecDepth 20000 in
theorem lk_67 : (Jvm.Cond.methodLink "DraftTreeModel" (152 : Nat) ({ cls := "DraftTreeModel", name := "link", desc := "(II)V" } : Jvm.MethodName)) ∈ wk_tbl := List.mem_append_left _ (List.mem_of_getElem? (i := 67) (by rfl))
set_option maxRecDepth 20000 in
theorem lk_68 : (Jvm.Cond.instanceMethod ({ cls := "DraftTreeModel", name := "link", desc := "(II)V" } : Jvm.MethodName)) ∈ wk_tbl := List.mem_append_left _ (List.mem_of_getElem? (i := 68) (by rfl))
set_option maxRecDepth 20000 in
theorem lk_69 : (Jvm.Cond.selects "DraftTreeModel" ({ cls := "DraftTreeModel", name := "link", desc := "(II)V" } : Jvm.MethodName) ({ cls := "DraftTreeModel", name := "link", desc := "(II)V" } : Jvm.MethodName)) ∈ wk_tbl := List.mem_append_left _ (List.mem_of_getElem? (i := 69) (by rfl))
set_option maxRecDepth 20000 in
theorem lk_70 : (Jvm.Cond.fieldLink "DraftTreeModel" (145 : Nat) "DraftTreeModel" "pieces" "I") ∈ wk_tbl := List.mem_append_left _ (List.mem_of_getElem? (i := 70) (by rfl))
set_option maxRecDepth 20000 in
theorem lk_71 : (Jvm.Cond.code ({ cls := "DraftTreeModel", name := "piece", desc := "(II)I" } : Jvm.MethodName) prog_6_method_26_code (3 : Nat) (Option.some Jvm.ClassFile.FieldType.int)) ∈ wk_tbl := List.mem_append_left _ (List.mem_of_getElem? (i := 71) (by rfl))
set_option maxRecDepth 20000 in
theorem lk_72 : (Jvm.Cond.methodLink "DraftTreeModel" (155 : Nat) ({ cls := "DraftTreeModel", name := "piece", desc := "(II)I" } : Jvm.MethodName)) ∈ wk_tbl := List.mem_append_left _ (List.mem_of_getElem? (i := 72) (by rfl))
set_option maxRecDepth 20000 in
theorem lk_73 : (Jvm.Cond.instanceMethod ({ cls := "DraftTreeModel", name := "piece", desc := "(II)I" } : Jvm.MethodName)) ∈ wk_tbl := List.mem_append_left _ (List.mem_of_getElem? (i := 73) (by rfl))
set_option maxRecDepth 20000 in
theorem lk_74 : (Jvm.Cond.selects "DraftTreeModel" ({ cls := "DraftTreeModel", name := "piece", desc := "(II)I" } : Jvm.MethodName) ({ cls := "DraftTreeModel", name := "piece", desc := "(II)I" } : Jvm.MethodName)) ∈ wk_tbl := List.mem_append_left _ (List.mem_of_getElem? (i := 74) (by rfl))
set_option maxRecDepth 20000 in
theorem lk_75 : (Jvm.Cond.code ({ cls := "DraftTreeModel", name := "behind", desc := "(II)I" } : Jvm.MethodName) prog_6_method_29_code (3 : Nat) (Option.some Jvm.ClassFile.FieldType.int)) ∈ wk_tbl := List.mem_append_left _ (List.mem_of_getElem? (i := 75) (by rfl))
set_option maxRecDepth 20000 in
theorem lk_76 : (Jvm.Cond.code ({ cls := "DraftTreeModel", name := "breaks", desc := "(I)I" } : Jvm.MethodName) prog_6_method_49_code (4 : Nat) (Option.some Jvm.ClassFile.FieldType.int)) ∈ wk_tbl := List.mem_append_left _ (List.mem_of_getElem? (i := 76) (by rfl))
set_option maxRecDepth 20000 in
theorem lk_77 : (Jvm.Cond.fieldLink "DraftTreeModel" (39 : Nat) "DraftTreeModel" "pattern" "[C") ∈ wk_tbl := List.mem_append_left _ (List.mem_of_getElem? (i := 77) (by rfl))
set_option maxRecDepth 20000 in
theorem lk_78 : (Jvm.Cond.fieldLink "DraftTreeModel" (159 : Nat) "DraftTreeModel" "open" "I") ∈ wk_tbl := List.mem_append_left _ (List.mem_of_getElem? (i := 78) (by rfl))
set_option maxRecDepth 20000 in
theorem lk_79 : (Jvm.Cond.code ({ cls := "DraftTreeModel", name := "isTimes", desc := "(C)Z" } : Jvm.MethodName) prog_6_method_22_code (1 : Nat) (Option.some Jvm.ClassFile.FieldType.boolean)) ∈ wk_tbl := List.mem_append_left _ (List.mem_of_getElem? (i := 79) (by rfl))
set_option maxRecDepth 20000 in
theorem lk_80 : (Jvm.Cond.methodLink "DraftTreeModel" (139 : Nat) ({ cls := "DraftTreeModel", name := "isTimes", desc := "(C)Z" } : Jvm.MethodName)) ∈ wk_tbl := List.mem_append_left _ (List.mem_of_getElem? (i := 80) (by rfl))
set_option maxRecDepth 20000 in
theorem lk_81 : (Jvm.Cond.static ({ cls := "DraftTreeModel", name := "isTimes", desc := "(C)Z" } : Jvm.MethodName)) ∈ wk_tbl := List.mem_append_left _ (List.mem_of_getElem? (i := 81) (by rfl))
set_option maxRecDepth 20000 in
theorem lk_82 : (Jvm.Cond.fieldLink "DraftTreeModel" (42 : Nat) "DraftTreeModel" "kind" "[I") ∈ wk_tbl := List.mem_append_left _ (List.mem_of_getElem? (i := 82) (by rfl))
set_option maxRecDepth 20000 in
theorem lk_83 : (Jvm.Cond.fieldLink "DraftTreeModel" (142 : Nat) "DraftTreeModel" "nodes" "I") ∈ wk_tbl := List.mem_append_left _ (List.mem_of_getElem? (i := 83) (by rfl))
set_option maxRecDepth 20000 in
theorem lk_84 : (Jvm.Cond.fieldLink "DraftTreeModel" (45 : Nat) "DraftTreeModel" "from" "[I") ∈ wk_tbl := List.mem_append_left _ (List.mem_of_getElem? (i := 84) (by rfl))
set_option maxRecDepth 20000 in
theorem lk_85 : (Jvm.Cond.fieldLink "DraftTreeModel" (48 : Nat) "DraftTreeModel" "to" "[I") ∈ wk_tbl := List.mem_append_left _ (List.mem_of_getElem? (i := 85) (by rfl))
set_option maxRecDepth 20000 in
theorem lk_86 : (Jvm.Cond.code ({ cls := "DraftTreeModel", name := "node", desc := "(III)I" } : Jvm.MethodName) prog_6_method_24_code (4 : Nat) (Option.some Jvm.ClassFile.FieldType.int)) ∈ wk_tbl := List.mem_append_left _ (List.mem_of_getElem? (i := 86) (by rfl))
set_option maxRecDepth 20000 in
theorem lk_87 : (Jvm.Cond.methodLink "DraftTreeModel" (148 : Nat) ({ cls := "DraftTreeModel", name := "node", desc := "(III)I" } : Jvm.MethodName)) ∈ wk_tbl := List.mem_append_left _ (List.mem_of_getElem? (i := 87) (by rfl))
set_option maxRecDepth 20000 in
theorem lk_88 : (Jvm.Cond.instanceMethod ({ cls := "DraftTreeModel", name := "node", desc := "(III)I" } : Jvm.MethodName)) ∈ wk_tbl := List.mem_append_left _ (List.mem_of_getElem? (i := 88) (by rfl))
set_option maxRecDepth 20000 in
theorem lk_89 : (Jvm.Cond.selects "DraftTreeModel" ({ cls := "DraftTreeModel", name := "node", desc := "(III)I" } : Jvm.MethodName) ({ cls := "DraftTreeModel", name := "node", desc := "(III)I" } : Jvm.MethodName)) ∈ wk_tbl := List.mem_append_left _ (List.mem_of_getElem? (i := 89) (by rfl))
set_option maxRecDepth 20000 in
theorem lk_90 : (Jvm.Cond.code ({ cls := "DraftTreeModel", name := "single", desc := "(III)I" } : Jvm.MethodName) prog_6_method_27_code (6 : Nat) (Option.some Jvm.ClassFile.FieldType.int)) ∈ wk_tbl := List.mem_append_left _ (List.mem_of_getElem? (i := 90) (by rfl))
set_option maxRecDepth 20000 in
theorem lk_91 : (Jvm.Cond.methodLink "DraftTreeModel" (184 : Nat) ({ cls := "DraftTreeModel", name := "single", desc := "(III)I" } : Jvm.MethodName)) ∈ wk_tbl := List.mem_append_left _ (List.mem_of_getElem? (i := 91) (by rfl))
set_option maxRecDepth 20000 in
theorem lk_92 : (Jvm.Cond.instanceMethod ({ cls := "DraftTreeModel", name := "single", desc := "(III)I" } : Jvm.MethodName)) ∈ wk_tbl := List.mem_append_left _ (List.mem_of_getElem? (i := 92) (by rfl))
set_option maxRecDepth 20000 in
theorem lk_93 : (Jvm.Cond.selects "DraftTreeModel" ({ cls := "DraftTreeModel", name := "single", desc := "(III)I" } : Jvm.MethodName) ({ cls := "DraftTreeModel", name := "single", desc := "(III)I" } : Jvm.MethodName)) ∈ wk_tbl := List.mem_append_left _ (List.mem_of_getElem? (i := 93) (by rfl))
set_option maxRecDepth 20000 in
theorem lk_94 : (Jvm.Cond.fieldLink "DraftTreeModel" (66 : Nat) "DraftTreeModel" "row" "[I") ∈ wk_tbl := List.mem_append_left _ (List.mem_of_getElem? (i := 94) (by rfl))
set_option maxRecDepth 20000 in
theorem lk_95 : (Jvm.Cond.fieldLink "DraftTreeModel" (69 : Nat) "DraftTreeModel" "part" "[I") ∈ wk_tbl := List.mem_append_left _ (List.mem_of_getElem? (i := 95) (by rfl))
set_option maxRecDepth 20000 in
theorem lk_96 : (Jvm.Cond.methodLink "DraftTreeModel" (165 : Nat) ({ cls := "DraftTreeModel", name := "behind", desc := "(II)I" } : Jvm.MethodName)) ∈ wk_tbl := List.mem_append_left _ (List.mem_of_getElem? (i := 96) (by rfl))
set_option maxRecDepth 20000 in
theorem lk_97 : (Jvm.Cond.instanceMethod ({ cls := "DraftTreeModel", name := "behind", desc := "(II)I" } : Jvm.MethodName)) ∈ wk_tbl := List.mem_append_left _ (List.mem_of_getElem? (i := 97) (by rfl))
set_option maxRecDepth 20000 in
theorem lk_98 : (Jvm.Cond.selects "DraftTreeModel" ({ cls := "DraftTreeModel", name := "behind", desc := "(II)I" } : Jvm.MethodName) ({ cls := "DraftTreeModel", name := "behind", desc := "(II)I" } : Jvm.MethodName)) ∈ wk_tbl := List.mem_append_left _ (List.mem_of_getElem? (i := 98) (by rfl))
set_option maxRecDepth 20000 in
theorem lk_99 : (Jvm.Cond.code ({ cls := "DraftTreeModel", name := "newPart", desc := "(I)V" } : Jvm.MethodName) prog_6_method_34_code (3 : Nat) (Option.none : Option Jvm.ClassFile.FieldType)) ∈ wk_tbl := List.mem_append_left _ (List.mem_of_getElem? (i := 99) (by rfl))
set_option maxRecDepth 20000 in
theorem lk_100 : (Jvm.Cond.methodLink "DraftTreeModel" (177 : Nat) ({ cls := "DraftTreeModel", name := "newPart", desc := "(I)V" } : Jvm.MethodName)) ∈ wk_tbl := List.mem_append_left _ (List.mem_of_getElem? (i := 100) (by rfl))
set_option maxRecDepth 20000 in
theorem lk_101 : (Jvm.Cond.instanceMethod ({ cls := "DraftTreeModel", name := "newPart", desc := "(I)V" } : Jvm.MethodName)) ∈ wk_tbl := List.mem_append_left _ (List.mem_of_getElem? (i := 101) (by rfl))
set_option maxRecDepth 20000 in
theorem lk_102 : (Jvm.Cond.selects "DraftTreeModel" ({ cls := "DraftTreeModel", name := "newPart", desc := "(I)V" } : Jvm.MethodName) ({ cls := "DraftTreeModel", name := "newPart", desc := "(I)V" } : Jvm.MethodName)) ∈ wk_tbl := List.mem_append_left _ (List.mem_of_getElem? (i := 102) (by rfl))
set_option maxRecDepth 20000 in
theorem lk_103 : (Jvm.Cond.fieldLink "DraftTreeModel" (63 : Nat) "DraftTreeModel" "choice" "[I") ∈ wk_tbl := List.mem_append_left _ (List.mem_of_getElem? (i := 103) (by rfl))
set_option maxRecDepth 20000 in
theorem lk_104 : (Jvm.Cond.code ({ cls := "DraftTreeModel", name := "either", desc := "(II)I" } : Jvm.MethodName) prog_6_method_30_code (5 : Nat) (Option.some Jvm.ClassFile.FieldType.int)) ∈ wk_tbl := List.mem_append_left _ (List.mem_of_getElem? (i := 104) (by rfl))
set_option maxRecDepth 20000 in
theorem lk_105 : (Jvm.Cond.methodLink "DraftTreeModel" (168 : Nat) ({ cls := "DraftTreeModel", name := "either", desc := "(II)I" } : Jvm.MethodName)) ∈ wk_tbl := List.mem_append_left _ (List.mem_of_getElem? (i := 105) (by rfl))
set_option maxRecDepth 20000 in
theorem lk_106 : (Jvm.Cond.instanceMethod ({ cls := "DraftTreeModel", name := "either", desc := "(II)I" } : Jvm.MethodName)) ∈ wk_tbl := List.mem_append_left _ (List.mem_of_getElem? (i := 106) (by rfl))
set_option maxRecDepth 20000 in
theorem lk_107 : (Jvm.Cond.selects "DraftTreeModel" ({ cls := "DraftTreeModel", name := "either", desc := "(II)I" } : Jvm.MethodName) ({ cls := "DraftTreeModel", name := "either", desc := "(II)I" } : Jvm.MethodName)) ∈ wk_tbl := List.mem_append_left _ (List.mem_of_getElem? (i := 107) (by rfl))
set_option maxRecDepth 20000 in
theorem lk_108 : (Jvm.Cond.code ({ cls := "DraftTreeModel", name := "endRow", desc := "()V" } : Jvm.MethodName) prog_6_method_33_code (3 : Nat) (Option.none : Option Jvm.ClassFile.FieldType)) ∈ wk_tbl := List.mem_append_left _ (List.mem_of_getElem? (i := 108) (by rfl))
set_option maxRecDepth 20000 in
theorem lk_109 : (Jvm.Cond.methodLink "DraftTreeModel" (174 : Nat) ({ cls := "DraftTreeModel", name := "endRow", desc := "()V" } : Jvm.MethodName)) ∈ wk_tbl := List.mem_append_left _ (List.mem_of_getElem? (i := 109) (by rfl))
set_option maxRecDepth 20000 in
theorem lk_110 : (Jvm.Cond.instanceMethod ({ cls := "DraftTreeModel", name := "endRow", desc := "()V" } : Jvm.MethodName)) ∈ wk_tbl := List.mem_append_left _ (List.mem_of_getElem? (i := 110) (by rfl))
set_option maxRecDepth 20000 in
theorem lk_111 : (Jvm.Cond.selects "DraftTreeModel" ({ cls := "DraftTreeModel", name := "endRow", desc := "()V" } : Jvm.MethodName) ({ cls := "DraftTreeModel", name := "endRow", desc := "()V" } : Jvm.MethodName)) ∈ wk_tbl := List.mem_append_left _ (List.mem_of_getElem? (i := 111) (by rfl))
set_option maxRecDepth 20000 in
theorem lk_112 : (Jvm.Cond.code ({ cls := "DraftTreeModel", name := "nothing", desc := "()I" } : Jvm.MethodName) prog_6_method_28_code (2 : Nat) (Option.some Jvm.ClassFile.FieldType.int)) ∈ wk_tbl := List.mem_append_left _ (List.mem_of_getElem? (i := 112) (by rfl))
set_option maxRecDepth 20000 in
theorem lk_113 : (Jvm.Cond.methodLink "DraftTreeModel" (162 : Nat) ({ cls := "DraftTreeModel", name := "nothing", desc := "()I" } : Jvm.MethodName)) ∈ wk_tbl := List.mem_append_left _ (List.mem_of_getElem? (i := 113) (by rfl))
set_option maxRecDepth 20000 in
theorem lk_114 : (Jvm.Cond.instanceMethod ({ cls := "DraftTreeModel", name := "nothing", desc := "()I" } : Jvm.MethodName)) ∈ wk_tbl := List.mem_append_left _ (List.mem_of_getElem? (i := 114) (by rfl))
set_option maxRecDepth 20000 in
theorem lk_115 : (Jvm.Cond.selects "DraftTreeModel" ({ cls := "DraftTreeModel", name := "nothing", desc := "()I" } : Jvm.MethodName) ({ cls := "DraftTreeModel", name := "nothing", desc := "()I" } : Jvm.MethodName)) ∈ wk_tbl := List.mem_append_left _ (List.mem_of_getElem? (i := 115) (by rfl))
set_option maxRecDepth 20000 in
theorem lk_116 : (Jvm.Cond.code ({ cls := "DraftTreeModel", name := "openGroup", desc := "()V" } : Jvm.MethodName) prog_6_method_32_code (1 : Nat) (Option.none : Option Jvm.ClassFile.FieldType)) ∈ wk_tbl := List.mem_append_left _ (List.mem_of_getElem? (i := 116) (by rfl))
set_option maxRecDepth 20000 in
theorem lk_117 : (Jvm.Cond.methodLink "DraftTreeModel" (171 : Nat) ({ cls := "DraftTreeModel", name := "openGroup", desc := "()V" } : Jvm.MethodName)) ∈ wk_tbl := List.mem_append_left _ (List.mem_of_getElem? (i := 117) (by rfl))
set_option maxRecDepth 20000 in
theorem lk_118 : (Jvm.Cond.instanceMethod ({ cls := "DraftTreeModel", name := "openGroup", desc := "()V" } : Jvm.MethodName)) ∈ wk_tbl := List.mem_append_left _ (List.mem_of_getElem? (i := 118) (by rfl))
set_option maxRecDepth 20000 in
theorem lk_119 : (Jvm.Cond.selects "DraftTreeModel" ({ cls := "DraftTreeModel", name := "openGroup", desc := "()V" } : Jvm.MethodName) ({ cls := "DraftTreeModel", name := "openGroup", desc := "()V" } : Jvm.MethodName)) ∈ wk_tbl := List.mem_append_left _ (List.mem_of_getElem? (i := 119) (by rfl))
set_option maxRecDepth 20000 in
theorem lk_120 : (Jvm.Cond.code ({ cls := "DraftTreeModel", name := "times", desc := "(IZZ)I" } : Jvm.MethodName) prog_6_method_31_code (6 : Nat) (Option.some Jvm.ClassFile.FieldType.int)) ∈ wk_tbl := List.mem_append_left _ (List.mem_of_getElem? (i := 120) (by rfl))
set_option maxRecDepth 20000 in
theorem lk_121 : (Jvm.Cond.methodLink "DraftTreeModel" (180 : Nat) ({ cls := "DraftTreeModel", name := "times", desc := "(IZZ)I" } : Jvm.MethodName)) ∈ wk_tbl := List.mem_append_left _ (List.mem_of_getElem? (i := 121) (by rfl))
set_option maxRecDepth 20000 in
theorem lk_122 : (Jvm.Cond.instanceMethod ({ cls := "DraftTreeModel", name := "times", desc := "(IZZ)I" } : Jvm.MethodName)) ∈ wk_tbl := List.mem_append_left _ (List.mem_of_getElem? (i := 122) (by rfl))
set_option maxRecDepth 20000 in
theorem lk_123 : (Jvm.Cond.selects "DraftTreeModel" ({ cls := "DraftTreeModel", name := "times", desc := "(IZZ)I" } : Jvm.MethodName) ({ cls := "DraftTreeModel", name := "times", desc := "(IZZ)I" } : Jvm.MethodName)) ∈ wk_tbl := List.mem_append_left _ (List.mem_of_getElem? (i := 123) (by rfl))
set_option maxRecDepth 20000 in
theorem lk_124 : (Jvm.Cond.code ({ cls := "DraftTreeModel", name := "build", desc := "(I)I" } : Jvm.MethodName) prog_6_method_35_code (6 : Nat) (Option.some Jvm.ClassFile.FieldType.int)) ∈ wk_tbl := List.mem_append_left _ (List.mem_of_getElem? (i := 124) (by rfl))
set_option maxRecDepth 20000 in
theorem lk_125 : (Jvm.Cond.fieldLink "DraftTreeModel" (24 : Nat) "DraftTreeModel" "places" "[I") ∈ wk_tbl := List.mem_append_left _ (List.mem_of_getElem? (i := 125) (by rfl))
set_option maxRecDepth 20000 in
theorem lk_126 : (Jvm.Cond.fieldLink "DraftTreeModel" (95 : Nat) "DraftTreeModel" "cursor" "I") ∈ wk_tbl := List.mem_append_left _ (List.mem_of_getElem? (i := 126) (by rfl))
set_option maxRecDepth 20000 in
theorem lk_127 : (Jvm.Cond.fieldLink "DraftTreeModel" (33 : Nat) "DraftTreeModel" "mark" "I") ∈ wk_tbl := List.mem_append_left _ (List.mem_of_getElem? (i := 127) (by rfl))
set_option maxRecDepth 20000 in
theorem lk_128 : (Jvm.Cond.fieldLink "DraftTreeModel" (98 : Nat) "DraftTreeModel" "clock" "I") ∈ wk_tbl := List.mem_append_left _ (List.mem_of_getElem? (i := 128) (by rfl))
set_option maxRecDepth 20000 in
theorem lk_129 : (Jvm.Cond.fieldLink "DraftTreeModel" (30 : Nat) "DraftTreeModel" "came" "[I") ∈ wk_tbl := List.mem_append_left _ (List.mem_of_getElem? (i := 129) (by rfl))
set_option maxRecDepth 20000 in
theorem lk_130 : (Jvm.Cond.code ({ cls := "DraftTreeModel", name := "come", desc := "(I)V" } : Jvm.MethodName) prog_6_method_8_code (2 : Nat) (Option.none : Option Jvm.ClassFile.FieldType)) ∈ wk_tbl := List.mem_append_left _ (List.mem_of_getElem? (i := 130) (by rfl))
set_option maxRecDepth 20000 in
theorem lk_131 : (Jvm.Cond.code ({ cls := "DraftTreeModel", name := "isPlain", desc := "(C)Z" } : Jvm.MethodName) prog_6_method_21_code (1 : Nat) (Option.some Jvm.ClassFile.FieldType.boolean)) ∈ wk_tbl := List.mem_append_left _ (List.mem_of_getElem? (i := 131) (by rfl))
set_option maxRecDepth 20000 in
theorem lk_132 : (Jvm.Cond.methodLink "DraftTreeModel" (136 : Nat) ({ cls := "DraftTreeModel", name := "isPlain", desc := "(C)Z" } : Jvm.MethodName)) ∈ wk_tbl := List.mem_append_left _ (List.mem_of_getElem? (i := 132) (by rfl))
set_option maxRecDepth 20000 in
theorem lk_133 : (Jvm.Cond.static ({ cls := "DraftTreeModel", name := "isPlain", desc := "(C)Z" } : Jvm.MethodName)) ∈ wk_tbl := List.mem_append_left _ (List.mem_of_getElem? (i := 133) (by rfl))
set_option maxRecDepth 20000 in
theorem lk_134 : (Jvm.Cond.code ({ cls := "DraftTreeModel", name := "good", desc := "()I" } : Jvm.MethodName) prog_6_method_23_code (5 : Nat) (Option.some Jvm.ClassFile.FieldType.int)) ∈ wk_tbl := List.mem_append_left _ (List.mem_of_getElem? (i := 134) (by rfl))
set_option maxRecDepth 20000 in
theorem lk_135 : (Jvm.Cond.methodLink "DraftTreeModel" (187 : Nat) ({ cls := "DraftTreeModel", name := "good", desc := "()I" } : Jvm.MethodName)) ∈ wk_tbl := List.mem_append_left _ (List.mem_of_getElem? (i := 135) (by rfl))
set_option maxRecDepth 20000 in
theorem lk_136 : (Jvm.Cond.instanceMethod ({ cls := "DraftTreeModel", name := "good", desc := "()I" } : Jvm.MethodName)) ∈ wk_tbl := List.mem_append_left _ (List.mem_of_getElem? (i := 136) (by rfl))
set_option maxRecDepth 20000 in
theorem lk_137 : (Jvm.Cond.selects "DraftTreeModel" ({ cls := "DraftTreeModel", name := "good", desc := "()I" } : Jvm.MethodName) ({ cls := "DraftTreeModel", name := "good", desc := "()I" } : Jvm.MethodName)) ∈ wk_tbl := List.mem_append_left _ (List.mem_of_getElem? (i := 137) (by rfl))
set_option maxRecDepth 20000 in
theorem lk_138 : (Jvm.Cond.fieldLink "DraftTreeModel" (36 : Nat) "DraftTreeModel" "wrongAt" "I") ∈ wk_tbl := List.mem_append_left _ (List.mem_of_getElem? (i := 138) (by rfl))
set_option maxRecDepth 20000 in
theorem lk_139 : (Jvm.Cond.fieldLink "DraftTreeModel" (190 : Nat) "DraftTreeModel" "size" "I") ∈ wk_tbl := List.mem_append_left _ (List.mem_of_getElem? (i := 139) (by rfl))
set_option maxRecDepth 20000 in
theorem lk_140 : (Jvm.Cond.fieldLink "DraftTreeModel" (197 : Nat) "DraftTreeModel" "first" "I") ∈ wk_tbl := List.mem_append_left _ (List.mem_of_getElem? (i := 140) (by rfl))
set_option maxRecDepth 20000 in
theorem lk_141 : (Jvm.Cond.fieldLink "DraftTreeModel" (200 : Nat) "DraftTreeModel" "last" "I") ∈ wk_tbl := List.mem_append_left _ (List.mem_of_getElem? (i := 141) (by rfl))
set_option maxRecDepth 20000 in
theorem lk_142 : (Jvm.Cond.fieldLink "DraftTreeModel" (203 : Nat) "DraftTreeModel" "compiled" "Z") ∈ wk_tbl := List.mem_append_left _ (List.mem_of_getElem? (i := 142) (by rfl))
set_option maxRecDepth 20000 in
theorem lk_143 : (Jvm.Cond.methodLink "DraftTreeModel" (193 : Nat) ({ cls := "DraftTreeModel", name := "build", desc := "(I)I" } : Jvm.MethodName)) ∈ wk_tbl := List.mem_append_left _ (List.mem_of_getElem? (i := 143) (by rfl))
set_option maxRecDepth 20000 in
theorem lk_144 : (Jvm.Cond.instanceMethod ({ cls := "DraftTreeModel", name := "build", desc := "(I)I" } : Jvm.MethodName)) ∈ wk_tbl := List.mem_append_left _ (List.mem_of_getElem? (i := 144) (by rfl))
set_option maxRecDepth 20000 in
theorem lk_145 : (Jvm.Cond.selects "DraftTreeModel" ({ cls := "DraftTreeModel", name := "build", desc := "(I)I" } : Jvm.MethodName) ({ cls := "DraftTreeModel", name := "build", desc := "(I)I" } : Jvm.MethodName)) ∈ wk_tbl := List.mem_append_left _ (List.mem_of_getElem? (i := 145) (by rfl))
set_option maxRecDepth 20000 in
theorem lk_146 : (Jvm.Cond.code ({ cls := "DraftTreeModel", name := "compile", desc := "()V" } : Jvm.MethodName) prog_6_method_36_code (4 : Nat) (Option.none : Option Jvm.ClassFile.FieldType)) ∈ wk_tbl := List.mem_append_left _ (List.mem_of_getElem? (i := 146) (by rfl))
set_option maxRecDepth 20000 in
theorem lk_147 : (Jvm.Cond.fieldLink "DraftTreeModel" (13 : Nat) "DraftTreeModel" "states" "I") ∈ wk_tbl := List.mem_append_left _ (List.mem_of_getElem? (i := 147) (by rfl))
set_option maxRecDepth 20000 in
theorem lk_148 : (Jvm.Cond.fieldLink "DraftTreeModel" (27 : Nat) "DraftTreeModel" "parents" "[I") ∈ wk_tbl := List.mem_append_left _ (List.mem_of_getElem? (i := 148) (by rfl))
set_option maxRecDepth 20000 in
theorem lk_149 : (Jvm.Cond.methodLink "DraftTreeModel" (112 : Nat) ({ cls := "DraftTreeModel", name := "come", desc := "(I)V" } : Jvm.MethodName)) ∈ wk_tbl := List.mem_append_left _ (List.mem_of_getElem? (i := 149) (by rfl))
set_option maxRecDepth 20000 in
theorem lk_150 : (Jvm.Cond.instanceMethod ({ cls := "DraftTreeModel", name := "come", desc := "(I)V" } : Jvm.MethodName)) ∈ wk_tbl := List.mem_append_left _ (List.mem_of_getElem? (i := 150) (by rfl))
set_option maxRecDepth 20000 in
theorem lk_151 : (Jvm.Cond.selects "DraftTreeModel" ({ cls := "DraftTreeModel", name := "come", desc := "(I)V" } : Jvm.MethodName) ({ cls := "DraftTreeModel", name := "come", desc := "(I)V" } : Jvm.MethodName)) ∈ wk_tbl := List.mem_append_left _ (List.mem_of_getElem? (i := 151) (by rfl))
set_option maxRecDepth 20000 in
theorem lk_152 : (Jvm.Cond.code ({ cls := "DraftTreeModel", name := "edit", desc := "(I)V" } : Jvm.MethodName) prog_6_method_12_code (4 : Nat) (Option.none : Option Jvm.ClassFile.FieldType)) ∈ wk_tbl := List.mem_append_left _ (List.mem_of_getElem? (i := 152) (by rfl))
set_option maxRecDepth 20000 in
theorem lk_153 : (Jvm.Cond.code ({ cls := "DraftTreeModel", name := "low", desc := "()I" } : Jvm.MethodName) prog_6_method_13_code (1 : Nat) (Option.some Jvm.ClassFile.FieldType.int)) ∈ wk_tbl := List.mem_append_left _ (List.mem_of_getElem? (i := 153) (by rfl))
set_option maxRecDepth 20000 in
theorem lk_154 : (Jvm.Cond.methodLink "DraftTreeModel" (116 : Nat) ({ cls := "DraftTreeModel", name := "low", desc := "()I" } : Jvm.MethodName)) ∈ wk_tbl := List.mem_append_left _ (List.mem_of_getElem? (i := 154) (by rfl))
set_option maxRecDepth 20000 in
theorem lk_155 : (Jvm.Cond.instanceMethod ({ cls := "DraftTreeModel", name := "low", desc := "()I" } : Jvm.MethodName)) ∈ wk_tbl := List.mem_append_left _ (List.mem_of_getElem? (i := 155) (by rfl))
set_option maxRecDepth 20000 in
theorem lk_156 : (Jvm.Cond.selects "DraftTreeModel" ({ cls := "DraftTreeModel", name := "low", desc := "()I" } : Jvm.MethodName) ({ cls := "DraftTreeModel", name := "low", desc := "()I" } : Jvm.MethodName)) ∈ wk_tbl := List.mem_append_left _ (List.mem_of_getElem? (i := 156) (by rfl))
set_option maxRecDepth 20000 in
theorem lk_157 : (Jvm.Cond.code ({ cls := "DraftTreeModel", name := "high", desc := "()I" } : Jvm.MethodName) prog_6_method_14_code (1 : Nat) (Option.some Jvm.ClassFile.FieldType.int)) ∈ wk_tbl := List.mem_append_left _ (List.mem_of_getElem? (i := 157) (by rfl))
set_option maxRecDepth 20000 in
theorem lk_158 : (Jvm.Cond.methodLink "DraftTreeModel" (120 : Nat) ({ cls := "DraftTreeModel", name := "high", desc := "()I" } : Jvm.MethodName)) ∈ wk_tbl := List.mem_append_left _ (List.mem_of_getElem? (i := 158) (by rfl))
set_option maxRecDepth 20000 in
theorem lk_159 : (Jvm.Cond.instanceMethod ({ cls := "DraftTreeModel", name := "high", desc := "()I" } : Jvm.MethodName)) ∈ wk_tbl := List.mem_append_left _ (List.mem_of_getElem? (i := 159) (by rfl))
set_option maxRecDepth 20000 in
theorem lk_160 : (Jvm.Cond.selects "DraftTreeModel" ({ cls := "DraftTreeModel", name := "high", desc := "()I" } : Jvm.MethodName) ({ cls := "DraftTreeModel", name := "high", desc := "()I" } : Jvm.MethodName)) ∈ wk_tbl := List.mem_append_left _ (List.mem_of_getElem? (i := 160) (by rfl))
set_option maxRecDepth 20000 in
theorem lk_161 : (Jvm.Cond.methodLink "DraftTreeModel" (126 : Nat) ({ cls := "DraftTreeModel", name := "addText", desc := "(II)V" } : Jvm.MethodName)) ∈ wk_tbl := List.mem_append_left _ (List.mem_of_getElem? (i := 161) (by rfl))
set_option maxRecDepth 20000 in
theorem lk_162 : (Jvm.Cond.instanceMethod ({ cls := "DraftTreeModel", name := "addText", desc := "(II)V" } : Jvm.MethodName)) ∈ wk_tbl := List.mem_append_left _ (List.mem_of_getElem? (i := 162) (by rfl))
set_option maxRecDepth 20000 in
theorem lk_163 : (Jvm.Cond.selects "DraftTreeModel" ({ cls := "DraftTreeModel", name := "addText", desc := "(II)V" } : Jvm.MethodName) ({ cls := "DraftTreeModel", name := "addText", desc := "(II)V" } : Jvm.MethodName)) ∈ wk_tbl := List.mem_append_left _ (List.mem_of_getElem? (i := 163) (by rfl))
set_option maxRecDepth 20000 in
theorem lk_164 : (Jvm.Cond.methodLink "DraftTreeModel" (133 : Nat) ({ cls := "DraftTreeModel", name := "edit", desc := "(I)V" } : Jvm.MethodName)) ∈ wk_tbl := List.mem_append_left _ (List.mem_of_getElem? (i := 164) (by rfl))
set_option maxRecDepth 20000 in
theorem lk_165 : (Jvm.Cond.instanceMethod ({ cls := "DraftTreeModel", name := "edit", desc := "(I)V" } : Jvm.MethodName)) ∈ wk_tbl := List.mem_append_left _ (List.mem_of_getElem? (i := 165) (by rfl))
set_option maxRecDepth 20000 in
theorem lk_166 : (Jvm.Cond.selects "DraftTreeModel" ({ cls := "DraftTreeModel", name := "edit", desc := "(I)V" } : Jvm.MethodName) ({ cls := "DraftTreeModel", name := "edit", desc := "(I)V" } : Jvm.MethodName)) ∈ wk_tbl := List.mem_append_left _ (List.mem_of_getElem? (i := 166) (by rfl))
set_option maxRecDepth 20000 in
theorem lk_167 : (Jvm.Cond.code ({ cls := "DraftTreeModel", name := "erase", desc := "(I)I" } : Jvm.MethodName) prog_6_method_16_code (5 : Nat) (Option.some Jvm.ClassFile.FieldType.int)) ∈ wk_tbl := List.mem_append_left _ (List.mem_of_getElem? (i := 167) (by rfl))
set_option maxRecDepth 20000 in
theorem lk_168 : (Jvm.Cond.code ({ cls := "DraftTreeModel", name := "fault", desc := "()I" } : Jvm.MethodName) prog_6_method_37_code (1 : Nat) (Option.some Jvm.ClassFile.FieldType.int)) ∈ wk_tbl := List.mem_append_left _ (List.mem_of_getElem? (i := 168) (by rfl))
set_option maxRecDepth 20000 in
theorem lk_169 : (Jvm.Cond.code ({ cls := "DraftTreeModel", name := "figure", desc := "(I)I" } : Jvm.MethodName) prog_6_method_52_code (2 : Nat) (Option.some Jvm.ClassFile.FieldType.int)) ∈ wk_tbl := List.mem_append_left _ (List.mem_of_getElem? (i := 169) (by rfl))
set_option maxRecDepth 20000 in
theorem lk_170 : (Jvm.Cond.fieldLink "DraftTreeModel" (226 : Nat) "DraftTreeModel" "foundEnd" "I") ∈ wk_tbl := List.mem_append_left _ (List.mem_of_getElem? (i := 170) (by rfl))
set_option maxRecDepth 20000 in
theorem lk_171 : (Jvm.Cond.fieldLink "DraftTreeModel" (229 : Nat) "DraftTreeModel" "foundAt" "I") ∈ wk_tbl := List.mem_append_left _ (List.mem_of_getElem? (i := 171) (by rfl))
set_option maxRecDepth 20000 in
theorem lk_172 : (Jvm.Cond.fieldLink "DraftTreeModel" (72 : Nat) "DraftTreeModel" "here" "[Z") ∈ wk_tbl := List.mem_append_left _ (List.mem_of_getElem? (i := 172) (by rfl))
set_option maxRecDepth 20000 in
theorem lk_173 : (Jvm.Cond.code ({ cls := "DraftTreeModel", name := "passes", desc := "(II)Z" } : Jvm.MethodName) prog_6_method_40_code (5 : Nat) (Option.some Jvm.ClassFile.FieldType.boolean)) ∈ wk_tbl := List.mem_append_left _ (List.mem_of_getElem? (i := 173) (by rfl))
set_option maxRecDepth 20000 in
theorem lk_174 : (Jvm.Cond.methodLink "DraftTreeModel" (211 : Nat) ({ cls := "DraftTreeModel", name := "passes", desc := "(II)Z" } : Jvm.MethodName)) ∈ wk_tbl := List.mem_append_left _ (List.mem_of_getElem? (i := 174) (by rfl))
set_option maxRecDepth 20000 in
theorem lk_175 : (Jvm.Cond.instanceMethod ({ cls := "DraftTreeModel", name := "passes", desc := "(II)Z" } : Jvm.MethodName)) ∈ wk_tbl := List.mem_append_left _ (List.mem_of_getElem? (i := 175) (by rfl))
set_option maxRecDepth 20000 in
theorem lk_176 : (Jvm.Cond.selects "DraftTreeModel" ({ cls := "DraftTreeModel", name := "passes", desc := "(II)Z" } : Jvm.MethodName) ({ cls := "DraftTreeModel", name := "passes", desc := "(II)Z" } : Jvm.MethodName)) ∈ wk_tbl := List.mem_append_left _ (List.mem_of_getElem? (i := 176) (by rfl))
set_option maxRecDepth 20000 in
theorem lk_177 : (Jvm.Cond.code ({ cls := "DraftTreeModel", name := "reach", desc := "(I)Z" } : Jvm.MethodName) prog_6_method_42_code (3 : Nat) (Option.some Jvm.ClassFile.FieldType.boolean)) ∈ wk_tbl := List.mem_append_left _ (List.mem_of_getElem? (i := 177) (by rfl))
set_option maxRecDepth 20000 in
theorem lk_178 : (Jvm.Cond.methodLink "DraftTreeModel" (215 : Nat) ({ cls := "DraftTreeModel", name := "reach", desc := "(I)Z" } : Jvm.MethodName)) ∈ wk_tbl := List.mem_append_left _ (List.mem_of_getElem? (i := 178) (by rfl))
set_option maxRecDepth 20000 in
theorem lk_179 : (Jvm.Cond.instanceMethod ({ cls := "DraftTreeModel", name := "reach", desc := "(I)Z" } : Jvm.MethodName)) ∈ wk_tbl := List.mem_append_left _ (List.mem_of_getElem? (i := 179) (by rfl))
set_option maxRecDepth 20000 in
theorem lk_180 : (Jvm.Cond.selects "DraftTreeModel" ({ cls := "DraftTreeModel", name := "reach", desc := "(I)Z" } : Jvm.MethodName) ({ cls := "DraftTreeModel", name := "reach", desc := "(I)Z" } : Jvm.MethodName)) ∈ wk_tbl := List.mem_append_left _ (List.mem_of_getElem? (i := 180) (by rfl))
set_option maxRecDepth 20000 in
theorem lk_181 : (Jvm.Cond.code ({ cls := "DraftTreeModel", name := "spread", desc := "(I)V" } : Jvm.MethodName) prog_6_method_41_code (4 : Nat) (Option.none : Option Jvm.ClassFile.FieldType)) ∈ wk_tbl := List.mem_append_left _ (List.mem_of_getElem? (i := 181) (by rfl))
set_option maxRecDepth 20000 in
theorem lk_182 : (Jvm.Cond.methodLink "DraftTreeModel" (219 : Nat) ({ cls := "DraftTreeModel", name := "spread", desc := "(I)V" } : Jvm.MethodName)) ∈ wk_tbl := List.mem_append_left _ (List.mem_of_getElem? (i := 182) (by rfl))
set_option maxRecDepth 20000 in
theorem lk_183 : (Jvm.Cond.instanceMethod ({ cls := "DraftTreeModel", name := "spread", desc := "(I)V" } : Jvm.MethodName)) ∈ wk_tbl := List.mem_append_left _ (List.mem_of_getElem? (i := 183) (by rfl))
set_option maxRecDepth 20000 in
theorem lk_184 : (Jvm.Cond.selects "DraftTreeModel" ({ cls := "DraftTreeModel", name := "spread", desc := "(I)V" } : Jvm.MethodName) ({ cls := "DraftTreeModel", name := "spread", desc := "(I)V" } : Jvm.MethodName)) ∈ wk_tbl := List.mem_append_left _ (List.mem_of_getElem? (i := 184) (by rfl))
set_option maxRecDepth 20000 in
theorem lk_185 : (Jvm.Cond.fieldLink "DraftTreeModel" (76 : Nat) "DraftTreeModel" "then" "[Z") ∈ wk_tbl := List.mem_append_left _ (List.mem_of_getElem? (i := 185) (by rfl))
set_option maxRecDepth 20000 in
theorem lk_186 : (Jvm.Cond.code ({ cls := "DraftTreeModel", name := "inSet", desc := "(CII)Z" } : Jvm.MethodName) prog_6_method_38_code (9 : Nat) (Option.some Jvm.ClassFile.FieldType.boolean)) ∈ wk_tbl := List.mem_append_left _ (List.mem_of_getElem? (i := 186) (by rfl))
set_option maxRecDepth 20000 in
theorem lk_187 : (Jvm.Cond.methodLink "DraftTreeModel" (207 : Nat) ({ cls := "DraftTreeModel", name := "inSet", desc := "(CII)Z" } : Jvm.MethodName)) ∈ wk_tbl := List.mem_append_left _ (List.mem_of_getElem? (i := 187) (by rfl))
set_option maxRecDepth 20000 in
theorem lk_188 : (Jvm.Cond.instanceMethod ({ cls := "DraftTreeModel", name := "inSet", desc := "(CII)Z" } : Jvm.MethodName)) ∈ wk_tbl := List.mem_append_left _ (List.mem_of_getElem? (i := 188) (by rfl))
set_option maxRecDepth 20000 in
theorem lk_189 : (Jvm.Cond.selects "DraftTreeModel" ({ cls := "DraftTreeModel", name := "inSet", desc := "(CII)Z" } : Jvm.MethodName) ({ cls := "DraftTreeModel", name := "inSet", desc := "(CII)Z" } : Jvm.MethodName)) ∈ wk_tbl := List.mem_append_left _ (List.mem_of_getElem? (i := 189) (by rfl))
set_option maxRecDepth 20000 in
theorem lk_190 : (Jvm.Cond.code ({ cls := "DraftTreeModel", name := "takes", desc := "(IC)Z" } : Jvm.MethodName) prog_6_method_39_code (3 : Nat) (Option.some Jvm.ClassFile.FieldType.boolean)) ∈ wk_tbl := List.mem_append_left _ (List.mem_of_getElem? (i := 190) (by rfl))
set_option maxRecDepth 20000 in
theorem lk_191 : (Jvm.Cond.methodLink "DraftTreeModel" (222 : Nat) ({ cls := "DraftTreeModel", name := "takes", desc := "(IC)Z" } : Jvm.MethodName)) ∈ wk_tbl := List.mem_append_left _ (List.mem_of_getElem? (i := 191) (by rfl))
set_option maxRecDepth 20000 in
theorem lk_192 : (Jvm.Cond.instanceMethod ({ cls := "DraftTreeModel", name := "takes", desc := "(IC)Z" } : Jvm.MethodName)) ∈ wk_tbl := List.mem_append_left _ (List.mem_of_getElem? (i := 192) (by rfl))
set_option maxRecDepth 20000 in
theorem lk_193 : (Jvm.Cond.selects "DraftTreeModel" ({ cls := "DraftTreeModel", name := "takes", desc := "(IC)Z" } : Jvm.MethodName) ({ cls := "DraftTreeModel", name := "takes", desc := "(IC)Z" } : Jvm.MethodName)) ∈ wk_tbl := List.mem_append_left _ (List.mem_of_getElem? (i := 193) (by rfl))
set_option maxRecDepth 20000 in
theorem lk_194 : (Jvm.Cond.code ({ cls := "DraftTreeModel", name := "longest", desc := "(I)I" } : Jvm.MethodName) prog_6_method_43_code (6 : Nat) (Option.some Jvm.ClassFile.FieldType.int)) ∈ wk_tbl := List.mem_append_left _ (List.mem_of_getElem? (i := 194) (by rfl))
set_option maxRecDepth 20000 in
theorem lk_195 : (Jvm.Cond.methodLink "DraftTreeModel" (232 : Nat) ({ cls := "DraftTreeModel", name := "longest", desc := "(I)I" } : Jvm.MethodName)) ∈ wk_tbl := List.mem_append_left _ (List.mem_of_getElem? (i := 195) (by rfl))
set_option maxRecDepth 20000 in
theorem lk_196 : (Jvm.Cond.instanceMethod ({ cls := "DraftTreeModel", name := "longest", desc := "(I)I" } : Jvm.MethodName)) ∈ wk_tbl := List.mem_append_left _ (List.mem_of_getElem? (i := 196) (by rfl))
set_option maxRecDepth 20000 in
theorem lk_197 : (Jvm.Cond.selects "DraftTreeModel" ({ cls := "DraftTreeModel", name := "longest", desc := "(I)I" } : Jvm.MethodName) ({ cls := "DraftTreeModel", name := "longest", desc := "(I)I" } : Jvm.MethodName)) ∈ wk_tbl := List.mem_append_left _ (List.mem_of_getElem? (i := 197) (by rfl))
set_option maxRecDepth 20000 in
theorem lk_198 : (Jvm.Cond.code ({ cls := "DraftTreeModel", name := "look", desc := "(I)Z" } : Jvm.MethodName) prog_6_method_44_code (3 : Nat) (Option.some Jvm.ClassFile.FieldType.boolean)) ∈ wk_tbl := List.mem_append_left _ (List.mem_of_getElem? (i := 198) (by rfl))
set_option maxRecDepth 20000 in
theorem lk_199 : (Jvm.Cond.methodLink "DraftTreeModel" (235 : Nat) ({ cls := "DraftTreeModel", name := "look", desc := "(I)Z" } : Jvm.MethodName)) ∈ wk_tbl := List.mem_append_left _ (List.mem_of_getElem? (i := 199) (by rfl))
set_option maxRecDepth 20000 in
theorem lk_200 : (Jvm.Cond.instanceMethod ({ cls := "DraftTreeModel", name := "look", desc := "(I)Z" } : Jvm.MethodName)) ∈ wk_tbl := List.mem_append_left _ (List.mem_of_getElem? (i := 200) (by rfl))
set_option maxRecDepth 20000 in
theorem lk_201 : (Jvm.Cond.selects "DraftTreeModel" ({ cls := "DraftTreeModel", name := "look", desc := "(I)Z" } : Jvm.MethodName) ({ cls := "DraftTreeModel", name := "look", desc := "(I)Z" } : Jvm.MethodName)) ∈ wk_tbl := List.mem_append_left _ (List.mem_of_getElem? (i := 201) (by rfl))
set_option maxRecDepth 20000 in
theorem lk_202 : (Jvm.Cond.code ({ cls := "DraftTreeModel", name := "find", desc := "(I)I" } : Jvm.MethodName) prog_6_method_45_code (2 : Nat) (Option.some Jvm.ClassFile.FieldType.int)) ∈ wk_tbl := List.mem_append_left _ (List.mem_of_getElem? (i := 202) (by rfl))
set_option maxRecDepth 20000 in
theorem lk_203 : (Jvm.Cond.code ({ cls := "DraftTreeModel", name := "go", desc := "(IZ)V" } : Jvm.MethodName) prog_6_method_17_code (3 : Nat) (Option.none : Option Jvm.ClassFile.FieldType)) ∈ wk_tbl := List.mem_append_left _ (List.mem_of_getElem? (i := 203) (by rfl))
set_option maxRecDepth 20000 in
theorem lk_204 : (Jvm.Cond.methodLink "DraftTreeModel" (130 : Nat) ({ cls := "DraftTreeModel", name := "addSlip", desc := "()V" } : Jvm.MethodName)) ∈ wk_tbl := List.mem_append_left _ (List.mem_of_getElem? (i := 204) (by rfl))
set_option maxRecDepth 20000 in
theorem lk_205 : (Jvm.Cond.instanceMethod ({ cls := "DraftTreeModel", name := "addSlip", desc := "()V" } : Jvm.MethodName)) ∈ wk_tbl := List.mem_append_left _ (List.mem_of_getElem? (i := 205) (by rfl))
set_option maxRecDepth 20000 in
theorem lk_206 : (Jvm.Cond.selects "DraftTreeModel" ({ cls := "DraftTreeModel", name := "addSlip", desc := "()V" } : Jvm.MethodName) ({ cls := "DraftTreeModel", name := "addSlip", desc := "()V" } : Jvm.MethodName)) ∈ wk_tbl := List.mem_append_left _ (List.mem_of_getElem? (i := 206) (by rfl))
set_option maxRecDepth 20000 in
theorem lk_207 : (Jvm.Cond.code ({ cls := "DraftTreeModel", name := "insert", desc := "()I" } : Jvm.MethodName) prog_6_method_15_code (5 : Nat) (Option.some Jvm.ClassFile.FieldType.int)) ∈ wk_tbl := List.mem_append_left _ (List.mem_of_getElem? (i := 207) (by rfl))
set_option maxRecDepth 20000 in
theorem lk_208 : (Jvm.Cond.code ({ cls := "DraftTreeModel", name := "isCharacter", desc := "(C)Z" } : Jvm.MethodName) prog_6_method_3_code (1 : Nat) (Option.some Jvm.ClassFile.FieldType.boolean)) ∈ wk_tbl := List.mem_append_left _ (List.mem_of_getElem? (i := 208) (by rfl))
set_option maxRecDepth 20000 in
theorem lk_209 : (Jvm.Cond.code ({ cls := "DraftTreeModel", name := "jump", desc := "(I)V" } : Jvm.MethodName) prog_6_method_20_code (2 : Nat) (Option.none : Option Jvm.ClassFile.FieldType)) ∈ wk_tbl := List.mem_append_left _ (List.mem_of_getElem? (i := 209) (by rfl))
set_option maxRecDepth 20000 in
theorem lk_210 : (Jvm.Cond.code ({ cls := "DraftTreeModel", name := "length", desc := "()I" } : Jvm.MethodName) prog_6_method_47_code (1 : Nat) (Option.some Jvm.ClassFile.FieldType.int)) ∈ wk_tbl := List.mem_append_left _ (List.mem_of_getElem? (i := 210) (by rfl))
set_option maxRecDepth 20000 in
theorem lk_211 : (Jvm.Cond.methodLink "DraftTreeModel" (238 : Nat) ({ cls := "DraftTreeModel", name := "breaks", desc := "(I)I" } : Jvm.MethodName)) ∈ wk_tbl := List.mem_append_left _ (List.mem_of_getElem? (i := 211) (by rfl))
set_option maxRecDepth 20000 in
theorem lk_212 : (Jvm.Cond.instanceMethod ({ cls := "DraftTreeModel", name := "breaks", desc := "(I)I" } : Jvm.MethodName)) ∈ wk_tbl := List.mem_append_left _ (List.mem_of_getElem? (i := 212) (by rfl))
set_option maxRecDepth 20000 in
theorem lk_213 : (Jvm.Cond.selects "DraftTreeModel" ({ cls := "DraftTreeModel", name := "breaks", desc := "(I)I" } : Jvm.MethodName) ({ cls := "DraftTreeModel", name := "breaks", desc := "(I)I" } : Jvm.MethodName)) ∈ wk_tbl := List.mem_append_left _ (List.mem_of_getElem? (i := 213) (by rfl))
set_option maxRecDepth 20000 in
theorem lk_214 : (Jvm.Cond.code ({ cls := "DraftTreeModel", name := "lineStart", desc := "(I)I" } : Jvm.MethodName) prog_6_method_50_code (3 : Nat) (Option.some Jvm.ClassFile.FieldType.int)) ∈ wk_tbl := List.mem_append_left _ (List.mem_of_getElem? (i := 214) (by rfl))
set_option maxRecDepth 20000 in
theorem lk_215 : (Jvm.Cond.methodLink "DraftTreeModel" (241 : Nat) ({ cls := "DraftTreeModel", name := "lineStart", desc := "(I)I" } : Jvm.MethodName)) ∈ wk_tbl := List.mem_append_left _ (List.mem_of_getElem? (i := 215) (by rfl))
set_option maxRecDepth 20000 in
theorem lk_216 : (Jvm.Cond.instanceMethod ({ cls := "DraftTreeModel", name := "lineStart", desc := "(I)I" } : Jvm.MethodName)) ∈ wk_tbl := List.mem_append_left _ (List.mem_of_getElem? (i := 216) (by rfl))
set_option maxRecDepth 20000 in
theorem lk_217 : (Jvm.Cond.selects "DraftTreeModel" ({ cls := "DraftTreeModel", name := "lineStart", desc := "(I)I" } : Jvm.MethodName) ({ cls := "DraftTreeModel", name := "lineStart", desc := "(I)I" } : Jvm.MethodName)) ∈ wk_tbl := List.mem_append_left _ (List.mem_of_getElem? (i := 217) (by rfl))
set_option maxRecDepth 20000 in
theorem lk_218 : (Jvm.Cond.code ({ cls := "DraftTreeModel", name := "line", desc := "(II)I" } : Jvm.MethodName) prog_6_method_51_code (7 : Nat) (Option.some Jvm.ClassFile.FieldType.int)) ∈ wk_tbl := List.mem_append_left _ (List.mem_of_getElem? (i := 218) (by rfl))
set_option maxRecDepth 20000 in
theorem lk_219 : (Jvm.Cond.code ({ cls := "DraftTreeModel", name := "parent", desc := "(I)I" } : Jvm.MethodName) prog_6_method_53_code (2 : Nat) (Option.some Jvm.ClassFile.FieldType.int)) ∈ wk_tbl := List.mem_append_left _ (List.mem_of_getElem? (i := 219) (by rfl))
set_option maxRecDepth 20000 in
theorem lk_220 : (Jvm.Cond.code ({ cls := "DraftTreeModel", name := "redo", desc := "()I" } : Jvm.MethodName) prog_6_method_19_code (3 : Nat) (Option.some Jvm.ClassFile.FieldType.int)) ∈ wk_tbl := List.mem_append_left _ (List.mem_of_getElem? (i := 220) (by rfl))
set_option maxRecDepth 20000 in
theorem lk_221 : (Jvm.Cond.code ({ cls := "DraftTreeModel", name := "replace", desc := "()I" } : Jvm.MethodName) prog_6_method_46_code (4 : Nat) (Option.some Jvm.ClassFile.FieldType.int)) ∈ wk_tbl := List.mem_append_left _ (List.mem_of_getElem? (i := 221) (by rfl))
set_option maxRecDepth 20000 in
theorem lk_222 : (Jvm.Cond.code ({ cls := "DraftTreeModel", name := "thrown", desc := "()I" } : Jvm.MethodName) prog_6_method_2_code (1 : Nat) (Option.some Jvm.ClassFile.FieldType.int)) ∈ wk_tbl := List.mem_append_left _ (List.mem_of_getElem? (i := 222) (by rfl))
set_option maxRecDepth 20000 in
theorem lk_223 : (Jvm.Cond.methodLink "DraftTreeModel" (85 : Nat) ({ cls := "DraftTreeModel", name := "isCharacter", desc := "(C)Z" } : Jvm.MethodName)) ∈ wk_tbl := List.mem_append_left _ (List.mem_of_getElem? (i := 223) (by rfl))
set_option maxRecDepth 20000 in
theorem lk_224 : (Jvm.Cond.static ({ cls := "DraftTreeModel", name := "isCharacter", desc := "(C)Z" } : Jvm.MethodName)) ∈ wk_tbl := List.mem_append_left _ (List.mem_of_getElem? (i := 224) (by rfl))
set_option maxRecDepth 20000 in
theorem lk_225 : (Jvm.Cond.code ({ cls := "DraftTreeModel", name := "type", desc := "(C)Z" } : Jvm.MethodName) prog_6_method_4_code (2 : Nat) (Option.some Jvm.ClassFile.FieldType.boolean)) ∈ wk_tbl := List.mem_append_left _ (List.mem_of_getElem? (i := 225) (by rfl))
set_option maxRecDepth 20000 in
theorem lk_226 : (Jvm.Cond.code ({ cls := "DraftTreeModel", name := "undo", desc := "()I" } : Jvm.MethodName) prog_6_method_18_code (1 : Nat) (Option.some Jvm.ClassFile.FieldType.int)) ∈ wk_tbl := List.mem_append_left _ (List.mem_of_getElem? (i := 226) (by rfl))
set_option maxRecDepth 20000 in
theorem lk_227 : (Jvm.Cond.code ({ cls := "DraftTreeModel", name := "wipe", desc := "()I" } : Jvm.MethodName) prog_6_method_5_code (2 : Nat) (Option.some Jvm.ClassFile.FieldType.int)) ∈ wk_tbl := List.mem_append_left _ (List.mem_of_getElem? (i := 227) (by rfl))
set_option maxRecDepth 20000 in
theorem lk_228 : (Jvm.Cond.laysFinal "DraftTree" "DraftTree" "slip" "[C") ∈ wk_tbl := List.mem_append_left _ (List.mem_of_getElem? (i := 228) (by rfl))
set_option maxRecDepth 20000 in
theorem lk_229 : (Jvm.Cond.lays "DraftTree" "DraftTree" "slipSize" "I") ∈ wk_tbl := List.mem_append_left _ (List.mem_of_getElem? (i := 229) (by rfl))
set_option maxRecDepth 20000 in
theorem lk_230 : (Jvm.Cond.laysFinal "DraftTree" "DraftTree" "states" "[LDraftTree$State;") ∈ wk_tbl := List.mem_append_left _ (List.mem_of_getElem? (i := 230) (by rfl))
set_option maxRecDepth 20000 in
theorem lk_231 : (Jvm.Cond.lays "DraftTree" "DraftTree" "stateCount" "I") ∈ wk_tbl := List.mem_append_left _ (List.mem_of_getElem? (i := 231) (by rfl))
set_option maxRecDepth 20000 in
theorem lk_232 : (Jvm.Cond.lays "DraftTree" "DraftTree" "present" "I") ∈ wk_tbl := List.mem_append_left _ (List.mem_of_getElem? (i := 232) (by rfl))
set_option maxRecDepth 20000 in
theorem lk_233 : (Jvm.Cond.lays "DraftTree" "DraftTree" "text" "[C") ∈ wk_tbl := List.mem_append_left _ (List.mem_of_getElem? (i := 233) (by rfl))
set_option maxRecDepth 20000 in
theorem lk_234 : (Jvm.Cond.lays "DraftTree" "DraftTree" "cursor" "I") ∈ wk_tbl := List.mem_append_left _ (List.mem_of_getElem? (i := 234) (by rfl))
set_option maxRecDepth 20000 in
theorem lk_235 : (Jvm.Cond.lays "DraftTree" "DraftTree" "mark" "I") ∈ wk_tbl := List.mem_append_left _ (List.mem_of_getElem? (i := 235) (by rfl))
set_option maxRecDepth 20000 in
theorem lk_236 : (Jvm.Cond.laysFinal "DraftTree" "DraftTree" "reader" "LDraftTree$PatternReader;") ∈ wk_tbl := List.mem_append_left _ (List.mem_of_getElem? (i := 236) (by rfl))
set_option maxRecDepth 20000 in
theorem lk_237 : (Jvm.Cond.lays "DraftTree" "DraftTree" "pattern" "LDraftTree$Automaton;") ∈ wk_tbl := List.mem_append_left _ (List.mem_of_getElem? (i := 237) (by rfl))
set_option maxRecDepth 20000 in
theorem lk_238 : (Jvm.Cond.lays "DraftTree" "DraftTree" "hasPattern" "Z") ∈ wk_tbl := List.mem_append_left _ (List.mem_of_getElem? (i := 238) (by rfl))
set_option maxRecDepth 20000 in
theorem lk_239 : (Jvm.Cond.lays "DraftTree" "DraftTree" "latestFault" "I") ∈ wk_tbl := List.mem_append_left _ (List.mem_of_getElem? (i := 239) (by rfl))
set_option maxRecDepth 20000 in
theorem lk_240 : (Jvm.Cond.laysFinal "DraftTree" "DraftTree" "matchStarts" "[I") ∈ wk_tbl := List.mem_append_left _ (List.mem_of_getElem? (i := 240) (by rfl))
set_option maxRecDepth 20000 in
theorem lk_241 : (Jvm.Cond.laysFinal "DraftTree" "DraftTree" "matchEnds" "[I") ∈ wk_tbl := List.mem_append_left _ (List.mem_of_getElem? (i := 241) (by rfl))
set_option maxRecDepth 20000 in
theorem lk_242 : (Jvm.Cond.fieldLink "DraftTree" (19 : Nat) "DraftTree" "text" "[C") ∈ wk_tbl := List.mem_append_left _ (List.mem_of_getElem? (i := 242) (by rfl))
set_option maxRecDepth 20000 in
theorem lk_243 : (Jvm.Cond.classLink "DraftTree" (143 : Nat) "java/lang/IndexOutOfBoundsException") ∈ wk_tbl := List.mem_append_left _ (List.mem_of_getElem? (i := 243) (by rfl))
set_option maxRecDepth 20000 in
theorem lk_244 : (Jvm.Cond.initialized "java/lang/IndexOutOfBoundsException") ∈ wk_tbl := List.mem_append_left _ (List.mem_of_getElem? (i := 244) (by rfl))
set_option maxRecDepth 20000 in
theorem lk_245 : (Jvm.Cond.code ({ cls := "DraftTree", name := "at", desc := "(I)C" } : Jvm.MethodName) prog_1_method_15_code (2 : Nat) (Option.some Jvm.ClassFile.FieldType.char)) ∈ wk_tbl := List.mem_append_left _ (List.mem_of_getElem? (i := 245) (by rfl))
set_option maxRecDepth 20000 in
theorem lk_246 : (Jvm.Cond.code ({ cls := "DraftTree", name := "breaksBefore", desc := "(I)I" } : Jvm.MethodName) prog_1_method_29_code (4 : Nat) (Option.some Jvm.ClassFile.FieldType.int)) ∈ wk_tbl := List.mem_append_left _ (List.mem_of_getElem? (i := 246) (by rfl))
set_option maxRecDepth 20000 in
theorem lk_247 : (Jvm.Cond.fieldLink "DraftTree" (42 : Nat) "DraftTree" "pattern" "LDraftTree$Automaton;") ∈ wk_tbl := List.mem_append_left _ (List.mem_of_getElem? (i := 247) (by rfl))
set_option maxRecDepth 20000 in
theorem lk_248 : (Jvm.Cond.laysFinal "DraftTree$Automaton" "DraftTree$Automaton" "kinds" "[I") ∈ wk_tbl := List.mem_append_left _ (List.mem_of_getElem? (i := 248) (by rfl))
set_option maxRecDepth 20000 in
theorem lk_249 : (Jvm.Cond.laysFinal "DraftTree$Automaton" "DraftTree$Automaton" "next" "[I") ∈ wk_tbl := List.mem_append_left _ (List.mem_of_getElem? (i := 249) (by rfl))
set_option maxRecDepth 20000 in
theorem lk_250 : (Jvm.Cond.laysFinal "DraftTree$Automaton" "DraftTree$Automaton" "other" "[I") ∈ wk_tbl := List.mem_append_left _ (List.mem_of_getElem? (i := 250) (by rfl))
set_option maxRecDepth 20000 in
theorem lk_251 : (Jvm.Cond.laysFinal "DraftTree$Automaton" "DraftTree$Automaton" "lowCodes" "[J") ∈ wk_tbl := List.mem_append_left _ (List.mem_of_getElem? (i := 251) (by rfl))
set_option maxRecDepth 20000 in
theorem lk_252 : (Jvm.Cond.laysFinal "DraftTree$Automaton" "DraftTree$Automaton" "highCodes" "[J") ∈ wk_tbl := List.mem_append_left _ (List.mem_of_getElem? (i := 252) (by rfl))
set_option maxRecDepth 20000 in
theorem lk_253 : (Jvm.Cond.lays "DraftTree$Automaton" "DraftTree$Automaton" "size" "I") ∈ wk_tbl := List.mem_append_left _ (List.mem_of_getElem? (i := 253) (by rfl))
set_option maxRecDepth 20000 in
theorem lk_254 : (Jvm.Cond.lays "DraftTree$Automaton" "DraftTree$Automaton" "start" "I") ∈ wk_tbl := List.mem_append_left _ (List.mem_of_getElem? (i := 254) (by rfl))
set_option maxRecDepth 20000 in
theorem lk_255 : (Jvm.Cond.lays "DraftTree$Automaton" "DraftTree$Automaton" "goal" "I") ∈ wk_tbl := List.mem_append_left _ (List.mem_of_getElem? (i := 255) (by rfl))
set_option maxRecDepth 20000 in
theorem lk_256 : (Jvm.Cond.lays "DraftTree$Automaton" "DraftTree$Automaton" "matchStart" "I") ∈ wk_tbl := List.mem_append_left _ (List.mem_of_getElem? (i := 256) (by rfl))
set_option maxRecDepth 20000 in
theorem lk_257 : (Jvm.Cond.lays "DraftTree$Automaton" "DraftTree$Automaton" "matchEnd" "I") ∈ wk_tbl := List.mem_append_left _ (List.mem_of_getElem? (i := 257) (by rfl))
set_option maxRecDepth 20000 in
theorem lk_258 : (Jvm.Cond.fieldLink "DraftTree$Automaton" (44 : Nat) "DraftTree$Automaton" "start" "I") ∈ wk_tbl := List.mem_append_left _ (List.mem_of_getElem? (i := 258) (by rfl))
set_option maxRecDepth 20000 in
theorem lk_259 : (Jvm.Cond.fieldLink "DraftTree$Automaton" (28 : Nat) "DraftTree$Automaton" "size" "I") ∈ wk_tbl := List.mem_append_left _ (List.mem_of_getElem? (i := 259) (by rfl))
set_option maxRecDepth 20000 in
theorem lk_260 : (Jvm.Cond.constant "java/lang/Integer" (264 : Nat) (65536 : Int32)) ∈ wk_tbl := List.mem_append_left _ (List.mem_of_getElem? (i := 260) (by rfl))
set_option maxRecDepth 20000 in
theorem lk_261 : (Jvm.Cond.code ({ cls := "java/lang/Integer", name := "numberOfTrailingZeros", desc := "(I)I" } : Jvm.MethodName) prog_11_method_48_code (2 : Nat) (Option.some Jvm.ClassFile.FieldType.int)) ∈ wk_tbl := List.mem_append_left _ (List.mem_of_getElem? (i := 261) (by rfl))
set_option maxRecDepth 20000 in
theorem lk_262 : (Jvm.Cond.methodLink "java/lang/Long" (311 : Nat) ({ cls := "java/lang/Integer", name := "numberOfTrailingZeros", desc := "(I)I" } : Jvm.MethodName)) ∈ wk_tbl := List.mem_append_left _ (List.mem_of_getElem? (i := 262) (by rfl))
set_option maxRecDepth 20000 in
theorem lk_263 : (Jvm.Cond.static ({ cls := "java/lang/Integer", name := "numberOfTrailingZeros", desc := "(I)I" } : Jvm.MethodName)) ∈ wk_tbl := List.mem_append_left _ (List.mem_of_getElem? (i := 263) (by rfl))
set_option maxRecDepth 20000 in
theorem lk_264 : (Jvm.Cond.initialized "java/lang/Integer") ∈ wk_tbl := List.mem_append_left _ (List.mem_of_getElem? (i := 264) (by rfl))
set_option maxRecDepth 20000 in
theorem lk_265 : (Jvm.Cond.code ({ cls := "java/lang/Long", name := "numberOfTrailingZeros", desc := "(J)I" } : Jvm.MethodName) prog_12_method_49_code (3 : Nat) (Option.some Jvm.ClassFile.FieldType.int)) ∈ wk_tbl := List.mem_append_left _ (List.mem_of_getElem? (i := 265) (by rfl))
set_option maxRecDepth 20000 in
theorem lk_266 : (Jvm.Cond.methodLink "DraftTree$Automaton" (58 : Nat) ({ cls := "java/lang/Long", name := "numberOfTrailingZeros", desc := "(J)I" } : Jvm.MethodName)) ∈ wk_tbl := List.mem_append_left _ (List.mem_of_getElem? (i := 266) (by rfl))
set_option maxRecDepth 20000 in
theorem lk_267 : (Jvm.Cond.static ({ cls := "java/lang/Long", name := "numberOfTrailingZeros", desc := "(J)I" } : Jvm.MethodName)) ∈ wk_tbl := List.mem_append_left _ (List.mem_of_getElem? (i := 267) (by rfl))
set_option maxRecDepth 20000 in
theorem lk_268 : (Jvm.Cond.initialized "java/lang/Long") ∈ wk_tbl := List.mem_append_left _ (List.mem_of_getElem? (i := 268) (by rfl))
set_option maxRecDepth 20000 in
theorem lk_269 : (Jvm.Cond.fieldLink "DraftTree$Automaton" (11 : Nat) "DraftTree$Automaton" "kinds" "[I") ∈ wk_tbl := List.mem_append_left _ (List.mem_of_getElem? (i := 269) (by rfl))
set_option maxRecDepth 20000 in
theorem lk_270 : (Jvm.Cond.fieldLink "DraftTree$Automaton" (15 : Nat) "DraftTree$Automaton" "next" "[I") ∈ wk_tbl := List.mem_append_left _ (List.mem_of_getElem? (i := 270) (by rfl))
set_option maxRecDepth 20000 in
theorem lk_271 : (Jvm.Cond.code ({ cls := "DraftTree$Automaton", name := "asSet", desc := "(I)J" } : Jvm.MethodName) prog_2_method_11_code (1 : Nat) (Option.some Jvm.ClassFile.FieldType.long)) ∈ wk_tbl := List.mem_append_left _ (List.mem_of_getElem? (i := 271) (by rfl))
set_option maxRecDepth 20000 in
theorem lk_272 : (Jvm.Cond.methodLink "DraftTree$Automaton" (68 : Nat) ({ cls := "DraftTree$Automaton", name := "asSet", desc := "(I)J" } : Jvm.MethodName)) ∈ wk_tbl := List.mem_append_left _ (List.mem_of_getElem? (i := 272) (by rfl))
set_option maxRecDepth 20000 in
theorem lk_273 : (Jvm.Cond.static ({ cls := "DraftTree$Automaton", name := "asSet", desc := "(I)J" } : Jvm.MethodName)) ∈ wk_tbl := List.mem_append_left _ (List.mem_of_getElem? (i := 273) (by rfl))
set_option maxRecDepth 20000 in
theorem lk_274 : (Jvm.Cond.initialized "DraftTree$Automaton") ∈ wk_tbl := List.mem_append_left _ (List.mem_of_getElem? (i := 274) (by rfl))
set_option maxRecDepth 20000 in
theorem lk_275 : (Jvm.Cond.fieldLink "DraftTree$Automaton" (18 : Nat) "DraftTree$Automaton" "other" "[I") ∈ wk_tbl := List.mem_append_left _ (List.mem_of_getElem? (i := 275) (by rfl))
set_option maxRecDepth 20000 in
theorem lk_276 : (Jvm.Cond.code ({ cls := "DraftTree$Automaton", name := "waysOut", desc := "(IZZ)J" } : Jvm.MethodName) prog_2_method_10_code (4 : Nat) (Option.some Jvm.ClassFile.FieldType.long)) ∈ wk_tbl := List.mem_append_left _ (List.mem_of_getElem? (i := 276) (by rfl))
set_option maxRecDepth 20000 in
theorem lk_277 : (Jvm.Cond.methodLink "DraftTree$Automaton" (72 : Nat) ({ cls := "DraftTree$Automaton", name := "waysOut", desc := "(IZZ)J" } : Jvm.MethodName)) ∈ wk_tbl := List.mem_append_left _ (List.mem_of_getElem? (i := 277) (by rfl))
set_option maxRecDepth 20000 in
theorem lk_278 : (Jvm.Cond.instanceMethod ({ cls := "DraftTree$Automaton", name := "waysOut", desc := "(IZZ)J" } : Jvm.MethodName)) ∈ wk_tbl := List.mem_append_left _ (List.mem_of_getElem? (i := 278) (by rfl))
set_option maxRecDepth 20000 in
theorem lk_279 : (Jvm.Cond.selects "DraftTree$Automaton" ({ cls := "DraftTree$Automaton", name := "waysOut", desc := "(IZZ)J" } : Jvm.MethodName) ({ cls := "DraftTree$Automaton", name := "waysOut", desc := "(IZZ)J" } : Jvm.MethodName)) ∈ wk_tbl := List.mem_append_left _ (List.mem_of_getElem? (i := 279) (by rfl))
set_option maxRecDepth 20000 in
theorem lk_280 : (Jvm.Cond.constantLong "DraftTree$Automaton" (32 : Nat) (-1 : Int64)) ∈ wk_tbl := List.mem_append_left _ (List.mem_of_getElem? (i := 280) (by rfl))
set_option maxRecDepth 20000 in
theorem lk_281 : (Jvm.Cond.code ({ cls := "DraftTree$Automaton", name := "spread", desc := "(J[CI)J" } : Jvm.MethodName) prog_2_method_9_code (15 : Nat) (Option.some Jvm.ClassFile.FieldType.long)) ∈ wk_tbl := List.mem_append_left _ (List.mem_of_getElem? (i := 281) (by rfl))
set_option maxRecDepth 20000 in
theorem lk_282 : (Jvm.Cond.methodLink "DraftTree$Automaton" (47 : Nat) ({ cls := "DraftTree$Automaton", name := "spread", desc := "(J[CI)J" } : Jvm.MethodName)) ∈ wk_tbl := List.mem_append_left _ (List.mem_of_getElem? (i := 282) (by rfl))
set_option maxRecDepth 20000 in
theorem lk_283 : (Jvm.Cond.instanceMethod ({ cls := "DraftTree$Automaton", name := "spread", desc := "(J[CI)J" } : Jvm.MethodName)) ∈ wk_tbl := List.mem_append_left _ (List.mem_of_getElem? (i := 283) (by rfl))
set_option maxRecDepth 20000 in
theorem lk_284 : (Jvm.Cond.selects "DraftTree$Automaton" ({ cls := "DraftTree$Automaton", name := "spread", desc := "(J[CI)J" } : Jvm.MethodName) ({ cls := "DraftTree$Automaton", name := "spread", desc := "(J[CI)J" } : Jvm.MethodName)) ∈ wk_tbl := List.mem_append_left _ (List.mem_of_getElem? (i := 284) (by rfl))
set_option maxRecDepth 20000 in
theorem lk_285 : (Jvm.Cond.fieldLink "DraftTree$Automaton" (25 : Nat) "DraftTree$Automaton" "highCodes" "[J") ∈ wk_tbl := List.mem_append_left _ (List.mem_of_getElem? (i := 285) (by rfl))
set_option maxRecDepth 20000 in
theorem lk_286 : (Jvm.Cond.fieldLink "DraftTree$Automaton" (21 : Nat) "DraftTree$Automaton" "lowCodes" "[J") ∈ wk_tbl := List.mem_append_left _ (List.mem_of_getElem? (i := 286) (by rfl))
set_option maxRecDepth 20000 in
theorem lk_287 : (Jvm.Cond.code ({ cls := "DraftTree$Automaton", name := "takes", desc := "(IC)Z" } : Jvm.MethodName) prog_2_method_8_code (5 : Nat) (Option.some Jvm.ClassFile.FieldType.boolean)) ∈ wk_tbl := List.mem_append_left _ (List.mem_of_getElem? (i := 287) (by rfl))
set_option maxRecDepth 20000 in
theorem lk_288 : (Jvm.Cond.methodLink "DraftTree$Automaton" (64 : Nat) ({ cls := "DraftTree$Automaton", name := "takes", desc := "(IC)Z" } : Jvm.MethodName)) ∈ wk_tbl := List.mem_append_left _ (List.mem_of_getElem? (i := 288) (by rfl))
set_option maxRecDepth 20000 in
theorem lk_289 : (Jvm.Cond.instanceMethod ({ cls := "DraftTree$Automaton", name := "takes", desc := "(IC)Z" } : Jvm.MethodName)) ∈ wk_tbl := List.mem_append_left _ (List.mem_of_getElem? (i := 289) (by rfl))
set_option maxRecDepth 20000 in
theorem lk_290 : (Jvm.Cond.selects "DraftTree$Automaton" ({ cls := "DraftTree$Automaton", name := "takes", desc := "(IC)Z" } : Jvm.MethodName) ({ cls := "DraftTree$Automaton", name := "takes", desc := "(IC)Z" } : Jvm.MethodName)) ∈ wk_tbl := List.mem_append_left _ (List.mem_of_getElem? (i := 290) (by rfl))
set_option maxRecDepth 20000 in
theorem lk_291 : (Jvm.Cond.code ({ cls := "DraftTree$Automaton", name := "consume", desc := "(JC)J" } : Jvm.MethodName) prog_2_method_7_code (10 : Nat) (Option.some Jvm.ClassFile.FieldType.long)) ∈ wk_tbl := List.mem_append_left _ (List.mem_of_getElem? (i := 291) (by rfl))
set_option maxRecDepth 20000 in
theorem lk_292 : (Jvm.Cond.methodLink "DraftTree$Automaton" (51 : Nat) ({ cls := "DraftTree$Automaton", name := "consume", desc := "(JC)J" } : Jvm.MethodName)) ∈ wk_tbl := List.mem_append_left _ (List.mem_of_getElem? (i := 292) (by rfl))
set_option maxRecDepth 20000 in
theorem lk_293 : (Jvm.Cond.instanceMethod ({ cls := "DraftTree$Automaton", name := "consume", desc := "(JC)J" } : Jvm.MethodName)) ∈ wk_tbl := List.mem_append_left _ (List.mem_of_getElem? (i := 293) (by rfl))
set_option maxRecDepth 20000 in
theorem lk_294 : (Jvm.Cond.selects "DraftTree$Automaton" ({ cls := "DraftTree$Automaton", name := "consume", desc := "(JC)J" } : Jvm.MethodName) ({ cls := "DraftTree$Automaton", name := "consume", desc := "(JC)J" } : Jvm.MethodName)) ∈ wk_tbl := List.mem_append_left _ (List.mem_of_getElem? (i := 294) (by rfl))
set_option maxRecDepth 20000 in
theorem lk_295 : (Jvm.Cond.fieldLink "DraftTree$Automaton" (55 : Nat) "DraftTree$Automaton" "goal" "I") ∈ wk_tbl := List.mem_append_left _ (List.mem_of_getElem? (i := 295) (by rfl))
set_option maxRecDepth 20000 in
theorem lk_296 : (Jvm.Cond.code ({ cls := "DraftTree$Automaton", name := "longestFit", desc := "([CI)I" } : Jvm.MethodName) prog_2_method_6_code (7 : Nat) (Option.some Jvm.ClassFile.FieldType.int)) ∈ wk_tbl := List.mem_append_left _ (List.mem_of_getElem? (i := 296) (by rfl))
set_option maxRecDepth 20000 in
theorem lk_297 : (Jvm.Cond.methodLink "DraftTree$Automaton" (34 : Nat) ({ cls := "DraftTree$Automaton", name := "longestFit", desc := "([CI)I" } : Jvm.MethodName)) ∈ wk_tbl := List.mem_append_left _ (List.mem_of_getElem? (i := 297) (by rfl))
set_option maxRecDepth 20000 in
theorem lk_298 : (Jvm.Cond.instanceMethod ({ cls := "DraftTree$Automaton", name := "longestFit", desc := "([CI)I" } : Jvm.MethodName)) ∈ wk_tbl := List.mem_append_left _ (List.mem_of_getElem? (i := 298) (by rfl))
set_option maxRecDepth 20000 in
theorem lk_299 : (Jvm.Cond.selects "DraftTree$Automaton" ({ cls := "DraftTree$Automaton", name := "longestFit", desc := "([CI)I" } : Jvm.MethodName) ({ cls := "DraftTree$Automaton", name := "longestFit", desc := "([CI)I" } : Jvm.MethodName)) ∈ wk_tbl := List.mem_append_left _ (List.mem_of_getElem? (i := 299) (by rfl))
set_option maxRecDepth 20000 in
theorem lk_300 : (Jvm.Cond.fieldLink "DraftTree$Automaton" (38 : Nat) "DraftTree$Automaton" "matchStart" "I") ∈ wk_tbl := List.mem_append_left _ (List.mem_of_getElem? (i := 300) (by rfl))
set_option maxRecDepth 20000 in
theorem lk_301 : (Jvm.Cond.fieldLink "DraftTree$Automaton" (41 : Nat) "DraftTree$Automaton" "matchEnd" "I") ∈ wk_tbl := List.mem_append_left _ (List.mem_of_getElem? (i := 301) (by rfl))
set_option maxRecDepth 20000 in
theorem lk_302 : (Jvm.Cond.code ({ cls := "DraftTree$Automaton", name := "seek", desc := "([CI)Z" } : Jvm.MethodName) prog_2_method_5_code (5 : Nat) (Option.some Jvm.ClassFile.FieldType.boolean)) ∈ wk_tbl := List.mem_append_left _ (List.mem_of_getElem? (i := 302) (by rfl))
set_option maxRecDepth 20000 in
theorem lk_303 : (Jvm.Cond.methodLink "DraftTree" (107 : Nat) ({ cls := "DraftTree$Automaton", name := "seek", desc := "([CI)Z" } : Jvm.MethodName)) ∈ wk_tbl := List.mem_append_left _ (List.mem_of_getElem? (i := 303) (by rfl))
set_option maxRecDepth 20000 in
theorem lk_304 : (Jvm.Cond.instanceMethod ({ cls := "DraftTree$Automaton", name := "seek", desc := "([CI)Z" } : Jvm.MethodName)) ∈ wk_tbl := List.mem_append_left _ (List.mem_of_getElem? (i := 304) (by rfl))
set_option maxRecDepth 20000 in
theorem lk_305 : (Jvm.Cond.selects "DraftTree$Automaton" ({ cls := "DraftTree$Automaton", name := "seek", desc := "([CI)Z" } : Jvm.MethodName) ({ cls := "DraftTree$Automaton", name := "seek", desc := "([CI)Z" } : Jvm.MethodName)) ∈ wk_tbl := List.mem_append_left _ (List.mem_of_getElem? (i := 305) (by rfl))
set_option maxRecDepth 20000 in
theorem lk_306 : (Jvm.Cond.fieldLink "DraftTree" (49 : Nat) "DraftTree" "matchStarts" "[I") ∈ wk_tbl := List.mem_append_left _ (List.mem_of_getElem? (i := 306) (by rfl))
set_option maxRecDepth 20000 in
theorem lk_307 : (Jvm.Cond.fieldLink "DraftTree" (114 : Nat) "DraftTree$Automaton" "matchStart" "I") ∈ wk_tbl := List.mem_append_left _ (List.mem_of_getElem? (i := 307) (by rfl))
set_option maxRecDepth 20000 in
theorem lk_308 : (Jvm.Cond.fieldLink "DraftTree" (53 : Nat) "DraftTree" "matchEnds" "[I") ∈ wk_tbl := List.mem_append_left _ (List.mem_of_getElem? (i := 308) (by rfl))
set_option maxRecDepth 20000 in
theorem lk_309 : (Jvm.Cond.fieldLink "DraftTree" (117 : Nat) "DraftTree$Automaton" "matchEnd" "I") ∈ wk_tbl := List.mem_append_left _ (List.mem_of_getElem? (i := 309) (by rfl))
set_option maxRecDepth 20000 in
theorem lk_310 : (Jvm.Cond.code ({ cls := "DraftTree", name := "collectMatches", desc := "()I" } : Jvm.MethodName) prog_1_method_26_code (3 : Nat) (Option.some Jvm.ClassFile.FieldType.int)) ∈ wk_tbl := List.mem_append_left _ (List.mem_of_getElem? (i := 310) (by rfl))
set_option maxRecDepth 20000 in
theorem lk_311 : (Jvm.Cond.fieldLink "DraftTree" (35 : Nat) "DraftTree" "reader" "LDraftTree$PatternReader;") ∈ wk_tbl := List.mem_append_left _ (List.mem_of_getElem? (i := 311) (by rfl))
set_option maxRecDepth 20000 in
theorem lk_312 : (Jvm.Cond.fieldLink "DraftTree" (9 : Nat) "DraftTree" "slip" "[C") ∈ wk_tbl := List.mem_append_left _ (List.mem_of_getElem? (i := 312) (by rfl))
set_option maxRecDepth 20000 in
theorem lk_313 : (Jvm.Cond.fieldLink "DraftTree" (56 : Nat) "DraftTree" "slipSize" "I") ∈ wk_tbl := List.mem_append_left _ (List.mem_of_getElem? (i := 313) (by rfl))
set_option maxRecDepth 20000 in
theorem lk_314 : (Jvm.Cond.laysFinal "DraftTree$PatternReader" "DraftTree$PatternReader" "choiceStarts" "[I") ∈ wk_tbl := List.mem_append_left _ (List.mem_of_getElem? (i := 314) (by rfl))
set_option maxRecDepth 20000 in
theorem lk_315 : (Jvm.Cond.laysFinal "DraftTree$PatternReader" "DraftTree$PatternReader" "choiceEnds" "[I") ∈ wk_tbl := List.mem_append_left _ (List.mem_of_getElem? (i := 315) (by rfl))
set_option maxRecDepth 20000 in
theorem lk_316 : (Jvm.Cond.laysFinal "DraftTree$PatternReader" "DraftTree$PatternReader" "rowHeads" "[I") ∈ wk_tbl := List.mem_append_left _ (List.mem_of_getElem? (i := 316) (by rfl))
set_option maxRecDepth 20000 in
theorem lk_317 : (Jvm.Cond.laysFinal "DraftTree$PatternReader" "DraftTree$PatternReader" "outerTails" "[I") ∈ wk_tbl := List.mem_append_left _ (List.mem_of_getElem? (i := 317) (by rfl))
set_option maxRecDepth 20000 in
theorem lk_318 : (Jvm.Cond.lays "DraftTree$PatternReader" "DraftTree$PatternReader" "made" "LDraftTree$Automaton;") ∈ wk_tbl := List.mem_append_left _ (List.mem_of_getElem? (i := 318) (by rfl))
set_option maxRecDepth 20000 in
theorem lk_319 : (Jvm.Cond.lays "DraftTree$PatternReader" "DraftTree$PatternReader" "source" "[C") ∈ wk_tbl := List.mem_append_left _ (List.mem_of_getElem? (i := 319) (by rfl))
set_option maxRecDepth 20000 in
theorem lk_320 : (Jvm.Cond.lays "DraftTree$PatternReader" "DraftTree$PatternReader" "size" "I") ∈ wk_tbl := List.mem_append_left _ (List.mem_of_getElem? (i := 320) (by rfl))
set_option maxRecDepth 20000 in
theorem lk_321 : (Jvm.Cond.lays "DraftTree$PatternReader" "DraftTree$PatternReader" "position" "I") ∈ wk_tbl := List.mem_append_left _ (List.mem_of_getElem? (i := 321) (by rfl))
set_option maxRecDepth 20000 in
theorem lk_322 : (Jvm.Cond.lays "DraftTree$PatternReader" "DraftTree$PatternReader" "depth" "I") ∈ wk_tbl := List.mem_append_left _ (List.mem_of_getElem? (i := 322) (by rfl))
set_option maxRecDepth 20000 in
theorem lk_323 : (Jvm.Cond.lays "DraftTree$PatternReader" "DraftTree$PatternReader" "fault" "I") ∈ wk_tbl := List.mem_append_left _ (List.mem_of_getElem? (i := 323) (by rfl))
set_option maxRecDepth 20000 in
theorem lk_324 : (Jvm.Cond.lays "DraftTree$PatternReader" "DraftTree$PatternReader" "lead" "I") ∈ wk_tbl := List.mem_append_left _ (List.mem_of_getElem? (i := 324) (by rfl))
set_option maxRecDepth 20000 in
theorem lk_325 : (Jvm.Cond.lays "DraftTree$PatternReader" "DraftTree$PatternReader" "first" "I") ∈ wk_tbl := List.mem_append_left _ (List.mem_of_getElem? (i := 325) (by rfl))
set_option maxRecDepth 20000 in
theorem lk_326 : (Jvm.Cond.lays "DraftTree$PatternReader" "DraftTree$PatternReader" "tail" "I") ∈ wk_tbl := List.mem_append_left _ (List.mem_of_getElem? (i := 326) (by rfl))
set_option maxRecDepth 20000 in
theorem lk_327 : (Jvm.Cond.fieldLink "DraftTree$PatternReader" (31 : Nat) "DraftTree$PatternReader" "source" "[C") ∈ wk_tbl := List.mem_append_left _ (List.mem_of_getElem? (i := 327) (by rfl))
set_option maxRecDepth 20000 in
theorem lk_328 : (Jvm.Cond.fieldLink "DraftTree$PatternReader" (35 : Nat) "DraftTree$PatternReader" "size" "I") ∈ wk_tbl := List.mem_append_left _ (List.mem_of_getElem? (i := 328) (by rfl))
set_option maxRecDepth 20000 in
theorem lk_329 : (Jvm.Cond.fieldLink "DraftTree$PatternReader" (39 : Nat) "DraftTree$PatternReader" "position" "I") ∈ wk_tbl := List.mem_append_left _ (List.mem_of_getElem? (i := 329) (by rfl))
set_option maxRecDepth 20000 in
theorem lk_330 : (Jvm.Cond.fieldLink "DraftTree$PatternReader" (42 : Nat) "DraftTree$PatternReader" "fault" "I") ∈ wk_tbl := List.mem_append_left _ (List.mem_of_getElem? (i := 330) (by rfl))
set_option maxRecDepth 20000 in
theorem lk_331 : (Jvm.Cond.fieldLink "DraftTree$PatternReader" (27 : Nat) "DraftTree$PatternReader" "made" "LDraftTree$Automaton;") ∈ wk_tbl := List.mem_append_left _ (List.mem_of_getElem? (i := 331) (by rfl))
set_option maxRecDepth 20000 in
theorem lk_332 : (Jvm.Cond.fieldLink "DraftTree$PatternReader" (45 : Nat) "DraftTree$Automaton" "size" "I") ∈ wk_tbl := List.mem_append_left _ (List.mem_of_getElem? (i := 332) (by rfl))
set_option maxRecDepth 20000 in
theorem lk_333 : (Jvm.Cond.fieldLink "DraftTree$PatternReader" (46 : Nat) "DraftTree$PatternReader" "depth" "I") ∈ wk_tbl := List.mem_append_left _ (List.mem_of_getElem? (i := 333) (by rfl))
set_option maxRecDepth 20000 in
theorem lk_334 : (Jvm.Cond.code ({ cls := "DraftTree$Automaton", name := "addNode", desc := "(I)I" } : Jvm.MethodName) prog_2_method_2_code (3 : Nat) (Option.some Jvm.ClassFile.FieldType.int)) ∈ wk_tbl := List.mem_append_left _ (List.mem_of_getElem? (i := 334) (by rfl))
set_option maxRecDepth 20000 in
theorem lk_335 : (Jvm.Cond.methodLink "DraftTree$PatternReader" (113 : Nat) ({ cls := "DraftTree$Automaton", name := "addNode", desc := "(I)I" } : Jvm.MethodName)) ∈ wk_tbl := List.mem_append_left _ (List.mem_of_getElem? (i := 335) (by rfl))
set_option maxRecDepth 20000 in
theorem lk_336 : (Jvm.Cond.instanceMethod ({ cls := "DraftTree$Automaton", name := "addNode", desc := "(I)I" } : Jvm.MethodName)) ∈ wk_tbl := List.mem_append_left _ (List.mem_of_getElem? (i := 336) (by rfl))
set_option maxRecDepth 20000 in
theorem lk_337 : (Jvm.Cond.selects "DraftTree$Automaton" ({ cls := "DraftTree$Automaton", name := "addNode", desc := "(I)I" } : Jvm.MethodName) ({ cls := "DraftTree$Automaton", name := "addNode", desc := "(I)I" } : Jvm.MethodName)) ∈ wk_tbl := List.mem_append_left _ (List.mem_of_getElem? (i := 337) (by rfl))
set_option maxRecDepth 20000 in
theorem lk_338 : (Jvm.Cond.fieldLink "DraftTree$PatternReader" (9 : Nat) "DraftTree$PatternReader" "choiceStarts" "[I") ∈ wk_tbl := List.mem_append_left _ (List.mem_of_getElem? (i := 338) (by rfl))
set_option maxRecDepth 20000 in
theorem lk_339 : (Jvm.Cond.fieldLink "DraftTree$PatternReader" (15 : Nat) "DraftTree$PatternReader" "choiceEnds" "[I") ∈ wk_tbl := List.mem_append_left _ (List.mem_of_getElem? (i := 339) (by rfl))
set_option maxRecDepth 20000 in
theorem lk_340 : (Jvm.Cond.fieldLink "DraftTree$PatternReader" (21 : Nat) "DraftTree$PatternReader" "outerTails" "[I") ∈ wk_tbl := List.mem_append_left _ (List.mem_of_getElem? (i := 340) (by rfl))
set_option maxRecDepth 20000 in
theorem lk_341 : (Jvm.Cond.fieldLink "DraftTree$PatternReader" (18 : Nat) "DraftTree$PatternReader" "rowHeads" "[I") ∈ wk_tbl := List.mem_append_left _ (List.mem_of_getElem? (i := 341) (by rfl))
set_option maxRecDepth 20000 in
theorem lk_342 : (Jvm.Cond.fieldLink "DraftTree$PatternReader" (126 : Nat) "DraftTree$PatternReader" "lead" "I") ∈ wk_tbl := List.mem_append_left _ (List.mem_of_getElem? (i := 342) (by rfl))
set_option maxRecDepth 20000 in
theorem lk_343 : (Jvm.Cond.fieldLink "DraftTree$PatternReader" (129 : Nat) "DraftTree$PatternReader" "first" "I") ∈ wk_tbl := List.mem_append_left _ (List.mem_of_getElem? (i := 343) (by rfl))
set_option maxRecDepth 20000 in
theorem lk_344 : (Jvm.Cond.fieldLink "DraftTree$PatternReader" (62 : Nat) "DraftTree$PatternReader" "tail" "I") ∈ wk_tbl := List.mem_append_left _ (List.mem_of_getElem? (i := 344) (by rfl))
set_option maxRecDepth 20000 in
theorem lk_345 : (Jvm.Cond.code ({ cls := "DraftTree$PatternReader", name := "beginRow", desc := "(I)V" } : Jvm.MethodName) prog_3_method_16_code (2 : Nat) (Option.none : Option Jvm.ClassFile.FieldType)) ∈ wk_tbl := List.mem_append_left _ (List.mem_of_getElem? (i := 345) (by rfl))
set_option maxRecDepth 20000 in
theorem lk_346 : (Jvm.Cond.methodLink "DraftTree$PatternReader" (116 : Nat) ({ cls := "DraftTree$PatternReader", name := "beginRow", desc := "(I)V" } : Jvm.MethodName)) ∈ wk_tbl := List.mem_append_left _ (List.mem_of_getElem? (i := 346) (by rfl))
set_option maxRecDepth 20000 in
theorem lk_347 : (Jvm.Cond.instanceMethod ({ cls := "DraftTree$PatternReader", name := "beginRow", desc := "(I)V" } : Jvm.MethodName)) ∈ wk_tbl := List.mem_append_left _ (List.mem_of_getElem? (i := 347) (by rfl))
set_option maxRecDepth 20000 in
theorem lk_348 : (Jvm.Cond.selects "DraftTree$PatternReader" ({ cls := "DraftTree$PatternReader", name := "beginRow", desc := "(I)V" } : Jvm.MethodName) ({ cls := "DraftTree$PatternReader", name := "beginRow", desc := "(I)V" } : Jvm.MethodName)) ∈ wk_tbl := List.mem_append_left _ (List.mem_of_getElem? (i := 348) (by rfl))
set_option maxRecDepth 20000 in
theorem lk_349 : (Jvm.Cond.initialized "DraftTree$PatternReader") ∈ wk_tbl := List.mem_append_left _ (List.mem_of_getElem? (i := 349) (by rfl))
set_option maxRecDepth 20000 in
theorem lk_350 : (Jvm.Cond.code ({ cls := "DraftTree$PatternReader", name := "openChoice", desc := "(I)V" } : Jvm.MethodName) prog_3_method_12_code (3 : Nat) (Option.none : Option Jvm.ClassFile.FieldType)) ∈ wk_tbl := List.mem_append_left _ (List.mem_of_getElem? (i := 350) (by rfl))
set_option maxRecDepth 20000 in
theorem lk_351 : (Jvm.Cond.methodLink "DraftTree$PatternReader" (49 : Nat) ({ cls := "DraftTree$PatternReader", name := "openChoice", desc := "(I)V" } : Jvm.MethodName)) ∈ wk_tbl := List.mem_append_left _ (List.mem_of_getElem? (i := 351) (by rfl))
set_option maxRecDepth 20000 in
theorem lk_352 : (Jvm.Cond.instanceMethod ({ cls := "DraftTree$PatternReader", name := "openChoice", desc := "(I)V" } : Jvm.MethodName)) ∈ wk_tbl := List.mem_append_left _ (List.mem_of_getElem? (i := 352) (by rfl))
set_option maxRecDepth 20000 in
theorem lk_353 : (Jvm.Cond.selects "DraftTree$PatternReader" ({ cls := "DraftTree$PatternReader", name := "openChoice", desc := "(I)V" } : Jvm.MethodName) ({ cls := "DraftTree$PatternReader", name := "openChoice", desc := "(I)V" } : Jvm.MethodName)) ∈ wk_tbl := List.mem_append_left _ (List.mem_of_getElem? (i := 353) (by rfl))
set_option maxRecDepth 20000 in
theorem lk_354 : (Jvm.Cond.code ({ cls := "DraftTree$PatternReader", name := "openGroup", desc := "()V" } : Jvm.MethodName) prog_3_method_13_code (1 : Nat) (Option.none : Option Jvm.ClassFile.FieldType)) ∈ wk_tbl := List.mem_append_left _ (List.mem_of_getElem? (i := 354) (by rfl))
set_option maxRecDepth 20000 in
theorem lk_355 : (Jvm.Cond.methodLink "DraftTree$PatternReader" (71 : Nat) ({ cls := "DraftTree$PatternReader", name := "openGroup", desc := "()V" } : Jvm.MethodName)) ∈ wk_tbl := List.mem_append_left _ (List.mem_of_getElem? (i := 355) (by rfl))
set_option maxRecDepth 20000 in
theorem lk_356 : (Jvm.Cond.instanceMethod ({ cls := "DraftTree$PatternReader", name := "openGroup", desc := "()V" } : Jvm.MethodName)) ∈ wk_tbl := List.mem_append_left _ (List.mem_of_getElem? (i := 356) (by rfl))
set_option maxRecDepth 20000 in
theorem lk_357 : (Jvm.Cond.selects "DraftTree$PatternReader" ({ cls := "DraftTree$PatternReader", name := "openGroup", desc := "()V" } : Jvm.MethodName) ({ cls := "DraftTree$PatternReader", name := "openGroup", desc := "()V" } : Jvm.MethodName)) ∈ wk_tbl := List.mem_append_left _ (List.mem_of_getElem? (i := 357) (by rfl))
set_option maxRecDepth 20000 in
theorem lk_358 : (Jvm.Cond.fieldLink "DraftTree$PatternReader" (59 : Nat) "DraftTree$Automaton" "next" "[I") ∈ wk_tbl := List.mem_append_left _ (List.mem_of_getElem? (i := 358) (by rfl))
set_option maxRecDepth 20000 in
theorem lk_359 : (Jvm.Cond.code ({ cls := "DraftTree$PatternReader", name := "addPart", desc := "(II)V" } : Jvm.MethodName) prog_3_method_18_code (3 : Nat) (Option.none : Option Jvm.ClassFile.FieldType)) ∈ wk_tbl := List.mem_append_left _ (List.mem_of_getElem? (i := 359) (by rfl))
set_option maxRecDepth 20000 in
theorem lk_360 : (Jvm.Cond.methodLink "DraftTree$PatternReader" (119 : Nat) ({ cls := "DraftTree$PatternReader", name := "addPart", desc := "(II)V" } : Jvm.MethodName)) ∈ wk_tbl := List.mem_append_left _ (List.mem_of_getElem? (i := 360) (by rfl))
set_option maxRecDepth 20000 in
theorem lk_361 : (Jvm.Cond.instanceMethod ({ cls := "DraftTree$PatternReader", name := "addPart", desc := "(II)V" } : Jvm.MethodName)) ∈ wk_tbl := List.mem_append_left _ (List.mem_of_getElem? (i := 361) (by rfl))
set_option maxRecDepth 20000 in
theorem lk_362 : (Jvm.Cond.selects "DraftTree$PatternReader" ({ cls := "DraftTree$PatternReader", name := "addPart", desc := "(II)V" } : Jvm.MethodName) ({ cls := "DraftTree$PatternReader", name := "addPart", desc := "(II)V" } : Jvm.MethodName)) ∈ wk_tbl := List.mem_append_left _ (List.mem_of_getElem? (i := 362) (by rfl))
set_option maxRecDepth 20000 in
theorem lk_363 : (Jvm.Cond.code ({ cls := "DraftTree$PatternReader", name := "closeGroup", desc := "()V" } : Jvm.MethodName) prog_3_method_14_code (3 : Nat) (Option.none : Option Jvm.ClassFile.FieldType)) ∈ wk_tbl := List.mem_append_left _ (List.mem_of_getElem? (i := 363) (by rfl))
set_option maxRecDepth 20000 in
theorem lk_364 : (Jvm.Cond.methodLink "DraftTree$PatternReader" (74 : Nat) ({ cls := "DraftTree$PatternReader", name := "closeGroup", desc := "()V" } : Jvm.MethodName)) ∈ wk_tbl := List.mem_append_left _ (List.mem_of_getElem? (i := 364) (by rfl))
set_option maxRecDepth 20000 in
theorem lk_365 : (Jvm.Cond.instanceMethod ({ cls := "DraftTree$PatternReader", name := "closeGroup", desc := "()V" } : Jvm.MethodName)) ∈ wk_tbl := List.mem_append_left _ (List.mem_of_getElem? (i := 365) (by rfl))
set_option maxRecDepth 20000 in
theorem lk_366 : (Jvm.Cond.selects "DraftTree$PatternReader" ({ cls := "DraftTree$PatternReader", name := "closeGroup", desc := "()V" } : Jvm.MethodName) ({ cls := "DraftTree$PatternReader", name := "closeGroup", desc := "()V" } : Jvm.MethodName)) ∈ wk_tbl := List.mem_append_left _ (List.mem_of_getElem? (i := 366) (by rfl))
set_option maxRecDepth 20000 in
theorem lk_367 : (Jvm.Cond.fieldLink "DraftTree$PatternReader" (123 : Nat) "DraftTree$Automaton" "other" "[I") ∈ wk_tbl := List.mem_append_left _ (List.mem_of_getElem? (i := 367) (by rfl))
set_option maxRecDepth 20000 in
theorem lk_368 : (Jvm.Cond.code ({ cls := "DraftTree$PatternReader", name := "repeatPart", desc := "(C)V" } : Jvm.MethodName) prog_3_method_19_code (4 : Nat) (Option.none : Option Jvm.ClassFile.FieldType)) ∈ wk_tbl := List.mem_append_left _ (List.mem_of_getElem? (i := 368) (by rfl))
set_option maxRecDepth 20000 in
theorem lk_369 : (Jvm.Cond.methodLink "DraftTree$PatternReader" (80 : Nat) ({ cls := "DraftTree$PatternReader", name := "repeatPart", desc := "(C)V" } : Jvm.MethodName)) ∈ wk_tbl := List.mem_append_left _ (List.mem_of_getElem? (i := 369) (by rfl))
set_option maxRecDepth 20000 in
theorem lk_370 : (Jvm.Cond.instanceMethod ({ cls := "DraftTree$PatternReader", name := "repeatPart", desc := "(C)V" } : Jvm.MethodName)) ∈ wk_tbl := List.mem_append_left _ (List.mem_of_getElem? (i := 370) (by rfl))
set_option maxRecDepth 20000 in
theorem lk_371 : (Jvm.Cond.selects "DraftTree$PatternReader" ({ cls := "DraftTree$PatternReader", name := "repeatPart", desc := "(C)V" } : Jvm.MethodName) ({ cls := "DraftTree$PatternReader", name := "repeatPart", desc := "(C)V" } : Jvm.MethodName)) ∈ wk_tbl := List.mem_append_left _ (List.mem_of_getElem? (i := 371) (by rfl))
set_option maxRecDepth 20000 in
theorem lk_372 : (Jvm.Cond.code ({ cls := "DraftTree$PatternReader", name := "addNodeAsPart", desc := "(I)I" } : Jvm.MethodName) prog_3_method_17_code (3 : Nat) (Option.some Jvm.ClassFile.FieldType.int)) ∈ wk_tbl := List.mem_append_left _ (List.mem_of_getElem? (i := 372) (by rfl))
set_option maxRecDepth 20000 in
theorem lk_373 : (Jvm.Cond.methodLink "DraftTree$PatternReader" (93 : Nat) ({ cls := "DraftTree$PatternReader", name := "addNodeAsPart", desc := "(I)I" } : Jvm.MethodName)) ∈ wk_tbl := List.mem_append_left _ (List.mem_of_getElem? (i := 373) (by rfl))
set_option maxRecDepth 20000 in
theorem lk_374 : (Jvm.Cond.instanceMethod ({ cls := "DraftTree$PatternReader", name := "addNodeAsPart", desc := "(I)I" } : Jvm.MethodName)) ∈ wk_tbl := List.mem_append_left _ (List.mem_of_getElem? (i := 374) (by rfl))
set_option maxRecDepth 20000 in
theorem lk_375 : (Jvm.Cond.selects "DraftTree$PatternReader" ({ cls := "DraftTree$PatternReader", name := "addNodeAsPart", desc := "(I)I" } : Jvm.MethodName) ({ cls := "DraftTree$PatternReader", name := "addNodeAsPart", desc := "(I)I" } : Jvm.MethodName)) ∈ wk_tbl := List.mem_append_left _ (List.mem_of_getElem? (i := 375) (by rfl))
set_option maxRecDepth 20000 in
theorem lk_376 : (Jvm.Cond.code ({ cls := "DraftTree$Automaton", name := "takeCodes", desc := "(III)V" } : Jvm.MethodName) prog_2_method_3_code (5 : Nat) (Option.none : Option Jvm.ClassFile.FieldType)) ∈ wk_tbl := List.mem_append_left _ (List.mem_of_getElem? (i := 376) (by rfl))
set_option maxRecDepth 20000 in
theorem lk_377 : (Jvm.Cond.methodLink "DraftTree$PatternReader" (103 : Nat) ({ cls := "DraftTree$Automaton", name := "takeCodes", desc := "(III)V" } : Jvm.MethodName)) ∈ wk_tbl := List.mem_append_left _ (List.mem_of_getElem? (i := 377) (by rfl))
set_option maxRecDepth 20000 in
theorem lk_378 : (Jvm.Cond.instanceMethod ({ cls := "DraftTree$Automaton", name := "takeCodes", desc := "(III)V" } : Jvm.MethodName)) ∈ wk_tbl := List.mem_append_left _ (List.mem_of_getElem? (i := 378) (by rfl))
set_option maxRecDepth 20000 in
theorem lk_379 : (Jvm.Cond.selects "DraftTree$Automaton" ({ cls := "DraftTree$Automaton", name := "takeCodes", desc := "(III)V" } : Jvm.MethodName) ({ cls := "DraftTree$Automaton", name := "takeCodes", desc := "(III)V" } : Jvm.MethodName)) ∈ wk_tbl := List.mem_append_left _ (List.mem_of_getElem? (i := 379) (by rfl))
set_option maxRecDepth 20000 in
theorem lk_380 : (Jvm.Cond.code ({ cls := "DraftTree$PatternReader", name := "readRange", desc := "(I)V" } : Jvm.MethodName) prog_3_method_11_code (4 : Nat) (Option.none : Option Jvm.ClassFile.FieldType)) ∈ wk_tbl := List.mem_append_left _ (List.mem_of_getElem? (i := 380) (by rfl))
set_option maxRecDepth 20000 in
theorem lk_381 : (Jvm.Cond.methodLink "DraftTree$PatternReader" (110 : Nat) ({ cls := "DraftTree$PatternReader", name := "readRange", desc := "(I)V" } : Jvm.MethodName)) ∈ wk_tbl := List.mem_append_left _ (List.mem_of_getElem? (i := 381) (by rfl))
set_option maxRecDepth 20000 in
theorem lk_382 : (Jvm.Cond.instanceMethod ({ cls := "DraftTree$PatternReader", name := "readRange", desc := "(I)V" } : Jvm.MethodName)) ∈ wk_tbl := List.mem_append_left _ (List.mem_of_getElem? (i := 382) (by rfl))
set_option maxRecDepth 20000 in
theorem lk_383 : (Jvm.Cond.selects "DraftTree$PatternReader" ({ cls := "DraftTree$PatternReader", name := "readRange", desc := "(I)V" } : Jvm.MethodName) ({ cls := "DraftTree$PatternReader", name := "readRange", desc := "(I)V" } : Jvm.MethodName)) ∈ wk_tbl := List.mem_append_left _ (List.mem_of_getElem? (i := 383) (by rfl))
set_option maxRecDepth 20000 in
theorem lk_384 : (Jvm.Cond.code ({ cls := "DraftTree$Automaton", name := "takeOtherCodes", desc := "(I)V" } : Jvm.MethodName) prog_2_method_4_code (2 : Nat) (Option.none : Option Jvm.ClassFile.FieldType)) ∈ wk_tbl := List.mem_append_left _ (List.mem_of_getElem? (i := 384) (by rfl))
set_option maxRecDepth 20000 in
theorem lk_385 : (Jvm.Cond.methodLink "DraftTree$PatternReader" (107 : Nat) ({ cls := "DraftTree$Automaton", name := "takeOtherCodes", desc := "(I)V" } : Jvm.MethodName)) ∈ wk_tbl := List.mem_append_left _ (List.mem_of_getElem? (i := 385) (by rfl))
set_option maxRecDepth 20000 in
theorem lk_386 : (Jvm.Cond.instanceMethod ({ cls := "DraftTree$Automaton", name := "takeOtherCodes", desc := "(I)V" } : Jvm.MethodName)) ∈ wk_tbl := List.mem_append_left _ (List.mem_of_getElem? (i := 386) (by rfl))
set_option maxRecDepth 20000 in
theorem lk_387 : (Jvm.Cond.selects "DraftTree$Automaton" ({ cls := "DraftTree$Automaton", name := "takeOtherCodes", desc := "(I)V" } : Jvm.MethodName) ({ cls := "DraftTree$Automaton", name := "takeOtherCodes", desc := "(I)V" } : Jvm.MethodName)) ∈ wk_tbl := List.mem_append_left _ (List.mem_of_getElem? (i := 387) (by rfl))
set_option maxRecDepth 20000 in
theorem lk_388 : (Jvm.Cond.code ({ cls := "DraftTree$PatternReader", name := "readSet", desc := "()V" } : Jvm.MethodName) prog_3_method_10_code (5 : Nat) (Option.none : Option Jvm.ClassFile.FieldType)) ∈ wk_tbl := List.mem_append_left _ (List.mem_of_getElem? (i := 388) (by rfl))
set_option maxRecDepth 20000 in
theorem lk_389 : (Jvm.Cond.methodLink "DraftTree$PatternReader" (84 : Nat) ({ cls := "DraftTree$PatternReader", name := "readSet", desc := "()V" } : Jvm.MethodName)) ∈ wk_tbl := List.mem_append_left _ (List.mem_of_getElem? (i := 389) (by rfl))
set_option maxRecDepth 20000 in
theorem lk_390 : (Jvm.Cond.instanceMethod ({ cls := "DraftTree$PatternReader", name := "readSet", desc := "()V" } : Jvm.MethodName)) ∈ wk_tbl := List.mem_append_left _ (List.mem_of_getElem? (i := 390) (by rfl))
set_option maxRecDepth 20000 in
theorem lk_391 : (Jvm.Cond.selects "DraftTree$PatternReader" ({ cls := "DraftTree$PatternReader", name := "readSet", desc := "()V" } : Jvm.MethodName) ({ cls := "DraftTree$PatternReader", name := "readSet", desc := "()V" } : Jvm.MethodName)) ∈ wk_tbl := List.mem_append_left _ (List.mem_of_getElem? (i := 391) (by rfl))
set_option maxRecDepth 20000 in
theorem lk_392 : (Jvm.Cond.code ({ cls := "DraftTree$PatternReader", name := "readLiteral", desc := "(C)V" } : Jvm.MethodName) prog_3_method_8_code (3 : Nat) (Option.none : Option Jvm.ClassFile.FieldType)) ∈ wk_tbl := List.mem_append_left _ (List.mem_of_getElem? (i := 392) (by rfl))
set_option maxRecDepth 20000 in
theorem lk_393 : (Jvm.Cond.methodLink "DraftTree$PatternReader" (100 : Nat) ({ cls := "DraftTree$PatternReader", name := "readLiteral", desc := "(C)V" } : Jvm.MethodName)) ∈ wk_tbl := List.mem_append_left _ (List.mem_of_getElem? (i := 393) (by rfl))
set_option maxRecDepth 20000 in
theorem lk_394 : (Jvm.Cond.instanceMethod ({ cls := "DraftTree$PatternReader", name := "readLiteral", desc := "(C)V" } : Jvm.MethodName)) ∈ wk_tbl := List.mem_append_left _ (List.mem_of_getElem? (i := 394) (by rfl))
set_option maxRecDepth 20000 in
theorem lk_395 : (Jvm.Cond.selects "DraftTree$PatternReader" ({ cls := "DraftTree$PatternReader", name := "readLiteral", desc := "(C)V" } : Jvm.MethodName) ({ cls := "DraftTree$PatternReader", name := "readLiteral", desc := "(C)V" } : Jvm.MethodName)) ∈ wk_tbl := List.mem_append_left _ (List.mem_of_getElem? (i := 395) (by rfl))
set_option maxRecDepth 20000 in
theorem lk_396 : (Jvm.Cond.code ({ cls := "DraftTree$PatternReader", name := "readEscaped", desc := "()V" } : Jvm.MethodName) prog_3_method_9_code (1 : Nat) (Option.none : Option Jvm.ClassFile.FieldType)) ∈ wk_tbl := List.mem_append_left _ (List.mem_of_getElem? (i := 396) (by rfl))
set_option maxRecDepth 20000 in
theorem lk_397 : (Jvm.Cond.methodLink "DraftTree$PatternReader" (87 : Nat) ({ cls := "DraftTree$PatternReader", name := "readEscaped", desc := "()V" } : Jvm.MethodName)) ∈ wk_tbl := List.mem_append_left _ (List.mem_of_getElem? (i := 397) (by rfl))
set_option maxRecDepth 20000 in
theorem lk_398 : (Jvm.Cond.instanceMethod ({ cls := "DraftTree$PatternReader", name := "readEscaped", desc := "()V" } : Jvm.MethodName)) ∈ wk_tbl := List.mem_append_left _ (List.mem_of_getElem? (i := 398) (by rfl))
set_option maxRecDepth 20000 in
theorem lk_399 : (Jvm.Cond.selects "DraftTree$PatternReader" ({ cls := "DraftTree$PatternReader", name := "readEscaped", desc := "()V" } : Jvm.MethodName) ({ cls := "DraftTree$PatternReader", name := "readEscaped", desc := "()V" } : Jvm.MethodName)) ∈ wk_tbl := List.mem_append_left _ (List.mem_of_getElem? (i := 399) (by rfl))
set_option maxRecDepth 20000 in
theorem lk_400 : (Jvm.Cond.code ({ cls := "DraftTree$PatternReader", name := "openRow", desc := "()V" } : Jvm.MethodName) prog_3_method_15_code (2 : Nat) (Option.none : Option Jvm.ClassFile.FieldType)) ∈ wk_tbl := List.mem_append_left _ (List.mem_of_getElem? (i := 400) (by rfl))
set_option maxRecDepth 20000 in
theorem lk_401 : (Jvm.Cond.methodLink "DraftTree$PatternReader" (77 : Nat) ({ cls := "DraftTree$PatternReader", name := "openRow", desc := "()V" } : Jvm.MethodName)) ∈ wk_tbl := List.mem_append_left _ (List.mem_of_getElem? (i := 401) (by rfl))
set_option maxRecDepth 20000 in
theorem lk_402 : (Jvm.Cond.instanceMethod ({ cls := "DraftTree$PatternReader", name := "openRow", desc := "()V" } : Jvm.MethodName)) ∈ wk_tbl := List.mem_append_left _ (List.mem_of_getElem? (i := 402) (by rfl))
set_option maxRecDepth 20000 in
theorem lk_403 : (Jvm.Cond.selects "DraftTree$PatternReader" ({ cls := "DraftTree$PatternReader", name := "openRow", desc := "()V" } : Jvm.MethodName) ({ cls := "DraftTree$PatternReader", name := "openRow", desc := "()V" } : Jvm.MethodName)) ∈ wk_tbl := List.mem_append_left _ (List.mem_of_getElem? (i := 403) (by rfl))
set_option maxRecDepth 20000 in
theorem lk_404 : (Jvm.Cond.code ({ cls := "DraftTree$PatternReader", name := "readDot", desc := "()V" } : Jvm.MethodName) prog_3_method_7_code (2 : Nat) (Option.none : Option Jvm.ClassFile.FieldType)) ∈ wk_tbl := List.mem_append_left _ (List.mem_of_getElem? (i := 404) (by rfl))
set_option maxRecDepth 20000 in
theorem lk_405 : (Jvm.Cond.methodLink "DraftTree$PatternReader" (97 : Nat) ({ cls := "DraftTree$PatternReader", name := "readDot", desc := "()V" } : Jvm.MethodName)) ∈ wk_tbl := List.mem_append_left _ (List.mem_of_getElem? (i := 405) (by rfl))
set_option maxRecDepth 20000 in
theorem lk_406 : (Jvm.Cond.instanceMethod ({ cls := "DraftTree$PatternReader", name := "readDot", desc := "()V" } : Jvm.MethodName)) ∈ wk_tbl := List.mem_append_left _ (List.mem_of_getElem? (i := 406) (by rfl))
set_option maxRecDepth 20000 in
theorem lk_407 : (Jvm.Cond.selects "DraftTree$PatternReader" ({ cls := "DraftTree$PatternReader", name := "readDot", desc := "()V" } : Jvm.MethodName) ({ cls := "DraftTree$PatternReader", name := "readDot", desc := "()V" } : Jvm.MethodName)) ∈ wk_tbl := List.mem_append_left _ (List.mem_of_getElem? (i := 407) (by rfl))
set_option maxRecDepth 20000 in
theorem lk_408 : (Jvm.Cond.code ({ cls := "DraftTree$PatternReader", name := "readSingle", desc := "(C)V" } : Jvm.MethodName) prog_3_method_6_code (2 : Nat) (Option.none : Option Jvm.ClassFile.FieldType)) ∈ wk_tbl := List.mem_append_left _ (List.mem_of_getElem? (i := 408) (by rfl))
set_option maxRecDepth 20000 in
theorem lk_409 : (Jvm.Cond.methodLink "DraftTree$PatternReader" (90 : Nat) ({ cls := "DraftTree$PatternReader", name := "readSingle", desc := "(C)V" } : Jvm.MethodName)) ∈ wk_tbl := List.mem_append_left _ (List.mem_of_getElem? (i := 409) (by rfl))
set_option maxRecDepth 20000 in
theorem lk_410 : (Jvm.Cond.instanceMethod ({ cls := "DraftTree$PatternReader", name := "readSingle", desc := "(C)V" } : Jvm.MethodName)) ∈ wk_tbl := List.mem_append_left _ (List.mem_of_getElem? (i := 410) (by rfl))
set_option maxRecDepth 20000 in
theorem lk_411 : (Jvm.Cond.selects "DraftTree$PatternReader" ({ cls := "DraftTree$PatternReader", name := "readSingle", desc := "(C)V" } : Jvm.MethodName) ({ cls := "DraftTree$PatternReader", name := "readSingle", desc := "(C)V" } : Jvm.MethodName)) ∈ wk_tbl := List.mem_append_left _ (List.mem_of_getElem? (i := 411) (by rfl))
set_option maxRecDepth 20000 in
theorem lk_412 : (Jvm.Cond.code ({ cls := "DraftTree$PatternReader", name := "readNext", desc := "()V" } : Jvm.MethodName) prog_3_method_5_code (2 : Nat) (Option.none : Option Jvm.ClassFile.FieldType)) ∈ wk_tbl := List.mem_append_left _ (List.mem_of_getElem? (i := 412) (by rfl))
set_option maxRecDepth 20000 in
theorem lk_413 : (Jvm.Cond.methodLink "DraftTree$PatternReader" (53 : Nat) ({ cls := "DraftTree$PatternReader", name := "readNext", desc := "()V" } : Jvm.MethodName)) ∈ wk_tbl := List.mem_append_left _ (List.mem_of_getElem? (i := 413) (by rfl))
set_option maxRecDepth 20000 in
theorem lk_414 : (Jvm.Cond.instanceMethod ({ cls := "DraftTree$PatternReader", name := "readNext", desc := "()V" } : Jvm.MethodName)) ∈ wk_tbl := List.mem_append_left _ (List.mem_of_getElem? (i := 414) (by rfl))
set_option maxRecDepth 20000 in
theorem lk_415 : (Jvm.Cond.selects "DraftTree$PatternReader" ({ cls := "DraftTree$PatternReader", name := "readNext", desc := "()V" } : Jvm.MethodName) ({ cls := "DraftTree$PatternReader", name := "readNext", desc := "()V" } : Jvm.MethodName)) ∈ wk_tbl := List.mem_append_left _ (List.mem_of_getElem? (i := 415) (by rfl))
set_option maxRecDepth 20000 in
theorem lk_416 : (Jvm.Cond.fieldLink "DraftTree$PatternReader" (65 : Nat) "DraftTree$Automaton" "start" "I") ∈ wk_tbl := List.mem_append_left _ (List.mem_of_getElem? (i := 416) (by rfl))
set_option maxRecDepth 20000 in
theorem lk_417 : (Jvm.Cond.fieldLink "DraftTree$PatternReader" (68 : Nat) "DraftTree$Automaton" "goal" "I") ∈ wk_tbl := List.mem_append_left _ (List.mem_of_getElem? (i := 417) (by rfl))
set_option maxRecDepth 20000 in
theorem lk_418 : (Jvm.Cond.code ({ cls := "DraftTree$PatternReader", name := "finish", desc := "()V" } : Jvm.MethodName) prog_3_method_4_code (1 : Nat) (Option.none : Option Jvm.ClassFile.FieldType)) ∈ wk_tbl := List.mem_append_left _ (List.mem_of_getElem? (i := 418) (by rfl))
set_option maxRecDepth 20000 in
theorem lk_419 : (Jvm.Cond.methodLink "DraftTree$PatternReader" (56 : Nat) ({ cls := "DraftTree$PatternReader", name := "finish", desc := "()V" } : Jvm.MethodName)) ∈ wk_tbl := List.mem_append_left _ (List.mem_of_getElem? (i := 419) (by rfl))
set_option maxRecDepth 20000 in
theorem lk_420 : (Jvm.Cond.instanceMethod ({ cls := "DraftTree$PatternReader", name := "finish", desc := "()V" } : Jvm.MethodName)) ∈ wk_tbl := List.mem_append_left _ (List.mem_of_getElem? (i := 420) (by rfl))
set_option maxRecDepth 20000 in
theorem lk_421 : (Jvm.Cond.selects "DraftTree$PatternReader" ({ cls := "DraftTree$PatternReader", name := "finish", desc := "()V" } : Jvm.MethodName) ({ cls := "DraftTree$PatternReader", name := "finish", desc := "()V" } : Jvm.MethodName)) ∈ wk_tbl := List.mem_append_left _ (List.mem_of_getElem? (i := 421) (by rfl))
set_option maxRecDepth 20000 in
theorem lk_422 : (Jvm.Cond.code ({ cls := "DraftTree$PatternReader", name := "read", desc := "([CI)I" } : Jvm.MethodName) prog_3_method_3_code (4 : Nat) (Option.some Jvm.ClassFile.FieldType.int)) ∈ wk_tbl := List.mem_append_left _ (List.mem_of_getElem? (i := 422) (by rfl))
set_option maxRecDepth 20000 in
theorem lk_423 : (Jvm.Cond.methodLink "DraftTree" (92 : Nat) ({ cls := "DraftTree$PatternReader", name := "read", desc := "([CI)I" } : Jvm.MethodName)) ∈ wk_tbl := List.mem_append_left _ (List.mem_of_getElem? (i := 423) (by rfl))
set_option maxRecDepth 20000 in
theorem lk_424 : (Jvm.Cond.instanceMethod ({ cls := "DraftTree$PatternReader", name := "read", desc := "([CI)I" } : Jvm.MethodName)) ∈ wk_tbl := List.mem_append_left _ (List.mem_of_getElem? (i := 424) (by rfl))
set_option maxRecDepth 20000 in
theorem lk_425 : (Jvm.Cond.selects "DraftTree$PatternReader" ({ cls := "DraftTree$PatternReader", name := "read", desc := "([CI)I" } : Jvm.MethodName) ({ cls := "DraftTree$PatternReader", name := "read", desc := "([CI)I" } : Jvm.MethodName)) ∈ wk_tbl := List.mem_append_left _ (List.mem_of_getElem? (i := 425) (by rfl))
set_option maxRecDepth 20000 in
theorem lk_426 : (Jvm.Cond.fieldLink "DraftTree" (46 : Nat) "DraftTree" "latestFault" "I") ∈ wk_tbl := List.mem_append_left _ (List.mem_of_getElem? (i := 426) (by rfl))
set_option maxRecDepth 20000 in
theorem lk_427 : (Jvm.Cond.code ({ cls := "DraftTree$PatternReader", name := "handOver", desc := "(LDraftTree$Automaton;)LDraftTree$Automaton;" } : Jvm.MethodName) prog_3_method_2_code (3 : Nat) (Option.some (Jvm.ClassFile.FieldType.object "DraftTree$Automaton"))) ∈ wk_tbl := List.mem_append_left _ (List.mem_of_getElem? (i := 427) (by rfl))
set_option maxRecDepth 20000 in
theorem lk_428 : (Jvm.Cond.methodLink "DraftTree" (99 : Nat) ({ cls := "DraftTree$PatternReader", name := "handOver", desc := "(LDraftTree$Automaton;)LDraftTree$Automaton;" } : Jvm.MethodName)) ∈ wk_tbl := List.mem_append_left _ (List.mem_of_getElem? (i := 428) (by rfl))
set_option maxRecDepth 20000 in
theorem lk_429 : (Jvm.Cond.instanceMethod ({ cls := "DraftTree$PatternReader", name := "handOver", desc := "(LDraftTree$Automaton;)LDraftTree$Automaton;" } : Jvm.MethodName)) ∈ wk_tbl := List.mem_append_left _ (List.mem_of_getElem? (i := 429) (by rfl))
set_option maxRecDepth 20000 in
theorem lk_430 : (Jvm.Cond.selects "DraftTree$PatternReader" ({ cls := "DraftTree$PatternReader", name := "handOver", desc := "(LDraftTree$Automaton;)LDraftTree$Automaton;" } : Jvm.MethodName) ({ cls := "DraftTree$PatternReader", name := "handOver", desc := "(LDraftTree$Automaton;)LDraftTree$Automaton;" } : Jvm.MethodName)) ∈ wk_tbl := List.mem_append_left _ (List.mem_of_getElem? (i := 430) (by rfl))
set_option maxRecDepth 20000 in
theorem lk_431 : (Jvm.Cond.fieldLink "DraftTree" (103 : Nat) "DraftTree" "hasPattern" "Z") ∈ wk_tbl := List.mem_append_left _ (List.mem_of_getElem? (i := 431) (by rfl))
set_option maxRecDepth 20000 in
theorem lk_432 : (Jvm.Cond.classLink "DraftTree" (96 : Nat) "java/lang/IllegalArgumentException") ∈ wk_tbl := List.mem_append_left _ (List.mem_of_getElem? (i := 432) (by rfl))
set_option maxRecDepth 20000 in
theorem lk_433 : (Jvm.Cond.initialized "java/lang/IllegalArgumentException") ∈ wk_tbl := List.mem_append_left _ (List.mem_of_getElem? (i := 433) (by rfl))
set_option maxRecDepth 20000 in
theorem lk_434 : (Jvm.Cond.code ({ cls := "DraftTree", name := "compile", desc := "()V" } : Jvm.MethodName) prog_1_method_7_code (1 : Nat) (Option.none : Option Jvm.ClassFile.FieldType)) ∈ wk_tbl := List.mem_append_left _ (List.mem_of_getElem? (i := 434) (by rfl))
set_option maxRecDepth 20000 in
theorem lk_435 : (Jvm.Cond.code ({ cls := "DraftTree", name := "fault", desc := "()I" } : Jvm.MethodName) prog_1_method_8_code (1 : Nat) (Option.some Jvm.ClassFile.FieldType.int)) ∈ wk_tbl := List.mem_append_left _ (List.mem_of_getElem? (i := 435) (by rfl))
set_option maxRecDepth 20000 in
theorem lk_436 : (Jvm.Cond.fieldLink "DraftTree" (73 : Nat) "DraftTree" "present" "I") ∈ wk_tbl := List.mem_append_left _ (List.mem_of_getElem? (i := 436) (by rfl))
set_option maxRecDepth 20000 in
theorem lk_437 : (Jvm.Cond.fieldLink "DraftTree" (25 : Nat) "DraftTree" "stateCount" "I") ∈ wk_tbl := List.mem_append_left _ (List.mem_of_getElem? (i := 437) (by rfl))
set_option maxRecDepth 20000 in
theorem lk_438 : (Jvm.Cond.fieldLink "DraftTree" (76 : Nat) "DraftTree" "cursor" "I") ∈ wk_tbl := List.mem_append_left _ (List.mem_of_getElem? (i := 438) (by rfl))
set_option maxRecDepth 20000 in
theorem lk_439 : (Jvm.Cond.fieldLink "DraftTree" (29 : Nat) "DraftTree" "mark" "I") ∈ wk_tbl := List.mem_append_left _ (List.mem_of_getElem? (i := 439) (by rfl))
set_option maxRecDepth 20000 in
theorem lk_440 : (Jvm.Cond.code ({ cls := "DraftTree", name := "figure", desc := "(I)I" } : Jvm.MethodName) prog_1_method_17_code (2 : Nat) (Option.some Jvm.ClassFile.FieldType.int)) ∈ wk_tbl := List.mem_append_left _ (List.mem_of_getElem? (i := 440) (by rfl))
set_option maxRecDepth 20000 in
theorem lk_441 : (Jvm.Cond.code ({ cls := "DraftTree", name := "requirePlace", desc := "(I)V" } : Jvm.MethodName) prog_1_method_19_code (2 : Nat) (Option.none : Option Jvm.ClassFile.FieldType)) ∈ wk_tbl := List.mem_append_left _ (List.mem_of_getElem? (i := 441) (by rfl))
set_option maxRecDepth 20000 in
theorem lk_442 : (Jvm.Cond.methodLink "DraftTree" (88 : Nat) ({ cls := "DraftTree", name := "requirePlace", desc := "(I)V" } : Jvm.MethodName)) ∈ wk_tbl := List.mem_append_left _ (List.mem_of_getElem? (i := 442) (by rfl))
set_option maxRecDepth 20000 in
theorem lk_443 : (Jvm.Cond.instanceMethod ({ cls := "DraftTree", name := "requirePlace", desc := "(I)V" } : Jvm.MethodName)) ∈ wk_tbl := List.mem_append_left _ (List.mem_of_getElem? (i := 443) (by rfl))
set_option maxRecDepth 20000 in
theorem lk_444 : (Jvm.Cond.selects "DraftTree" ({ cls := "DraftTree", name := "requirePlace", desc := "(I)V" } : Jvm.MethodName) ({ cls := "DraftTree", name := "requirePlace", desc := "(I)V" } : Jvm.MethodName)) ∈ wk_tbl := List.mem_append_left _ (List.mem_of_getElem? (i := 444) (by rfl))
set_option maxRecDepth 20000 in
theorem lk_445 : (Jvm.Cond.initialized "DraftTree") ∈ wk_tbl := List.mem_append_left _ (List.mem_of_getElem? (i := 445) (by rfl))
set_option maxRecDepth 20000 in
theorem lk_446 : (Jvm.Cond.classLink "DraftTree" (66 : Nat) "java/lang/IllegalStateException") ∈ wk_tbl := List.mem_append_left _ (List.mem_of_getElem? (i := 446) (by rfl))
set_option maxRecDepth 20000 in
theorem lk_447 : (Jvm.Cond.initialized "java/lang/IllegalStateException") ∈ wk_tbl := List.mem_append_left _ (List.mem_of_getElem? (i := 447) (by rfl))
set_option maxRecDepth 20000 in
theorem lk_448 : (Jvm.Cond.classLink "DraftTree" (111 : Nat) "java/util/NoSuchElementException") ∈ wk_tbl := List.mem_append_left _ (List.mem_of_getElem? (i := 448) (by rfl))
set_option maxRecDepth 20000 in
theorem lk_449 : (Jvm.Cond.initialized "java/util/NoSuchElementException") ∈ wk_tbl := List.mem_append_left _ (List.mem_of_getElem? (i := 449) (by rfl))
set_option maxRecDepth 20000 in
theorem lk_450 : (Jvm.Cond.code ({ cls := "DraftTree", name := "find", desc := "(I)I" } : Jvm.MethodName) prog_1_method_9_code (2 : Nat) (Option.some Jvm.ClassFile.FieldType.int)) ∈ wk_tbl := List.mem_append_left _ (List.mem_of_getElem? (i := 450) (by rfl))
set_option maxRecDepth 20000 in
theorem lk_451 : (Jvm.Cond.code ({ cls := "DraftTree", name := "go", desc := "(IZ)V" } : Jvm.MethodName) prog_1_method_6_code (3 : Nat) (Option.none : Option Jvm.ClassFile.FieldType)) ∈ wk_tbl := List.mem_append_left _ (List.mem_of_getElem? (i := 451) (by rfl))
set_option maxRecDepth 20000 in
theorem lk_452 : (Jvm.Cond.code ({ cls := "DraftTree", name := "requireState", desc := "(I)V" } : Jvm.MethodName) prog_1_method_20_code (2 : Nat) (Option.none : Option Jvm.ClassFile.FieldType)) ∈ wk_tbl := List.mem_append_left _ (List.mem_of_getElem? (i := 452) (by rfl))
set_option maxRecDepth 20000 in
theorem lk_453 : (Jvm.Cond.methodLink "DraftTree" (140 : Nat) ({ cls := "DraftTree", name := "requireState", desc := "(I)V" } : Jvm.MethodName)) ∈ wk_tbl := List.mem_append_left _ (List.mem_of_getElem? (i := 453) (by rfl))
set_option maxRecDepth 20000 in
theorem lk_454 : (Jvm.Cond.instanceMethod ({ cls := "DraftTree", name := "requireState", desc := "(I)V" } : Jvm.MethodName)) ∈ wk_tbl := List.mem_append_left _ (List.mem_of_getElem? (i := 454) (by rfl))
set_option maxRecDepth 20000 in
theorem lk_455 : (Jvm.Cond.selects "DraftTree" ({ cls := "DraftTree", name := "requireState", desc := "(I)V" } : Jvm.MethodName) ({ cls := "DraftTree", name := "requireState", desc := "(I)V" } : Jvm.MethodName)) ∈ wk_tbl := List.mem_append_left _ (List.mem_of_getElem? (i := 455) (by rfl))
set_option maxRecDepth 20000 in
theorem lk_456 : (Jvm.Cond.fieldLink "DraftTree" (15 : Nat) "DraftTree" "states" "[LDraftTree$State;") ∈ wk_tbl := List.mem_append_left _ (List.mem_of_getElem? (i := 456) (by rfl))
set_option maxRecDepth 20000 in
theorem lk_457 : (Jvm.Cond.laysFinal "DraftTree$State" "DraftTree$State" "text" "[C") ∈ wk_tbl := List.mem_append_left _ (List.mem_of_getElem? (i := 457) (by rfl))
set_option maxRecDepth 20000 in
theorem lk_458 : (Jvm.Cond.laysFinal "DraftTree$State" "DraftTree$State" "origin" "I") ∈ wk_tbl := List.mem_append_left _ (List.mem_of_getElem? (i := 458) (by rfl))
set_option maxRecDepth 20000 in
theorem lk_459 : (Jvm.Cond.lays "DraftTree$State" "DraftTree$State" "place" "I") ∈ wk_tbl := List.mem_append_left _ (List.mem_of_getElem? (i := 459) (by rfl))
set_option maxRecDepth 20000 in
theorem lk_460 : (Jvm.Cond.lays "DraftTree$State" "DraftTree$State" "latestChild" "I") ∈ wk_tbl := List.mem_append_left _ (List.mem_of_getElem? (i := 460) (by rfl))
set_option maxRecDepth 20000 in
theorem lk_461 : (Jvm.Cond.fieldLink "DraftTree" (155 : Nat) "DraftTree$State" "place" "I") ∈ wk_tbl := List.mem_append_left _ (List.mem_of_getElem? (i := 461) (by rfl))
set_option maxRecDepth 20000 in
theorem lk_462 : (Jvm.Cond.fieldLink "DraftTree" (158 : Nat) "DraftTree$State" "text" "[C") ∈ wk_tbl := List.mem_append_left _ (List.mem_of_getElem? (i := 462) (by rfl))
set_option maxRecDepth 20000 in
theorem lk_463 : (Jvm.Cond.fieldLink "DraftTree" (131 : Nat) "DraftTree$State" "origin" "I") ∈ wk_tbl := List.mem_append_left _ (List.mem_of_getElem? (i := 463) (by rfl))
set_option maxRecDepth 20000 in
theorem lk_464 : (Jvm.Cond.fieldLink "DraftTree" (137 : Nat) "DraftTree$State" "latestChild" "I") ∈ wk_tbl := List.mem_append_left _ (List.mem_of_getElem? (i := 464) (by rfl))
set_option maxRecDepth 20000 in
theorem lk_465 : (Jvm.Cond.code ({ cls := "DraftTree", name := "moveTo", desc := "(I)V" } : Jvm.MethodName) prog_1_method_23_code (3 : Nat) (Option.none : Option Jvm.ClassFile.FieldType)) ∈ wk_tbl := List.mem_append_left _ (List.mem_of_getElem? (i := 465) (by rfl))
set_option maxRecDepth 20000 in
theorem lk_466 : (Jvm.Cond.methodLink "DraftTree" (134 : Nat) ({ cls := "DraftTree", name := "moveTo", desc := "(I)V" } : Jvm.MethodName)) ∈ wk_tbl := List.mem_append_left _ (List.mem_of_getElem? (i := 466) (by rfl))
set_option maxRecDepth 20000 in
theorem lk_467 : (Jvm.Cond.instanceMethod ({ cls := "DraftTree", name := "moveTo", desc := "(I)V" } : Jvm.MethodName)) ∈ wk_tbl := List.mem_append_left _ (List.mem_of_getElem? (i := 467) (by rfl))
set_option maxRecDepth 20000 in
theorem lk_468 : (Jvm.Cond.selects "DraftTree" ({ cls := "DraftTree", name := "moveTo", desc := "(I)V" } : Jvm.MethodName) ({ cls := "DraftTree", name := "moveTo", desc := "(I)V" } : Jvm.MethodName)) ∈ wk_tbl := List.mem_append_left _ (List.mem_of_getElem? (i := 468) (by rfl))
set_option maxRecDepth 20000 in
theorem lk_469 : (Jvm.Cond.code ({ cls := "DraftTree", name := "jump", desc := "(I)V" } : Jvm.MethodName) prog_1_method_13_code (2 : Nat) (Option.none : Option Jvm.ClassFile.FieldType)) ∈ wk_tbl := List.mem_append_left _ (List.mem_of_getElem? (i := 469) (by rfl))
set_option maxRecDepth 20000 in
theorem lk_470 : (Jvm.Cond.code ({ cls := "DraftTree", name := "length", desc := "()I" } : Jvm.MethodName) prog_1_method_14_code (1 : Nat) (Option.some Jvm.ClassFile.FieldType.int)) ∈ wk_tbl := List.mem_append_left _ (List.mem_of_getElem? (i := 470) (by rfl))
set_option maxRecDepth 20000 in
theorem lk_471 : (Jvm.Cond.methodLink "DraftTree" (146 : Nat) ({ cls := "DraftTree", name := "breaksBefore", desc := "(I)I" } : Jvm.MethodName)) ∈ wk_tbl := List.mem_append_left _ (List.mem_of_getElem? (i := 471) (by rfl))
set_option maxRecDepth 20000 in
theorem lk_472 : (Jvm.Cond.instanceMethod ({ cls := "DraftTree", name := "breaksBefore", desc := "(I)I" } : Jvm.MethodName)) ∈ wk_tbl := List.mem_append_left _ (List.mem_of_getElem? (i := 472) (by rfl))
set_option maxRecDepth 20000 in
theorem lk_473 : (Jvm.Cond.selects "DraftTree" ({ cls := "DraftTree", name := "breaksBefore", desc := "(I)I" } : Jvm.MethodName) ({ cls := "DraftTree", name := "breaksBefore", desc := "(I)I" } : Jvm.MethodName)) ∈ wk_tbl := List.mem_append_left _ (List.mem_of_getElem? (i := 473) (by rfl))
set_option maxRecDepth 20000 in
theorem lk_474 : (Jvm.Cond.code ({ cls := "DraftTree", name := "lineBegin", desc := "(I)I" } : Jvm.MethodName) prog_1_method_30_code (4 : Nat) (Option.some Jvm.ClassFile.FieldType.int)) ∈ wk_tbl := List.mem_append_left _ (List.mem_of_getElem? (i := 474) (by rfl))
set_option maxRecDepth 20000 in
theorem lk_475 : (Jvm.Cond.methodLink "DraftTree" (149 : Nat) ({ cls := "DraftTree", name := "lineBegin", desc := "(I)I" } : Jvm.MethodName)) ∈ wk_tbl := List.mem_append_left _ (List.mem_of_getElem? (i := 475) (by rfl))
set_option maxRecDepth 20000 in
theorem lk_476 : (Jvm.Cond.instanceMethod ({ cls := "DraftTree", name := "lineBegin", desc := "(I)I" } : Jvm.MethodName)) ∈ wk_tbl := List.mem_append_left _ (List.mem_of_getElem? (i := 476) (by rfl))
set_option maxRecDepth 20000 in
theorem lk_477 : (Jvm.Cond.selects "DraftTree" ({ cls := "DraftTree", name := "lineBegin", desc := "(I)I" } : Jvm.MethodName) ({ cls := "DraftTree", name := "lineBegin", desc := "(I)I" } : Jvm.MethodName)) ∈ wk_tbl := List.mem_append_left _ (List.mem_of_getElem? (i := 477) (by rfl))
set_option maxRecDepth 20000 in
theorem lk_478 : (Jvm.Cond.code ({ cls := "DraftTree", name := "lineSize", desc := "(I)I" } : Jvm.MethodName) prog_1_method_31_code (4 : Nat) (Option.some Jvm.ClassFile.FieldType.int)) ∈ wk_tbl := List.mem_append_left _ (List.mem_of_getElem? (i := 478) (by rfl))
set_option maxRecDepth 20000 in
theorem lk_479 : (Jvm.Cond.methodLink "DraftTree" (152 : Nat) ({ cls := "DraftTree", name := "lineSize", desc := "(I)I" } : Jvm.MethodName)) ∈ wk_tbl := List.mem_append_left _ (List.mem_of_getElem? (i := 479) (by rfl))
set_option maxRecDepth 20000 in
theorem lk_480 : (Jvm.Cond.instanceMethod ({ cls := "DraftTree", name := "lineSize", desc := "(I)I" } : Jvm.MethodName)) ∈ wk_tbl := List.mem_append_left _ (List.mem_of_getElem? (i := 480) (by rfl))
set_option maxRecDepth 20000 in
theorem lk_481 : (Jvm.Cond.selects "DraftTree" ({ cls := "DraftTree", name := "lineSize", desc := "(I)I" } : Jvm.MethodName) ({ cls := "DraftTree", name := "lineSize", desc := "(I)I" } : Jvm.MethodName)) ∈ wk_tbl := List.mem_append_left _ (List.mem_of_getElem? (i := 481) (by rfl))
set_option maxRecDepth 20000 in
theorem lk_482 : (Jvm.Cond.code ({ cls := "DraftTree", name := "line", desc := "(II)I" } : Jvm.MethodName) prog_1_method_16_code (3 : Nat) (Option.some Jvm.ClassFile.FieldType.int)) ∈ wk_tbl := List.mem_append_left _ (List.mem_of_getElem? (i := 482) (by rfl))
set_option maxRecDepth 20000 in
theorem lk_483 : (Jvm.Cond.code ({ cls := "DraftTree", name := "parent", desc := "(I)I" } : Jvm.MethodName) prog_1_method_18_code (2 : Nat) (Option.some Jvm.ClassFile.FieldType.int)) ∈ wk_tbl := List.mem_append_left _ (List.mem_of_getElem? (i := 483) (by rfl))
set_option maxRecDepth 20000 in
theorem lk_484 : (Jvm.Cond.code ({ cls := "DraftTree", name := "redo", desc := "()I" } : Jvm.MethodName) prog_1_method_12_code (2 : Nat) (Option.some Jvm.ClassFile.FieldType.int)) ∈ wk_tbl := List.mem_append_left _ (List.mem_of_getElem? (i := 484) (by rfl))
set_option maxRecDepth 20000 in
theorem lk_485 : (Jvm.Cond.methodLink "DraftTree" (79 : Nat) ({ cls := "java/lang/Math", name := "max", desc := "(II)I" } : Jvm.MethodName)) ∈ wk_tbl := List.mem_append_left _ (List.mem_of_getElem? (i := 485) (by rfl))
set_option maxRecDepth 20000 in
theorem lk_486 : (Jvm.Cond.static ({ cls := "java/lang/Math", name := "max", desc := "(II)I" } : Jvm.MethodName)) ∈ wk_tbl := List.mem_append_left _ (List.mem_of_getElem? (i := 486) (by rfl))
set_option maxRecDepth 20000 in
theorem lk_487 : (Jvm.Cond.initialized "java/lang/Math") ∈ wk_tbl := List.mem_append_left _ (List.mem_of_getElem? (i := 487) (by rfl))
set_option maxRecDepth 20000 in
theorem lk_488 : (Jvm.Cond.code ({ cls := "java/lang/Math", name := "max", desc := "(II)I" } : Jvm.MethodName) prog_13_method_65_code (2 : Nat) (Option.some Jvm.ClassFile.FieldType.int)) ∈ wk_tbl := List.mem_append_left _ (List.mem_of_getElem? (i := 488) (by rfl))
set_option maxRecDepth 20000 in
theorem lk_489 : (Jvm.Cond.code ({ cls := "DraftTree", name := "selectionEnd", desc := "()I" } : Jvm.MethodName) prog_1_method_22_code (1 : Nat) (Option.some Jvm.ClassFile.FieldType.int)) ∈ wk_tbl := List.mem_append_left _ (List.mem_of_getElem? (i := 489) (by rfl))
set_option maxRecDepth 20000 in
theorem lk_490 : (Jvm.Cond.methodLink "DraftTree" (85 : Nat) ({ cls := "java/lang/Math", name := "min", desc := "(II)I" } : Jvm.MethodName)) ∈ wk_tbl := List.mem_append_left _ (List.mem_of_getElem? (i := 490) (by rfl))
set_option maxRecDepth 20000 in
theorem lk_491 : (Jvm.Cond.static ({ cls := "java/lang/Math", name := "min", desc := "(II)I" } : Jvm.MethodName)) ∈ wk_tbl := List.mem_append_left _ (List.mem_of_getElem? (i := 491) (by rfl))
set_option maxRecDepth 20000 in
theorem lk_492 : (Jvm.Cond.code ({ cls := "java/lang/Math", name := "min", desc := "(II)I" } : Jvm.MethodName) prog_13_method_69_code (2 : Nat) (Option.some Jvm.ClassFile.FieldType.int)) ∈ wk_tbl := List.mem_append_left _ (List.mem_of_getElem? (i := 492) (by rfl))
set_option maxRecDepth 20000 in
theorem lk_493 : (Jvm.Cond.code ({ cls := "DraftTree", name := "selectionStart", desc := "()I" } : Jvm.MethodName) prog_1_method_21_code (1 : Nat) (Option.some Jvm.ClassFile.FieldType.int)) ∈ wk_tbl := List.mem_append_left _ (List.mem_of_getElem? (i := 493) (by rfl))
set_option maxRecDepth 20000 in
theorem lk_494 : (Jvm.Cond.code ({ cls := "DraftTree", name := "sizeWithSlipIn", desc := "(I)I" } : Jvm.MethodName) prog_1_method_27_code (4 : Nat) (Option.some Jvm.ClassFile.FieldType.int)) ∈ wk_tbl := List.mem_append_left _ (List.mem_of_getElem? (i := 494) (by rfl))
set_option maxRecDepth 20000 in
theorem lk_495 : (Jvm.Cond.code ({ cls := "DraftTree", name := "type", desc := "(C)Z" } : Jvm.MethodName) prog_1_method_2_code (3 : Nat) (Option.some Jvm.ClassFile.FieldType.boolean)) ∈ wk_tbl := List.mem_append_left _ (List.mem_of_getElem? (i := 495) (by rfl))
set_option maxRecDepth 20000 in
theorem lk_496 : (Jvm.Cond.code ({ cls := "DraftTree", name := "undo", desc := "()I" } : Jvm.MethodName) prog_1_method_11_code (2 : Nat) (Option.some Jvm.ClassFile.FieldType.int)) ∈ wk_tbl := List.mem_append_left _ (List.mem_of_getElem? (i := 496) (by rfl))
set_option maxRecDepth 20000 in
theorem lk_497 : (Jvm.Cond.code ({ cls := "DraftTree", name := "wipe", desc := "()I" } : Jvm.MethodName) prog_1_method_3_code (2 : Nat) (Option.some Jvm.ClassFile.FieldType.int)) ∈ wk_tbl := List.mem_append_left _ (List.mem_of_getElem? (i := 497) (by rfl))
set_option maxRecDepth 20000 in
theorem lk_498 : (Jvm.Cond.methodLink "DraftTree$State" (3 : Nat) ({ cls := "java/lang/Object", name := "<init>", desc := "()V" } : Jvm.MethodName)) ∈ wk_tbl := List.mem_append_left _ (List.mem_of_getElem? (i := 498) (by rfl))
set_option maxRecDepth 20000 in
theorem lk_499 : (Jvm.Cond.instanceMethod ({ cls := "java/lang/Object", name := "<init>", desc := "()V" } : Jvm.MethodName)) ∈ wk_tbl := List.mem_append_left _ (List.mem_of_getElem? (i := 499) (by rfl))
set_option maxRecDepth 20000 in
theorem lk_500 : (Jvm.Cond.code ({ cls := "java/lang/Object", name := "<init>", desc := "()V" } : Jvm.MethodName) object_method_1_code (1 : Nat) (Option.none : Option Jvm.ClassFile.FieldType)) ∈ wk_tbl := List.mem_append_left _ (List.mem_of_getElem? (i := 500) (by rfl))
set_option maxRecDepth 20000 in
theorem lk_501 : (Jvm.Cond.fieldLink "DraftTree$State" (9 : Nat) "DraftTree$State" "text" "[C") ∈ wk_tbl := List.mem_append_left _ (List.mem_of_getElem? (i := 501) (by rfl))
set_option maxRecDepth 20000 in
theorem lk_502 : (Jvm.Cond.fieldLink "DraftTree$State" (15 : Nat) "DraftTree$State" "place" "I") ∈ wk_tbl := List.mem_append_left _ (List.mem_of_getElem? (i := 502) (by rfl))
set_option maxRecDepth 20000 in
theorem lk_503 : (Jvm.Cond.fieldLink "DraftTree$State" (19 : Nat) "DraftTree$State" "origin" "I") ∈ wk_tbl := List.mem_append_left _ (List.mem_of_getElem? (i := 503) (by rfl))
set_option maxRecDepth 20000 in
theorem lk_504 : (Jvm.Cond.fieldLink "DraftTree$State" (22 : Nat) "DraftTree$State" "latestChild" "I") ∈ wk_tbl := List.mem_append_left _ (List.mem_of_getElem? (i := 504) (by rfl))
set_option maxRecDepth 20000 in
theorem lk_505 : (Jvm.Cond.code ({ cls := "DraftTree$State", name := "<init>", desc := "([CII)V" } : Jvm.MethodName) prog_4_method_1_code (4 : Nat) (Option.none : Option Jvm.ClassFile.FieldType)) ∈ wk_tbl := List.mem_append_left _ (List.mem_of_getElem? (i := 505) (by rfl))
set_option maxRecDepth 20000 in
theorem lk_506 : (Jvm.Cond.code ({ cls := "DraftTree", name := "erase", desc := "(I)I" } : Jvm.MethodName) prog_1_method_5_code (4 : Nat) (Option.some Jvm.ClassFile.FieldType.int)) ∈ wk_tbl := List.mem_append_left _ (List.mem_of_getElem? (i := 506) (by rfl))
set_option maxRecDepth 20000 in
theorem lk_507 : (Jvm.Cond.methodLink "DraftTree" (59 : Nat) ({ cls := "DraftTree", name := "selectionStart", desc := "()I" } : Jvm.MethodName)) ∈ wk_tbl := List.mem_append_left _ (List.mem_of_getElem? (i := 507) (by rfl))
set_option maxRecDepth 20000 in
theorem lk_508 : (Jvm.Cond.instanceMethod ({ cls := "DraftTree", name := "selectionStart", desc := "()I" } : Jvm.MethodName)) ∈ wk_tbl := List.mem_append_left _ (List.mem_of_getElem? (i := 508) (by rfl))
set_option maxRecDepth 20000 in
theorem lk_509 : (Jvm.Cond.selects "DraftTree" ({ cls := "DraftTree", name := "selectionStart", desc := "()I" } : Jvm.MethodName) ({ cls := "DraftTree", name := "selectionStart", desc := "()I" } : Jvm.MethodName)) ∈ wk_tbl := List.mem_append_left _ (List.mem_of_getElem? (i := 509) (by rfl))
set_option maxRecDepth 20000 in
theorem lk_510 : (Jvm.Cond.methodLink "DraftTree" (63 : Nat) ({ cls := "DraftTree", name := "selectionEnd", desc := "()I" } : Jvm.MethodName)) ∈ wk_tbl := List.mem_append_left _ (List.mem_of_getElem? (i := 510) (by rfl))
set_option maxRecDepth 20000 in
theorem lk_511 : (Jvm.Cond.instanceMethod ({ cls := "DraftTree", name := "selectionEnd", desc := "()I" } : Jvm.MethodName)) ∈ wk_tbl := List.mem_append_left _ (List.mem_of_getElem? (i := 511) (by rfl))
set_option maxRecDepth 20000 in
theorem lk_512 : (Jvm.Cond.selects "DraftTree" ({ cls := "DraftTree", name := "selectionEnd", desc := "()I" } : Jvm.MethodName) ({ cls := "DraftTree", name := "selectionEnd", desc := "()I" } : Jvm.MethodName)) ∈ wk_tbl := List.mem_append_left _ (List.mem_of_getElem? (i := 512) (by rfl))
set_option maxRecDepth 20000 in
theorem lk_513 : (Jvm.Cond.code ({ cls := "DraftTree", name := "exchange", desc := "(III)V" } : Jvm.MethodName) prog_1_method_25_code (5 : Nat) (Option.none : Option Jvm.ClassFile.FieldType)) ∈ wk_tbl := List.mem_append_left _ (List.mem_of_getElem? (i := 513) (by rfl))
set_option maxRecDepth 20000 in
theorem lk_514 : (Jvm.Cond.methodLink "DraftTree" (69 : Nat) ({ cls := "DraftTree", name := "exchange", desc := "(III)V" } : Jvm.MethodName)) ∈ wk_tbl := List.mem_append_left _ (List.mem_of_getElem? (i := 514) (by rfl))
set_option maxRecDepth 20000 in
theorem lk_515 : (Jvm.Cond.instanceMethod ({ cls := "DraftTree", name := "exchange", desc := "(III)V" } : Jvm.MethodName)) ∈ wk_tbl := List.mem_append_left _ (List.mem_of_getElem? (i := 515) (by rfl))
set_option maxRecDepth 20000 in
theorem lk_516 : (Jvm.Cond.selects "DraftTree" ({ cls := "DraftTree", name := "exchange", desc := "(III)V" } : Jvm.MethodName) ({ cls := "DraftTree", name := "exchange", desc := "(III)V" } : Jvm.MethodName)) ∈ wk_tbl := List.mem_append_left _ (List.mem_of_getElem? (i := 516) (by rfl))
set_option maxRecDepth 20000 in
theorem lk_517 : (Jvm.Cond.arrayClass Jvm.ClassFile.FieldType.char) ∈ wk_tbl := List.mem_append_left _ (List.mem_of_getElem? (i := 517) (by rfl))
set_option maxRecDepth 20000 in
theorem lk_518 : (Jvm.Cond.methodLink "DraftTree" (159 : Nat) ({ cls := "java/lang/System", name := "arraycopy", desc := "(Ljava/lang/Object;ILjava/lang/Object;II)V" } : Jvm.MethodName)) ∈ wk_tbl := List.mem_append_left _ (List.mem_of_getElem? (i := 518) (by rfl))
set_option maxRecDepth 20000 in
theorem lk_519 : (Jvm.Cond.static ({ cls := "java/lang/System", name := "arraycopy", desc := "(Ljava/lang/Object;ILjava/lang/Object;II)V" } : Jvm.MethodName)) ∈ wk_tbl := List.mem_append_left _ (List.mem_of_getElem? (i := 519) (by rfl))
set_option maxRecDepth 20000 in
theorem lk_520 : (Jvm.Cond.initialized "java/lang/System") ∈ wk_tbl := List.mem_append_left _ (List.mem_of_getElem? (i := 520) (by rfl))
set_option maxRecDepth 20000 in
theorem lk_521 : (Jvm.Cond.native ({ cls := "java/lang/System", name := "arraycopy", desc := "(Ljava/lang/Object;ILjava/lang/Object;II)V" } : Jvm.MethodName)) ∈ wk_tbl := List.mem_append_left _ (List.mem_of_getElem? (i := 521) (by rfl))
set_option maxRecDepth 20000 in
theorem lk_522 : (Jvm.Cond.code ({ cls := "DraftTree", name := "makeState", desc := "([CI)V" } : Jvm.MethodName) prog_1_method_24_code (4 : Nat) (Option.none : Option Jvm.ClassFile.FieldType)) ∈ wk_tbl := List.mem_append_left _ (List.mem_of_getElem? (i := 522) (by rfl))
set_option maxRecDepth 20000 in
theorem lk_523 : (Jvm.Cond.methodLink "DraftTree" (165 : Nat) ({ cls := "DraftTree", name := "makeState", desc := "([CI)V" } : Jvm.MethodName)) ∈ wk_tbl := List.mem_append_left _ (List.mem_of_getElem? (i := 523) (by rfl))
set_option maxRecDepth 20000 in
theorem lk_524 : (Jvm.Cond.instanceMethod ({ cls := "DraftTree", name := "makeState", desc := "([CI)V" } : Jvm.MethodName)) ∈ wk_tbl := List.mem_append_left _ (List.mem_of_getElem? (i := 524) (by rfl))
set_option maxRecDepth 20000 in
theorem lk_525 : (Jvm.Cond.selects "DraftTree" ({ cls := "DraftTree", name := "makeState", desc := "([CI)V" } : Jvm.MethodName) ({ cls := "DraftTree", name := "makeState", desc := "([CI)V" } : Jvm.MethodName)) ∈ wk_tbl := List.mem_append_left _ (List.mem_of_getElem? (i := 525) (by rfl))
set_option maxRecDepth 20000 in
theorem lk_526 : (Jvm.Cond.code ({ cls := "DraftTree", name := "insert", desc := "()I" } : Jvm.MethodName) prog_1_method_4_code (3 : Nat) (Option.some Jvm.ClassFile.FieldType.int)) ∈ wk_tbl := List.mem_append_left _ (List.mem_of_getElem? (i := 526) (by rfl))
set_option maxRecDepth 20000 in
theorem lk_527 : (Jvm.Cond.classLink "DraftTree" (13 : Nat) "DraftTree$State") ∈ wk_tbl := List.mem_append_left _ (List.mem_of_getElem? (i := 527) (by rfl))
set_option maxRecDepth 20000 in
theorem lk_528 : (Jvm.Cond.initialized "DraftTree$State") ∈ wk_tbl := List.mem_append_left _ (List.mem_of_getElem? (i := 528) (by rfl))
set_option maxRecDepth 20000 in
theorem lk_529 : (Jvm.Cond.instantiable "DraftTree$State" (4 : Nat)) ∈ wk_tbl := List.mem_append_left _ (List.mem_of_getElem? (i := 529) (by rfl))
set_option maxRecDepth 20000 in
theorem lk_530 : (Jvm.Cond.methodLink "DraftTree" (22 : Nat) ({ cls := "DraftTree$State", name := "<init>", desc := "([CII)V" } : Jvm.MethodName)) ∈ wk_tbl := List.mem_append_left _ (List.mem_of_getElem? (i := 530) (by rfl))
set_option maxRecDepth 20000 in
theorem lk_531 : (Jvm.Cond.instanceMethod ({ cls := "DraftTree$State", name := "<init>", desc := "([CII)V" } : Jvm.MethodName)) ∈ wk_tbl := List.mem_append_left _ (List.mem_of_getElem? (i := 531) (by rfl))
set_option maxRecDepth 20000 in
theorem lk_532 : (Jvm.Cond.code ({ cls := "DraftTree", name := "putSlipIntoMatches", desc := "(II)V" } : Jvm.MethodName) prog_1_method_28_code (8 : Nat) (Option.none : Option Jvm.ClassFile.FieldType)) ∈ wk_tbl := List.mem_append_left _ (List.mem_of_getElem? (i := 532) (by rfl))
set_option maxRecDepth 20000 in
theorem lk_533 : (Jvm.Cond.code ({ cls := "DraftTree", name := "replace", desc := "()I" } : Jvm.MethodName) prog_1_method_10_code (3 : Nat) (Option.some Jvm.ClassFile.FieldType.int)) ∈ wk_tbl := List.mem_append_left _ (List.mem_of_getElem? (i := 533) (by rfl))
set_option maxRecDepth 20000 in
theorem lk_534 : (Jvm.Cond.methodLink "DraftTree" (120 : Nat) ({ cls := "DraftTree", name := "collectMatches", desc := "()I" } : Jvm.MethodName)) ∈ wk_tbl := List.mem_append_left _ (List.mem_of_getElem? (i := 534) (by rfl))
set_option maxRecDepth 20000 in
theorem lk_535 : (Jvm.Cond.instanceMethod ({ cls := "DraftTree", name := "collectMatches", desc := "()I" } : Jvm.MethodName)) ∈ wk_tbl := List.mem_append_left _ (List.mem_of_getElem? (i := 535) (by rfl))
set_option maxRecDepth 20000 in
theorem lk_536 : (Jvm.Cond.selects "DraftTree" ({ cls := "DraftTree", name := "collectMatches", desc := "()I" } : Jvm.MethodName) ({ cls := "DraftTree", name := "collectMatches", desc := "()I" } : Jvm.MethodName)) ∈ wk_tbl := List.mem_append_left _ (List.mem_of_getElem? (i := 536) (by rfl))
set_option maxRecDepth 20000 in
theorem lk_537 : (Jvm.Cond.methodLink "DraftTree" (123 : Nat) ({ cls := "DraftTree", name := "sizeWithSlipIn", desc := "(I)I" } : Jvm.MethodName)) ∈ wk_tbl := List.mem_append_left _ (List.mem_of_getElem? (i := 537) (by rfl))
set_option maxRecDepth 20000 in
theorem lk_538 : (Jvm.Cond.instanceMethod ({ cls := "DraftTree", name := "sizeWithSlipIn", desc := "(I)I" } : Jvm.MethodName)) ∈ wk_tbl := List.mem_append_left _ (List.mem_of_getElem? (i := 538) (by rfl))
set_option maxRecDepth 20000 in
theorem lk_539 : (Jvm.Cond.selects "DraftTree" ({ cls := "DraftTree", name := "sizeWithSlipIn", desc := "(I)I" } : Jvm.MethodName) ({ cls := "DraftTree", name := "sizeWithSlipIn", desc := "(I)I" } : Jvm.MethodName)) ∈ wk_tbl := List.mem_append_left _ (List.mem_of_getElem? (i := 539) (by rfl))
set_option maxRecDepth 20000 in
theorem lk_540 : (Jvm.Cond.methodLink "DraftTree" (127 : Nat) ({ cls := "DraftTree", name := "putSlipIntoMatches", desc := "(II)V" } : Jvm.MethodName)) ∈ wk_tbl := List.mem_append_left _ (List.mem_of_getElem? (i := 540) (by rfl))
set_option maxRecDepth 20000 in
theorem lk_541 : (Jvm.Cond.instanceMethod ({ cls := "DraftTree", name := "putSlipIntoMatches", desc := "(II)V" } : Jvm.MethodName)) ∈ wk_tbl := List.mem_append_left _ (List.mem_of_getElem? (i := 541) (by rfl))
set_option maxRecDepth 20000 in
theorem lk_542 : (Jvm.Cond.selects "DraftTree" ({ cls := "DraftTree", name := "putSlipIntoMatches", desc := "(II)V" } : Jvm.MethodName) ({ cls := "DraftTree", name := "putSlipIntoMatches", desc := "(II)V" } : Jvm.MethodName)) ∈ wk_tbl := List.mem_append_left _ (List.mem_of_getElem? (i := 542) (by rfl))
set_option maxRecDepth 20000 in
theorem lk_543 : (Jvm.Cond.codeWith ({ cls := "DraftTreeLaw", name := "at", desc := "(LDraftTree;I[J)I" } : Jvm.MethodName) method_12_code (4 : Nat) (Option.some Jvm.ClassFile.FieldType.int) [((0 : Nat), (9 : Nat), (12 : Nat), (23 : Nat))]) ∈ wk_tbl := List.mem_append_left _ (List.mem_of_getElem? (i := 543) (by rfl))
set_option maxRecDepth 20000 in
theorem lk_544 : (Jvm.Cond.methodLink "DraftTreeLaw" (48 : Nat) ({ cls := "DraftTree", name := "at", desc := "(I)C" } : Jvm.MethodName)) ∈ wk_tbl := List.mem_append_left _ (List.mem_of_getElem? (i := 544) (by rfl))
set_option maxRecDepth 20000 in
theorem lk_545 : (Jvm.Cond.instanceMethod ({ cls := "DraftTree", name := "at", desc := "(I)C" } : Jvm.MethodName)) ∈ wk_tbl := List.mem_append_left _ (List.mem_of_getElem? (i := 545) (by rfl))
set_option maxRecDepth 20000 in
theorem lk_546 : (Jvm.Cond.selects "DraftTree" ({ cls := "DraftTree", name := "at", desc := "(I)C" } : Jvm.MethodName) ({ cls := "DraftTree", name := "at", desc := "(I)C" } : Jvm.MethodName)) ∈ wk_tbl := List.mem_append_left _ (List.mem_of_getElem? (i := 546) (by rfl))
set_option maxRecDepth 20000 in
theorem lk_547 : (Jvm.Cond.classLink "DraftTreeLaw" (23 : Nat) "java/lang/IndexOutOfBoundsException") ∈ wk_tbl := List.mem_append_left _ (List.mem_of_getElem? (i := 547) (by rfl))
set_option maxRecDepth 20000 in
theorem lk_548 : (Jvm.Cond.codeWith ({ cls := "DraftTreeLaw", name := "compile", desc := "(LDraftTree;)I" } : Jvm.MethodName) method_6_code (2 : Nat) (Option.some Jvm.ClassFile.FieldType.int) [((0 : Nat), (4 : Nat), (7 : Nat), (28 : Nat))]) ∈ wk_tbl := List.mem_append_left _ (List.mem_of_getElem? (i := 548) (by rfl))
set_option maxRecDepth 20000 in
theorem lk_549 : (Jvm.Cond.methodLink "DraftTreeLaw" (25 : Nat) ({ cls := "DraftTree", name := "compile", desc := "()V" } : Jvm.MethodName)) ∈ wk_tbl := List.mem_append_left _ (List.mem_of_getElem? (i := 549) (by rfl))
set_option maxRecDepth 20000 in
theorem lk_550 : (Jvm.Cond.instanceMethod ({ cls := "DraftTree", name := "compile", desc := "()V" } : Jvm.MethodName)) ∈ wk_tbl := List.mem_append_left _ (List.mem_of_getElem? (i := 550) (by rfl))
set_option maxRecDepth 20000 in
theorem lk_551 : (Jvm.Cond.selects "DraftTree" ({ cls := "DraftTree", name := "compile", desc := "()V" } : Jvm.MethodName) ({ cls := "DraftTree", name := "compile", desc := "()V" } : Jvm.MethodName)) ∈ wk_tbl := List.mem_append_left _ (List.mem_of_getElem? (i := 551) (by rfl))
set_option maxRecDepth 20000 in
theorem lk_552 : (Jvm.Cond.classLink "DraftTreeLaw" (28 : Nat) "java/lang/IllegalArgumentException") ∈ wk_tbl := List.mem_append_left _ (List.mem_of_getElem? (i := 552) (by rfl))
set_option maxRecDepth 20000 in
theorem lk_553 : (Jvm.Cond.codeWith ({ cls := "DraftTreeLaw", name := "erase", desc := "(LDraftTree;I[J)I" } : Jvm.MethodName) method_4_code (4 : Nat) (Option.some Jvm.ClassFile.FieldType.int) [((0 : Nat), (9 : Nat), (12 : Nat), (13 : Nat))]) ∈ wk_tbl := List.mem_append_left _ (List.mem_of_getElem? (i := 553) (by rfl))
set_option maxRecDepth 20000 in
theorem lk_554 : (Jvm.Cond.methodLink "DraftTreeLaw" (15 : Nat) ({ cls := "DraftTree", name := "erase", desc := "(I)I" } : Jvm.MethodName)) ∈ wk_tbl := List.mem_append_left _ (List.mem_of_getElem? (i := 554) (by rfl))
set_option maxRecDepth 20000 in
theorem lk_555 : (Jvm.Cond.instanceMethod ({ cls := "DraftTree", name := "erase", desc := "(I)I" } : Jvm.MethodName)) ∈ wk_tbl := List.mem_append_left _ (List.mem_of_getElem? (i := 555) (by rfl))
set_option maxRecDepth 20000 in
theorem lk_556 : (Jvm.Cond.selects "DraftTree" ({ cls := "DraftTree", name := "erase", desc := "(I)I" } : Jvm.MethodName) ({ cls := "DraftTree", name := "erase", desc := "(I)I" } : Jvm.MethodName)) ∈ wk_tbl := List.mem_append_left _ (List.mem_of_getElem? (i := 556) (by rfl))
set_option maxRecDepth 20000 in
theorem lk_557 : (Jvm.Cond.classLink "DraftTreeLaw" (13 : Nat) "java/lang/IllegalStateException") ∈ wk_tbl := List.mem_append_left _ (List.mem_of_getElem? (i := 557) (by rfl))
set_option maxRecDepth 20000 in
theorem lk_558 : (Jvm.Cond.codeWith ({ cls := "DraftTreeLaw", name := "figure", desc := "(LDraftTree;I[J)I" } : Jvm.MethodName) method_14_code (4 : Nat) (Option.some Jvm.ClassFile.FieldType.int) [((0 : Nat), (9 : Nat), (12 : Nat), (28 : Nat))]) ∈ wk_tbl := List.mem_append_left _ (List.mem_of_getElem? (i := 558) (by rfl))
set_option maxRecDepth 20000 in
theorem lk_559 : (Jvm.Cond.methodLink "DraftTreeLaw" (56 : Nat) ({ cls := "DraftTree", name := "figure", desc := "(I)I" } : Jvm.MethodName)) ∈ wk_tbl := List.mem_append_left _ (List.mem_of_getElem? (i := 559) (by rfl))
set_option maxRecDepth 20000 in
theorem lk_560 : (Jvm.Cond.instanceMethod ({ cls := "DraftTree", name := "figure", desc := "(I)I" } : Jvm.MethodName)) ∈ wk_tbl := List.mem_append_left _ (List.mem_of_getElem? (i := 560) (by rfl))
set_option maxRecDepth 20000 in
theorem lk_561 : (Jvm.Cond.selects "DraftTree" ({ cls := "DraftTree", name := "figure", desc := "(I)I" } : Jvm.MethodName) ({ cls := "DraftTree", name := "figure", desc := "(I)I" } : Jvm.MethodName)) ∈ wk_tbl := List.mem_append_left _ (List.mem_of_getElem? (i := 561) (by rfl))
set_option maxRecDepth 20000 in
theorem lk_562 : (Jvm.Cond.codeWith ({ cls := "DraftTreeLaw", name := "find", desc := "(LDraftTree;I[J)I" } : Jvm.MethodName) method_7_code (4 : Nat) (Option.some Jvm.ClassFile.FieldType.int) [((0 : Nat), (9 : Nat), (12 : Nat), (13 : Nat)), ((0 : Nat), (9 : Nat), (15 : Nat), (23 : Nat)), ((0 : Nat), (9 : Nat), (18 : Nat), (33 : Nat))]) ∈ wk_tbl := List.mem_append_left _ (List.mem_of_getElem? (i := 562) (by rfl))
set_option maxRecDepth 20000 in
theorem lk_563 : (Jvm.Cond.methodLink "DraftTreeLaw" (30 : Nat) ({ cls := "DraftTree", name := "find", desc := "(I)I" } : Jvm.MethodName)) ∈ wk_tbl := List.mem_append_left _ (List.mem_of_getElem? (i := 563) (by rfl))
set_option maxRecDepth 20000 in
theorem lk_564 : (Jvm.Cond.instanceMethod ({ cls := "DraftTree", name := "find", desc := "(I)I" } : Jvm.MethodName)) ∈ wk_tbl := List.mem_append_left _ (List.mem_of_getElem? (i := 564) (by rfl))
set_option maxRecDepth 20000 in
theorem lk_565 : (Jvm.Cond.selects "DraftTree" ({ cls := "DraftTree", name := "find", desc := "(I)I" } : Jvm.MethodName) ({ cls := "DraftTree", name := "find", desc := "(I)I" } : Jvm.MethodName)) ∈ wk_tbl := List.mem_append_left _ (List.mem_of_getElem? (i := 565) (by rfl))
set_option maxRecDepth 20000 in
theorem lk_566 : (Jvm.Cond.classLink "DraftTreeLaw" (33 : Nat) "java/util/NoSuchElementException") ∈ wk_tbl := List.mem_append_left _ (List.mem_of_getElem? (i := 566) (by rfl))
set_option maxRecDepth 20000 in
theorem lk_567 : (Jvm.Cond.codeWith ({ cls := "DraftTreeLaw", name := "go", desc := "(LDraftTree;IZ)I" } : Jvm.MethodName) method_5_code (4 : Nat) (Option.some Jvm.ClassFile.FieldType.int) [((0 : Nat), (6 : Nat), (9 : Nat), (23 : Nat))]) ∈ wk_tbl := List.mem_append_left _ (List.mem_of_getElem? (i := 567) (by rfl))
set_option maxRecDepth 20000 in
theorem lk_568 : (Jvm.Cond.methodLink "DraftTreeLaw" (19 : Nat) ({ cls := "DraftTree", name := "go", desc := "(IZ)V" } : Jvm.MethodName)) ∈ wk_tbl := List.mem_append_left _ (List.mem_of_getElem? (i := 568) (by rfl))
set_option maxRecDepth 20000 in
theorem lk_569 : (Jvm.Cond.instanceMethod ({ cls := "DraftTree", name := "go", desc := "(IZ)V" } : Jvm.MethodName)) ∈ wk_tbl := List.mem_append_left _ (List.mem_of_getElem? (i := 569) (by rfl))
set_option maxRecDepth 20000 in
theorem lk_570 : (Jvm.Cond.selects "DraftTree" ({ cls := "DraftTree", name := "go", desc := "(IZ)V" } : Jvm.MethodName) ({ cls := "DraftTree", name := "go", desc := "(IZ)V" } : Jvm.MethodName)) ∈ wk_tbl := List.mem_append_left _ (List.mem_of_getElem? (i := 570) (by rfl))
set_option maxRecDepth 20000 in
theorem lk_571 : (Jvm.Cond.codeWith ({ cls := "DraftTreeLaw", name := "insert", desc := "(LDraftTree;[J)I" } : Jvm.MethodName) method_3_code (3 : Nat) (Option.some Jvm.ClassFile.FieldType.int) [((0 : Nat), (8 : Nat), (11 : Nat), (13 : Nat))]) ∈ wk_tbl := List.mem_append_left _ (List.mem_of_getElem? (i := 571) (by rfl))
set_option maxRecDepth 20000 in
theorem lk_572 : (Jvm.Cond.methodLink "DraftTreeLaw" (7 : Nat) ({ cls := "DraftTree", name := "insert", desc := "()I" } : Jvm.MethodName)) ∈ wk_tbl := List.mem_append_left _ (List.mem_of_getElem? (i := 572) (by rfl))
set_option maxRecDepth 20000 in
theorem lk_573 : (Jvm.Cond.instanceMethod ({ cls := "DraftTree", name := "insert", desc := "()I" } : Jvm.MethodName)) ∈ wk_tbl := List.mem_append_left _ (List.mem_of_getElem? (i := 573) (by rfl))
set_option maxRecDepth 20000 in
theorem lk_574 : (Jvm.Cond.selects "DraftTree" ({ cls := "DraftTree", name := "insert", desc := "()I" } : Jvm.MethodName) ({ cls := "DraftTree", name := "insert", desc := "()I" } : Jvm.MethodName)) ∈ wk_tbl := List.mem_append_left _ (List.mem_of_getElem? (i := 574) (by rfl))
set_option maxRecDepth 20000 in
theorem lk_575 : (Jvm.Cond.codeWith ({ cls := "DraftTreeLaw", name := "jump", desc := "(LDraftTree;I)I" } : Jvm.MethodName) method_11_code (3 : Nat) (Option.some Jvm.ClassFile.FieldType.int) [((0 : Nat), (5 : Nat), (8 : Nat), (28 : Nat))]) ∈ wk_tbl := List.mem_append_left _ (List.mem_of_getElem? (i := 575) (by rfl))
set_option maxRecDepth 20000 in
theorem lk_576 : (Jvm.Cond.methodLink "DraftTreeLaw" (44 : Nat) ({ cls := "DraftTree", name := "jump", desc := "(I)V" } : Jvm.MethodName)) ∈ wk_tbl := List.mem_append_left _ (List.mem_of_getElem? (i := 576) (by rfl))
set_option maxRecDepth 20000 in
theorem lk_577 : (Jvm.Cond.instanceMethod ({ cls := "DraftTree", name := "jump", desc := "(I)V" } : Jvm.MethodName)) ∈ wk_tbl := List.mem_append_left _ (List.mem_of_getElem? (i := 577) (by rfl))
set_option maxRecDepth 20000 in
theorem lk_578 : (Jvm.Cond.selects "DraftTree" ({ cls := "DraftTree", name := "jump", desc := "(I)V" } : Jvm.MethodName) ({ cls := "DraftTree", name := "jump", desc := "(I)V" } : Jvm.MethodName)) ∈ wk_tbl := List.mem_append_left _ (List.mem_of_getElem? (i := 578) (by rfl))
set_option maxRecDepth 20000 in
theorem lk_579 : (Jvm.Cond.codeWith ({ cls := "DraftTreeLaw", name := "line", desc := "(LDraftTree;II[J)I" } : Jvm.MethodName) method_13_code (5 : Nat) (Option.some Jvm.ClassFile.FieldType.int) [((0 : Nat), (10 : Nat), (13 : Nat), (28 : Nat)), ((0 : Nat), (10 : Nat), (17 : Nat), (23 : Nat))]) ∈ wk_tbl := List.mem_append_left _ (List.mem_of_getElem? (i := 579) (by rfl))
set_option maxRecDepth 20000 in
theorem lk_580 : (Jvm.Cond.methodLink "DraftTreeLaw" (52 : Nat) ({ cls := "DraftTree", name := "line", desc := "(II)I" } : Jvm.MethodName)) ∈ wk_tbl := List.mem_append_left _ (List.mem_of_getElem? (i := 580) (by rfl))
set_option maxRecDepth 20000 in
theorem lk_581 : (Jvm.Cond.instanceMethod ({ cls := "DraftTree", name := "line", desc := "(II)I" } : Jvm.MethodName)) ∈ wk_tbl := List.mem_append_left _ (List.mem_of_getElem? (i := 581) (by rfl))
set_option maxRecDepth 20000 in
theorem lk_582 : (Jvm.Cond.selects "DraftTree" ({ cls := "DraftTree", name := "line", desc := "(II)I" } : Jvm.MethodName) ({ cls := "DraftTree", name := "line", desc := "(II)I" } : Jvm.MethodName)) ∈ wk_tbl := List.mem_append_left _ (List.mem_of_getElem? (i := 582) (by rfl))
set_option maxRecDepth 20000 in
theorem lk_583 : (Jvm.Cond.codeWith ({ cls := "DraftTreeLaw", name := "parent", desc := "(LDraftTree;I[J)I" } : Jvm.MethodName) method_15_code (4 : Nat) (Option.some Jvm.ClassFile.FieldType.int) [((0 : Nat), (9 : Nat), (12 : Nat), (28 : Nat))]) ∈ wk_tbl := List.mem_append_left _ (List.mem_of_getElem? (i := 583) (by rfl))
set_option maxRecDepth 20000 in
theorem lk_584 : (Jvm.Cond.methodLink "DraftTreeLaw" (59 : Nat) ({ cls := "DraftTree", name := "parent", desc := "(I)I" } : Jvm.MethodName)) ∈ wk_tbl := List.mem_append_left _ (List.mem_of_getElem? (i := 584) (by rfl))
set_option maxRecDepth 20000 in
theorem lk_585 : (Jvm.Cond.instanceMethod ({ cls := "DraftTree", name := "parent", desc := "(I)I" } : Jvm.MethodName)) ∈ wk_tbl := List.mem_append_left _ (List.mem_of_getElem? (i := 585) (by rfl))
set_option maxRecDepth 20000 in
theorem lk_586 : (Jvm.Cond.selects "DraftTree" ({ cls := "DraftTree", name := "parent", desc := "(I)I" } : Jvm.MethodName) ({ cls := "DraftTree", name := "parent", desc := "(I)I" } : Jvm.MethodName)) ∈ wk_tbl := List.mem_append_left _ (List.mem_of_getElem? (i := 586) (by rfl))
set_option maxRecDepth 20000 in
theorem lk_587 : (Jvm.Cond.codeWith ({ cls := "DraftTreeLaw", name := "redo", desc := "(LDraftTree;[J)I" } : Jvm.MethodName) method_10_code (3 : Nat) (Option.some Jvm.ClassFile.FieldType.int) [((0 : Nat), (8 : Nat), (11 : Nat), (33 : Nat))]) ∈ wk_tbl := List.mem_append_left _ (List.mem_of_getElem? (i := 587) (by rfl))
set_option maxRecDepth 20000 in
theorem lk_588 : (Jvm.Cond.methodLink "DraftTreeLaw" (41 : Nat) ({ cls := "DraftTree", name := "redo", desc := "()I" } : Jvm.MethodName)) ∈ wk_tbl := List.mem_append_left _ (List.mem_of_getElem? (i := 588) (by rfl))
set_option maxRecDepth 20000 in
theorem lk_589 : (Jvm.Cond.instanceMethod ({ cls := "DraftTree", name := "redo", desc := "()I" } : Jvm.MethodName)) ∈ wk_tbl := List.mem_append_left _ (List.mem_of_getElem? (i := 589) (by rfl))
set_option maxRecDepth 20000 in
theorem lk_590 : (Jvm.Cond.selects "DraftTree" ({ cls := "DraftTree", name := "redo", desc := "()I" } : Jvm.MethodName) ({ cls := "DraftTree", name := "redo", desc := "()I" } : Jvm.MethodName)) ∈ wk_tbl := List.mem_append_left _ (List.mem_of_getElem? (i := 590) (by rfl))
set_option maxRecDepth 20000 in
theorem lk_591 : (Jvm.Cond.codeWith ({ cls := "DraftTreeLaw", name := "replace", desc := "(LDraftTree;[J)I" } : Jvm.MethodName) method_8_code (3 : Nat) (Option.some Jvm.ClassFile.FieldType.int) [((0 : Nat), (8 : Nat), (11 : Nat), (13 : Nat))]) ∈ wk_tbl := List.mem_append_left _ (List.mem_of_getElem? (i := 591) (by rfl))
set_option maxRecDepth 20000 in
theorem lk_592 : (Jvm.Cond.methodLink "DraftTreeLaw" (35 : Nat) ({ cls := "DraftTree", name := "replace", desc := "()I" } : Jvm.MethodName)) ∈ wk_tbl := List.mem_append_left _ (List.mem_of_getElem? (i := 592) (by rfl))
set_option maxRecDepth 20000 in
theorem lk_593 : (Jvm.Cond.instanceMethod ({ cls := "DraftTree", name := "replace", desc := "()I" } : Jvm.MethodName)) ∈ wk_tbl := List.mem_append_left _ (List.mem_of_getElem? (i := 593) (by rfl))
set_option maxRecDepth 20000 in
theorem lk_594 : (Jvm.Cond.selects "DraftTree" ({ cls := "DraftTree", name := "replace", desc := "()I" } : Jvm.MethodName) ({ cls := "DraftTree", name := "replace", desc := "()I" } : Jvm.MethodName)) ∈ wk_tbl := List.mem_append_left _ (List.mem_of_getElem? (i := 594) (by rfl))
set_option maxRecDepth 20000 in
theorem lk_595 : (Jvm.Cond.codeWith ({ cls := "DraftTreeLaw", name := "undo", desc := "(LDraftTree;[J)I" } : Jvm.MethodName) method_9_code (3 : Nat) (Option.some Jvm.ClassFile.FieldType.int) [((0 : Nat), (8 : Nat), (11 : Nat), (33 : Nat))]) ∈ wk_tbl := List.mem_append_left _ (List.mem_of_getElem? (i := 595) (by rfl))
set_option maxRecDepth 20000 in
theorem lk_596 : (Jvm.Cond.methodLink "DraftTreeLaw" (38 : Nat) ({ cls := "DraftTree", name := "undo", desc := "()I" } : Jvm.MethodName)) ∈ wk_tbl := List.mem_append_left _ (List.mem_of_getElem? (i := 596) (by rfl))
set_option maxRecDepth 20000 in
theorem lk_597 : (Jvm.Cond.instanceMethod ({ cls := "DraftTree", name := "undo", desc := "()I" } : Jvm.MethodName)) ∈ wk_tbl := List.mem_append_left _ (List.mem_of_getElem? (i := 597) (by rfl))
set_option maxRecDepth 20000 in
theorem lk_598 : (Jvm.Cond.selects "DraftTree" ({ cls := "DraftTree", name := "undo", desc := "()I" } : Jvm.MethodName) ({ cls := "DraftTree", name := "undo", desc := "()I" } : Jvm.MethodName)) ∈ wk_tbl := List.mem_append_left _ (List.mem_of_getElem? (i := 598) (by rfl))
set_option maxRecDepth 20000 in
theorem lk_599 : (Jvm.Cond.classLink "DraftTreeLaw" (8 : Nat) "DraftTree") ∈ wk_tbl := List.mem_append_left _ (List.mem_of_getElem? (i := 599) (by rfl))
set_option maxRecDepth 20000 in
theorem lk_600 : (Jvm.Cond.instantiable "DraftTree" (14 : Nat)) ∈ wk_tbl := List.mem_append_left _ (List.mem_of_getElem? (i := 600) (by rfl))
set_option maxRecDepth 20000 in
theorem lk_601 : (Jvm.Cond.code ({ cls := "DraftTree", name := "<init>", desc := "()V" } : Jvm.MethodName) prog_1_method_1_code (1 : Nat) (Option.none : Option Jvm.ClassFile.FieldType)) ∈ wk_tbl := List.mem_append_left _ (List.mem_of_getElem? (i := 601) (by rfl))
set_option maxRecDepth 20000 in
theorem lk_602 : (Jvm.Cond.methodLink "DraftTreeLaw" (62 : Nat) ({ cls := "DraftTree", name := "<init>", desc := "()V" } : Jvm.MethodName)) ∈ wk_tbl := List.mem_append_left _ (List.mem_of_getElem? (i := 602) (by rfl))
set_option maxRecDepth 20000 in
theorem lk_603 : (Jvm.Cond.instanceMethod ({ cls := "DraftTree", name := "<init>", desc := "()V" } : Jvm.MethodName)) ∈ wk_tbl := List.mem_append_left _ (List.mem_of_getElem? (i := 603) (by rfl))
set_option maxRecDepth 20000 in
theorem lk_604 : (Jvm.Cond.classLink "DraftTreeLaw" (63 : Nat) "DraftTreeModel") ∈ wk_tbl := List.mem_append_left _ (List.mem_of_getElem? (i := 604) (by rfl))
set_option maxRecDepth 20000 in
theorem lk_605 : (Jvm.Cond.instantiable "DraftTreeModel" (38 : Nat)) ∈ wk_tbl := List.mem_append_left _ (List.mem_of_getElem? (i := 605) (by rfl))
set_option maxRecDepth 20000 in
theorem lk_606 : (Jvm.Cond.code ({ cls := "DraftTreeModel", name := "<init>", desc := "()V" } : Jvm.MethodName) prog_6_method_1_code (1 : Nat) (Option.none : Option Jvm.ClassFile.FieldType)) ∈ wk_tbl := List.mem_append_left _ (List.mem_of_getElem? (i := 606) (by rfl))
set_option maxRecDepth 20000 in
theorem lk_607 : (Jvm.Cond.methodLink "DraftTreeLaw" (65 : Nat) ({ cls := "DraftTreeModel", name := "<init>", desc := "()V" } : Jvm.MethodName)) ∈ wk_tbl := List.mem_append_left _ (List.mem_of_getElem? (i := 607) (by rfl))
set_option maxRecDepth 20000 in
theorem lk_608 : (Jvm.Cond.instanceMethod ({ cls := "DraftTreeModel", name := "<init>", desc := "()V" } : Jvm.MethodName)) ∈ wk_tbl := List.mem_append_left _ (List.mem_of_getElem? (i := 608) (by rfl))
set_option maxRecDepth 20000 in
theorem lk_609 : (Jvm.Cond.arrayClass Jvm.ClassFile.FieldType.long) ∈ wk_tbl := List.mem_append_left _ (List.mem_of_getElem? (i := 609) (by rfl))
set_option maxRecDepth 20000 in
theorem lk_610 : (Jvm.Cond.methodLink "DraftTreeLaw" (66 : Nat) ({ cls := "DraftTree", name := "type", desc := "(C)Z" } : Jvm.MethodName)) ∈ wk_tbl := List.mem_append_left _ (List.mem_of_getElem? (i := 610) (by rfl))
set_option maxRecDepth 20000 in
theorem lk_611 : (Jvm.Cond.instanceMethod ({ cls := "DraftTree", name := "type", desc := "(C)Z" } : Jvm.MethodName)) ∈ wk_tbl := List.mem_append_left _ (List.mem_of_getElem? (i := 611) (by rfl))
set_option maxRecDepth 20000 in
theorem lk_612 : (Jvm.Cond.selects "DraftTree" ({ cls := "DraftTree", name := "type", desc := "(C)Z" } : Jvm.MethodName) ({ cls := "DraftTree", name := "type", desc := "(C)Z" } : Jvm.MethodName)) ∈ wk_tbl := List.mem_append_left _ (List.mem_of_getElem? (i := 612) (by rfl))
set_option maxRecDepth 20000 in
theorem lk_613 : (Jvm.Cond.methodLink "DraftTreeLaw" (70 : Nat) ({ cls := "DraftTreeModel", name := "type", desc := "(C)Z" } : Jvm.MethodName)) ∈ wk_tbl := List.mem_append_left _ (List.mem_of_getElem? (i := 613) (by rfl))
set_option maxRecDepth 20000 in
theorem lk_614 : (Jvm.Cond.instanceMethod ({ cls := "DraftTreeModel", name := "type", desc := "(C)Z" } : Jvm.MethodName)) ∈ wk_tbl := List.mem_append_left _ (List.mem_of_getElem? (i := 614) (by rfl))
set_option maxRecDepth 20000 in
theorem lk_615 : (Jvm.Cond.selects "DraftTreeModel" ({ cls := "DraftTreeModel", name := "type", desc := "(C)Z" } : Jvm.MethodName) ({ cls := "DraftTreeModel", name := "type", desc := "(C)Z" } : Jvm.MethodName)) ∈ wk_tbl := List.mem_append_left _ (List.mem_of_getElem? (i := 615) (by rfl))
set_option maxRecDepth 20000 in
theorem lk_616 : (Jvm.Cond.methodLink "DraftTreeLaw" (71 : Nat) ({ cls := "DraftTree", name := "wipe", desc := "()I" } : Jvm.MethodName)) ∈ wk_tbl := List.mem_append_left _ (List.mem_of_getElem? (i := 616) (by rfl))
set_option maxRecDepth 20000 in
theorem lk_617 : (Jvm.Cond.instanceMethod ({ cls := "DraftTree", name := "wipe", desc := "()I" } : Jvm.MethodName)) ∈ wk_tbl := List.mem_append_left _ (List.mem_of_getElem? (i := 617) (by rfl))
set_option maxRecDepth 20000 in
theorem lk_618 : (Jvm.Cond.selects "DraftTree" ({ cls := "DraftTree", name := "wipe", desc := "()I" } : Jvm.MethodName) ({ cls := "DraftTree", name := "wipe", desc := "()I" } : Jvm.MethodName)) ∈ wk_tbl := List.mem_append_left _ (List.mem_of_getElem? (i := 618) (by rfl))
set_option maxRecDepth 20000 in
theorem lk_619 : (Jvm.Cond.methodLink "DraftTreeLaw" (74 : Nat) ({ cls := "DraftTreeModel", name := "wipe", desc := "()I" } : Jvm.MethodName)) ∈ wk_tbl := List.mem_append_left _ (List.mem_of_getElem? (i := 619) (by rfl))
set_option maxRecDepth 20000 in
theorem lk_620 : (Jvm.Cond.instanceMethod ({ cls := "DraftTreeModel", name := "wipe", desc := "()I" } : Jvm.MethodName)) ∈ wk_tbl := List.mem_append_left _ (List.mem_of_getElem? (i := 620) (by rfl))
set_option maxRecDepth 20000 in
theorem lk_621 : (Jvm.Cond.selects "DraftTreeModel" ({ cls := "DraftTreeModel", name := "wipe", desc := "()I" } : Jvm.MethodName) ({ cls := "DraftTreeModel", name := "wipe", desc := "()I" } : Jvm.MethodName)) ∈ wk_tbl := List.mem_append_left _ (List.mem_of_getElem? (i := 621) (by rfl))
set_option maxRecDepth 20000 in
theorem lk_622 : (Jvm.Cond.initialized "DraftTreeLaw") ∈ wk_tbl := List.mem_append_left _ (List.mem_of_getElem? (i := 622) (by rfl))
set_option maxRecDepth 20000 in
theorem lk_623 : (Jvm.Cond.methodLink "DraftTreeLaw" (75 : Nat) ({ cls := "DraftTreeLaw", name := "insert", desc := "(LDraftTree;[J)I" } : Jvm.MethodName)) ∈ wk_tbl := List.mem_append_left _ (List.mem_of_getElem? (i := 623) (by rfl))
set_option maxRecDepth 20000 in
theorem lk_624 : (Jvm.Cond.static ({ cls := "DraftTreeLaw", name := "insert", desc := "(LDraftTree;[J)I" } : Jvm.MethodName)) ∈ wk_tbl := List.mem_append_left _ (List.mem_of_getElem? (i := 624) (by rfl))
set_option maxRecDepth 20000 in
theorem lk_625 : (Jvm.Cond.methodLink "DraftTreeLaw" (80 : Nat) ({ cls := "DraftTreeModel", name := "insert", desc := "()I" } : Jvm.MethodName)) ∈ wk_tbl := List.mem_append_left _ (List.mem_of_getElem? (i := 625) (by rfl))
set_option maxRecDepth 20000 in
theorem lk_626 : (Jvm.Cond.instanceMethod ({ cls := "DraftTreeModel", name := "insert", desc := "()I" } : Jvm.MethodName)) ∈ wk_tbl := List.mem_append_left _ (List.mem_of_getElem? (i := 626) (by rfl))
set_option maxRecDepth 20000 in
theorem lk_627 : (Jvm.Cond.selects "DraftTreeModel" ({ cls := "DraftTreeModel", name := "insert", desc := "()I" } : Jvm.MethodName) ({ cls := "DraftTreeModel", name := "insert", desc := "()I" } : Jvm.MethodName)) ∈ wk_tbl := List.mem_append_left _ (List.mem_of_getElem? (i := 627) (by rfl))
set_option maxRecDepth 20000 in
theorem lk_628 : (Jvm.Cond.methodLink "DraftTreeLaw" (81 : Nat) ({ cls := "DraftTreeModel", name := "thrown", desc := "()I" } : Jvm.MethodName)) ∈ wk_tbl := List.mem_append_left _ (List.mem_of_getElem? (i := 628) (by rfl))
set_option maxRecDepth 20000 in
theorem lk_629 : (Jvm.Cond.instanceMethod ({ cls := "DraftTreeModel", name := "thrown", desc := "()I" } : Jvm.MethodName)) ∈ wk_tbl := List.mem_append_left _ (List.mem_of_getElem? (i := 629) (by rfl))
set_option maxRecDepth 20000 in
theorem lk_630 : (Jvm.Cond.selects "DraftTreeModel" ({ cls := "DraftTreeModel", name := "thrown", desc := "()I" } : Jvm.MethodName) ({ cls := "DraftTreeModel", name := "thrown", desc := "()I" } : Jvm.MethodName)) ∈ wk_tbl := List.mem_append_left _ (List.mem_of_getElem? (i := 630) (by rfl))
set_option maxRecDepth 20000 in
theorem lk_631 : (Jvm.Cond.methodLink "DraftTreeLaw" (84 : Nat) ({ cls := "DraftTreeLaw", name := "erase", desc := "(LDraftTree;I[J)I" } : Jvm.MethodName)) ∈ wk_tbl := List.mem_append_left _ (List.mem_of_getElem? (i := 631) (by rfl))
set_option maxRecDepth 20000 in
theorem lk_632 : (Jvm.Cond.static ({ cls := "DraftTreeLaw", name := "erase", desc := "(LDraftTree;I[J)I" } : Jvm.MethodName)) ∈ wk_tbl := List.mem_append_left _ (List.mem_of_getElem? (i := 632) (by rfl))
set_option maxRecDepth 20000 in
theorem lk_633 : (Jvm.Cond.methodLink "DraftTreeLaw" (87 : Nat) ({ cls := "DraftTreeModel", name := "erase", desc := "(I)I" } : Jvm.MethodName)) ∈ wk_tbl := List.mem_append_left _ (List.mem_of_getElem? (i := 633) (by rfl))
set_option maxRecDepth 20000 in
theorem lk_634 : (Jvm.Cond.instanceMethod ({ cls := "DraftTreeModel", name := "erase", desc := "(I)I" } : Jvm.MethodName)) ∈ wk_tbl := List.mem_append_left _ (List.mem_of_getElem? (i := 634) (by rfl))
set_option maxRecDepth 20000 in
theorem lk_635 : (Jvm.Cond.selects "DraftTreeModel" ({ cls := "DraftTreeModel", name := "erase", desc := "(I)I" } : Jvm.MethodName) ({ cls := "DraftTreeModel", name := "erase", desc := "(I)I" } : Jvm.MethodName)) ∈ wk_tbl := List.mem_append_left _ (List.mem_of_getElem? (i := 635) (by rfl))
set_option maxRecDepth 20000 in
theorem lk_636 : (Jvm.Cond.methodLink "DraftTreeLaw" (88 : Nat) ({ cls := "DraftTreeLaw", name := "go", desc := "(LDraftTree;IZ)I" } : Jvm.MethodName)) ∈ wk_tbl := List.mem_append_left _ (List.mem_of_getElem? (i := 636) (by rfl))
set_option maxRecDepth 20000 in
theorem lk_637 : (Jvm.Cond.static ({ cls := "DraftTreeLaw", name := "go", desc := "(LDraftTree;IZ)I" } : Jvm.MethodName)) ∈ wk_tbl := List.mem_append_left _ (List.mem_of_getElem? (i := 637) (by rfl))
set_option maxRecDepth 20000 in
theorem lk_638 : (Jvm.Cond.methodLink "DraftTreeLaw" (91 : Nat) ({ cls := "DraftTreeModel", name := "go", desc := "(IZ)V" } : Jvm.MethodName)) ∈ wk_tbl := List.mem_append_left _ (List.mem_of_getElem? (i := 638) (by rfl))
set_option maxRecDepth 20000 in
theorem lk_639 : (Jvm.Cond.instanceMethod ({ cls := "DraftTreeModel", name := "go", desc := "(IZ)V" } : Jvm.MethodName)) ∈ wk_tbl := List.mem_append_left _ (List.mem_of_getElem? (i := 639) (by rfl))
set_option maxRecDepth 20000 in
theorem lk_640 : (Jvm.Cond.selects "DraftTreeModel" ({ cls := "DraftTreeModel", name := "go", desc := "(IZ)V" } : Jvm.MethodName) ({ cls := "DraftTreeModel", name := "go", desc := "(IZ)V" } : Jvm.MethodName)) ∈ wk_tbl := List.mem_append_left _ (List.mem_of_getElem? (i := 640) (by rfl))
set_option maxRecDepth 20000 in
theorem lk_641 : (Jvm.Cond.methodLink "DraftTreeLaw" (92 : Nat) ({ cls := "DraftTreeLaw", name := "compile", desc := "(LDraftTree;)I" } : Jvm.MethodName)) ∈ wk_tbl := List.mem_append_left _ (List.mem_of_getElem? (i := 641) (by rfl))
set_option maxRecDepth 20000 in
theorem lk_642 : (Jvm.Cond.static ({ cls := "DraftTreeLaw", name := "compile", desc := "(LDraftTree;)I" } : Jvm.MethodName)) ∈ wk_tbl := List.mem_append_left _ (List.mem_of_getElem? (i := 642) (by rfl))
set_option maxRecDepth 20000 in
theorem lk_643 : (Jvm.Cond.methodLink "DraftTreeLaw" (95 : Nat) ({ cls := "DraftTreeModel", name := "compile", desc := "()V" } : Jvm.MethodName)) ∈ wk_tbl := List.mem_append_left _ (List.mem_of_getElem? (i := 643) (by rfl))
set_option maxRecDepth 20000 in
theorem lk_644 : (Jvm.Cond.instanceMethod ({ cls := "DraftTreeModel", name := "compile", desc := "()V" } : Jvm.MethodName)) ∈ wk_tbl := List.mem_append_left _ (List.mem_of_getElem? (i := 644) (by rfl))
set_option maxRecDepth 20000 in
theorem lk_645 : (Jvm.Cond.selects "DraftTreeModel" ({ cls := "DraftTreeModel", name := "compile", desc := "()V" } : Jvm.MethodName) ({ cls := "DraftTreeModel", name := "compile", desc := "()V" } : Jvm.MethodName)) ∈ wk_tbl := List.mem_append_left _ (List.mem_of_getElem? (i := 645) (by rfl))
set_option maxRecDepth 20000 in
theorem lk_646 : (Jvm.Cond.methodLink "DraftTreeLaw" (96 : Nat) ({ cls := "DraftTree", name := "fault", desc := "()I" } : Jvm.MethodName)) ∈ wk_tbl := List.mem_append_left _ (List.mem_of_getElem? (i := 646) (by rfl))
set_option maxRecDepth 20000 in
theorem lk_647 : (Jvm.Cond.instanceMethod ({ cls := "DraftTree", name := "fault", desc := "()I" } : Jvm.MethodName)) ∈ wk_tbl := List.mem_append_left _ (List.mem_of_getElem? (i := 647) (by rfl))
set_option maxRecDepth 20000 in
theorem lk_648 : (Jvm.Cond.selects "DraftTree" ({ cls := "DraftTree", name := "fault", desc := "()I" } : Jvm.MethodName) ({ cls := "DraftTree", name := "fault", desc := "()I" } : Jvm.MethodName)) ∈ wk_tbl := List.mem_append_left _ (List.mem_of_getElem? (i := 648) (by rfl))
set_option maxRecDepth 20000 in
theorem lk_649 : (Jvm.Cond.methodLink "DraftTreeLaw" (99 : Nat) ({ cls := "DraftTreeModel", name := "fault", desc := "()I" } : Jvm.MethodName)) ∈ wk_tbl := List.mem_append_left _ (List.mem_of_getElem? (i := 649) (by rfl))
set_option maxRecDepth 20000 in
theorem lk_650 : (Jvm.Cond.instanceMethod ({ cls := "DraftTreeModel", name := "fault", desc := "()I" } : Jvm.MethodName)) ∈ wk_tbl := List.mem_append_left _ (List.mem_of_getElem? (i := 650) (by rfl))
set_option maxRecDepth 20000 in
theorem lk_651 : (Jvm.Cond.selects "DraftTreeModel" ({ cls := "DraftTreeModel", name := "fault", desc := "()I" } : Jvm.MethodName) ({ cls := "DraftTreeModel", name := "fault", desc := "()I" } : Jvm.MethodName)) ∈ wk_tbl := List.mem_append_left _ (List.mem_of_getElem? (i := 651) (by rfl))
set_option maxRecDepth 20000 in
theorem lk_652 : (Jvm.Cond.methodLink "DraftTreeLaw" (100 : Nat) ({ cls := "DraftTreeLaw", name := "find", desc := "(LDraftTree;I[J)I" } : Jvm.MethodName)) ∈ wk_tbl := List.mem_append_left _ (List.mem_of_getElem? (i := 652) (by rfl))
set_option maxRecDepth 20000 in
theorem lk_653 : (Jvm.Cond.static ({ cls := "DraftTreeLaw", name := "find", desc := "(LDraftTree;I[J)I" } : Jvm.MethodName)) ∈ wk_tbl := List.mem_append_left _ (List.mem_of_getElem? (i := 653) (by rfl))
set_option maxRecDepth 20000 in
theorem lk_654 : (Jvm.Cond.methodLink "DraftTreeLaw" (102 : Nat) ({ cls := "DraftTreeModel", name := "find", desc := "(I)I" } : Jvm.MethodName)) ∈ wk_tbl := List.mem_append_left _ (List.mem_of_getElem? (i := 654) (by rfl))
set_option maxRecDepth 20000 in
theorem lk_655 : (Jvm.Cond.instanceMethod ({ cls := "DraftTreeModel", name := "find", desc := "(I)I" } : Jvm.MethodName)) ∈ wk_tbl := List.mem_append_left _ (List.mem_of_getElem? (i := 655) (by rfl))
set_option maxRecDepth 20000 in
theorem lk_656 : (Jvm.Cond.selects "DraftTreeModel" ({ cls := "DraftTreeModel", name := "find", desc := "(I)I" } : Jvm.MethodName) ({ cls := "DraftTreeModel", name := "find", desc := "(I)I" } : Jvm.MethodName)) ∈ wk_tbl := List.mem_append_left _ (List.mem_of_getElem? (i := 656) (by rfl))
set_option maxRecDepth 20000 in
theorem lk_657 : (Jvm.Cond.methodLink "DraftTreeLaw" (103 : Nat) ({ cls := "DraftTreeLaw", name := "replace", desc := "(LDraftTree;[J)I" } : Jvm.MethodName)) ∈ wk_tbl := List.mem_append_left _ (List.mem_of_getElem? (i := 657) (by rfl))
set_option maxRecDepth 20000 in
theorem lk_658 : (Jvm.Cond.static ({ cls := "DraftTreeLaw", name := "replace", desc := "(LDraftTree;[J)I" } : Jvm.MethodName)) ∈ wk_tbl := List.mem_append_left _ (List.mem_of_getElem? (i := 658) (by rfl))
set_option maxRecDepth 20000 in
theorem lk_659 : (Jvm.Cond.methodLink "DraftTreeLaw" (105 : Nat) ({ cls := "DraftTreeModel", name := "replace", desc := "()I" } : Jvm.MethodName)) ∈ wk_tbl := List.mem_append_left _ (List.mem_of_getElem? (i := 659) (by rfl))
set_option maxRecDepth 20000 in
theorem lk_660 : (Jvm.Cond.instanceMethod ({ cls := "DraftTreeModel", name := "replace", desc := "()I" } : Jvm.MethodName)) ∈ wk_tbl := List.mem_append_left _ (List.mem_of_getElem? (i := 660) (by rfl))
set_option maxRecDepth 20000 in
theorem lk_661 : (Jvm.Cond.selects "DraftTreeModel" ({ cls := "DraftTreeModel", name := "replace", desc := "()I" } : Jvm.MethodName) ({ cls := "DraftTreeModel", name := "replace", desc := "()I" } : Jvm.MethodName)) ∈ wk_tbl := List.mem_append_left _ (List.mem_of_getElem? (i := 661) (by rfl))
set_option maxRecDepth 20000 in
theorem lk_662 : (Jvm.Cond.methodLink "DraftTreeLaw" (106 : Nat) ({ cls := "DraftTreeLaw", name := "undo", desc := "(LDraftTree;[J)I" } : Jvm.MethodName)) ∈ wk_tbl := List.mem_append_left _ (List.mem_of_getElem? (i := 662) (by rfl))
set_option maxRecDepth 20000 in
theorem lk_663 : (Jvm.Cond.static ({ cls := "DraftTreeLaw", name := "undo", desc := "(LDraftTree;[J)I" } : Jvm.MethodName)) ∈ wk_tbl := List.mem_append_left _ (List.mem_of_getElem? (i := 663) (by rfl))
set_option maxRecDepth 20000 in
theorem lk_664 : (Jvm.Cond.methodLink "DraftTreeLaw" (108 : Nat) ({ cls := "DraftTreeModel", name := "undo", desc := "()I" } : Jvm.MethodName)) ∈ wk_tbl := List.mem_append_left _ (List.mem_of_getElem? (i := 664) (by rfl))
set_option maxRecDepth 20000 in
theorem lk_665 : (Jvm.Cond.instanceMethod ({ cls := "DraftTreeModel", name := "undo", desc := "()I" } : Jvm.MethodName)) ∈ wk_tbl := List.mem_append_left _ (List.mem_of_getElem? (i := 665) (by rfl))
set_option maxRecDepth 20000 in
theorem lk_666 : (Jvm.Cond.selects "DraftTreeModel" ({ cls := "DraftTreeModel", name := "undo", desc := "()I" } : Jvm.MethodName) ({ cls := "DraftTreeModel", name := "undo", desc := "()I" } : Jvm.MethodName)) ∈ wk_tbl := List.mem_append_left _ (List.mem_of_getElem? (i := 666) (by rfl))
set_option maxRecDepth 20000 in
theorem lk_667 : (Jvm.Cond.methodLink "DraftTreeLaw" (109 : Nat) ({ cls := "DraftTreeLaw", name := "redo", desc := "(LDraftTree;[J)I" } : Jvm.MethodName)) ∈ wk_tbl := List.mem_append_left _ (List.mem_of_getElem? (i := 667) (by rfl))
set_option maxRecDepth 20000 in
theorem lk_668 : (Jvm.Cond.static ({ cls := "DraftTreeLaw", name := "redo", desc := "(LDraftTree;[J)I" } : Jvm.MethodName)) ∈ wk_tbl := List.mem_append_left _ (List.mem_of_getElem? (i := 668) (by rfl))
set_option maxRecDepth 20000 in
theorem lk_669 : (Jvm.Cond.methodLink "DraftTreeLaw" (111 : Nat) ({ cls := "DraftTreeModel", name := "redo", desc := "()I" } : Jvm.MethodName)) ∈ wk_tbl := List.mem_append_left _ (List.mem_of_getElem? (i := 669) (by rfl))
set_option maxRecDepth 20000 in
theorem lk_670 : (Jvm.Cond.instanceMethod ({ cls := "DraftTreeModel", name := "redo", desc := "()I" } : Jvm.MethodName)) ∈ wk_tbl := List.mem_append_left _ (List.mem_of_getElem? (i := 670) (by rfl))
set_option maxRecDepth 20000 in
theorem lk_671 : (Jvm.Cond.selects "DraftTreeModel" ({ cls := "DraftTreeModel", name := "redo", desc := "()I" } : Jvm.MethodName) ({ cls := "DraftTreeModel", name := "redo", desc := "()I" } : Jvm.MethodName)) ∈ wk_tbl := List.mem_append_left _ (List.mem_of_getElem? (i := 671) (by rfl))
set_option maxRecDepth 20000 in
theorem lk_672 : (Jvm.Cond.methodLink "DraftTreeLaw" (112 : Nat) ({ cls := "DraftTreeLaw", name := "jump", desc := "(LDraftTree;I)I" } : Jvm.MethodName)) ∈ wk_tbl := List.mem_append_left _ (List.mem_of_getElem? (i := 672) (by rfl))
set_option maxRecDepth 20000 in
theorem lk_673 : (Jvm.Cond.static ({ cls := "DraftTreeLaw", name := "jump", desc := "(LDraftTree;I)I" } : Jvm.MethodName)) ∈ wk_tbl := List.mem_append_left _ (List.mem_of_getElem? (i := 673) (by rfl))
set_option maxRecDepth 20000 in
theorem lk_674 : (Jvm.Cond.methodLink "DraftTreeLaw" (115 : Nat) ({ cls := "DraftTreeModel", name := "jump", desc := "(I)V" } : Jvm.MethodName)) ∈ wk_tbl := List.mem_append_left _ (List.mem_of_getElem? (i := 674) (by rfl))
set_option maxRecDepth 20000 in
theorem lk_675 : (Jvm.Cond.instanceMethod ({ cls := "DraftTreeModel", name := "jump", desc := "(I)V" } : Jvm.MethodName)) ∈ wk_tbl := List.mem_append_left _ (List.mem_of_getElem? (i := 675) (by rfl))
set_option maxRecDepth 20000 in
theorem lk_676 : (Jvm.Cond.selects "DraftTreeModel" ({ cls := "DraftTreeModel", name := "jump", desc := "(I)V" } : Jvm.MethodName) ({ cls := "DraftTreeModel", name := "jump", desc := "(I)V" } : Jvm.MethodName)) ∈ wk_tbl := List.mem_append_left _ (List.mem_of_getElem? (i := 676) (by rfl))
set_option maxRecDepth 20000 in
theorem lk_677 : (Jvm.Cond.methodLink "DraftTreeLaw" (116 : Nat) ({ cls := "DraftTree", name := "length", desc := "()I" } : Jvm.MethodName)) ∈ wk_tbl := List.mem_append_left _ (List.mem_of_getElem? (i := 677) (by rfl))
set_option maxRecDepth 20000 in
theorem lk_678 : (Jvm.Cond.instanceMethod ({ cls := "DraftTree", name := "length", desc := "()I" } : Jvm.MethodName)) ∈ wk_tbl := List.mem_append_left _ (List.mem_of_getElem? (i := 678) (by rfl))
set_option maxRecDepth 20000 in
theorem lk_679 : (Jvm.Cond.selects "DraftTree" ({ cls := "DraftTree", name := "length", desc := "()I" } : Jvm.MethodName) ({ cls := "DraftTree", name := "length", desc := "()I" } : Jvm.MethodName)) ∈ wk_tbl := List.mem_append_left _ (List.mem_of_getElem? (i := 679) (by rfl))
set_option maxRecDepth 20000 in
theorem lk_680 : (Jvm.Cond.methodLink "DraftTreeLaw" (119 : Nat) ({ cls := "DraftTreeModel", name := "length", desc := "()I" } : Jvm.MethodName)) ∈ wk_tbl := List.mem_append_left _ (List.mem_of_getElem? (i := 680) (by rfl))
set_option maxRecDepth 20000 in
theorem lk_681 : (Jvm.Cond.instanceMethod ({ cls := "DraftTreeModel", name := "length", desc := "()I" } : Jvm.MethodName)) ∈ wk_tbl := List.mem_append_left _ (List.mem_of_getElem? (i := 681) (by rfl))
set_option maxRecDepth 20000 in
theorem lk_682 : (Jvm.Cond.selects "DraftTreeModel" ({ cls := "DraftTreeModel", name := "length", desc := "()I" } : Jvm.MethodName) ({ cls := "DraftTreeModel", name := "length", desc := "()I" } : Jvm.MethodName)) ∈ wk_tbl := List.mem_append_left _ (List.mem_of_getElem? (i := 682) (by rfl))
set_option maxRecDepth 20000 in
theorem lk_683 : (Jvm.Cond.methodLink "DraftTreeLaw" (120 : Nat) ({ cls := "DraftTreeLaw", name := "at", desc := "(LDraftTree;I[J)I" } : Jvm.MethodName)) ∈ wk_tbl := List.mem_append_left _ (List.mem_of_getElem? (i := 683) (by rfl))
set_option maxRecDepth 20000 in
theorem lk_684 : (Jvm.Cond.static ({ cls := "DraftTreeLaw", name := "at", desc := "(LDraftTree;I[J)I" } : Jvm.MethodName)) ∈ wk_tbl := List.mem_append_left _ (List.mem_of_getElem? (i := 684) (by rfl))
set_option maxRecDepth 20000 in
theorem lk_685 : (Jvm.Cond.methodLink "DraftTreeLaw" (122 : Nat) ({ cls := "DraftTreeModel", name := "at", desc := "(I)C" } : Jvm.MethodName)) ∈ wk_tbl := List.mem_append_left _ (List.mem_of_getElem? (i := 685) (by rfl))
set_option maxRecDepth 20000 in
theorem lk_686 : (Jvm.Cond.instanceMethod ({ cls := "DraftTreeModel", name := "at", desc := "(I)C" } : Jvm.MethodName)) ∈ wk_tbl := List.mem_append_left _ (List.mem_of_getElem? (i := 686) (by rfl))
set_option maxRecDepth 20000 in
theorem lk_687 : (Jvm.Cond.selects "DraftTreeModel" ({ cls := "DraftTreeModel", name := "at", desc := "(I)C" } : Jvm.MethodName) ({ cls := "DraftTreeModel", name := "at", desc := "(I)C" } : Jvm.MethodName)) ∈ wk_tbl := List.mem_append_left _ (List.mem_of_getElem? (i := 687) (by rfl))
set_option maxRecDepth 20000 in
theorem lk_688 : (Jvm.Cond.methodLink "DraftTreeLaw" (123 : Nat) ({ cls := "DraftTreeLaw", name := "line", desc := "(LDraftTree;II[J)I" } : Jvm.MethodName)) ∈ wk_tbl := List.mem_append_left _ (List.mem_of_getElem? (i := 688) (by rfl))
set_option maxRecDepth 20000 in
theorem lk_689 : (Jvm.Cond.static ({ cls := "DraftTreeLaw", name := "line", desc := "(LDraftTree;II[J)I" } : Jvm.MethodName)) ∈ wk_tbl := List.mem_append_left _ (List.mem_of_getElem? (i := 689) (by rfl))
set_option maxRecDepth 20000 in
theorem lk_690 : (Jvm.Cond.methodLink "DraftTreeLaw" (126 : Nat) ({ cls := "DraftTreeModel", name := "line", desc := "(II)I" } : Jvm.MethodName)) ∈ wk_tbl := List.mem_append_left _ (List.mem_of_getElem? (i := 690) (by rfl))
set_option maxRecDepth 20000 in
theorem lk_691 : (Jvm.Cond.instanceMethod ({ cls := "DraftTreeModel", name := "line", desc := "(II)I" } : Jvm.MethodName)) ∈ wk_tbl := List.mem_append_left _ (List.mem_of_getElem? (i := 691) (by rfl))
set_option maxRecDepth 20000 in
theorem lk_692 : (Jvm.Cond.selects "DraftTreeModel" ({ cls := "DraftTreeModel", name := "line", desc := "(II)I" } : Jvm.MethodName) ({ cls := "DraftTreeModel", name := "line", desc := "(II)I" } : Jvm.MethodName)) ∈ wk_tbl := List.mem_append_left _ (List.mem_of_getElem? (i := 692) (by rfl))
set_option maxRecDepth 20000 in
theorem lk_693 : (Jvm.Cond.methodLink "DraftTreeLaw" (127 : Nat) ({ cls := "DraftTreeLaw", name := "figure", desc := "(LDraftTree;I[J)I" } : Jvm.MethodName)) ∈ wk_tbl := List.mem_append_left _ (List.mem_of_getElem? (i := 693) (by rfl))
set_option maxRecDepth 20000 in
theorem lk_694 : (Jvm.Cond.static ({ cls := "DraftTreeLaw", name := "figure", desc := "(LDraftTree;I[J)I" } : Jvm.MethodName)) ∈ wk_tbl := List.mem_append_left _ (List.mem_of_getElem? (i := 694) (by rfl))
set_option maxRecDepth 20000 in
theorem lk_695 : (Jvm.Cond.methodLink "DraftTreeLaw" (129 : Nat) ({ cls := "DraftTreeModel", name := "figure", desc := "(I)I" } : Jvm.MethodName)) ∈ wk_tbl := List.mem_append_left _ (List.mem_of_getElem? (i := 695) (by rfl))
set_option maxRecDepth 20000 in
theorem lk_696 : (Jvm.Cond.instanceMethod ({ cls := "DraftTreeModel", name := "figure", desc := "(I)I" } : Jvm.MethodName)) ∈ wk_tbl := List.mem_append_left _ (List.mem_of_getElem? (i := 696) (by rfl))
set_option maxRecDepth 20000 in
theorem lk_697 : (Jvm.Cond.selects "DraftTreeModel" ({ cls := "DraftTreeModel", name := "figure", desc := "(I)I" } : Jvm.MethodName) ({ cls := "DraftTreeModel", name := "figure", desc := "(I)I" } : Jvm.MethodName)) ∈ wk_tbl := List.mem_append_left _ (List.mem_of_getElem? (i := 697) (by rfl))
set_option maxRecDepth 20000 in
theorem lk_698 : (Jvm.Cond.methodLink "DraftTreeLaw" (130 : Nat) ({ cls := "DraftTreeLaw", name := "parent", desc := "(LDraftTree;I[J)I" } : Jvm.MethodName)) ∈ wk_tbl := List.mem_append_left _ (List.mem_of_getElem? (i := 698) (by rfl))
set_option maxRecDepth 20000 in
theorem lk_699 : (Jvm.Cond.static ({ cls := "DraftTreeLaw", name := "parent", desc := "(LDraftTree;I[J)I" } : Jvm.MethodName)) ∈ wk_tbl := List.mem_append_left _ (List.mem_of_getElem? (i := 699) (by rfl))
set_option maxRecDepth 20000 in
theorem lk_700 : (Jvm.Cond.methodLink "DraftTreeLaw" (132 : Nat) ({ cls := "DraftTreeModel", name := "parent", desc := "(I)I" } : Jvm.MethodName)) ∈ wk_tbl := List.mem_append_left _ (List.mem_of_getElem? (i := 700) (by rfl))
set_option maxRecDepth 20000 in
theorem lk_701 : (Jvm.Cond.instanceMethod ({ cls := "DraftTreeModel", name := "parent", desc := "(I)I" } : Jvm.MethodName)) ∈ wk_tbl := List.mem_append_left _ (List.mem_of_getElem? (i := 701) (by rfl))
set_option maxRecDepth 20000 in
theorem lk_702 : (Jvm.Cond.selects "DraftTreeModel" ({ cls := "DraftTreeModel", name := "parent", desc := "(I)I" } : Jvm.MethodName) ({ cls := "DraftTreeModel", name := "parent", desc := "(I)I" } : Jvm.MethodName)) ∈ wk_tbl := List.mem_append_left _ (List.mem_of_getElem? (i := 702) (by rfl))
set_option maxRecDepth 20000 in
theorem lk_703 : (Jvm.Cond.methodLink "DraftTree" (1 : Nat) ({ cls := "java/lang/Object", name := "<init>", desc := "()V" } : Jvm.MethodName)) ∈ wk_tbl := List.mem_append_left _ (List.mem_of_getElem? (i := 703) (by rfl))
set_option maxRecDepth 20000 in
theorem lk_704 : (Jvm.Cond.classLink "DraftTree" (32 : Nat) "DraftTree$PatternReader") ∈ wk_tbl := List.mem_append_left _ (List.mem_of_getElem? (i := 704) (by rfl))
set_option maxRecDepth 20000 in
theorem lk_705 : (Jvm.Cond.instantiable "DraftTree$PatternReader" (13 : Nat)) ∈ wk_tbl := List.mem_append_left _ (List.mem_of_getElem? (i := 705) (by rfl))
set_option maxRecDepth 20000 in
theorem lk_706 : (Jvm.Cond.methodLink "DraftTree$PatternReader" (3 : Nat) ({ cls := "java/lang/Object", name := "<init>", desc := "()V" } : Jvm.MethodName)) ∈ wk_tbl := List.mem_append_left _ (List.mem_of_getElem? (i := 706) (by rfl))
set_option maxRecDepth 20000 in
theorem lk_707 : (Jvm.Cond.arrayClass Jvm.ClassFile.FieldType.int) ∈ wk_tbl := List.mem_append_left _ (List.mem_of_getElem? (i := 707) (by rfl))
set_option maxRecDepth 20000 in
theorem lk_708 : (Jvm.Cond.classLink "DraftTree$PatternReader" (24 : Nat) "DraftTree$Automaton") ∈ wk_tbl := List.mem_append_left _ (List.mem_of_getElem? (i := 708) (by rfl))
set_option maxRecDepth 20000 in
theorem lk_709 : (Jvm.Cond.instantiable "DraftTree$Automaton" (10 : Nat)) ∈ wk_tbl := List.mem_append_left _ (List.mem_of_getElem? (i := 709) (by rfl))
set_option maxRecDepth 20000 in
theorem lk_710 : (Jvm.Cond.methodLink "DraftTree$Automaton" (3 : Nat) ({ cls := "java/lang/Object", name := "<init>", desc := "()V" } : Jvm.MethodName)) ∈ wk_tbl := List.mem_append_left _ (List.mem_of_getElem? (i := 710) (by rfl))
set_option maxRecDepth 20000 in
theorem lk_711 : (Jvm.Cond.code ({ cls := "DraftTree$Automaton", name := "<init>", desc := "()V" } : Jvm.MethodName) prog_2_method_1_code (1 : Nat) (Option.none : Option Jvm.ClassFile.FieldType)) ∈ wk_tbl := List.mem_append_left _ (List.mem_of_getElem? (i := 711) (by rfl))
set_option maxRecDepth 20000 in
theorem lk_712 : (Jvm.Cond.methodLink "DraftTree$PatternReader" (26 : Nat) ({ cls := "DraftTree$Automaton", name := "<init>", desc := "()V" } : Jvm.MethodName)) ∈ wk_tbl := List.mem_append_left _ (List.mem_of_getElem? (i := 712) (by rfl))
set_option maxRecDepth 20000 in
theorem lk_713 : (Jvm.Cond.instanceMethod ({ cls := "DraftTree$Automaton", name := "<init>", desc := "()V" } : Jvm.MethodName)) ∈ wk_tbl := List.mem_append_left _ (List.mem_of_getElem? (i := 713) (by rfl))
set_option maxRecDepth 20000 in
theorem lk_714 : (Jvm.Cond.code ({ cls := "DraftTree$PatternReader", name := "<init>", desc := "()V" } : Jvm.MethodName) prog_3_method_1_code (1 : Nat) (Option.none : Option Jvm.ClassFile.FieldType)) ∈ wk_tbl := List.mem_append_left _ (List.mem_of_getElem? (i := 714) (by rfl))
set_option maxRecDepth 20000 in
theorem lk_715 : (Jvm.Cond.methodLink "DraftTree" (34 : Nat) ({ cls := "DraftTree$PatternReader", name := "<init>", desc := "()V" } : Jvm.MethodName)) ∈ wk_tbl := List.mem_append_left _ (List.mem_of_getElem? (i := 715) (by rfl))
set_option maxRecDepth 20000 in
theorem lk_716 : (Jvm.Cond.instanceMethod ({ cls := "DraftTree$PatternReader", name := "<init>", desc := "()V" } : Jvm.MethodName)) ∈ wk_tbl := List.mem_append_left _ (List.mem_of_getElem? (i := 716) (by rfl))
set_option maxRecDepth 20000 in
theorem lk_717 : (Jvm.Cond.classLink "DraftTree" (39 : Nat) "DraftTree$Automaton") ∈ wk_tbl := List.mem_append_left _ (List.mem_of_getElem? (i := 717) (by rfl))
set_option maxRecDepth 20000 in
theorem lk_718 : (Jvm.Cond.methodLink "DraftTree" (41 : Nat) ({ cls := "DraftTree$Automaton", name := "<init>", desc := "()V" } : Jvm.MethodName)) ∈ wk_tbl := List.mem_append_left _ (List.mem_of_getElem? (i := 718) (by rfl))
set_option maxRecDepth 20000 in
theorem lk_719 : (Jvm.Cond.methodLink "DraftTreeModel" (1 : Nat) ({ cls := "java/lang/Object", name := "<init>", desc := "()V" } : Jvm.MethodName)) ∈ wk_tbl := List.mem_append_left _ (List.mem_of_getElem? (i := 719) (by rfl))
set_option maxRecDepth 20000 in
theorem lk_720 : (Jvm.Cond.arrayClass Jvm.ClassFile.FieldType.boolean) ∈ wk_tbl := List.mem_append_left _ (List.mem_of_getElem? (i := 720) (by rfl))
theorem wk_good_l : wk_l.all goodWord = true := by decide +kernel
theorem wk_good : ∀ w ∈ wk_tbl, goodWord w = true := fun w h => (List.mem_append.mp h).elim (fun h => List.all_eq_true.mp wk_good_l w h) (fun h => (List.mem_append.mp h).elim (fun h => (List.mem_filter.mp h).2) (fun h => (List.mem_append.mp h).elim (fun h => (List.mem_filter.mp h).2) (fun h => (List.mem_append.mp h).elim (fun h => (List.mem_filter.mp h).2) (fun h => (List.mem_filter.mp h).2))))
theorem gd_c {c0 c1 : Cond} (h : c1 ∈ wk_tbl) : GoodIn (c0 :: wk_tbl) (c1 :: wk_tbl) := fun w hw => by
  have h1 : w ∈ wk_tbl := (List.mem_cons.mp hw).elim (fun e => by rw [e]; exact h) (fun z => z)
  exact ⟨List.mem_cons_of_mem _ h1, good_of_word (wk_good w h1)⟩
theorem gd_l {c0 : Cond} {ws : List Cond} (h : ∀ w ∈ ws, w ∈ wk_tbl) : GoodIn (c0 :: wk_tbl) ws := fun w hw => ⟨List.mem_cons_of_mem _ (h w hw), good_of_word (wk_good w (h w hw))⟩
theorem gd_v {c0 : Cond} {own C : String} {idx : Nat} {y : MethodName} {cw : Cond} (h1 : Cond.methodLink own idx y ∈ wk_tbl) (h2 : Cond.instanceMethod y ∈ wk_tbl) (h3 : Cond.selects C y y ∈ wk_tbl) (h4 : Cond.initialized C ∈ wk_tbl) (h5 : cw ∈ wk_tbl) : GoodIn (c0 :: wk_tbl) (wsV own idx C y (cw :: wk_tbl)) := gd_l (fun w hw => by
  rcases List.mem_append.mp hw with h | h
  · simp only [List.mem_cons, List.not_mem_nil, or_false] at h
    rcases h with rfl | rfl | rfl | rfl
    · exact h1
    · exact h2
    · exact h3
    · exact h4
  · exact (List.mem_cons.mp h).elim (fun e => by rw [e]; exact h5) (fun z => z))
theorem gd_t {c0 : Cond} {own : String} {idx : Nat} {y : MethodName} {cw : Cond} (h1 : Cond.methodLink own idx y ∈ wk_tbl) (h2 : Cond.static y ∈ wk_tbl) (h4 : Cond.initialized y.cls ∈ wk_tbl) (h5 : cw ∈ wk_tbl) : GoodIn (c0 :: wk_tbl) (va_wsS own idx y (cw :: wk_tbl)) := gd_l (fun w hw => by
  rcases List.mem_append.mp hw with h | h
  · simp only [List.mem_cons, List.not_mem_nil, or_false] at h
    rcases h with rfl | rfl | rfl
    · exact h1
    · exact h2
    · exact h4
  · exact (List.mem_cons.mp h).elim (fun e => by rw [e]; exact h5) (fun z => z))
theorem gd_s {c0 : Cond} {own : String} {idx : Nat} {y : MethodName} {cw : Cond} (h1 : Cond.methodLink own idx y ∈ wk_tbl) (h2 : Cond.static y ∈ wk_tbl) (h4 : Cond.initialized own ∈ wk_tbl) (h5 : cw ∈ wk_tbl) : GoodIn (c0 :: wk_tbl) (wsS own idx y (cw :: wk_tbl)) := gd_l (fun w hw => by
  rcases List.mem_append.mp hw with h | h
  · simp only [List.mem_cons, List.not_mem_nil, or_false] at h
    rcases h with rfl | rfl | rfl
    · exact h1
    · exact h2
    · exact h4
  · exact (List.mem_cons.mp h).elim (fun e => by rw [e]; exact h5) (fun z => z))
theorem in_D : ∀ w ∈ u_ws R_D F_D 14, w ∈ wk_tbl := by
  show ∀ w ∈ [(Jvm.Cond.laysFinal "DraftTree" "DraftTree" "slip" "[C"), (Jvm.Cond.lays "DraftTree" "DraftTree" "slipSize" "I"), (Jvm.Cond.laysFinal "DraftTree" "DraftTree" "states" "[LDraftTree$State;"), (Jvm.Cond.lays "DraftTree" "DraftTree" "stateCount" "I"), (Jvm.Cond.lays "DraftTree" "DraftTree" "present" "I"), (Jvm.Cond.lays "DraftTree" "DraftTree" "text" "[C"), (Jvm.Cond.lays "DraftTree" "DraftTree" "cursor" "I"), (Jvm.Cond.lays "DraftTree" "DraftTree" "mark" "I"), (Jvm.Cond.laysFinal "DraftTree" "DraftTree" "reader" "LDraftTree$PatternReader;"), (Jvm.Cond.lays "DraftTree" "DraftTree" "pattern" "LDraftTree$Automaton;"), (Jvm.Cond.lays "DraftTree" "DraftTree" "hasPattern" "Z"), (Jvm.Cond.lays "DraftTree" "DraftTree" "latestFault" "I"), (Jvm.Cond.laysFinal "DraftTree" "DraftTree" "matchStarts" "[I"), (Jvm.Cond.laysFinal "DraftTree" "DraftTree" "matchEnds" "[I")], w ∈ wk_tbl
  exact List.forall_mem_cons.mpr ⟨lk_228, List.forall_mem_cons.mpr ⟨lk_229, List.forall_mem_cons.mpr ⟨lk_230, List.forall_mem_cons.mpr ⟨lk_231, List.forall_mem_cons.mpr ⟨lk_232, List.forall_mem_cons.mpr ⟨lk_233, List.forall_mem_cons.mpr ⟨lk_234, List.forall_mem_cons.mpr ⟨lk_235, List.forall_mem_cons.mpr ⟨lk_236, List.forall_mem_cons.mpr ⟨lk_237, List.forall_mem_cons.mpr ⟨lk_238, List.forall_mem_cons.mpr ⟨lk_239, List.forall_mem_cons.mpr ⟨lk_240, List.forall_mem_cons.mpr ⟨lk_241, (fun _ h => absurd h List.not_mem_nil)⟩⟩⟩⟩⟩⟩⟩⟩⟩⟩⟩⟩⟩⟩
theorem in_S : ∀ w ∈ u_ws R_S F_S 4, w ∈ wk_tbl := by
  show ∀ w ∈ [(Jvm.Cond.laysFinal "DraftTree$State" "DraftTree$State" "text" "[C"), (Jvm.Cond.laysFinal "DraftTree$State" "DraftTree$State" "origin" "I"), (Jvm.Cond.lays "DraftTree$State" "DraftTree$State" "place" "I"), (Jvm.Cond.lays "DraftTree$State" "DraftTree$State" "latestChild" "I")], w ∈ wk_tbl
  exact List.forall_mem_cons.mpr ⟨lk_457, List.forall_mem_cons.mpr ⟨lk_458, List.forall_mem_cons.mpr ⟨lk_459, List.forall_mem_cons.mpr ⟨lk_460, (fun _ h => absurd h List.not_mem_nil)⟩⟩⟩⟩
theorem in_P : ∀ w ∈ u_ws R_P F_P 13, w ∈ wk_tbl := by
  show ∀ w ∈ [(Jvm.Cond.laysFinal "DraftTree$PatternReader" "DraftTree$PatternReader" "choiceStarts" "[I"), (Jvm.Cond.laysFinal "DraftTree$PatternReader" "DraftTree$PatternReader" "choiceEnds" "[I"), (Jvm.Cond.laysFinal "DraftTree$PatternReader" "DraftTree$PatternReader" "rowHeads" "[I"), (Jvm.Cond.laysFinal "DraftTree$PatternReader" "DraftTree$PatternReader" "outerTails" "[I"), (Jvm.Cond.lays "DraftTree$PatternReader" "DraftTree$PatternReader" "made" "LDraftTree$Automaton;"), (Jvm.Cond.lays "DraftTree$PatternReader" "DraftTree$PatternReader" "source" "[C"), (Jvm.Cond.lays "DraftTree$PatternReader" "DraftTree$PatternReader" "size" "I"), (Jvm.Cond.lays "DraftTree$PatternReader" "DraftTree$PatternReader" "position" "I"), (Jvm.Cond.lays "DraftTree$PatternReader" "DraftTree$PatternReader" "depth" "I"), (Jvm.Cond.lays "DraftTree$PatternReader" "DraftTree$PatternReader" "fault" "I"), (Jvm.Cond.lays "DraftTree$PatternReader" "DraftTree$PatternReader" "lead" "I"), (Jvm.Cond.lays "DraftTree$PatternReader" "DraftTree$PatternReader" "first" "I"), (Jvm.Cond.lays "DraftTree$PatternReader" "DraftTree$PatternReader" "tail" "I")], w ∈ wk_tbl
  exact List.forall_mem_cons.mpr ⟨lk_314, List.forall_mem_cons.mpr ⟨lk_315, List.forall_mem_cons.mpr ⟨lk_316, List.forall_mem_cons.mpr ⟨lk_317, List.forall_mem_cons.mpr ⟨lk_318, List.forall_mem_cons.mpr ⟨lk_319, List.forall_mem_cons.mpr ⟨lk_320, List.forall_mem_cons.mpr ⟨lk_321, List.forall_mem_cons.mpr ⟨lk_322, List.forall_mem_cons.mpr ⟨lk_323, List.forall_mem_cons.mpr ⟨lk_324, List.forall_mem_cons.mpr ⟨lk_325, List.forall_mem_cons.mpr ⟨lk_326, (fun _ h => absurd h List.not_mem_nil)⟩⟩⟩⟩⟩⟩⟩⟩⟩⟩⟩⟩⟩
theorem in_A : ∀ w ∈ u_ws R_A F_A 10, w ∈ wk_tbl := by
  show ∀ w ∈ [(Jvm.Cond.laysFinal "DraftTree$Automaton" "DraftTree$Automaton" "kinds" "[I"), (Jvm.Cond.laysFinal "DraftTree$Automaton" "DraftTree$Automaton" "next" "[I"), (Jvm.Cond.laysFinal "DraftTree$Automaton" "DraftTree$Automaton" "other" "[I"), (Jvm.Cond.laysFinal "DraftTree$Automaton" "DraftTree$Automaton" "lowCodes" "[J"), (Jvm.Cond.laysFinal "DraftTree$Automaton" "DraftTree$Automaton" "highCodes" "[J"), (Jvm.Cond.lays "DraftTree$Automaton" "DraftTree$Automaton" "size" "I"), (Jvm.Cond.lays "DraftTree$Automaton" "DraftTree$Automaton" "start" "I"), (Jvm.Cond.lays "DraftTree$Automaton" "DraftTree$Automaton" "goal" "I"), (Jvm.Cond.lays "DraftTree$Automaton" "DraftTree$Automaton" "matchStart" "I"), (Jvm.Cond.lays "DraftTree$Automaton" "DraftTree$Automaton" "matchEnd" "I")], w ∈ wk_tbl
  exact List.forall_mem_cons.mpr ⟨lk_248, List.forall_mem_cons.mpr ⟨lk_249, List.forall_mem_cons.mpr ⟨lk_250, List.forall_mem_cons.mpr ⟨lk_251, List.forall_mem_cons.mpr ⟨lk_252, List.forall_mem_cons.mpr ⟨lk_253, List.forall_mem_cons.mpr ⟨lk_254, List.forall_mem_cons.mpr ⟨lk_255, List.forall_mem_cons.mpr ⟨lk_256, List.forall_mem_cons.mpr ⟨lk_257, (fun _ h => absurd h List.not_mem_nil)⟩⟩⟩⟩⟩⟩⟩⟩⟩⟩
theorem in_M : ∀ w ∈ u_ws R_M F_M 38, w ∈ wk_tbl := by
  show ∀ w ∈ [(Jvm.Cond.lays "DraftTreeModel" "DraftTreeModel" "code" "I"), (Jvm.Cond.lays "DraftTreeModel" "DraftTreeModel" "typed" "I"), (Jvm.Cond.laysFinal "DraftTreeModel" "DraftTreeModel" "slip" "[C"), (Jvm.Cond.lays "DraftTreeModel" "DraftTreeModel" "states" "I"), (Jvm.Cond.lays "DraftTreeModel" "DraftTreeModel" "present" "I"), (Jvm.Cond.laysFinal "DraftTreeModel" "DraftTreeModel" "texts" "[C"), (Jvm.Cond.laysFinal "DraftTreeModel" "DraftTreeModel" "lengths" "[I"), (Jvm.Cond.laysFinal "DraftTreeModel" "DraftTreeModel" "places" "[I"), (Jvm.Cond.laysFinal "DraftTreeModel" "DraftTreeModel" "parents" "[I"), (Jvm.Cond.laysFinal "DraftTreeModel" "DraftTreeModel" "came" "[I"), (Jvm.Cond.lays "DraftTreeModel" "DraftTreeModel" "clock" "I"), (Jvm.Cond.lays "DraftTreeModel" "DraftTreeModel" "cursor" "I"), (Jvm.Cond.lays "DraftTreeModel" "DraftTreeModel" "mark" "I"), (Jvm.Cond.lays "DraftTreeModel" "DraftTreeModel" "compiled" "Z"), (Jvm.Cond.lays "DraftTreeModel" "DraftTreeModel" "wrongAt" "I"), (Jvm.Cond.lays "DraftTreeModel" "DraftTreeModel" "size" "I"), (Jvm.Cond.laysFinal "DraftTreeModel" "DraftTreeModel" "pattern" "[C"), (Jvm.Cond.lays "DraftTreeModel" "DraftTreeModel" "nodes" "I"), (Jvm.Cond.laysFinal "DraftTreeModel" "DraftTreeModel" "kind" "[I"), (Jvm.Cond.laysFinal "DraftTreeModel" "DraftTreeModel" "from" "[I"), (Jvm.Cond.laysFinal "DraftTreeModel" "DraftTreeModel" "to" "[I"), (Jvm.Cond.laysFinal "DraftTreeModel" "DraftTreeModel" "one" "[I"), (Jvm.Cond.laysFinal "DraftTreeModel" "DraftTreeModel" "two" "[I"), (Jvm.Cond.lays "DraftTreeModel" "DraftTreeModel" "first" "I"), (Jvm.Cond.lays "DraftTreeModel" "DraftTreeModel" "last" "I"), (Jvm.Cond.lays "DraftTreeModel" "DraftTreeModel" "pieces" "I"), (Jvm.Cond.laysFinal "DraftTreeModel" "DraftTreeModel" "head" "[I"), (Jvm.Cond.laysFinal "DraftTreeModel" "DraftTreeModel" "tail" "[I"), (Jvm.Cond.lays "DraftTreeModel" "DraftTreeModel" "open" "I"), (Jvm.Cond.laysFinal "DraftTreeModel" "DraftTreeModel" "choice" "[I"), (Jvm.Cond.laysFinal "DraftTreeModel" "DraftTreeModel" "row" "[I"), (Jvm.Cond.laysFinal "DraftTreeModel" "DraftTreeModel" "part" "[I"), (Jvm.Cond.laysFinal "DraftTreeModel" "DraftTreeModel" "here" "[Z"), (Jvm.Cond.laysFinal "DraftTreeModel" "DraftTreeModel" "then" "[Z"), (Jvm.Cond.lays "DraftTreeModel" "DraftTreeModel" "foundAt" "I"), (Jvm.Cond.lays "DraftTreeModel" "DraftTreeModel" "foundEnd" "I"), (Jvm.Cond.lays "DraftTreeModel" "DraftTreeModel" "made" "I"), (Jvm.Cond.laysFinal "DraftTreeModel" "DraftTreeModel" "draft" "[C")], w ∈ wk_tbl
  exact List.forall_mem_cons.mpr ⟨lk_0, List.forall_mem_cons.mpr ⟨lk_1, List.forall_mem_cons.mpr ⟨lk_2, List.forall_mem_cons.mpr ⟨lk_3, List.forall_mem_cons.mpr ⟨lk_4, List.forall_mem_cons.mpr ⟨lk_5, List.forall_mem_cons.mpr ⟨lk_6, List.forall_mem_cons.mpr ⟨lk_7, List.forall_mem_cons.mpr ⟨lk_8, List.forall_mem_cons.mpr ⟨lk_9, List.forall_mem_cons.mpr ⟨lk_10, List.forall_mem_cons.mpr ⟨lk_11, List.forall_mem_cons.mpr ⟨lk_12, List.forall_mem_cons.mpr ⟨lk_13, List.forall_mem_cons.mpr ⟨lk_14, List.forall_mem_cons.mpr ⟨lk_15, List.forall_mem_cons.mpr ⟨lk_16, List.forall_mem_cons.mpr ⟨lk_17, List.forall_mem_cons.mpr ⟨lk_18, List.forall_mem_cons.mpr ⟨lk_19, List.forall_mem_cons.mpr ⟨lk_20, List.forall_mem_cons.mpr ⟨lk_21, List.forall_mem_cons.mpr ⟨lk_22, List.forall_mem_cons.mpr ⟨lk_23, List.forall_mem_cons.mpr ⟨lk_24, List.forall_mem_cons.mpr ⟨lk_25, List.forall_mem_cons.mpr ⟨lk_26, List.forall_mem_cons.mpr ⟨lk_27, List.forall_mem_cons.mpr ⟨lk_28, List.forall_mem_cons.mpr ⟨lk_29, List.forall_mem_cons.mpr ⟨lk_30, List.forall_mem_cons.mpr ⟨lk_31, List.forall_mem_cons.mpr ⟨lk_32, List.forall_mem_cons.mpr ⟨lk_33, List.forall_mem_cons.mpr ⟨lk_34, List.forall_mem_cons.mpr ⟨lk_35, List.forall_mem_cons.mpr ⟨lk_36, List.forall_mem_cons.mpr ⟨lk_37, (fun _ h => absurd h List.not_mem_nil)⟩⟩⟩⟩⟩⟩⟩⟩⟩⟩⟩⟩⟩⟩⟩⟩⟩⟩⟩⟩⟩⟩⟩⟩⟩⟩⟩⟩⟩⟩⟩⟩⟩⟩⟩⟩⟩⟩
theorem oa_0 {args : Array Value} {s : State} {c0 : Cond} (hts : ∀ w ∈ (c0 :: wk_tbl), w.before args s = true) (hZ : th_Zs s) : ∀ a ∈ Bundle.ownAtoms0 "DraftTree" 145 "java/lang/IndexOutOfBoundsException" ["java/lang/RuntimeException", "java/lang/Exception"], a.before args s = true := by
  refine th_atoms hZ (fun w hw => ?_)
  cases hg : goodWord w with
  | true =>
    have h : w ∈ wk_at_oa_0 := List.mem_filter.mpr ⟨hw, hg⟩
    exact Or.inl (hts w (List.mem_cons_of_mem _ (List.mem_append_right _ (List.mem_append_left _ h))))
  | false =>
    have h : w ∈ (Bundle.ownAtoms0 "DraftTree" 145 "java/lang/IndexOutOfBoundsException" ["java/lang/RuntimeException", "java/lang/Exception"]).filter (fun w => !goodWord w) := List.mem_filter.mpr ⟨hw, by simp [hg]⟩
    have h9 : ∀ w ∈ (Bundle.ownAtoms0 "DraftTree" 145 "java/lang/IndexOutOfBoundsException" ["java/lang/RuntimeException", "java/lang/Exception"]).filter (fun w => !goodWord w), (w = .isRef (.static Bundle.tN "UNASSIGNED_STACK" Bundle.steD) ∨ w = .isRef (.static Bundle.tN "SUPPRESSED_SENTINEL" Bundle.listD) ∨ w = .laysStatic Bundle.tN "UNASSIGNED_STACK" Bundle.steD ∨ w = .laysStatic Bundle.tN "SUPPRESSED_SENTINEL" Bundle.listD ∨ w ∈ th_bad) := by decide +kernel
    exact Or.inr (h9 w h)
theorem oa_1 {args : Array Value} {s : State} {c0 : Cond} (hts : ∀ w ∈ (c0 :: wk_tbl), w.before args s = true) (hZ : th_Zs s) : ∀ a ∈ Bundle.ownAtoms0 "DraftTree" 98 "java/lang/IllegalArgumentException" ["java/lang/RuntimeException", "java/lang/Exception"], a.before args s = true := by
  refine th_atoms hZ (fun w hw => ?_)
  cases hg : goodWord w with
  | true =>
    have h : w ∈ wk_at_oa_1 := List.mem_filter.mpr ⟨hw, hg⟩
    exact Or.inl (hts w (List.mem_cons_of_mem _ (List.mem_append_right _ (List.mem_append_right _ (List.mem_append_left _ h)))))
  | false =>
    have h : w ∈ (Bundle.ownAtoms0 "DraftTree" 98 "java/lang/IllegalArgumentException" ["java/lang/RuntimeException", "java/lang/Exception"]).filter (fun w => !goodWord w) := List.mem_filter.mpr ⟨hw, by simp [hg]⟩
    have h9 : ∀ w ∈ (Bundle.ownAtoms0 "DraftTree" 98 "java/lang/IllegalArgumentException" ["java/lang/RuntimeException", "java/lang/Exception"]).filter (fun w => !goodWord w), (w = .isRef (.static Bundle.tN "UNASSIGNED_STACK" Bundle.steD) ∨ w = .isRef (.static Bundle.tN "SUPPRESSED_SENTINEL" Bundle.listD) ∨ w = .laysStatic Bundle.tN "UNASSIGNED_STACK" Bundle.steD ∨ w = .laysStatic Bundle.tN "SUPPRESSED_SENTINEL" Bundle.listD ∨ w ∈ th_bad) := by decide +kernel
    exact Or.inr (h9 w h)
theorem oa_2 {args : Array Value} {s : State} {c0 : Cond} (hts : ∀ w ∈ (c0 :: wk_tbl), w.before args s = true) (hZ : th_Zs s) : ∀ a ∈ Bundle.ownAtoms0 "DraftTree" 68 "java/lang/IllegalStateException" ["java/lang/RuntimeException", "java/lang/Exception"], a.before args s = true := by
  refine th_atoms hZ (fun w hw => ?_)
  cases hg : goodWord w with
  | true =>
    have h : w ∈ wk_at_oa_2 := List.mem_filter.mpr ⟨hw, hg⟩
    exact Or.inl (hts w (List.mem_cons_of_mem _ (List.mem_append_right _ (List.mem_append_right _ (List.mem_append_right _ (List.mem_append_left _ h))))))
  | false =>
    have h : w ∈ (Bundle.ownAtoms0 "DraftTree" 68 "java/lang/IllegalStateException" ["java/lang/RuntimeException", "java/lang/Exception"]).filter (fun w => !goodWord w) := List.mem_filter.mpr ⟨hw, by simp [hg]⟩
    have h9 : ∀ w ∈ (Bundle.ownAtoms0 "DraftTree" 68 "java/lang/IllegalStateException" ["java/lang/RuntimeException", "java/lang/Exception"]).filter (fun w => !goodWord w), (w = .isRef (.static Bundle.tN "UNASSIGNED_STACK" Bundle.steD) ∨ w = .isRef (.static Bundle.tN "SUPPRESSED_SENTINEL" Bundle.listD) ∨ w = .laysStatic Bundle.tN "UNASSIGNED_STACK" Bundle.steD ∨ w = .laysStatic Bundle.tN "SUPPRESSED_SENTINEL" Bundle.listD ∨ w ∈ th_bad) := by decide +kernel
    exact Or.inr (h9 w h)
theorem oa_3 {args : Array Value} {s : State} {c0 : Cond} (hts : ∀ w ∈ (c0 :: wk_tbl), w.before args s = true) (hZ : th_Zs s) : ∀ a ∈ Bundle.ownAtoms0 "DraftTree" 113 "java/util/NoSuchElementException" ["java/lang/RuntimeException", "java/lang/Exception"], a.before args s = true := by
  refine th_atoms hZ (fun w hw => ?_)
  cases hg : goodWord w with
  | true =>
    have h : w ∈ wk_at_oa_3 := List.mem_filter.mpr ⟨hw, hg⟩
    exact Or.inl (hts w (List.mem_cons_of_mem _ (List.mem_append_right _ (List.mem_append_right _ (List.mem_append_right _ (List.mem_append_right _ (h)))))))
  | false =>
    have h : w ∈ (Bundle.ownAtoms0 "DraftTree" 113 "java/util/NoSuchElementException" ["java/lang/RuntimeException", "java/lang/Exception"]).filter (fun w => !goodWord w) := List.mem_filter.mpr ⟨hw, by simp [hg]⟩
    have h9 : ∀ w ∈ (Bundle.ownAtoms0 "DraftTree" 113 "java/util/NoSuchElementException" ["java/lang/RuntimeException", "java/lang/Exception"]).filter (fun w => !goodWord w), (w = .isRef (.static Bundle.tN "UNASSIGNED_STACK" Bundle.steD) ∨ w = .isRef (.static Bundle.tN "SUPPRESSED_SENTINEL" Bundle.listD) ∨ w = .laysStatic Bundle.tN "UNASSIGNED_STACK" Bundle.steD ∨ w = .laysStatic Bundle.tN "SUPPRESSED_SENTINEL" Bundle.listD ∨ w ∈ th_bad) := by decide +kernel
    exact Or.inr (h9 w h)
abbrev w_A_addNode : List Cond := (Jvm.Cond.code ({ cls := "DraftTree$Automaton", name := "addNode", desc := "(I)I" } : Jvm.MethodName) prog_2_method_2_code (3 : Nat) (Option.some Jvm.ClassFile.FieldType.int)) :: wk_tbl
abbrev w_A_asSet : List Cond := (Jvm.Cond.code ({ cls := "DraftTree$Automaton", name := "asSet", desc := "(I)J" } : Jvm.MethodName) prog_2_method_11_code (1 : Nat) (Option.some Jvm.ClassFile.FieldType.long)) :: wk_tbl
abbrev w_A_consume : List Cond := (Jvm.Cond.code ({ cls := "DraftTree$Automaton", name := "consume", desc := "(JC)J" } : Jvm.MethodName) prog_2_method_7_code (10 : Nat) (Option.some Jvm.ClassFile.FieldType.long)) :: wk_tbl
abbrev w_A_init : List Cond := (Jvm.Cond.code ({ cls := "DraftTree$Automaton", name := "<init>", desc := "()V" } : Jvm.MethodName) prog_2_method_1_code (1 : Nat) (Option.none : Option Jvm.ClassFile.FieldType)) :: wk_tbl
abbrev w_A_longestFit : List Cond := (Jvm.Cond.code ({ cls := "DraftTree$Automaton", name := "longestFit", desc := "([CI)I" } : Jvm.MethodName) prog_2_method_6_code (7 : Nat) (Option.some Jvm.ClassFile.FieldType.int)) :: wk_tbl
abbrev w_A_seek : List Cond := (Jvm.Cond.code ({ cls := "DraftTree$Automaton", name := "seek", desc := "([CI)Z" } : Jvm.MethodName) prog_2_method_5_code (5 : Nat) (Option.some Jvm.ClassFile.FieldType.boolean)) :: wk_tbl
abbrev w_A_spread : List Cond := (Jvm.Cond.code ({ cls := "DraftTree$Automaton", name := "spread", desc := "(J[CI)J" } : Jvm.MethodName) prog_2_method_9_code (15 : Nat) (Option.some Jvm.ClassFile.FieldType.long)) :: wk_tbl
abbrev w_A_takeCodes : List Cond := (Jvm.Cond.code ({ cls := "DraftTree$Automaton", name := "takeCodes", desc := "(III)V" } : Jvm.MethodName) prog_2_method_3_code (5 : Nat) (Option.none : Option Jvm.ClassFile.FieldType)) :: wk_tbl
abbrev w_A_takeOtherCodes : List Cond := (Jvm.Cond.code ({ cls := "DraftTree$Automaton", name := "takeOtherCodes", desc := "(I)V" } : Jvm.MethodName) prog_2_method_4_code (2 : Nat) (Option.none : Option Jvm.ClassFile.FieldType)) :: wk_tbl
abbrev w_A_takes : List Cond := (Jvm.Cond.code ({ cls := "DraftTree$Automaton", name := "takes", desc := "(IC)Z" } : Jvm.MethodName) prog_2_method_8_code (5 : Nat) (Option.some Jvm.ClassFile.FieldType.boolean)) :: wk_tbl
abbrev w_A_waysOut : List Cond := (Jvm.Cond.code ({ cls := "DraftTree$Automaton", name := "waysOut", desc := "(IZZ)J" } : Jvm.MethodName) prog_2_method_10_code (4 : Nat) (Option.some Jvm.ClassFile.FieldType.long)) :: wk_tbl
abbrev w_D_at : List Cond := (Jvm.Cond.code ({ cls := "DraftTree", name := "at", desc := "(I)C" } : Jvm.MethodName) prog_1_method_15_code (2 : Nat) (Option.some Jvm.ClassFile.FieldType.char)) :: wk_tbl
abbrev w_D_breaksBefore : List Cond := (Jvm.Cond.code ({ cls := "DraftTree", name := "breaksBefore", desc := "(I)I" } : Jvm.MethodName) prog_1_method_29_code (4 : Nat) (Option.some Jvm.ClassFile.FieldType.int)) :: wk_tbl
abbrev w_D_collectMatches : List Cond := (Jvm.Cond.code ({ cls := "DraftTree", name := "collectMatches", desc := "()I" } : Jvm.MethodName) prog_1_method_26_code (3 : Nat) (Option.some Jvm.ClassFile.FieldType.int)) :: wk_tbl
abbrev w_D_compile : List Cond := (Jvm.Cond.code ({ cls := "DraftTree", name := "compile", desc := "()V" } : Jvm.MethodName) prog_1_method_7_code (1 : Nat) (Option.none : Option Jvm.ClassFile.FieldType)) :: wk_tbl
abbrev w_D_erase : List Cond := (Jvm.Cond.code ({ cls := "DraftTree", name := "erase", desc := "(I)I" } : Jvm.MethodName) prog_1_method_5_code (4 : Nat) (Option.some Jvm.ClassFile.FieldType.int)) :: wk_tbl
abbrev w_D_exchange : List Cond := (Jvm.Cond.code ({ cls := "DraftTree", name := "exchange", desc := "(III)V" } : Jvm.MethodName) prog_1_method_25_code (5 : Nat) (Option.none : Option Jvm.ClassFile.FieldType)) :: wk_tbl
abbrev w_D_fault : List Cond := (Jvm.Cond.code ({ cls := "DraftTree", name := "fault", desc := "()I" } : Jvm.MethodName) prog_1_method_8_code (1 : Nat) (Option.some Jvm.ClassFile.FieldType.int)) :: wk_tbl
abbrev w_D_figure : List Cond := (Jvm.Cond.code ({ cls := "DraftTree", name := "figure", desc := "(I)I" } : Jvm.MethodName) prog_1_method_17_code (2 : Nat) (Option.some Jvm.ClassFile.FieldType.int)) :: wk_tbl
abbrev w_D_find : List Cond := (Jvm.Cond.code ({ cls := "DraftTree", name := "find", desc := "(I)I" } : Jvm.MethodName) prog_1_method_9_code (2 : Nat) (Option.some Jvm.ClassFile.FieldType.int)) :: wk_tbl
abbrev w_D_go : List Cond := (Jvm.Cond.code ({ cls := "DraftTree", name := "go", desc := "(IZ)V" } : Jvm.MethodName) prog_1_method_6_code (3 : Nat) (Option.none : Option Jvm.ClassFile.FieldType)) :: wk_tbl
abbrev w_D_init : List Cond := (Jvm.Cond.code ({ cls := "DraftTree", name := "<init>", desc := "()V" } : Jvm.MethodName) prog_1_method_1_code (1 : Nat) (Option.none : Option Jvm.ClassFile.FieldType)) :: wk_tbl
abbrev w_D_insert : List Cond := (Jvm.Cond.code ({ cls := "DraftTree", name := "insert", desc := "()I" } : Jvm.MethodName) prog_1_method_4_code (3 : Nat) (Option.some Jvm.ClassFile.FieldType.int)) :: wk_tbl
abbrev w_D_jump : List Cond := (Jvm.Cond.code ({ cls := "DraftTree", name := "jump", desc := "(I)V" } : Jvm.MethodName) prog_1_method_13_code (2 : Nat) (Option.none : Option Jvm.ClassFile.FieldType)) :: wk_tbl
abbrev w_D_length : List Cond := (Jvm.Cond.code ({ cls := "DraftTree", name := "length", desc := "()I" } : Jvm.MethodName) prog_1_method_14_code (1 : Nat) (Option.some Jvm.ClassFile.FieldType.int)) :: wk_tbl
abbrev w_D_line : List Cond := (Jvm.Cond.code ({ cls := "DraftTree", name := "line", desc := "(II)I" } : Jvm.MethodName) prog_1_method_16_code (3 : Nat) (Option.some Jvm.ClassFile.FieldType.int)) :: wk_tbl
abbrev w_D_lineBegin : List Cond := (Jvm.Cond.code ({ cls := "DraftTree", name := "lineBegin", desc := "(I)I" } : Jvm.MethodName) prog_1_method_30_code (4 : Nat) (Option.some Jvm.ClassFile.FieldType.int)) :: wk_tbl
abbrev w_D_lineSize : List Cond := (Jvm.Cond.code ({ cls := "DraftTree", name := "lineSize", desc := "(I)I" } : Jvm.MethodName) prog_1_method_31_code (4 : Nat) (Option.some Jvm.ClassFile.FieldType.int)) :: wk_tbl
abbrev w_D_makeState : List Cond := (Jvm.Cond.code ({ cls := "DraftTree", name := "makeState", desc := "([CI)V" } : Jvm.MethodName) prog_1_method_24_code (4 : Nat) (Option.none : Option Jvm.ClassFile.FieldType)) :: wk_tbl
abbrev w_D_moveTo : List Cond := (Jvm.Cond.code ({ cls := "DraftTree", name := "moveTo", desc := "(I)V" } : Jvm.MethodName) prog_1_method_23_code (3 : Nat) (Option.none : Option Jvm.ClassFile.FieldType)) :: wk_tbl
abbrev w_D_parent : List Cond := (Jvm.Cond.code ({ cls := "DraftTree", name := "parent", desc := "(I)I" } : Jvm.MethodName) prog_1_method_18_code (2 : Nat) (Option.some Jvm.ClassFile.FieldType.int)) :: wk_tbl
abbrev w_D_putSlipIntoMatches : List Cond := (Jvm.Cond.code ({ cls := "DraftTree", name := "putSlipIntoMatches", desc := "(II)V" } : Jvm.MethodName) prog_1_method_28_code (8 : Nat) (Option.none : Option Jvm.ClassFile.FieldType)) :: wk_tbl
abbrev w_D_redo : List Cond := (Jvm.Cond.code ({ cls := "DraftTree", name := "redo", desc := "()I" } : Jvm.MethodName) prog_1_method_12_code (2 : Nat) (Option.some Jvm.ClassFile.FieldType.int)) :: wk_tbl
abbrev w_D_replace : List Cond := (Jvm.Cond.code ({ cls := "DraftTree", name := "replace", desc := "()I" } : Jvm.MethodName) prog_1_method_10_code (3 : Nat) (Option.some Jvm.ClassFile.FieldType.int)) :: wk_tbl
abbrev w_D_requirePlace : List Cond := (Jvm.Cond.code ({ cls := "DraftTree", name := "requirePlace", desc := "(I)V" } : Jvm.MethodName) prog_1_method_19_code (2 : Nat) (Option.none : Option Jvm.ClassFile.FieldType)) :: wk_tbl
abbrev w_D_requireState : List Cond := (Jvm.Cond.code ({ cls := "DraftTree", name := "requireState", desc := "(I)V" } : Jvm.MethodName) prog_1_method_20_code (2 : Nat) (Option.none : Option Jvm.ClassFile.FieldType)) :: wk_tbl
abbrev w_D_selectionEnd : List Cond := (Jvm.Cond.code ({ cls := "DraftTree", name := "selectionEnd", desc := "()I" } : Jvm.MethodName) prog_1_method_22_code (1 : Nat) (Option.some Jvm.ClassFile.FieldType.int)) :: wk_tbl
abbrev w_D_selectionStart : List Cond := (Jvm.Cond.code ({ cls := "DraftTree", name := "selectionStart", desc := "()I" } : Jvm.MethodName) prog_1_method_21_code (1 : Nat) (Option.some Jvm.ClassFile.FieldType.int)) :: wk_tbl
abbrev w_D_sizeWithSlipIn : List Cond := (Jvm.Cond.code ({ cls := "DraftTree", name := "sizeWithSlipIn", desc := "(I)I" } : Jvm.MethodName) prog_1_method_27_code (4 : Nat) (Option.some Jvm.ClassFile.FieldType.int)) :: wk_tbl
abbrev w_D_type : List Cond := (Jvm.Cond.code ({ cls := "DraftTree", name := "type", desc := "(C)Z" } : Jvm.MethodName) prog_1_method_2_code (3 : Nat) (Option.some Jvm.ClassFile.FieldType.boolean)) :: wk_tbl
abbrev w_D_undo : List Cond := (Jvm.Cond.code ({ cls := "DraftTree", name := "undo", desc := "()I" } : Jvm.MethodName) prog_1_method_11_code (2 : Nat) (Option.some Jvm.ClassFile.FieldType.int)) :: wk_tbl
abbrev w_D_wipe : List Cond := (Jvm.Cond.code ({ cls := "DraftTree", name := "wipe", desc := "()I" } : Jvm.MethodName) prog_1_method_3_code (2 : Nat) (Option.some Jvm.ClassFile.FieldType.int)) :: wk_tbl
abbrev w_Ji_numberOfTrailingZeros : List Cond := (Jvm.Cond.code ({ cls := "java/lang/Integer", name := "numberOfTrailingZeros", desc := "(I)I" } : Jvm.MethodName) prog_11_method_48_code (2 : Nat) (Option.some Jvm.ClassFile.FieldType.int)) :: wk_tbl
abbrev w_Jl_numberOfTrailingZeros : List Cond := (Jvm.Cond.code ({ cls := "java/lang/Long", name := "numberOfTrailingZeros", desc := "(J)I" } : Jvm.MethodName) prog_12_method_49_code (3 : Nat) (Option.some Jvm.ClassFile.FieldType.int)) :: wk_tbl
abbrev w_L_at : List Cond := (Jvm.Cond.codeWith ({ cls := "DraftTreeLaw", name := "at", desc := "(LDraftTree;I[J)I" } : Jvm.MethodName) method_12_code (4 : Nat) (Option.some Jvm.ClassFile.FieldType.int) [((0 : Nat), (9 : Nat), (12 : Nat), (23 : Nat))]) :: wk_tbl
abbrev w_L_compile : List Cond := (Jvm.Cond.codeWith ({ cls := "DraftTreeLaw", name := "compile", desc := "(LDraftTree;)I" } : Jvm.MethodName) method_6_code (2 : Nat) (Option.some Jvm.ClassFile.FieldType.int) [((0 : Nat), (4 : Nat), (7 : Nat), (28 : Nat))]) :: wk_tbl
abbrev w_L_erase : List Cond := (Jvm.Cond.codeWith ({ cls := "DraftTreeLaw", name := "erase", desc := "(LDraftTree;I[J)I" } : Jvm.MethodName) method_4_code (4 : Nat) (Option.some Jvm.ClassFile.FieldType.int) [((0 : Nat), (9 : Nat), (12 : Nat), (13 : Nat))]) :: wk_tbl
abbrev w_L_figure : List Cond := (Jvm.Cond.codeWith ({ cls := "DraftTreeLaw", name := "figure", desc := "(LDraftTree;I[J)I" } : Jvm.MethodName) method_14_code (4 : Nat) (Option.some Jvm.ClassFile.FieldType.int) [((0 : Nat), (9 : Nat), (12 : Nat), (28 : Nat))]) :: wk_tbl
abbrev w_L_find : List Cond := (Jvm.Cond.codeWith ({ cls := "DraftTreeLaw", name := "find", desc := "(LDraftTree;I[J)I" } : Jvm.MethodName) method_7_code (4 : Nat) (Option.some Jvm.ClassFile.FieldType.int) [((0 : Nat), (9 : Nat), (12 : Nat), (13 : Nat)), ((0 : Nat), (9 : Nat), (15 : Nat), (23 : Nat)), ((0 : Nat), (9 : Nat), (18 : Nat), (33 : Nat))]) :: wk_tbl
abbrev w_L_go : List Cond := (Jvm.Cond.codeWith ({ cls := "DraftTreeLaw", name := "go", desc := "(LDraftTree;IZ)I" } : Jvm.MethodName) method_5_code (4 : Nat) (Option.some Jvm.ClassFile.FieldType.int) [((0 : Nat), (6 : Nat), (9 : Nat), (23 : Nat))]) :: wk_tbl
abbrev w_L_insert : List Cond := (Jvm.Cond.codeWith ({ cls := "DraftTreeLaw", name := "insert", desc := "(LDraftTree;[J)I" } : Jvm.MethodName) method_3_code (3 : Nat) (Option.some Jvm.ClassFile.FieldType.int) [((0 : Nat), (8 : Nat), (11 : Nat), (13 : Nat))]) :: wk_tbl
abbrev w_L_jump : List Cond := (Jvm.Cond.codeWith ({ cls := "DraftTreeLaw", name := "jump", desc := "(LDraftTree;I)I" } : Jvm.MethodName) method_11_code (3 : Nat) (Option.some Jvm.ClassFile.FieldType.int) [((0 : Nat), (5 : Nat), (8 : Nat), (28 : Nat))]) :: wk_tbl
abbrev w_L_line : List Cond := (Jvm.Cond.codeWith ({ cls := "DraftTreeLaw", name := "line", desc := "(LDraftTree;II[J)I" } : Jvm.MethodName) method_13_code (5 : Nat) (Option.some Jvm.ClassFile.FieldType.int) [((0 : Nat), (10 : Nat), (13 : Nat), (28 : Nat)), ((0 : Nat), (10 : Nat), (17 : Nat), (23 : Nat))]) :: wk_tbl
abbrev w_L_parent : List Cond := (Jvm.Cond.codeWith ({ cls := "DraftTreeLaw", name := "parent", desc := "(LDraftTree;I[J)I" } : Jvm.MethodName) method_15_code (4 : Nat) (Option.some Jvm.ClassFile.FieldType.int) [((0 : Nat), (9 : Nat), (12 : Nat), (28 : Nat))]) :: wk_tbl
abbrev w_L_redo : List Cond := (Jvm.Cond.codeWith ({ cls := "DraftTreeLaw", name := "redo", desc := "(LDraftTree;[J)I" } : Jvm.MethodName) method_10_code (3 : Nat) (Option.some Jvm.ClassFile.FieldType.int) [((0 : Nat), (8 : Nat), (11 : Nat), (33 : Nat))]) :: wk_tbl
abbrev w_L_replace : List Cond := (Jvm.Cond.codeWith ({ cls := "DraftTreeLaw", name := "replace", desc := "(LDraftTree;[J)I" } : Jvm.MethodName) method_8_code (3 : Nat) (Option.some Jvm.ClassFile.FieldType.int) [((0 : Nat), (8 : Nat), (11 : Nat), (13 : Nat))]) :: wk_tbl
abbrev w_L_undo : List Cond := (Jvm.Cond.codeWith ({ cls := "DraftTreeLaw", name := "undo", desc := "(LDraftTree;[J)I" } : Jvm.MethodName) method_9_code (3 : Nat) (Option.some Jvm.ClassFile.FieldType.int) [((0 : Nat), (8 : Nat), (11 : Nat), (33 : Nat))]) :: wk_tbl
abbrev w_M_add : List Cond := (Jvm.Cond.code ({ cls := "DraftTreeModel", name := "add", desc := "(C)V" } : Jvm.MethodName) prog_6_method_9_code (2 : Nat) (Option.none : Option Jvm.ClassFile.FieldType)) :: wk_tbl
abbrev w_M_addSlip : List Cond := (Jvm.Cond.code ({ cls := "DraftTreeModel", name := "addSlip", desc := "()V" } : Jvm.MethodName) prog_6_method_11_code (2 : Nat) (Option.none : Option Jvm.ClassFile.FieldType)) :: wk_tbl
abbrev w_M_addText : List Cond := (Jvm.Cond.code ({ cls := "DraftTreeModel", name := "addText", desc := "(II)V" } : Jvm.MethodName) prog_6_method_10_code (5 : Nat) (Option.none : Option Jvm.ClassFile.FieldType)) :: wk_tbl
abbrev w_M_at : List Cond := (Jvm.Cond.code ({ cls := "DraftTreeModel", name := "at", desc := "(I)C" } : Jvm.MethodName) prog_6_method_48_code (2 : Nat) (Option.some Jvm.ClassFile.FieldType.char)) :: wk_tbl
abbrev w_M_behind : List Cond := (Jvm.Cond.code ({ cls := "DraftTreeModel", name := "behind", desc := "(II)I" } : Jvm.MethodName) prog_6_method_29_code (3 : Nat) (Option.some Jvm.ClassFile.FieldType.int)) :: wk_tbl
abbrev w_M_breaks : List Cond := (Jvm.Cond.code ({ cls := "DraftTreeModel", name := "breaks", desc := "(I)I" } : Jvm.MethodName) prog_6_method_49_code (4 : Nat) (Option.some Jvm.ClassFile.FieldType.int)) :: wk_tbl
abbrev w_M_build : List Cond := (Jvm.Cond.code ({ cls := "DraftTreeModel", name := "build", desc := "(I)I" } : Jvm.MethodName) prog_6_method_35_code (6 : Nat) (Option.some Jvm.ClassFile.FieldType.int)) :: wk_tbl
abbrev w_M_charAt : List Cond := (Jvm.Cond.code ({ cls := "DraftTreeModel", name := "charAt", desc := "(I)C" } : Jvm.MethodName) prog_6_method_6_code (2 : Nat) (Option.some Jvm.ClassFile.FieldType.char)) :: wk_tbl
abbrev w_M_come : List Cond := (Jvm.Cond.code ({ cls := "DraftTreeModel", name := "come", desc := "(I)V" } : Jvm.MethodName) prog_6_method_8_code (2 : Nat) (Option.none : Option Jvm.ClassFile.FieldType)) :: wk_tbl
abbrev w_M_compile : List Cond := (Jvm.Cond.code ({ cls := "DraftTreeModel", name := "compile", desc := "()V" } : Jvm.MethodName) prog_6_method_36_code (4 : Nat) (Option.none : Option Jvm.ClassFile.FieldType)) :: wk_tbl
abbrev w_M_edit : List Cond := (Jvm.Cond.code ({ cls := "DraftTreeModel", name := "edit", desc := "(I)V" } : Jvm.MethodName) prog_6_method_12_code (4 : Nat) (Option.none : Option Jvm.ClassFile.FieldType)) :: wk_tbl
abbrev w_M_either : List Cond := (Jvm.Cond.code ({ cls := "DraftTreeModel", name := "either", desc := "(II)I" } : Jvm.MethodName) prog_6_method_30_code (5 : Nat) (Option.some Jvm.ClassFile.FieldType.int)) :: wk_tbl
abbrev w_M_endRow : List Cond := (Jvm.Cond.code ({ cls := "DraftTreeModel", name := "endRow", desc := "()V" } : Jvm.MethodName) prog_6_method_33_code (3 : Nat) (Option.none : Option Jvm.ClassFile.FieldType)) :: wk_tbl
abbrev w_M_erase : List Cond := (Jvm.Cond.code ({ cls := "DraftTreeModel", name := "erase", desc := "(I)I" } : Jvm.MethodName) prog_6_method_16_code (5 : Nat) (Option.some Jvm.ClassFile.FieldType.int)) :: wk_tbl
abbrev w_M_fault : List Cond := (Jvm.Cond.code ({ cls := "DraftTreeModel", name := "fault", desc := "()I" } : Jvm.MethodName) prog_6_method_37_code (1 : Nat) (Option.some Jvm.ClassFile.FieldType.int)) :: wk_tbl
abbrev w_M_figure : List Cond := (Jvm.Cond.code ({ cls := "DraftTreeModel", name := "figure", desc := "(I)I" } : Jvm.MethodName) prog_6_method_52_code (2 : Nat) (Option.some Jvm.ClassFile.FieldType.int)) :: wk_tbl
abbrev w_M_find : List Cond := (Jvm.Cond.code ({ cls := "DraftTreeModel", name := "find", desc := "(I)I" } : Jvm.MethodName) prog_6_method_45_code (2 : Nat) (Option.some Jvm.ClassFile.FieldType.int)) :: wk_tbl
abbrev w_M_go : List Cond := (Jvm.Cond.code ({ cls := "DraftTreeModel", name := "go", desc := "(IZ)V" } : Jvm.MethodName) prog_6_method_17_code (3 : Nat) (Option.none : Option Jvm.ClassFile.FieldType)) :: wk_tbl
abbrev w_M_good : List Cond := (Jvm.Cond.code ({ cls := "DraftTreeModel", name := "good", desc := "()I" } : Jvm.MethodName) prog_6_method_23_code (5 : Nat) (Option.some Jvm.ClassFile.FieldType.int)) :: wk_tbl
abbrev w_M_high : List Cond := (Jvm.Cond.code ({ cls := "DraftTreeModel", name := "high", desc := "()I" } : Jvm.MethodName) prog_6_method_14_code (1 : Nat) (Option.some Jvm.ClassFile.FieldType.int)) :: wk_tbl
abbrev w_M_inSet : List Cond := (Jvm.Cond.code ({ cls := "DraftTreeModel", name := "inSet", desc := "(CII)Z" } : Jvm.MethodName) prog_6_method_38_code (9 : Nat) (Option.some Jvm.ClassFile.FieldType.boolean)) :: wk_tbl
abbrev w_M_init : List Cond := (Jvm.Cond.code ({ cls := "DraftTreeModel", name := "<init>", desc := "()V" } : Jvm.MethodName) prog_6_method_1_code (1 : Nat) (Option.none : Option Jvm.ClassFile.FieldType)) :: wk_tbl
abbrev w_M_insert : List Cond := (Jvm.Cond.code ({ cls := "DraftTreeModel", name := "insert", desc := "()I" } : Jvm.MethodName) prog_6_method_15_code (5 : Nat) (Option.some Jvm.ClassFile.FieldType.int)) :: wk_tbl
abbrev w_M_isCharacter : List Cond := (Jvm.Cond.code ({ cls := "DraftTreeModel", name := "isCharacter", desc := "(C)Z" } : Jvm.MethodName) prog_6_method_3_code (1 : Nat) (Option.some Jvm.ClassFile.FieldType.boolean)) :: wk_tbl
abbrev w_M_isPlain : List Cond := (Jvm.Cond.code ({ cls := "DraftTreeModel", name := "isPlain", desc := "(C)Z" } : Jvm.MethodName) prog_6_method_21_code (1 : Nat) (Option.some Jvm.ClassFile.FieldType.boolean)) :: wk_tbl
abbrev w_M_isTimes : List Cond := (Jvm.Cond.code ({ cls := "DraftTreeModel", name := "isTimes", desc := "(C)Z" } : Jvm.MethodName) prog_6_method_22_code (1 : Nat) (Option.some Jvm.ClassFile.FieldType.boolean)) :: wk_tbl
abbrev w_M_jump : List Cond := (Jvm.Cond.code ({ cls := "DraftTreeModel", name := "jump", desc := "(I)V" } : Jvm.MethodName) prog_6_method_20_code (2 : Nat) (Option.none : Option Jvm.ClassFile.FieldType)) :: wk_tbl
abbrev w_M_length : List Cond := (Jvm.Cond.code ({ cls := "DraftTreeModel", name := "length", desc := "()I" } : Jvm.MethodName) prog_6_method_47_code (1 : Nat) (Option.some Jvm.ClassFile.FieldType.int)) :: wk_tbl
abbrev w_M_line : List Cond := (Jvm.Cond.code ({ cls := "DraftTreeModel", name := "line", desc := "(II)I" } : Jvm.MethodName) prog_6_method_51_code (7 : Nat) (Option.some Jvm.ClassFile.FieldType.int)) :: wk_tbl
abbrev w_M_lineStart : List Cond := (Jvm.Cond.code ({ cls := "DraftTreeModel", name := "lineStart", desc := "(I)I" } : Jvm.MethodName) prog_6_method_50_code (3 : Nat) (Option.some Jvm.ClassFile.FieldType.int)) :: wk_tbl
abbrev w_M_link : List Cond := (Jvm.Cond.code ({ cls := "DraftTreeModel", name := "link", desc := "(II)V" } : Jvm.MethodName) prog_6_method_25_code (3 : Nat) (Option.none : Option Jvm.ClassFile.FieldType)) :: wk_tbl
abbrev w_M_longest : List Cond := (Jvm.Cond.code ({ cls := "DraftTreeModel", name := "longest", desc := "(I)I" } : Jvm.MethodName) prog_6_method_43_code (6 : Nat) (Option.some Jvm.ClassFile.FieldType.int)) :: wk_tbl
abbrev w_M_look : List Cond := (Jvm.Cond.code ({ cls := "DraftTreeModel", name := "look", desc := "(I)Z" } : Jvm.MethodName) prog_6_method_44_code (3 : Nat) (Option.some Jvm.ClassFile.FieldType.boolean)) :: wk_tbl
abbrev w_M_low : List Cond := (Jvm.Cond.code ({ cls := "DraftTreeModel", name := "low", desc := "()I" } : Jvm.MethodName) prog_6_method_13_code (1 : Nat) (Option.some Jvm.ClassFile.FieldType.int)) :: wk_tbl
abbrev w_M_newPart : List Cond := (Jvm.Cond.code ({ cls := "DraftTreeModel", name := "newPart", desc := "(I)V" } : Jvm.MethodName) prog_6_method_34_code (3 : Nat) (Option.none : Option Jvm.ClassFile.FieldType)) :: wk_tbl
abbrev w_M_node : List Cond := (Jvm.Cond.code ({ cls := "DraftTreeModel", name := "node", desc := "(III)I" } : Jvm.MethodName) prog_6_method_24_code (4 : Nat) (Option.some Jvm.ClassFile.FieldType.int)) :: wk_tbl
abbrev w_M_nothing : List Cond := (Jvm.Cond.code ({ cls := "DraftTreeModel", name := "nothing", desc := "()I" } : Jvm.MethodName) prog_6_method_28_code (2 : Nat) (Option.some Jvm.ClassFile.FieldType.int)) :: wk_tbl
abbrev w_M_openGroup : List Cond := (Jvm.Cond.code ({ cls := "DraftTreeModel", name := "openGroup", desc := "()V" } : Jvm.MethodName) prog_6_method_32_code (1 : Nat) (Option.none : Option Jvm.ClassFile.FieldType)) :: wk_tbl
abbrev w_M_parent : List Cond := (Jvm.Cond.code ({ cls := "DraftTreeModel", name := "parent", desc := "(I)I" } : Jvm.MethodName) prog_6_method_53_code (2 : Nat) (Option.some Jvm.ClassFile.FieldType.int)) :: wk_tbl
abbrev w_M_passes : List Cond := (Jvm.Cond.code ({ cls := "DraftTreeModel", name := "passes", desc := "(II)Z" } : Jvm.MethodName) prog_6_method_40_code (5 : Nat) (Option.some Jvm.ClassFile.FieldType.boolean)) :: wk_tbl
abbrev w_M_piece : List Cond := (Jvm.Cond.code ({ cls := "DraftTreeModel", name := "piece", desc := "(II)I" } : Jvm.MethodName) prog_6_method_26_code (3 : Nat) (Option.some Jvm.ClassFile.FieldType.int)) :: wk_tbl
abbrev w_M_reach : List Cond := (Jvm.Cond.code ({ cls := "DraftTreeModel", name := "reach", desc := "(I)Z" } : Jvm.MethodName) prog_6_method_42_code (3 : Nat) (Option.some Jvm.ClassFile.FieldType.boolean)) :: wk_tbl
abbrev w_M_redo : List Cond := (Jvm.Cond.code ({ cls := "DraftTreeModel", name := "redo", desc := "()I" } : Jvm.MethodName) prog_6_method_19_code (3 : Nat) (Option.some Jvm.ClassFile.FieldType.int)) :: wk_tbl
abbrev w_M_replace : List Cond := (Jvm.Cond.code ({ cls := "DraftTreeModel", name := "replace", desc := "()I" } : Jvm.MethodName) prog_6_method_46_code (4 : Nat) (Option.some Jvm.ClassFile.FieldType.int)) :: wk_tbl
abbrev w_M_single : List Cond := (Jvm.Cond.code ({ cls := "DraftTreeModel", name := "single", desc := "(III)I" } : Jvm.MethodName) prog_6_method_27_code (6 : Nat) (Option.some Jvm.ClassFile.FieldType.int)) :: wk_tbl
abbrev w_M_spread : List Cond := (Jvm.Cond.code ({ cls := "DraftTreeModel", name := "spread", desc := "(I)V" } : Jvm.MethodName) prog_6_method_41_code (4 : Nat) (Option.none : Option Jvm.ClassFile.FieldType)) :: wk_tbl
abbrev w_M_takes : List Cond := (Jvm.Cond.code ({ cls := "DraftTreeModel", name := "takes", desc := "(IC)Z" } : Jvm.MethodName) prog_6_method_39_code (3 : Nat) (Option.some Jvm.ClassFile.FieldType.boolean)) :: wk_tbl
abbrev w_M_textLength : List Cond := (Jvm.Cond.code ({ cls := "DraftTreeModel", name := "textLength", desc := "()I" } : Jvm.MethodName) prog_6_method_7_code (1 : Nat) (Option.some Jvm.ClassFile.FieldType.int)) :: wk_tbl
abbrev w_M_thrown : List Cond := (Jvm.Cond.code ({ cls := "DraftTreeModel", name := "thrown", desc := "()I" } : Jvm.MethodName) prog_6_method_2_code (1 : Nat) (Option.some Jvm.ClassFile.FieldType.int)) :: wk_tbl
abbrev w_M_times : List Cond := (Jvm.Cond.code ({ cls := "DraftTreeModel", name := "times", desc := "(IZZ)I" } : Jvm.MethodName) prog_6_method_31_code (6 : Nat) (Option.some Jvm.ClassFile.FieldType.int)) :: wk_tbl
abbrev w_M_type : List Cond := (Jvm.Cond.code ({ cls := "DraftTreeModel", name := "type", desc := "(C)Z" } : Jvm.MethodName) prog_6_method_4_code (2 : Nat) (Option.some Jvm.ClassFile.FieldType.boolean)) :: wk_tbl
abbrev w_M_undo : List Cond := (Jvm.Cond.code ({ cls := "DraftTreeModel", name := "undo", desc := "()I" } : Jvm.MethodName) prog_6_method_18_code (1 : Nat) (Option.some Jvm.ClassFile.FieldType.int)) :: wk_tbl
abbrev w_M_wipe : List Cond := (Jvm.Cond.code ({ cls := "DraftTreeModel", name := "wipe", desc := "()I" } : Jvm.MethodName) prog_6_method_5_code (2 : Nat) (Option.some Jvm.ClassFile.FieldType.int)) :: wk_tbl
abbrev w_P_addNodeAsPart : List Cond := (Jvm.Cond.code ({ cls := "DraftTree$PatternReader", name := "addNodeAsPart", desc := "(I)I" } : Jvm.MethodName) prog_3_method_17_code (3 : Nat) (Option.some Jvm.ClassFile.FieldType.int)) :: wk_tbl
abbrev w_P_addPart : List Cond := (Jvm.Cond.code ({ cls := "DraftTree$PatternReader", name := "addPart", desc := "(II)V" } : Jvm.MethodName) prog_3_method_18_code (3 : Nat) (Option.none : Option Jvm.ClassFile.FieldType)) :: wk_tbl
abbrev w_P_beginRow : List Cond := (Jvm.Cond.code ({ cls := "DraftTree$PatternReader", name := "beginRow", desc := "(I)V" } : Jvm.MethodName) prog_3_method_16_code (2 : Nat) (Option.none : Option Jvm.ClassFile.FieldType)) :: wk_tbl
abbrev w_P_closeGroup : List Cond := (Jvm.Cond.code ({ cls := "DraftTree$PatternReader", name := "closeGroup", desc := "()V" } : Jvm.MethodName) prog_3_method_14_code (3 : Nat) (Option.none : Option Jvm.ClassFile.FieldType)) :: wk_tbl
abbrev w_P_finish : List Cond := (Jvm.Cond.code ({ cls := "DraftTree$PatternReader", name := "finish", desc := "()V" } : Jvm.MethodName) prog_3_method_4_code (1 : Nat) (Option.none : Option Jvm.ClassFile.FieldType)) :: wk_tbl
abbrev w_P_handOver : List Cond := (Jvm.Cond.code ({ cls := "DraftTree$PatternReader", name := "handOver", desc := "(LDraftTree$Automaton;)LDraftTree$Automaton;" } : Jvm.MethodName) prog_3_method_2_code (3 : Nat) (Option.some (Jvm.ClassFile.FieldType.object "DraftTree$Automaton"))) :: wk_tbl
abbrev w_P_init : List Cond := (Jvm.Cond.code ({ cls := "DraftTree$PatternReader", name := "<init>", desc := "()V" } : Jvm.MethodName) prog_3_method_1_code (1 : Nat) (Option.none : Option Jvm.ClassFile.FieldType)) :: wk_tbl
abbrev w_P_openChoice : List Cond := (Jvm.Cond.code ({ cls := "DraftTree$PatternReader", name := "openChoice", desc := "(I)V" } : Jvm.MethodName) prog_3_method_12_code (3 : Nat) (Option.none : Option Jvm.ClassFile.FieldType)) :: wk_tbl
abbrev w_P_openGroup : List Cond := (Jvm.Cond.code ({ cls := "DraftTree$PatternReader", name := "openGroup", desc := "()V" } : Jvm.MethodName) prog_3_method_13_code (1 : Nat) (Option.none : Option Jvm.ClassFile.FieldType)) :: wk_tbl
abbrev w_P_openRow : List Cond := (Jvm.Cond.code ({ cls := "DraftTree$PatternReader", name := "openRow", desc := "()V" } : Jvm.MethodName) prog_3_method_15_code (2 : Nat) (Option.none : Option Jvm.ClassFile.FieldType)) :: wk_tbl
abbrev w_P_read : List Cond := (Jvm.Cond.code ({ cls := "DraftTree$PatternReader", name := "read", desc := "([CI)I" } : Jvm.MethodName) prog_3_method_3_code (4 : Nat) (Option.some Jvm.ClassFile.FieldType.int)) :: wk_tbl
abbrev w_P_readDot : List Cond := (Jvm.Cond.code ({ cls := "DraftTree$PatternReader", name := "readDot", desc := "()V" } : Jvm.MethodName) prog_3_method_7_code (2 : Nat) (Option.none : Option Jvm.ClassFile.FieldType)) :: wk_tbl
abbrev w_P_readEscaped : List Cond := (Jvm.Cond.code ({ cls := "DraftTree$PatternReader", name := "readEscaped", desc := "()V" } : Jvm.MethodName) prog_3_method_9_code (1 : Nat) (Option.none : Option Jvm.ClassFile.FieldType)) :: wk_tbl
abbrev w_P_readLiteral : List Cond := (Jvm.Cond.code ({ cls := "DraftTree$PatternReader", name := "readLiteral", desc := "(C)V" } : Jvm.MethodName) prog_3_method_8_code (3 : Nat) (Option.none : Option Jvm.ClassFile.FieldType)) :: wk_tbl
abbrev w_P_readNext : List Cond := (Jvm.Cond.code ({ cls := "DraftTree$PatternReader", name := "readNext", desc := "()V" } : Jvm.MethodName) prog_3_method_5_code (2 : Nat) (Option.none : Option Jvm.ClassFile.FieldType)) :: wk_tbl
abbrev w_P_readRange : List Cond := (Jvm.Cond.code ({ cls := "DraftTree$PatternReader", name := "readRange", desc := "(I)V" } : Jvm.MethodName) prog_3_method_11_code (4 : Nat) (Option.none : Option Jvm.ClassFile.FieldType)) :: wk_tbl
abbrev w_P_readSet : List Cond := (Jvm.Cond.code ({ cls := "DraftTree$PatternReader", name := "readSet", desc := "()V" } : Jvm.MethodName) prog_3_method_10_code (5 : Nat) (Option.none : Option Jvm.ClassFile.FieldType)) :: wk_tbl
abbrev w_P_readSingle : List Cond := (Jvm.Cond.code ({ cls := "DraftTree$PatternReader", name := "readSingle", desc := "(C)V" } : Jvm.MethodName) prog_3_method_6_code (2 : Nat) (Option.none : Option Jvm.ClassFile.FieldType)) :: wk_tbl
abbrev w_P_repeatPart : List Cond := (Jvm.Cond.code ({ cls := "DraftTree$PatternReader", name := "repeatPart", desc := "(C)V" } : Jvm.MethodName) prog_3_method_19_code (4 : Nat) (Option.none : Option Jvm.ClassFile.FieldType)) :: wk_tbl
abbrev w_S_init : List Cond := (Jvm.Cond.code ({ cls := "DraftTree$State", name := "<init>", desc := "([CII)V" } : Jvm.MethodName) prog_4_method_1_code (4 : Nat) (Option.none : Option Jvm.ClassFile.FieldType)) :: wk_tbl
-- 13z.up
theorem wk_up {args : Array Value} {s U : State} {c0 c1 : Cond} (hW : s.WarmedH U.vm) (hts : ∀ w ∈ (c0 :: wk_tbl), w.before args s = true) (hc : c1 ∈ wk_tbl) : ∀ w ∈ (c1 :: wk_tbl), w.before args U = true := fun w hw => by
  have h1 : w ∈ wk_tbl := (List.mem_cons.mp hw).elim (fun e => by rw [e]; exact hc) (fun z => z)
  exact word_at hW (good_of_word (wk_good w h1)) (hts w (List.mem_cons_of_mem _ h1))
theorem th_ZA.zs {A : Nat → Prop} {s U : State} {H : Heap} {locs : List Loc} (h : th_ZA A s) (hS : va_S A s.heap H locs) (hU : U.heap = H) (hW : s.WarmedH U.vm) : th_Zs U := h.of hS hU hW
/-- the throw's words at the heap that the walk has reached -/
theorem wk_thr {own cls : String} {names : List String} {ix ic : Nat} {args : Array Value} {s : State} {c0 : Cond} {A : Nat → Prop} {H : Heap} {locs : List Loc} (hts : ∀ w ∈ (c0 :: wk_tbl), w.before args s = true) (hZ : th_ZA A s) (hS : va_S A s.heap H locs)
    (h1 : Cond.classLink own ix cls ∈ wk_tbl) (h2 : Cond.initialized cls ∈ wk_tbl) (hoa : ∀ s' : State, (∀ w ∈ (Cond.initialized cls :: wk_tbl), w.before args s' = true) → th_Zs s' → ∀ a ∈ Bundle.ownAtoms0 own ic cls names, a.before args s' = true) :
    ∀ s' : State, s.WarmedH s'.vm → s'.heap = H → (∀ a ∈ Bundle.ownAtoms0 own ic cls names, a.before args s' = true) ∧ (Cond.classLink own ix cls).before args s' = true ∧ (Cond.initialized cls).before args s' = true := fun s' hW hH => by
  have h := wk_up (U := s') hW hts h2
  exact ⟨hoa s' h (th_ZA.zs hZ hS hH hW), h _ (List.mem_cons_of_mem _ h1), h _ (List.mem_cons_of_mem _ h2)⟩

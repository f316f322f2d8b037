def FC_0 : u_T := fun k => match k with
  | 0 => ("RelationDesk", "tables", "LRelationDesk$Tables;", true)
  | 1 => ("RelationDesk", "atHand", "[I", true)
  | 2 => ("RelationDesk", "reader", "LRelationDesk$Reader;", true)
  | 3 => ("RelationDesk", "runner", "LRelationDesk$Runner;", true)
  | 4 => ("RelationDesk", "lastRow", "[I", true)
  | 5 => ("RelationDesk", "lastWidth", "I", false)
  | _ => ("RelationDesk", "query", "LRelationDesk$Term;", false)
def FC_1 : u_T := fun k => match k with
  | 0 => ("RelationDesk$Kept", "cells", "[I", true)
  | 1 => ("RelationDesk$Kept", "order", "[I", true)
  | 2 => ("RelationDesk$Kept", "width", "I", false)
  | _ => ("RelationDesk$Kept", "rows", "I", false)
def FC_2 : u_T := fun k => match k with
  | 0 => ("RelationDesk$Reader", "words", "[I", true)
  | 1 => ("RelationDesk$Reader", "count", "I", false)
  | 2 => ("RelationDesk$Reader", "wrongAt", "I", false)
  | 3 => ("RelationDesk$Reader", "at", "I", false)
  | 4 => ("RelationDesk$Reader", "terms", "[LRelationDesk$Term;", true)
  | _ => ("RelationDesk$Reader", "used", "I", false)
def FC_3 : u_T := fun k => match k with
  | 0 => ("RelationDesk$Runner", "fuel", "I", false)
  | _ => ("RelationDesk$Runner", "taken", "I", false)
def FC_4 : u_T := fun k => match k with
  | 0 => ("RelationDesk$Table", "columns", "I", true)
  | 1 => ("RelationDesk$Table", "indexed", "[Z", true)
  | 2 => ("RelationDesk$Table", "cells", "[I", true)
  | 3 => ("RelationDesk$Table", "savedCells", "[I", true)
  | 4 => ("RelationDesk$Table", "rows", "I", false)
  | _ => ("RelationDesk$Table", "savedRows", "I", false)
def FC_5 : u_T := fun k => match k with
  | 0 => ("RelationDesk$Tables", "all", "[LRelationDesk$Table;", true)
  | 1 => ("RelationDesk$Tables", "count", "I", false)
  | 2 => ("RelationDesk$Tables", "inTransaction", "Z", false)
  | _ => ("RelationDesk$Tables", "changed", "I", false)
def FC_6 : u_T := fun k => match k with
  | 0 => ("RelationDesk$Term", "kind", "I", false)
  | 1 => ("RelationDesk$Term", "chosen", "I", false)
  | 2 => ("RelationDesk$Term", "other", "I", false)
  | 3 => ("RelationDesk$Term", "how", "I", false)
  | 4 => ("RelationDesk$Term", "value", "I", false)
  | 5 => ("RelationDesk$Term", "picks", "[I", true)
  | 6 => ("RelationDesk$Term", "source", "LRelationDesk$Table;", false)
  | 7 => ("RelationDesk$Term", "first", "LRelationDesk$Term;", false)
  | 8 => ("RelationDesk$Term", "second", "LRelationDesk$Term;", false)
  | 9 => ("RelationDesk$Term", "width", "I", false)
  | 10 => ("RelationDesk$Term", "row", "[I", true)
  | 11 => ("RelationDesk$Term", "kept", "LRelationDesk$Kept;", true)
  | 12 => ("RelationDesk$Term", "position", "I", false)
  | 13 => ("RelationDesk$Term", "holdsFirst", "Z", false)
  | 14 => ("RelationDesk$Term", "firstDone", "Z", false)
  | _ => ("RelationDesk$Term", "gathered", "Z", false)
def FC_7 : u_T := fun k => match k with
  | 0 => ("RelationDeskModel", "thrown", "I", false)
  | 1 => ("RelationDeskModel", "tables", "I", false)
  | 2 => ("RelationDeskModel", "wide", "[I", true)
  | 3 => ("RelationDeskModel", "indexed", "[Z", true)
  | 4 => ("RelationDeskModel", "rows", "[I", true)
  | 5 => ("RelationDeskModel", "cell", "[I", true)
  | 6 => ("RelationDeskModel", "hand", "[I", true)
  | 7 => ("RelationDeskModel", "going", "Z", false)
  | 8 => ("RelationDeskModel", "changed", "I", false)
  | 9 => ("RelationDeskModel", "oldRows", "[I", true)
  | 10 => ("RelationDeskModel", "oldCell", "[I", true)
  | 11 => ("RelationDeskModel", "words", "I", false)
  | 12 => ("RelationDeskModel", "word", "[I", true)
  | 13 => ("RelationDeskModel", "text", "[I", true)
  | 14 => ("RelationDeskModel", "place", "I", false)
  | 15 => ("RelationDeskModel", "prepared", "Z", false)
  | 16 => ("RelationDeskModel", "terms", "I", false)
  | 17 => ("RelationDeskModel", "at", "[I", true)
  | 18 => ("RelationDeskModel", "parent", "[I", true)
  | 19 => ("RelationDeskModel", "first", "[I", true)
  | 20 => ("RelationDeskModel", "second", "[I", true)
  | 21 => ("RelationDeskModel", "columns", "[I", true)
  | 22 => ("RelationDeskModel", "next", "I", false)
  | 23 => ("RelationDeskModel", "wrong", "I", false)
  | 24 => ("RelationDeskModel", "taken", "I", false)
  | 25 => ("RelationDeskModel", "left", "I", false)
  | 26 => ("RelationDeskModel", "kept", "[I", true)
  | 27 => ("RelationDeskModel", "keep", "[I", true)
  | 28 => ("RelationDeskModel", "row", "[I", true)
  | 29 => ("RelationDeskModel", "half", "[I", true)
  | 30 => ("RelationDeskModel", "latest", "[I", true)
  | 31 => ("RelationDeskModel", "latestWide", "I", false)
  | 32 => ("RelationDeskModel", "opened", "[I", true)
  | 33 => ("RelationDeskModel", "due0", "[I", true)
  | 34 => ("RelationDeskModel", "ends0", "[I", true)
  | 35 => ("RelationDeskModel", "now", "I", false)
  | 36 => ("RelationDeskModel", "asks", "Z", false)
  | 37 => ("RelationDeskModel", "tells", "Z", false)
  | 38 => ("RelationDeskModel", "pos", "[I", true)
  | _ => ("RelationDeskModel", "later", "[Z", true)
abbrev classes : List vw_C := [("RelationDesk", FC_0, 7), ("RelationDesk$Kept", FC_1, 4), ("RelationDesk$Reader", FC_2, 6), ("RelationDesk$Runner", FC_3, 2), ("RelationDesk$Table", FC_4, 6), ("RelationDesk$Tables", FC_5, 4), ("RelationDesk$Term", FC_6, 16), ("RelationDeskModel", FC_7, 40)]
def kClsL : List String := ["RelationDesk", "RelationDesk$Kept", "RelationDesk$Reader", "RelationDesk$Runner", "RelationDesk$Table", "RelationDesk$Tables", "RelationDesk$Term", "RelationDeskModel", "RelationDeskLaw", "java/lang/Math"]
def kCls (n : Nat) : String := kClsL.getD n ""
def kFtyL : List (List FieldType) := [[.object "RelationDesk$Tables", .array .int, .object "RelationDesk$Reader", .object "RelationDesk$Runner", .array .int, .int, .object "RelationDesk$Term"], [.array .int, .array .int, .int, .int], [.array .int, .int, .int, .int, .array (.object "RelationDesk$Term"), .int], [.int, .int], [.int, .array .boolean, .array .int, .array .int, .int, .int], [.array (.object "RelationDesk$Table"), .int, .boolean, .int], [.int, .int, .int, .int, .int, .array .int, .object "RelationDesk$Table", .object "RelationDesk$Term", .object "RelationDesk$Term", .int, .array .int, .object "RelationDesk$Kept", .int, .boolean, .boolean, .boolean], [.int, .int, .array .int, .array .boolean, .array .int, .array .int, .array .int, .boolean, .int, .array .int, .array .int, .int, .array .int, .array .int, .int, .boolean, .int, .array .int, .array .int, .array .int, .array .int, .array .int, .int, .int, .int, .int, .array .int, .array .int, .array .int, .array .int, .array .int, .int, .array .int, .array .int, .array .int, .int, .boolean, .boolean, .array .int, .array .boolean]]
def kFty (ci k : Nat) : FieldType := (kFtyL.getD ci []).getD k .int
def kDefL : List (List Value) := [[.null, .null, .null, .null, .null, .int 0, .null], [.null, .null, .int 0, .int 0], [.null, .int 0, .int 0, .int 0, .null, .int 0], [.int 0, .int 0], [.int 0, .null, .null, .null, .int 0, .int 0], [.null, .int 0, .int 0, .int 0], [.int 0, .int 0, .int 0, .int 0, .int 0, .null, .null, .null, .null, .int 0, .null, .null, .int 0, .int 0, .int 0, .int 0], [.int 0, .int 0, .null, .null, .null, .null, .null, .int 0, .int 0, .null, .null, .int 0, .null, .null, .int 0, .int 0, .int 0, .null, .null, .null, .null, .null, .int 0, .int 0, .int 0, .int 0, .null, .null, .null, .null, .null, .int 0, .null, .null, .null, .int 0, .int 0, .int 0, .null, .null]]
def kDef (ci : Nat) : List Value := kDefL.getD ci []
def kSz (ci : Nat) : Nat := (kDef ci).length
def kArt : List FieldType := [.int, .boolean, .long, .object "RelationDesk$Table", .object "RelationDesk$Term"]
def kAOs : List String := ["RelationDesk$Table", "RelationDesk$Term"]
def kNmL : List MethodName := [⟨"RelationDesk", "<init>", "()V"⟩,
  ⟨"RelationDesk", "table", "(I)I"⟩,
  ⟨"RelationDesk", "index", "(II)V"⟩,
  ⟨"RelationDesk", "stage", "(II)V"⟩,
  ⟨"RelationDesk", "insert", "(I)I"⟩,
  ⟨"RelationDesk", "delete", "(III)I"⟩,
  ⟨"RelationDesk", "change", "(IIII)I"⟩,
  ⟨"RelationDesk", "begin", "()V"⟩,
  ⟨"RelationDesk", "commit", "()I"⟩,
  ⟨"RelationDesk", "rollback", "()I"⟩,
  ⟨"RelationDesk", "cell", "(III)I"⟩,
  ⟨"RelationDesk", "feed", "(I)I"⟩,
  ⟨"RelationDesk", "prepare", "()I"⟩,
  ⟨"RelationDesk", "place", "()I"⟩,
  ⟨"RelationDesk", "step", "(I)I"⟩,
  ⟨"RelationDesk", "column", "(I)I"⟩,
  ⟨"RelationDesk", "cost", "()I"⟩,
  ⟨"RelationDesk", "keepLastRow", "(LRelationDesk$Term;)V"⟩,
  ⟨"RelationDesk", "widthOf", "(LRelationDesk$Term;)I"⟩,
  ⟨"RelationDesk$Kept", "<init>", "()V"⟩,
  ⟨"RelationDesk$Kept", "empty", "(I)V"⟩,
  ⟨"RelationDesk$Kept", "valueAt", "(II)I"⟩,
  ⟨"RelationDesk$Kept", "setAt", "(III)V"⟩,
  ⟨"RelationDesk$Kept", "copyRow", "(I[I)V"⟩,
  ⟨"RelationDesk$Kept", "add", "([I)Z"⟩,
  ⟨"RelationDesk$Kept", "addSorted", "([III)Z"⟩,
  ⟨"RelationDesk$Kept", "isLater", "(III)Z"⟩,
  ⟨"RelationDesk$Kept", "holds", "([I)Z"⟩,
  ⟨"RelationDesk$Kept", "isAt", "(I[I)Z"⟩,
  ⟨"RelationDesk$Kept", "find", "(I)I"⟩,
  ⟨"RelationDesk$Reader", "<init>", "()V"⟩,
  ⟨"RelationDesk$Reader", "addWord", "(I)V"⟩,
  ⟨"RelationDesk$Reader", "readQuery", "(LRelationDesk$Tables;)LRelationDesk$Term;"⟩,
  ⟨"RelationDesk$Reader", "failed", "()Z"⟩,
  ⟨"RelationDesk$Reader", "fail", "(I)V"⟩,
  ⟨"RelationDesk$Reader", "nextWord", "()I"⟩,
  ⟨"RelationDesk$Reader", "nextWithin", "(II)I"⟩,
  ⟨"RelationDesk$Reader", "nextTerm", "(I)LRelationDesk$Term;"⟩,
  ⟨"RelationDesk$Reader", "readTerm", "(LRelationDesk$Tables;I)LRelationDesk$Term;"⟩,
  ⟨"RelationDesk$Reader", "partsOf", "(I)I"⟩,
  ⟨"RelationDesk$Reader", "readNumbers", "(LRelationDesk$Term;LRelationDesk$Tables;)V"⟩,
  ⟨"RelationDesk$Reader", "widthAsked", "(LRelationDesk$Term;)I"⟩,
  ⟨"RelationDesk$Reader", "isWithin", "(II)Z"⟩,
  ⟨"RelationDesk$Reader", "picksWithin", "(LRelationDesk$Term;I)Z"⟩,
  ⟨"RelationDesk$Reader", "chooseIndex", "(LRelationDesk$Term;)V"⟩,
  ⟨"RelationDesk$Runner", "<init>", "()V"⟩,
  ⟨"RelationDesk$Runner", "startAnew", "(LRelationDesk$Term;)V"⟩,
  ⟨"RelationDesk$Runner", "goOn", "(LRelationDesk$Term;I)I"⟩,
  ⟨"RelationDesk$Runner", "beginAnew", "(LRelationDesk$Term;I)V"⟩,
  ⟨"RelationDesk$Runner", "ask", "(LRelationDesk$Term;I)I"⟩,
  ⟨"RelationDesk$Runner", "askScan", "(LRelationDesk$Term;)I"⟩,
  ⟨"RelationDesk$Runner", "askIndex", "(LRelationDesk$Term;)I"⟩,
  ⟨"RelationDesk$Runner", "takeRow", "(LRelationDesk$Term;LRelationDesk$Table;I)I"⟩,
  ⟨"RelationDesk$Runner", "askSelect", "(LRelationDesk$Term;I)I"⟩,
  ⟨"RelationDesk$Runner", "isSo", "(III)Z"⟩,
  ⟨"RelationDesk$Runner", "askProject", "(LRelationDesk$Term;I)I"⟩,
  ⟨"RelationDesk$Runner", "askPair", "(LRelationDesk$Term;I)I"⟩,
  ⟨"RelationDesk$Runner", "isMatch", "(LRelationDesk$Term;)Z"⟩,
  ⟨"RelationDesk$Runner", "askThrough", "(LRelationDesk$Term;LRelationDesk$Term;I)I"⟩,
  ⟨"RelationDesk$Runner", "askUnion", "(LRelationDesk$Term;I)I"⟩,
  ⟨"RelationDesk$Runner", "askDistinct", "(LRelationDesk$Term;I)I"⟩,
  ⟨"RelationDesk$Runner", "askLimit", "(LRelationDesk$Term;I)I"⟩,
  ⟨"RelationDesk$Runner", "askCount", "(LRelationDesk$Term;I)I"⟩,
  ⟨"RelationDesk$Runner", "askGathered", "(LRelationDesk$Term;I)I"⟩,
  ⟨"RelationDesk$Runner", "gather", "(LRelationDesk$Term;I)I"⟩,
  ⟨"RelationDesk$Runner", "keepRow", "(LRelationDesk$Term;)Z"⟩,
  ⟨"RelationDesk$Runner", "keepInGroup", "(LRelationDesk$Term;)Z"⟩,
  ⟨"RelationDesk$Runner", "combined", "(III)I"⟩,
  ⟨"RelationDesk$Runner", "valueIn", "(LRelationDesk$Term;I)I"⟩,
  ⟨"RelationDesk$Runner", "copyRow", "(LRelationDesk$Term;LRelationDesk$Term;I)V"⟩,
  ⟨"RelationDesk$Table", "<init>", "(I)V"⟩,
  ⟨"RelationDesk$Table", "hasColumn", "(I)Z"⟩,
  ⟨"RelationDesk$Table", "hasRow", "(I)Z"⟩,
  ⟨"RelationDesk$Table", "valueAt", "(II)I"⟩,
  ⟨"RelationDesk$Table", "copyRow", "(I[I)V"⟩,
  ⟨"RelationDesk$Table", "addRow", "([I)V"⟩,
  ⟨"RelationDesk$Table", "countEqual", "(II)I"⟩,
  ⟨"RelationDesk$Table", "nextEqual", "(III)I"⟩,
  ⟨"RelationDesk$Table", "removeEqual", "(II)V"⟩,
  ⟨"RelationDesk$Table", "setWhereEqual", "(IIII)V"⟩,
  ⟨"RelationDesk$Table", "save", "()V"⟩,
  ⟨"RelationDesk$Table", "restore", "()V"⟩,
  ⟨"RelationDesk$Tables", "<init>", "()V"⟩,
  ⟨"RelationDesk$Tables", "byNumber", "(I)LRelationDesk$Table;"⟩,
  ⟨"RelationDesk$Tables", "addTable", "(I)I"⟩,
  ⟨"RelationDesk$Tables", "mayChange", "(I)Z"⟩,
  ⟨"RelationDesk$Tables", "countChanged", "(I)V"⟩,
  ⟨"RelationDesk$Tables", "openTransaction", "()V"⟩,
  ⟨"RelationDesk$Tables", "closeTransaction", "()I"⟩,
  ⟨"RelationDesk$Tables", "restoreAll", "()V"⟩,
  ⟨"RelationDesk$Term", "<init>", "()V"⟩,
  ⟨"RelationDesk$Term", "become", "(I)V"⟩,
  ⟨"RelationDesk$Term", "forget", "()V"⟩,
  ⟨"RelationDeskModel", "<init>", "()V"⟩,
  ⟨"RelationDeskModel", "thrown", "()I"⟩,
  ⟨"RelationDeskModel", "in", "(III)Z"⟩,
  ⟨"RelationDeskModel", "says", "(Z)Z"⟩,
  ⟨"RelationDeskModel", "isTable", "(I)Z"⟩,
  ⟨"RelationDeskModel", "isColumn", "(II)Z"⟩,
  ⟨"RelationDeskModel", "at", "(III)I"⟩,
  ⟨"RelationDeskModel", "table", "(I)I"⟩,
  ⟨"RelationDeskModel", "index", "(II)V"⟩,
  ⟨"RelationDeskModel", "stage", "(II)V"⟩,
  ⟨"RelationDeskModel", "insert", "(I)I"⟩,
  ⟨"RelationDeskModel", "matching", "(III)I"⟩,
  ⟨"RelationDeskModel", "delete", "(III)I"⟩,
  ⟨"RelationDeskModel", "change", "(IIII)I"⟩,
  ⟨"RelationDeskModel", "begin", "()V"⟩,
  ⟨"RelationDeskModel", "commit", "()I"⟩,
  ⟨"RelationDeskModel", "rollback", "()I"⟩,
  ⟨"RelationDeskModel", "cell", "(III)I"⟩,
  ⟨"RelationDeskModel", "feed", "(I)I"⟩,
  ⟨"RelationDeskModel", "fails", "(I)V"⟩,
  ⟨"RelationDeskModel", "number", "(II)I"⟩,
  ⟨"RelationDeskModel", "any", "()I"⟩,
  ⟨"RelationDeskModel", "all", "()V"⟩,
  ⟨"RelationDeskModel", "numbers", "(I)V"⟩,
  ⟨"RelationDeskModel", "told", "(II)I"⟩,
  ⟨"RelationDeskModel", "kind", "(I)I"⟩,
  ⟨"RelationDeskModel", "looks", "(II)V"⟩,
  ⟨"RelationDeskModel", "prepare", "()I"⟩,
  ⟨"RelationDeskModel", "place", "()I"⟩,
  ⟨"RelationDeskModel", "anew", "(I)V"⟩,
  ⟨"RelationDeskModel", "ask", "(I)V"⟩,
  ⟨"RelationDeskModel", "tell", "(IZ)V"⟩,
  ⟨"RelationDeskModel", "isByIndex", "(I)Z"⟩,
  ⟨"RelationDeskModel", "scan", "(III)Z"⟩,
  ⟨"RelationDeskModel", "next", "(I)V"⟩,
  ⟨"RelationDeskModel", "asked", "(I)Z"⟩,
  ⟨"RelationDeskModel", "ended", "(II)V"⟩,
  ⟨"RelationDeskModel", "copy", "(II)V"⟩,
  ⟨"RelationDeskModel", "comes", "(II)Z"⟩,
  ⟨"RelationDeskModel", "pairs", "(II)V"⟩,
  ⟨"RelationDeskModel", "holds", "(II)Z"⟩,
  ⟨"RelationDeskModel", "isFull", "(II)Z"⟩,
  ⟨"RelationDeskModel", "isKept", "(III)Z"⟩,
  ⟨"RelationDeskModel", "lay", "(III)V"⟩,
  ⟨"RelationDeskModel", "keeps", "(II)Z"⟩,
  ⟨"RelationDeskModel", "sorts", "(II)Z"⟩,
  ⟨"RelationDeskModel", "groups", "(II)Z"⟩,
  ⟨"RelationDeskModel", "step", "(I)I"⟩,
  ⟨"RelationDeskModel", "column", "(I)I"⟩,
  ⟨"RelationDeskModel", "cost", "()I"⟩,
  ⟨"RelationDeskLaw", "table", "(LRelationDesk;I[J)I"⟩,
  ⟨"RelationDeskLaw", "index", "(LRelationDesk;II)I"⟩,
  ⟨"RelationDeskLaw", "stage", "(LRelationDesk;II)I"⟩,
  ⟨"RelationDeskLaw", "insert", "(LRelationDesk;I[J)I"⟩,
  ⟨"RelationDeskLaw", "delete", "(LRelationDesk;III[J)I"⟩,
  ⟨"RelationDeskLaw", "change", "(LRelationDesk;IIII[J)I"⟩,
  ⟨"RelationDeskLaw", "begin", "(LRelationDesk;)I"⟩,
  ⟨"RelationDeskLaw", "commit", "(LRelationDesk;[J)I"⟩,
  ⟨"RelationDeskLaw", "rollback", "(LRelationDesk;[J)I"⟩,
  ⟨"RelationDeskLaw", "cell", "(LRelationDesk;III[J)I"⟩,
  ⟨"RelationDeskLaw", "feed", "(LRelationDesk;I[J)I"⟩,
  ⟨"RelationDeskLaw", "prepare", "(LRelationDesk;[J)I"⟩,
  ⟨"RelationDeskLaw", "step", "(LRelationDesk;I[J)I"⟩,
  ⟨"RelationDeskLaw", "law", "([I)Z"⟩,
  ⟨"java/lang/Math", "floorDiv", "(II)I"⟩,
  ⟨"java/lang/Math", "floorMod", "(II)I"⟩]
def kNm (y : Nat) : MethodName := kNmL.getD y ⟨"", "", ""⟩
def kByL : List ByteArray := [prog_1_method_1_code, prog_1_method_2_code, prog_1_method_3_code, prog_1_method_4_code, prog_1_method_5_code, prog_1_method_6_code, prog_1_method_7_code, prog_1_method_8_code, prog_1_method_9_code, prog_1_method_10_code, prog_1_method_11_code, prog_1_method_12_code, prog_1_method_13_code, prog_1_method_14_code, prog_1_method_15_code, prog_1_method_16_code, prog_1_method_17_code, prog_1_method_18_code, prog_1_method_19_code, prog_2_method_1_code, prog_2_method_2_code, prog_2_method_3_code, prog_2_method_4_code, prog_2_method_5_code, prog_2_method_6_code, prog_2_method_7_code, prog_2_method_8_code, prog_2_method_9_code, prog_2_method_10_code, prog_2_method_11_code, prog_3_method_1_code, prog_3_method_2_code, prog_3_method_3_code, prog_3_method_4_code, prog_3_method_5_code, prog_3_method_6_code, prog_3_method_7_code, prog_3_method_8_code, prog_3_method_9_code, prog_3_method_10_code, prog_3_method_11_code, prog_3_method_12_code, prog_3_method_13_code, prog_3_method_14_code, prog_3_method_15_code, prog_4_method_1_code, prog_4_method_2_code, prog_4_method_3_code, prog_4_method_4_code, prog_4_method_5_code, prog_4_method_6_code, prog_4_method_7_code, prog_4_method_8_code, prog_4_method_9_code, prog_4_method_10_code, prog_4_method_11_code, prog_4_method_12_code, prog_4_method_13_code, prog_4_method_14_code, prog_4_method_15_code, prog_4_method_16_code, prog_4_method_17_code, prog_4_method_18_code, prog_4_method_19_code, prog_4_method_20_code, prog_4_method_21_code, prog_4_method_22_code, prog_4_method_23_code, prog_4_method_24_code, prog_4_method_25_code, prog_5_method_1_code, prog_5_method_2_code, prog_5_method_3_code, prog_5_method_4_code, prog_5_method_5_code, prog_5_method_6_code, prog_5_method_7_code, prog_5_method_8_code, prog_5_method_9_code, prog_5_method_10_code, prog_5_method_11_code, prog_5_method_12_code, prog_6_method_1_code, prog_6_method_2_code, prog_6_method_3_code, prog_6_method_4_code, prog_6_method_5_code, prog_6_method_6_code, prog_6_method_7_code, prog_6_method_8_code, prog_7_method_1_code, prog_7_method_2_code, prog_7_method_3_code, prog_9_method_1_code, prog_9_method_2_code, prog_9_method_3_code, prog_9_method_4_code, prog_9_method_5_code, prog_9_method_6_code, prog_9_method_7_code, prog_9_method_8_code, prog_9_method_9_code, prog_9_method_10_code, prog_9_method_11_code, prog_9_method_12_code, prog_9_method_13_code, prog_9_method_14_code, prog_9_method_15_code, prog_9_method_16_code, prog_9_method_17_code, prog_9_method_18_code, prog_9_method_19_code, prog_9_method_20_code, prog_9_method_21_code, prog_9_method_22_code, prog_9_method_23_code, prog_9_method_24_code, prog_9_method_25_code, prog_9_method_26_code, prog_9_method_27_code, prog_9_method_28_code, prog_9_method_29_code, prog_9_method_30_code, prog_9_method_31_code, prog_9_method_32_code, prog_9_method_33_code, prog_9_method_34_code, prog_9_method_35_code, prog_9_method_36_code, prog_9_method_37_code, prog_9_method_38_code, prog_9_method_39_code, prog_9_method_40_code, prog_9_method_41_code, prog_9_method_42_code, prog_9_method_43_code, prog_9_method_44_code, prog_9_method_45_code, prog_9_method_46_code, prog_9_method_47_code, prog_9_method_48_code, prog_9_method_49_code, prog_9_method_50_code, method_3_code, method_4_code, method_5_code, method_6_code, method_7_code, method_8_code, method_9_code, method_10_code, method_11_code, method_12_code, method_13_code, method_14_code, method_15_code, code, prog_13_method_47_code, prog_13_method_50_code]
def kBytes (y : Nat) : ByteArray := kByL.getD y ⟨#[]⟩
def kMlL : List Nat := [1, 2, 4, 3, 3, 6, 9, 1, 1, 1, 5, 2, 1, 1, 3, 2, 1, 2, 1, 1, 2, 3, 4, 3, 2, 6, 3, 3, 5, 3, 1, 2, 3, 1, 2, 2, 5, 3, 6, 1, 4, 3, 2, 3, 3, 1, 2, 3, 3, 3, 2, 3, 4, 5, 3, 5, 5, 1, 5, 4, 5, 4, 4, 4, 5, 1, 5, 3, 2, 3, 2, 2, 2, 3, 3, 2, 5, 5, 5, 6, 1, 1, 1, 2, 3, 2, 2, 3, 1, 3, 1, 2, 1, 1, 1, 3, 2, 2, 3, 3, 2, 3, 3, 3, 6, 8, 9, 2, 1, 3, 4, 2, 2, 3, 1, 6, 5, 3, 2, 8, 2, 1, 3, 2, 3, 2, 6, 4, 3, 4, 4, 4, 5, 6, 3, 5, 5, 5, 10, 8, 4, 2, 1, 4, 4, 4, 4, 6, 7, 2, 3, 3, 6, 4, 3, 4, maxLocals, 3, 3]
def kMaxL (y : Nat) : Nat := kMlL.getD y 0
def kRetL : List (Option FieldType) := [none, some (.int), none, none, some (.int), some (.int), some (.int), none, some (.int), some (.int), some (.int), some (.int), some (.int), some (.int), some (.int), some (.int), some (.int), none, some (.int), none, none, some (.int), none, none, some (.boolean), some (.boolean), some (.boolean), some (.boolean), some (.boolean), some (.int), none, none, some (.object "RelationDesk$Term"), some (.boolean), none, some (.int), some (.int), some (.object "RelationDesk$Term"), some (.object "RelationDesk$Term"), some (.int), none, some (.int), some (.boolean), some (.boolean), none, none, none, some (.int), none, some (.int), some (.int), some (.int), some (.int), some (.int), some (.boolean), some (.int), some (.int), some (.boolean), some (.int), some (.int), some (.int), some (.int), some (.int), some (.int), some (.int), some (.boolean), some (.boolean), some (.int), some (.int), none, none, some (.boolean), some (.boolean), some (.int), none, none, some (.int), some (.int), none, none, none, none, none, some (.object "RelationDesk$Table"), some (.int), some (.boolean), none, none, some (.int), none, none, none, none, none, some (.int), some (.boolean), some (.boolean), some (.boolean), some (.boolean), some (.int), some (.int), none, none, some (.int), some (.int), some (.int), some (.int), none, some (.int), some (.int), some (.int), some (.int), none, some (.int), some (.int), none, none, some (.int), some (.int), none, some (.int), some (.int), none, none, none, some (.boolean), some (.boolean), none, some (.boolean), none, none, some (.boolean), none, some (.boolean), some (.boolean), some (.boolean), none, some (.boolean), some (.boolean), some (.boolean), some (.int), some (.int), some (.int), some (.int), some (.int), some (.int), some (.int), some (.int), some (.int), some (.int), some (.int), some (.int), some (.int), some (.int), some (.int), some (.int), some (.boolean), some (.int), some (.int)]
def kRet (y : Nat) : Option FieldType := kRetL.getD y none
def kRrf (y : Nat) : Bool := match kRet y with | some (.object _) => true | some (.array _) => true | _ => false
def kHhL : List (List (Nat × Nat × Nat × Nat)) := [[], [], [], [], [], [], [], [], [], [], [], [], [], [], [], [], [], [], [], [], [], [], [], [], [], [], [], [], [], [], [], [], [], [], [], [], [], [], [], [], [], [], [], [], [], [], [], [], [], [], [], [], [], [], [], [], [], [], [], [], [], [], [], [], [], [], [], [], [], [], [], [], [], [], [], [], [], [], [], [], [], [], [], [], [], [], [], [], [], [], [], [], [], [], [], [], [], [], [], [], [], [], [], [], [], [], [], [], [], [], [], [], [], [], [], [], [], [], [], [], [], [], [], [], [], [], [], [], [], [], [], [], [], [], [], [], [], [], [], [], [], [], [], [(0, 9, 12, 13), (0, 9, 15, 15)], [(0, 6, 9, 13), (0, 6, 12, 15)], [(0, 6, 9, 13)], [(0, 9, 12, 13), (0, 9, 15, 15)], [(0, 12, 15, 13), (0, 12, 19, 15)], [(0, 14, 17, 13), (0, 14, 21, 15)], [(0, 4, 7, 15)], [(0, 8, 11, 15)], [(0, 8, 11, 15)], [(0, 12, 15, 13)], [(0, 9, 12, 15)], [(0, 8, 11, 13)], [(0, 9, 12, 13), (0, 9, 15, 15)], [], [], []]
def kHh (y : Nat) : List (Nat × Nat × Nat × Nat) := kHhL.getD y []
/-- kind (0 static, 1 by a receiver, 2 constructor), receiver, how many parameters, class file -/
def kMiL : List (Nat × Option Nat × Nat × Nat) := [(2, some 0, 0, 0), (1, some 0, 1, 0), (1, some 0, 2, 0), (1, some 0, 2, 0), (1, some 0, 1, 0), (1, some 0, 3, 0), (1, some 0, 4, 0), (1, some 0, 0, 0), (1, some 0, 0, 0), (1, some 0, 0, 0), (1, some 0, 3, 0), (1, some 0, 1, 0), (1, some 0, 0, 0), (1, some 0, 0, 0), (1, some 0, 1, 0), (1, some 0, 1, 0), (1, some 0, 0, 0), (1, some 0, 1, 0), (0, none, 1, 0), (2, some 1, 0, 1), (1, some 1, 1, 1), (1, some 1, 2, 1), (1, some 1, 3, 1), (1, some 1, 2, 1), (1, some 1, 1, 1), (1, some 1, 3, 1), (0, none, 3, 1), (1, some 1, 1, 1), (1, some 1, 2, 1), (1, some 1, 1, 1), (2, some 2, 0, 2), (1, some 2, 1, 2), (1, some 2, 1, 2), (1, some 2, 0, 2), (1, some 2, 1, 2), (1, some 2, 0, 2), (1, some 2, 2, 2), (1, some 2, 1, 2), (1, some 2, 2, 2), (0, none, 1, 2), (1, some 2, 2, 2), (0, none, 1, 2), (0, none, 2, 2), (0, none, 2, 2), (0, none, 1, 2), (2, some 3, 0, 3), (1, some 3, 1, 3), (1, some 3, 2, 3), (1, some 3, 2, 3), (1, some 3, 2, 3), (1, some 3, 1, 3), (1, some 3, 1, 3), (1, some 3, 3, 3), (1, some 3, 2, 3), (0, none, 3, 3), (1, some 3, 2, 3), (1, some 3, 2, 3), (0, none, 1, 3), (1, some 3, 3, 3), (1, some 3, 2, 3), (1, some 3, 2, 3), (1, some 3, 2, 3), (1, some 3, 2, 3), (1, some 3, 2, 3), (1, some 3, 2, 3), (0, none, 1, 3), (0, none, 1, 3), (0, none, 3, 3), (0, none, 2, 3), (0, none, 3, 3), (2, some 4, 1, 4), (1, some 4, 1, 4), (1, some 4, 1, 4), (1, some 4, 2, 4), (1, some 4, 2, 4), (1, some 4, 1, 4), (1, some 4, 2, 4), (1, some 4, 3, 4), (1, some 4, 2, 4), (1, some 4, 4, 4), (1, some 4, 0, 4), (1, some 4, 0, 4), (2, some 5, 0, 5), (1, some 5, 1, 5), (1, some 5, 1, 5), (1, some 5, 1, 5), (1, some 5, 1, 5), (1, some 5, 0, 5), (1, some 5, 0, 5), (1, some 5, 0, 5), (2, some 6, 0, 6), (1, some 6, 1, 6), (1, some 6, 0, 6), (2, some 7, 0, 7), (1, some 7, 0, 7), (0, none, 3, 7), (1, some 7, 1, 7), (1, some 7, 1, 7), (1, some 7, 2, 7), (0, none, 3, 7), (1, some 7, 1, 7), (1, some 7, 2, 7), (1, some 7, 2, 7), (1, some 7, 1, 7), (1, some 7, 3, 7), (1, some 7, 3, 7), (1, some 7, 4, 7), (1, some 7, 0, 7), (1, some 7, 0, 7), (1, some 7, 0, 7), (1, some 7, 3, 7), (1, some 7, 1, 7), (1, some 7, 1, 7), (1, some 7, 2, 7), (1, some 7, 0, 7), (1, some 7, 0, 7), (1, some 7, 1, 7), (1, some 7, 2, 7), (1, some 7, 1, 7), (1, some 7, 2, 7), (1, some 7, 0, 7), (1, some 7, 0, 7), (1, some 7, 1, 7), (1, some 7, 1, 7), (1, some 7, 2, 7), (1, some 7, 1, 7), (1, some 7, 3, 7), (1, some 7, 1, 7), (1, some 7, 1, 7), (1, some 7, 2, 7), (1, some 7, 2, 7), (1, some 7, 2, 7), (1, some 7, 2, 7), (1, some 7, 2, 7), (1, some 7, 2, 7), (1, some 7, 3, 7), (1, some 7, 3, 7), (1, some 7, 2, 7), (1, some 7, 2, 7), (1, some 7, 2, 7), (1, some 7, 1, 7), (1, some 7, 1, 7), (1, some 7, 0, 7), (0, none, 3, 8), (0, none, 3, 8), (0, none, 3, 8), (0, none, 3, 8), (0, none, 5, 8), (0, none, 6, 8), (0, none, 1, 8), (0, none, 2, 8), (0, none, 2, 8), (0, none, 5, 8), (0, none, 3, 8), (0, none, 2, 8), (0, none, 3, 8), (0, none, 1, 8), (0, none, 2, 9), (0, none, 2, 9)]
def kMi (y : Nat) : Nat × Option Nat × Nat × Nat := kMiL.getD y (9, none, 0, 99)
def kKin (y : Nat) : Nat := (kMi y).1
def kRcv (y : Nat) : Option Nat := (kMi y).2.1
def kArg (y : Nat) : Nat := (kMi y).2.2.1
def kCn (y : Nat) : Nat := (kMi y).2.2.2
def kIni (y : Nat) : Bool := kKin y == 2
def kEntry (y : Nat) (As : List Value) : List (Option Value) := As.map some ++ List.replicate (kMaxL y - As.length) none
def kFldL : List (Nat × Nat × Nat × Nat) := [(0, 10, 0, 0), (0, 16, 0, 1), (0, 23, 0, 2), (0, 30, 0, 3), (0, 34, 0, 4), (0, 37, 0, 5), (0, 41, 0, 6), (0, 52, 5, 1), (0, 55, 5, 2), (0, 80, 4, 1), (0, 90, 4, 4), (0, 150, 2, 1), (0, 166, 6, 9), (0, 171, 2, 2), (0, 185, 3, 1), (0, 188, 6, 10), (1, 9, 1, 0), (1, 15, 1, 1), (1, 18, 1, 2), (1, 22, 1, 3), (2, 9, 2, 0), (2, 17, 2, 4), (2, 21, 2, 2), (2, 25, 2, 1), (2, 28, 2, 3), (2, 31, 2, 5), (2, 66, 6, 0), (2, 73, 6, 7), (2, 77, 6, 8), (2, 84, 6, 9), (2, 91, 5, 1), (2, 98, 6, 6), (2, 102, 6, 1), (2, 105, 6, 3), (2, 108, 6, 4), (2, 111, 6, 5), (2, 114, 6, 2), (2, 120, 4, 0), (2, 137, 4, 1), (3, 9, 3, 1), (3, 19, 3, 0), (3, 31, 6, 7), (3, 35, 6, 8), (3, 38, 6, 0), (3, 45, 6, 6), (3, 76, 6, 12), (3, 83, 6, 1), (3, 86, 6, 4), (3, 99, 6, 10), (3, 111, 6, 3), (3, 121, 6, 9), (3, 124, 6, 5), (3, 127, 6, 13), (3, 138, 6, 2), (3, 141, 6, 14), (3, 148, 6, 11), (3, 161, 6, 15), (3, 167, 1, 3), (4, 9, 4, 0), (4, 15, 4, 1), (4, 19, 4, 2), (4, 23, 4, 3), (4, 26, 4, 4), (4, 46, 4, 5), (5, 11, 5, 0), (5, 17, 5, 1), (5, 24, 5, 2), (5, 28, 5, 3), (6, 9, 6, 5), (6, 15, 6, 10), (6, 21, 6, 11), (6, 25, 6, 0), (6, 29, 6, 1), (6, 32, 6, 2), (6, 35, 6, 3), (6, 38, 6, 4), (6, 41, 6, 6), (6, 45, 6, 7), (6, 49, 6, 8), (6, 52, 6, 9), (6, 55, 6, 12), (6, 58, 6, 13), (6, 62, 6, 14), (6, 65, 6, 15), (7, 7, 7, 2), (7, 13, 7, 3), (7, 17, 7, 4), (7, 20, 7, 5), (7, 23, 7, 6), (7, 26, 7, 9), (7, 29, 7, 10), (7, 32, 7, 12), (7, 35, 7, 13), (7, 38, 7, 14), (7, 42, 7, 17), (7, 45, 7, 18), (7, 48, 7, 19), (7, 51, 7, 20), (7, 54, 7, 21), (7, 57, 7, 26), (7, 61, 7, 27), (7, 64, 7, 28), (7, 67, 7, 29), (7, 70, 7, 30), (7, 73, 7, 32), (7, 76, 7, 33), (7, 79, 7, 34), (7, 82, 7, 38), (7, 85, 7, 39), (7, 88, 7, 0), (7, 91, 7, 1), (7, 102, 7, 7), (7, 106, 7, 15), (7, 117, 7, 8), (7, 130, 7, 11), (7, 133, 7, 23), (7, 136, 7, 22), (7, 149, 7, 16), (7, 169, 7, 24), (7, 172, 7, 31), (7, 178, 7, 35), (7, 181, 7, 36), (7, 187, 7, 37), (7, 194, 7, 25)]
def kFld (cn i : Nat) : Option (Nat × Nat) := (kFldL.find? (fun q => q.1 == cn && q.2.1 == i)).map (fun q => q.2.2)
def kMthL : List (Nat × Nat × Nat) := [(0, 9, 82), (0, 22, 30), (0, 29, 45), (0, 64, 84), (0, 68, 83), (0, 72, 71), (0, 93, 85), (0, 98, 86), (0, 102, 75), (0, 106, 76), (0, 112, 78), (0, 116, 157), (0, 121, 158), (0, 124, 79), (0, 130, 87), (0, 135, 88), (0, 139, 89), (0, 142, 72), (0, 147, 73), (0, 153, 31), (0, 156, 32), (0, 160, 46), (0, 178, 47), (0, 182, 17), (1, 31, 24), (1, 35, 21), (1, 39, 26), (1, 43, 28), (2, 34, 38), (2, 38, 34), (2, 42, 33), (2, 46, 35), (2, 50, 90), (2, 51, 91), (2, 54, 36), (2, 58, 37), (2, 62, 40), (2, 69, 39), (2, 80, 41), (2, 87, 44), (2, 94, 83), (2, 117, 18), (2, 125, 42), (2, 129, 43), (2, 133, 71), (3, 15, 48), (3, 22, 49), (3, 26, 92), (3, 41, 50), (3, 49, 53), (3, 52, 51), (3, 55, 55), (3, 58, 56), (3, 61, 59), (3, 64, 60), (3, 67, 61), (3, 70, 62), (3, 73, 63), (3, 79, 52), (3, 89, 77), (3, 95, 72), (3, 103, 74), (3, 108, 68), (3, 114, 54), (3, 118, 69), (3, 131, 57), (3, 135, 18), (3, 144, 58), (3, 152, 27), (3, 158, 24), (3, 164, 64), (3, 170, 23), (3, 171, 65), (3, 174, 66), (3, 177, 25), (3, 181, 29), (3, 185, 21), (3, 189, 67), (3, 192, 22), (4, 29, 72), (4, 33, 71), (4, 42, 73), (5, 21, 70), (5, 31, 83), (5, 35, 80), (5, 38, 81), (6, 20, 19), (6, 68, 20), (7, 94, 95), (7, 98, 97), (7, 109, 98), (7, 113, 96), (7, 120, 99), (7, 123, 104), (7, 126, 108), (7, 139, 112), (7, 145, 113), (7, 152, 116), (7, 155, 118), (7, 159, 119), (7, 163, 114), (7, 166, 117), (7, 175, 115), (7, 184, 122), (7, 190, 124), (7, 197, 126), (7, 200, 125), (7, 203, 123), (7, 206, 127), (7, 208, 133), (7, 211, 130), (7, 214, 132), (7, 217, 137), (7, 220, 138), (7, 223, 139), (7, 226, 135), (7, 229, 134), (7, 232, 136), (7, 236, 128), (7, 239, 129), (7, 242, 131), (8, 7, 1), (8, 17, 2), (8, 21, 3), (8, 24, 4), (8, 27, 5), (8, 31, 6), (8, 35, 7), (8, 38, 8), (8, 42, 9), (8, 45, 10), (8, 48, 11), (8, 51, 12), (8, 54, 14), (8, 57, 0), (8, 60, 93), (8, 61, 143), (8, 66, 100), (8, 67, 94), (8, 70, 144), (8, 73, 101), (8, 74, 145), (8, 76, 102), (8, 77, 146), (8, 79, 103), (8, 80, 147), (8, 83, 105), (8, 84, 148), (8, 87, 106), (8, 88, 149), (8, 91, 107), (8, 92, 150), (8, 95, 108), (8, 96, 151), (8, 98, 109), (8, 99, 152), (8, 101, 110), (8, 102, 153), (8, 104, 111), (8, 105, 154), (8, 107, 120), (8, 108, 13), (8, 111, 121), (8, 112, 155), (8, 114, 140), (8, 115, 15), (8, 118, 141), (8, 119, 16), (8, 122, 142)]
def kMth (cn i : Nat) : Option (Nat) := (kMthL.find? (fun q => q.1 == cn && q.2.1 == i)).map (fun q => q.2.2)
def kNewL : List (Nat × Nat × Nat) := [(0, 7, 5), (0, 20, 2), (0, 27, 3), (2, 15, 6), (5, 9, 4), (6, 18, 1), (8, 8, 0), (8, 58, 7)]
def kNew (cn i : Nat) : Option (Nat) := (kNewL.find? (fun q => q.1 == cn && q.2.1 == i)).map (fun q => q.2.2)
def kANewL : List (Nat × Nat × Nat) := [(2, 15, 4), (5, 9, 3)]
def kANew (cn i : Nat) : Option (Nat) := (kANewL.find? (fun q => q.1 == cn && q.2.1 == i)).map (fun q => q.2.2)
def kCstL : List (Nat × Nat × Int32) := [(3, 107, 1000000), (7, 60, 108000), (7, 143, (-2147483648)), (7, 144, 2147483647)]
def kCst (cn i : Nat) : Option (Int32) := (kCstL.find? (fun q => q.1 == cn && q.2.1 == i)).map (fun q => q.2.2)
def kNatL : List (Nat × Nat × Nat) := [(0, 191, 0), (1, 25, 0), (3, 196, 1), (3, 201, 2), (3, 204, 0), (4, 36, 0)]
def kNat (cn i : Nat) : Option (Nat) := (kNatL.find? (fun q => q.1 == cn && q.2.1 == i)).map (fun q => q.2.2)
def kOb9L : List (Nat × Nat × Nat) := [(0, 1, 0), (1, 3, 0), (2, 3, 0), (3, 3, 0), (4, 3, 0), (5, 3, 0), (6, 3, 0), (7, 1, 0)]
def kOb9 (cn i : Nat) : Option (Nat) := (kOb9L.find? (fun q => q.1 == cn && q.2.1 == i)).map (fun q => q.2.2)
def kObj (cn i : Nat) : Bool := (kOb9 cn i).isSome
/-- may the method y write the field k of class ci: not final, or its own constructor -/
def kPut (y ci k : Nat) : Bool := match classes[ci]? with | some r => decide (k < r.2.2) && (!(r.2.1 k).2.2.2 || (kIni y && (r.2.1 k).1 == kCls (kCn y))) | none => false
def kThrL : List (Nat × Nat × Nat × Nat × Nat × Nat × String) := [(1, 11, 0, 45, 47, 49, "a table has 1 .. 6 columns"), (1, 43, 1, 59, 61, 63, "there are 6 tables, or a transaction goes on"), (2, 21, 0, 45, 78, 49, "no such table or column"), (2, 50, 1, 59, 84, 63, "there is one, or a transaction goes on"), (3, 10, 0, 45, 86, 49, "the row at hand has cells 0 .. 5"), (4, 13, 0, 45, 88, 49, "no such table"), (4, 43, 1, 59, 96, 63, "there are 40 rows, or the transaction has changed 120"), (5, 24, 0, 45, 78, 49, "no such table or column"), (5, 55, 1, 59, 110, 63, "the transaction would have changed more than 120"), (6, 51, 0, 45, 78, 49, "no such table or column"), (6, 83, 1, 59, 110, 63, "the transaction would have changed more than 120"), (7, 10, 1, 59, 128, 63, "a transaction goes on"), (8, 10, 1, 59, 133, 63, "there is no transaction"), (9, 10, 1, 59, 133, 63, "there is no transaction"), (10, 15, 0, 45, 88, 49, "no such table"), (10, 54, 0, 45, 145, 49, "no such row or column"), (11, 12, 1, 59, 151, 63, "there are 60 words"), (12, 38, 0, 45, 164, 49, "the query is wrong"), (14, 12, 0, 45, 174, 49, "fuel is 1 .. 500"), (14, 29, 1, 59, 176, 63, "no query is prepared")]
def kThr (y pc : Nat) : Option Nat := (kThrL.find? (fun q => q.1 == y && q.2.1 == pc)).map (fun q => q.2.2.1)
def kExn (i : Nat) : String := ["java/lang/IllegalArgumentException", "java/lang/IllegalStateException"].getD i ""
def kHanL : List (Nat × Nat × Nat × Nat × Nat) := [(143, 4, 0, 12, 0), (143, 4, 1, 15, 1), (144, 3, 0, 9, 0), (144, 3, 1, 12, 1), (145, 3, 0, 9, 0), (146, 4, 0, 12, 0), (146, 4, 1, 15, 1), (147, 7, 0, 15, 0), (147, 7, 1, 19, 1), (148, 9, 0, 17, 0), (148, 9, 1, 21, 1), (149, 1, 1, 7, 0), (150, 3, 1, 11, 0), (151, 3, 1, 11, 0), (152, 7, 0, 15, 0), (153, 4, 1, 12, 0), (154, 3, 0, 11, 0), (155, 4, 0, 12, 0), (155, 4, 1, 15, 1)]
def kHan (y pc E : Nat) : Option Nat := (kHanL.find? (fun q => q.1 == y && q.2.1 == pc && q.2.2.1 == E)).map (fun q => q.2.2.2.1)

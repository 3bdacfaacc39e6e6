/-- the words that stay as the machine goes on -/
def WT : List Cond := lw_tbl.filter goodWord
theorem wt_1 {i : Nat} {w : Cond} (h : tables_1_1[i]? = some w) (g : goodWord w = true) : w ∈ WT := List.mem_filter.mpr ⟨List.mem_append_right _ (List.mem_append_left _ (List.mem_of_getElem? h)), g⟩
theorem wt_2 {i : Nat} {w : Cond} (h : tables_1_2[i]? = some w) (g : goodWord w = true) : w ∈ WT := List.mem_filter.mpr ⟨List.mem_append_right _ (List.mem_append_right _ (List.mem_append_left _ (List.mem_of_getElem? h))), g⟩
theorem wt_3 {i : Nat} {w : Cond} (h : tables_1_3[i]? = some w) (g : goodWord w = true) : w ∈ WT := List.mem_filter.mpr ⟨List.mem_append_right _ (List.mem_append_right _ (List.mem_append_right _ (List.mem_of_getElem? h))), g⟩
theorem wn_1 {i : Nat} {w : Cond} (h : tables_1_1[i]? = some w) : w ∈ lw_tbl := List.mem_append_right _ (List.mem_append_left _ (List.mem_of_getElem? h))
theorem wn_2 {i : Nat} {w : Cond} (h : tables_1_2[i]? = some w) : w ∈ lw_tbl := List.mem_append_right _ (List.mem_append_right _ (List.mem_append_left _ (List.mem_of_getElem? h)))
theorem wn_3 {i : Nat} {w : Cond} (h : tables_1_3[i]? = some w) : w ∈ lw_tbl := List.mem_append_right _ (List.mem_append_right _ (List.mem_append_right _ (List.mem_of_getElem? h)))
theorem wt_s {i : Nat} {w : Cond} (h : (k2_sels lw_privs)[i]? = some w) (g : goodWord w = true) : w ∈ WT := List.mem_filter.mpr ⟨List.mem_append_left _ (List.mem_of_getElem? h), g⟩
theorem wt_in {w : Cond} (h : w ∈ WT) : w ∈ lw_tbl := (List.mem_filter.mp h).1
theorem wt_good : ∀ w ∈ WT, (w.onTables && w.keeps) = true ∨ ∃ ty, w = .arrayClass ty := fun w h => good_of_word (List.mem_filter.mp h).2

theorem k0 : (Jvm.Cond.initialized "TwoTimesTableLaw") ∈ WT := wt_1 (i := 0) rfl rfl
theorem k1 : (Jvm.Cond.initialized "TwoTimesTable") ∈ WT := wt_1 (i := 1) rfl rfl
theorem k2 : (Jvm.Cond.initialized "TwoTimesTable$States") ∈ WT := wt_1 (i := 2) rfl rfl
theorem k3 : (Jvm.Cond.initialized "TwoTimesTable$Waiting") ∈ WT := wt_1 (i := 3) rfl rfl
theorem k4 : (Jvm.Cond.initialized "TwoTimesTableModel") ∈ WT := wt_1 (i := 4) rfl rfl
theorem k5 : (Jvm.Cond.initialized "java/lang/Throwable") ∈ WT := wt_1 (i := 5) rfl rfl
theorem k6 : (Jvm.Cond.initialized "java/lang/Exception") ∈ WT := wt_1 (i := 6) rfl rfl
theorem k7 : (Jvm.Cond.initialized "java/lang/RuntimeException") ∈ WT := wt_1 (i := 7) rfl rfl
theorem k8 : (Jvm.Cond.initialized "java/lang/IllegalStateException") ∈ WT := wt_1 (i := 8) rfl rfl
theorem k9 : (Jvm.Cond.initialized "java/lang/System") ∈ WT := wt_1 (i := 9) rfl rfl
theorem k10 : (Jvm.Cond.initialized "java/lang/IllegalArgumentException") ∈ WT := wt_1 (i := 10) rfl rfl
theorem k11 : (Jvm.Cond.initialized "java/util/NoSuchElementException") ∈ WT := wt_1 (i := 11) rfl rfl
theorem k12 : (Jvm.Cond.initialized "java/lang/IndexOutOfBoundsException") ∈ WT := wt_1 (i := 12) rfl rfl
theorem k13 : (Jvm.Cond.classLink "TwoTimesTableLaw" (8 : Nat) "TwoTimesTable") ∈ WT := wt_1 (i := 13) rfl rfl
theorem k14 : (Jvm.Cond.instantiable "TwoTimesTable" (3 : Nat)) ∈ WT := wt_1 (i := 14) rfl rfl
theorem k15 : (Jvm.Cond.methodLink "TwoTimesTableLaw" (56 : Nat) ({ cls := "TwoTimesTable", name := "<init>", desc := "()V" } : Jvm.MethodName)) ∈ WT := wt_1 (i := 15) rfl rfl
theorem k16 : (Jvm.Cond.instanceMethod ({ cls := "TwoTimesTable", name := "<init>", desc := "()V" } : Jvm.MethodName)) ∈ WT := wt_1 (i := 16) rfl rfl
theorem k17 : (Jvm.Cond.code ({ cls := "TwoTimesTable", name := "<init>", desc := "()V" } : Jvm.MethodName) prog_1_method_1_code (1 : Nat) (Option.none : Option Jvm.ClassFile.FieldType)) ∈ WT := wt_1 (i := 17) rfl rfl
theorem k18 : (Jvm.Cond.methodLink "TwoTimesTable" (1 : Nat) ({ cls := "java/lang/Object", name := "<init>", desc := "()V" } : Jvm.MethodName)) ∈ WT := wt_1 (i := 18) rfl rfl
theorem k19 : (Jvm.Cond.instanceMethod ({ cls := "java/lang/Object", name := "<init>", desc := "()V" } : Jvm.MethodName)) ∈ WT := wt_1 (i := 19) rfl rfl
theorem k20 : (Jvm.Cond.code ({ cls := "java/lang/Object", name := "<init>", desc := "()V" } : Jvm.MethodName) object_method_1_code (1 : Nat) (Option.none : Option Jvm.ClassFile.FieldType)) ∈ WT := wt_1 (i := 20) rfl rfl
theorem k21 : (Jvm.Cond.classLink "TwoTimesTable" (7 : Nat) "TwoTimesTable$States") ∈ WT := wt_1 (i := 21) rfl rfl
theorem k22 : (Jvm.Cond.instantiable "TwoTimesTable$States" (4 : Nat)) ∈ WT := wt_1 (i := 22) rfl rfl
theorem k23 : (Jvm.Cond.methodLink "TwoTimesTable" (9 : Nat) ({ cls := "TwoTimesTable$States", name := "<init>", desc := "()V" } : Jvm.MethodName)) ∈ WT := wt_1 (i := 23) rfl rfl
theorem k24 : (Jvm.Cond.instanceMethod ({ cls := "TwoTimesTable$States", name := "<init>", desc := "()V" } : Jvm.MethodName)) ∈ WT := wt_1 (i := 24) rfl rfl
theorem k25 : (Jvm.Cond.code ({ cls := "TwoTimesTable$States", name := "<init>", desc := "()V" } : Jvm.MethodName) prog_2_method_1_code (1 : Nat) (Option.none : Option Jvm.ClassFile.FieldType)) ∈ WT := wt_1 (i := 25) rfl rfl
theorem k26 : (Jvm.Cond.methodLink "TwoTimesTable$States" (3 : Nat) ({ cls := "java/lang/Object", name := "<init>", desc := "()V" } : Jvm.MethodName)) ∈ WT := wt_1 (i := 26) rfl rfl
theorem k27 : (Jvm.Cond.fieldLink "TwoTimesTable$States" (9 : Nat) "TwoTimesTable$States" "values" "[I") ∈ WT := wt_1 (i := 27) rfl rfl
theorem k28 : (Jvm.Cond.fieldLink "TwoTimesTable$States" (15 : Nat) "TwoTimesTable$States" "filled" "[I") ∈ WT := wt_1 (i := 28) rfl rfl
theorem k29 : (Jvm.Cond.fieldLink "TwoTimesTable$States" (18 : Nat) "TwoTimesTable$States" "rowsBegun" "[I") ∈ WT := wt_1 (i := 29) rfl rfl
theorem k30 : (Jvm.Cond.fieldLink "TwoTimesTable$States" (21 : Nat) "TwoTimesTable$States" "present" "I") ∈ WT := wt_1 (i := 30) rfl rfl
theorem k31 : (Jvm.Cond.fieldLinkNest "TwoTimesTable" (27 : Nat) "TwoTimesTable$States" "present" "I" "TwoTimesTable") ∈ lw_tbl := wn_1 (i := 31) rfl
theorem k32 : (Jvm.Cond.laysFinal "TwoTimesTable$States" "TwoTimesTable$States" "values" "[I") ∈ WT := wt_1 (i := 32) rfl rfl
theorem k33 : (Jvm.Cond.soleField "TwoTimesTable$States" "values") ∈ WT := wt_1 (i := 33) rfl rfl
theorem k34 : (Jvm.Cond.laysFinal "TwoTimesTable$States" "TwoTimesTable$States" "filled" "[I") ∈ WT := wt_1 (i := 34) rfl rfl
theorem k35 : (Jvm.Cond.soleField "TwoTimesTable$States" "filled") ∈ WT := wt_1 (i := 35) rfl rfl
theorem k36 : (Jvm.Cond.laysFinal "TwoTimesTable$States" "TwoTimesTable$States" "rowsBegun" "[I") ∈ WT := wt_1 (i := 36) rfl rfl
theorem k37 : (Jvm.Cond.soleField "TwoTimesTable$States" "rowsBegun") ∈ WT := wt_1 (i := 37) rfl rfl
theorem k38 : (Jvm.Cond.lays "TwoTimesTable$States" "TwoTimesTable$States" "present" "I") ∈ WT := wt_1 (i := 38) rfl rfl
theorem k39 : (Jvm.Cond.soleField "TwoTimesTable$States" "present") ∈ WT := wt_1 (i := 39) rfl rfl
theorem k40 : (Jvm.Cond.superclass "TwoTimesTable$States" "java/lang/Object") ∈ WT := wt_1 (i := 40) rfl rfl
theorem k41 : (Jvm.Cond.arrayClass Jvm.ClassFile.FieldType.int) ∈ WT := wt_1 (i := 41) rfl rfl
theorem k42 : (Jvm.Cond.classLink "TwoTimesTable" (16 : Nat) "TwoTimesTable$Waiting") ∈ WT := wt_1 (i := 42) rfl rfl
theorem k43 : (Jvm.Cond.instantiable "TwoTimesTable$Waiting" (2 : Nat)) ∈ WT := wt_1 (i := 43) rfl rfl
theorem k44 : (Jvm.Cond.methodLink "TwoTimesTable" (18 : Nat) ({ cls := "TwoTimesTable$Waiting", name := "<init>", desc := "()V" } : Jvm.MethodName)) ∈ WT := wt_1 (i := 44) rfl rfl
theorem k45 : (Jvm.Cond.instanceMethod ({ cls := "TwoTimesTable$Waiting", name := "<init>", desc := "()V" } : Jvm.MethodName)) ∈ WT := wt_1 (i := 45) rfl rfl
theorem k46 : (Jvm.Cond.code ({ cls := "TwoTimesTable$Waiting", name := "<init>", desc := "()V" } : Jvm.MethodName) prog_3_method_1_code (1 : Nat) (Option.none : Option Jvm.ClassFile.FieldType)) ∈ WT := wt_1 (i := 46) rfl rfl
theorem k47 : (Jvm.Cond.methodLink "TwoTimesTable$Waiting" (3 : Nat) ({ cls := "java/lang/Object", name := "<init>", desc := "()V" } : Jvm.MethodName)) ∈ WT := wt_1 (i := 47) rfl rfl
theorem k48 : (Jvm.Cond.fieldLink "TwoTimesTable$Waiting" (11 : Nat) "TwoTimesTable$Waiting" "words" "[I") ∈ WT := wt_1 (i := 48) rfl rfl
theorem k49 : (Jvm.Cond.fieldLink "TwoTimesTable$Waiting" (15 : Nat) "TwoTimesTable$Waiting" "count" "I") ∈ WT := wt_1 (i := 49) rfl rfl
theorem k50 : (Jvm.Cond.fieldLinkNest "TwoTimesTable" (54 : Nat) "TwoTimesTable$Waiting" "count" "I" "TwoTimesTable") ∈ lw_tbl := wn_1 (i := 50) rfl
theorem k51 : (Jvm.Cond.laysFinal "TwoTimesTable$Waiting" "TwoTimesTable$Waiting" "words" "[I") ∈ WT := wt_1 (i := 51) rfl rfl
theorem k52 : (Jvm.Cond.soleField "TwoTimesTable$Waiting" "words") ∈ WT := wt_1 (i := 52) rfl rfl
theorem k53 : (Jvm.Cond.lays "TwoTimesTable$Waiting" "TwoTimesTable$Waiting" "count" "I") ∈ WT := wt_1 (i := 53) rfl rfl
theorem k54 : (Jvm.Cond.soleField "TwoTimesTable$Waiting" "count") ∈ WT := wt_1 (i := 54) rfl rfl
theorem k55 : (Jvm.Cond.superclass "TwoTimesTable$Waiting" "java/lang/Object") ∈ WT := wt_1 (i := 55) rfl rfl
theorem k56 : (Jvm.Cond.fieldLink "TwoTimesTable" (10 : Nat) "TwoTimesTable" "states" "LTwoTimesTable$States;") ∈ WT := wt_1 (i := 56) rfl rfl
theorem k57 : (Jvm.Cond.fieldLink "TwoTimesTable" (19 : Nat) "TwoTimesTable" "waiting" "LTwoTimesTable$Waiting;") ∈ WT := wt_1 (i := 57) rfl rfl
theorem k58 : (Jvm.Cond.fieldLink "TwoTimesTable" (23 : Nat) "TwoTimesTable" "failedNumber" "I") ∈ WT := wt_1 (i := 58) rfl rfl
theorem k59 : (Jvm.Cond.laysFinal "TwoTimesTable" "TwoTimesTable" "states" "LTwoTimesTable$States;") ∈ WT := wt_1 (i := 59) rfl rfl
theorem k60 : (Jvm.Cond.soleField "TwoTimesTable" "states") ∈ WT := wt_1 (i := 60) rfl rfl
theorem k61 : (Jvm.Cond.laysFinal "TwoTimesTable" "TwoTimesTable" "waiting" "LTwoTimesTable$Waiting;") ∈ WT := wt_1 (i := 61) rfl rfl
theorem k62 : (Jvm.Cond.soleField "TwoTimesTable" "waiting") ∈ WT := wt_1 (i := 62) rfl rfl
theorem k63 : (Jvm.Cond.lays "TwoTimesTable" "TwoTimesTable" "failedNumber" "I") ∈ WT := wt_1 (i := 63) rfl rfl
theorem k64 : (Jvm.Cond.soleField "TwoTimesTable" "failedNumber") ∈ WT := wt_1 (i := 64) rfl rfl
theorem k65 : (Jvm.Cond.superclass "TwoTimesTable" "java/lang/Object") ∈ WT := wt_1 (i := 65) rfl rfl
theorem k66 : (Jvm.Cond.methodLink "TwoTimesTableLaw" (69 : Nat) ({ cls := "TwoTimesTable", name := "clock", desc := "()I" } : Jvm.MethodName)) ∈ WT := wt_1 (i := 66) rfl rfl
theorem k67 : (Jvm.Cond.instanceMethod ({ cls := "TwoTimesTable", name := "clock", desc := "()I" } : Jvm.MethodName)) ∈ WT := wt_1 (i := 67) rfl rfl
theorem k68 : (Jvm.Cond.selects "TwoTimesTable" ({ cls := "TwoTimesTable", name := "clock", desc := "()I" } : Jvm.MethodName) ({ cls := "TwoTimesTable", name := "clock", desc := "()I" } : Jvm.MethodName)) ∈ WT := wt_1 (i := 68) rfl rfl
theorem k69 : (Jvm.Cond.code ({ cls := "TwoTimesTable", name := "clock", desc := "()I" } : Jvm.MethodName) prog_1_method_3_code (1 : Nat) (Option.some Jvm.ClassFile.FieldType.int)) ∈ WT := wt_1 (i := 69) rfl rfl
theorem k70 : (Jvm.Cond.methodLink "TwoTimesTableLaw" (77 : Nat) ({ cls := "TwoTimesTable", name := "queue", desc := "(IIIII)Z" } : Jvm.MethodName)) ∈ WT := wt_1 (i := 70) rfl rfl
theorem k71 : (Jvm.Cond.instanceMethod ({ cls := "TwoTimesTable", name := "queue", desc := "(IIIII)Z" } : Jvm.MethodName)) ∈ WT := wt_1 (i := 71) rfl rfl
theorem k72 : (Jvm.Cond.selects "TwoTimesTable" ({ cls := "TwoTimesTable", name := "queue", desc := "(IIIII)Z" } : Jvm.MethodName) ({ cls := "TwoTimesTable", name := "queue", desc := "(IIIII)Z" } : Jvm.MethodName)) ∈ WT := wt_1 (i := 72) rfl rfl
theorem k73 : (Jvm.Cond.code ({ cls := "TwoTimesTable", name := "queue", desc := "(IIIII)Z" } : Jvm.MethodName) prog_1_method_5_code (6 : Nat) (Option.some Jvm.ClassFile.FieldType.boolean)) ∈ WT := wt_1 (i := 73) rfl rfl
theorem k74 : (Jvm.Cond.methodLink "TwoTimesTable" (50 : Nat) ({ cls := "TwoTimesTable$Waiting", name := "append", desc := "(IIIII)Z" } : Jvm.MethodName)) ∈ WT := wt_1 (i := 74) rfl rfl
theorem k75 : (Jvm.Cond.instanceMethod ({ cls := "TwoTimesTable$Waiting", name := "append", desc := "(IIIII)Z" } : Jvm.MethodName)) ∈ WT := wt_1 (i := 75) rfl rfl
theorem k76 : (Jvm.Cond.selects "TwoTimesTable$Waiting" ({ cls := "TwoTimesTable$Waiting", name := "append", desc := "(IIIII)Z" } : Jvm.MethodName) ({ cls := "TwoTimesTable$Waiting", name := "append", desc := "(IIIII)Z" } : Jvm.MethodName)) ∈ WT := wt_1 (i := 76) rfl rfl
theorem k77 : (Jvm.Cond.code ({ cls := "TwoTimesTable$Waiting", name := "append", desc := "(IIIII)Z" } : Jvm.MethodName) prog_3_method_2_code (7 : Nat) (Option.some Jvm.ClassFile.FieldType.boolean)) ∈ WT := wt_1 (i := 77) rfl rfl
theorem k78 : (Jvm.Cond.methodLink "TwoTimesTableLaw" (85 : Nat) ({ cls := "TwoTimesTable", name := "failed", desc := "()I" } : Jvm.MethodName)) ∈ WT := wt_1 (i := 78) rfl rfl
theorem k79 : (Jvm.Cond.instanceMethod ({ cls := "TwoTimesTable", name := "failed", desc := "()I" } : Jvm.MethodName)) ∈ WT := wt_1 (i := 79) rfl rfl
theorem k80 : (Jvm.Cond.selects "TwoTimesTable" ({ cls := "TwoTimesTable", name := "failed", desc := "()I" } : Jvm.MethodName) ({ cls := "TwoTimesTable", name := "failed", desc := "()I" } : Jvm.MethodName)) ∈ WT := wt_1 (i := 80) rfl rfl
theorem k81 : (Jvm.Cond.code ({ cls := "TwoTimesTable", name := "failed", desc := "()I" } : Jvm.MethodName) prog_1_method_7_code (1 : Nat) (Option.some Jvm.ClassFile.FieldType.int)) ∈ WT := wt_1 (i := 81) rfl rfl
theorem k82 : (Jvm.Cond.methodLink "TwoTimesTableLaw" (93 : Nat) ({ cls := "TwoTimesTable", name := "has", desc := "(III)Z" } : Jvm.MethodName)) ∈ WT := wt_1 (i := 82) rfl rfl
theorem k83 : (Jvm.Cond.instanceMethod ({ cls := "TwoTimesTable", name := "has", desc := "(III)Z" } : Jvm.MethodName)) ∈ WT := wt_1 (i := 83) rfl rfl
theorem k84 : (Jvm.Cond.selects "TwoTimesTable" ({ cls := "TwoTimesTable", name := "has", desc := "(III)Z" } : Jvm.MethodName) ({ cls := "TwoTimesTable", name := "has", desc := "(III)Z" } : Jvm.MethodName)) ∈ WT := wt_1 (i := 84) rfl rfl
theorem k85 : (Jvm.Cond.code ({ cls := "TwoTimesTable", name := "has", desc := "(III)Z" } : Jvm.MethodName) prog_1_method_9_code (4 : Nat) (Option.some Jvm.ClassFile.FieldType.boolean)) ∈ WT := wt_1 (i := 85) rfl rfl
theorem k86 : (Jvm.Cond.methodLink "TwoTimesTable" (61 : Nat) ({ cls := "TwoTimesTable", name := "isKey", desc := "(I)Z" } : Jvm.MethodName)) ∈ WT := wt_1 (i := 86) rfl rfl
theorem k87 : (Jvm.Cond.static ({ cls := "TwoTimesTable", name := "isKey", desc := "(I)Z" } : Jvm.MethodName)) ∈ WT := wt_1 (i := 87) rfl rfl
theorem k88 : (Jvm.Cond.code ({ cls := "TwoTimesTable", name := "isKey", desc := "(I)Z" } : Jvm.MethodName) prog_1_method_19_code (1 : Nat) (Option.some Jvm.ClassFile.FieldType.boolean)) ∈ WT := wt_1 (i := 88) rfl rfl
theorem k89 : (Jvm.Cond.methodLink "TwoTimesTable" (65 : Nat) ({ cls := "TwoTimesTable", name := "isDay", desc := "(I)Z" } : Jvm.MethodName)) ∈ WT := wt_1 (i := 89) rfl rfl
theorem k90 : (Jvm.Cond.static ({ cls := "TwoTimesTable", name := "isDay", desc := "(I)Z" } : Jvm.MethodName)) ∈ WT := wt_1 (i := 90) rfl rfl
theorem k91 : (Jvm.Cond.code ({ cls := "TwoTimesTable", name := "isDay", desc := "(I)Z" } : Jvm.MethodName) prog_1_method_20_code (1 : Nat) (Option.some Jvm.ClassFile.FieldType.boolean)) ∈ WT := wt_1 (i := 91) rfl rfl
theorem k92 : (Jvm.Cond.methodLink "TwoTimesTable" (68 : Nat) ({ cls := "TwoTimesTable", name := "isTime", desc := "(I)Z" } : Jvm.MethodName)) ∈ WT := wt_1 (i := 92) rfl rfl
theorem k93 : (Jvm.Cond.privateMethod ({ cls := "TwoTimesTable", name := "isTime", desc := "(I)Z" } : Jvm.MethodName)) ∈ lw_tbl := wn_1 (i := 93) rfl
theorem k94 : (Jvm.Cond.instanceMethod ({ cls := "TwoTimesTable", name := "isTime", desc := "(I)Z" } : Jvm.MethodName)) ∈ WT := wt_1 (i := 94) rfl rfl
theorem k95 : (Jvm.Cond.code ({ cls := "TwoTimesTable", name := "isTime", desc := "(I)Z" } : Jvm.MethodName) prog_1_method_22_code (2 : Nat) (Option.some Jvm.ClassFile.FieldType.boolean)) ∈ WT := wt_1 (i := 95) rfl rfl
theorem k96 : (Jvm.Cond.methodLink "TwoTimesTable" (74 : Nat) ({ cls := "TwoTimesTable", name := "slotOf", desc := "(II)I" } : Jvm.MethodName)) ∈ WT := wt_1 (i := 96) rfl rfl
theorem k97 : (Jvm.Cond.static ({ cls := "TwoTimesTable", name := "slotOf", desc := "(II)I" } : Jvm.MethodName)) ∈ WT := wt_1 (i := 97) rfl rfl
theorem k98 : (Jvm.Cond.code ({ cls := "TwoTimesTable", name := "slotOf", desc := "(II)I" } : Jvm.MethodName) prog_1_method_23_code (2 : Nat) (Option.some Jvm.ClassFile.FieldType.int)) ∈ WT := wt_1 (i := 98) rfl rfl
theorem k99 : (Jvm.Cond.methodLink "TwoTimesTable" (77 : Nat) ({ cls := "TwoTimesTable$States", name := "isFilled", desc := "(II)Z" } : Jvm.MethodName)) ∈ WT := wt_1 (i := 99) rfl rfl
theorem k100 : (Jvm.Cond.instanceMethod ({ cls := "TwoTimesTable$States", name := "isFilled", desc := "(II)Z" } : Jvm.MethodName)) ∈ WT := wt_1 (i := 100) rfl rfl
theorem k101 : (Jvm.Cond.selects "TwoTimesTable$States" ({ cls := "TwoTimesTable$States", name := "isFilled", desc := "(II)Z" } : Jvm.MethodName) ({ cls := "TwoTimesTable$States", name := "isFilled", desc := "(II)Z" } : Jvm.MethodName)) ∈ WT := wt_1 (i := 101) rfl rfl
theorem k102 : (Jvm.Cond.code ({ cls := "TwoTimesTable$States", name := "isFilled", desc := "(II)Z" } : Jvm.MethodName) prog_2_method_9_code (3 : Nat) (Option.some Jvm.ClassFile.FieldType.boolean)) ∈ WT := wt_1 (i := 102) rfl rfl
theorem k103 : (Jvm.Cond.methodLink "TwoTimesTableLaw" (109 : Nat) ({ cls := "TwoTimesTable", name := "rows", desc := "()I" } : Jvm.MethodName)) ∈ WT := wt_1 (i := 103) rfl rfl
theorem k104 : (Jvm.Cond.instanceMethod ({ cls := "TwoTimesTable", name := "rows", desc := "()I" } : Jvm.MethodName)) ∈ WT := wt_1 (i := 104) rfl rfl
theorem k105 : (Jvm.Cond.selects "TwoTimesTable" ({ cls := "TwoTimesTable", name := "rows", desc := "()I" } : Jvm.MethodName) ({ cls := "TwoTimesTable", name := "rows", desc := "()I" } : Jvm.MethodName)) ∈ WT := wt_1 (i := 105) rfl rfl
theorem k106 : (Jvm.Cond.code ({ cls := "TwoTimesTable", name := "rows", desc := "()I" } : Jvm.MethodName) prog_1_method_13_code (1 : Nat) (Option.some Jvm.ClassFile.FieldType.int)) ∈ WT := wt_1 (i := 106) rfl rfl
theorem k107 : (Jvm.Cond.methodLink "TwoTimesTable" (103 : Nat) ({ cls := "TwoTimesTable$States", name := "countRows", desc := "()I" } : Jvm.MethodName)) ∈ WT := wt_1 (i := 107) rfl rfl
theorem k108 : (Jvm.Cond.instanceMethod ({ cls := "TwoTimesTable$States", name := "countRows", desc := "()I" } : Jvm.MethodName)) ∈ WT := wt_1 (i := 108) rfl rfl
theorem k109 : (Jvm.Cond.selects "TwoTimesTable$States" ({ cls := "TwoTimesTable$States", name := "countRows", desc := "()I" } : Jvm.MethodName) ({ cls := "TwoTimesTable$States", name := "countRows", desc := "()I" } : Jvm.MethodName)) ∈ WT := wt_1 (i := 109) rfl rfl
theorem k110 : (Jvm.Cond.code ({ cls := "TwoTimesTable$States", name := "countRows", desc := "()I" } : Jvm.MethodName) prog_2_method_18_code (3 : Nat) (Option.some Jvm.ClassFile.FieldType.int)) ∈ WT := wt_1 (i := 110) rfl rfl
theorem k111 : (Jvm.Cond.methodLink "TwoTimesTableLaw" (60 : Nat) ({ cls := "TwoTimesTableLaw", name := "tick", desc := "(LTwoTimesTable;[J)I" } : Jvm.MethodName)) ∈ WT := wt_1 (i := 111) rfl rfl
theorem k112 : (Jvm.Cond.static ({ cls := "TwoTimesTableLaw", name := "tick", desc := "(LTwoTimesTable;[J)I" } : Jvm.MethodName)) ∈ WT := wt_1 (i := 112) rfl rfl
theorem k113 : (Jvm.Cond.codeWith ({ cls := "TwoTimesTableLaw", name := "tick", desc := "(LTwoTimesTable;[J)I" } : Jvm.MethodName) method_3_code (3 : Nat) (Option.some Jvm.ClassFile.FieldType.int) [((0 : Nat), (8 : Nat), (11 : Nat), (13 : Nat))]) ∈ WT := wt_1 (i := 113) rfl rfl
theorem k114 : (Jvm.Cond.classLink "TwoTimesTableLaw" (13 : Nat) "java/lang/IllegalStateException") ∈ WT := wt_1 (i := 114) rfl rfl
theorem k115 : (Jvm.Cond.methodLink "TwoTimesTableLaw" (7 : Nat) ({ cls := "TwoTimesTable", name := "tick", desc := "()I" } : Jvm.MethodName)) ∈ WT := wt_1 (i := 115) rfl rfl
theorem k116 : (Jvm.Cond.instanceMethod ({ cls := "TwoTimesTable", name := "tick", desc := "()I" } : Jvm.MethodName)) ∈ WT := wt_1 (i := 116) rfl rfl
theorem k117 : (Jvm.Cond.selects "TwoTimesTable" ({ cls := "TwoTimesTable", name := "tick", desc := "()I" } : Jvm.MethodName) ({ cls := "TwoTimesTable", name := "tick", desc := "()I" } : Jvm.MethodName)) ∈ WT := wt_1 (i := 117) rfl rfl
theorem k118 : (Jvm.Cond.code ({ cls := "TwoTimesTable", name := "tick", desc := "()I" } : Jvm.MethodName) prog_1_method_2_code (1 : Nat) (Option.some Jvm.ClassFile.FieldType.int)) ∈ WT := wt_1 (i := 118) rfl rfl
theorem k119 : (Jvm.Cond.classLink "TwoTimesTable" (30 : Nat) "java/lang/IllegalStateException") ∈ WT := wt_1 (i := 119) rfl rfl
theorem k120 : (Jvm.Cond.instantiable "java/lang/IllegalStateException" (6 : Nat)) ∈ WT := wt_1 (i := 120) rfl rfl
theorem k121 : (Jvm.Cond.castable "java/lang/IllegalStateException" "java/lang/IllegalStateException") ∈ lw_tbl := wn_1 (i := 121) rfl
theorem k122 : (Jvm.Cond.declares ({ cls := "java/lang/RuntimeException", name := "<init>", desc := "()V" } : Jvm.MethodName)) ∈ lw_tbl := wn_1 (i := 122) rfl
theorem k123 : (Jvm.Cond.declares ({ cls := "java/lang/RuntimeException", name := "<init>", desc := "(Ljava/lang/String;)V" } : Jvm.MethodName)) ∈ lw_tbl := wn_1 (i := 123) rfl
theorem k124 : (Jvm.Cond.declares ({ cls := "java/lang/Exception", name := "<init>", desc := "()V" } : Jvm.MethodName)) ∈ lw_tbl := wn_1 (i := 124) rfl
theorem k125 : (Jvm.Cond.declares ({ cls := "java/lang/Exception", name := "<init>", desc := "(Ljava/lang/String;)V" } : Jvm.MethodName)) ∈ lw_tbl := wn_1 (i := 125) rfl
theorem k126 : (Jvm.Cond.declares ({ cls := "java/lang/Throwable", name := "<init>", desc := "()V" } : Jvm.MethodName)) ∈ lw_tbl := wn_1 (i := 126) rfl
theorem k127 : (Jvm.Cond.declares ({ cls := "java/lang/Throwable", name := "<init>", desc := "(Ljava/lang/String;)V" } : Jvm.MethodName)) ∈ lw_tbl := wn_1 (i := 127) rfl
theorem k128 : (Jvm.Cond.selects "java/lang/IllegalStateException" ({ cls := "java/lang/Throwable", name := "fillInStackTrace", desc := "(I)Ljava/lang/Throwable;" } : Jvm.MethodName) ({ cls := "java/lang/Throwable", name := "fillInStackTrace", desc := "(I)Ljava/lang/Throwable;" } : Jvm.MethodName)) ∈ WT := wt_1 (i := 128) rfl rfl
theorem k129 : (Jvm.Cond.selects "java/lang/IllegalStateException" ({ cls := "java/lang/Throwable", name := "fillInStackTrace", desc := "()Ljava/lang/Throwable;" } : Jvm.MethodName) ({ cls := "java/lang/Throwable", name := "fillInStackTrace", desc := "()Ljava/lang/Throwable;" } : Jvm.MethodName)) ∈ WT := wt_1 (i := 129) rfl rfl
theorem k130 : (Jvm.Cond.lays "java/lang/IllegalStateException" "java/lang/Throwable" "cause" "Ljava/lang/Throwable;") ∈ WT := wt_1 (i := 130) rfl rfl
theorem k131 : (Jvm.Cond.lays "java/lang/Throwable" "java/lang/Throwable" "cause" "Ljava/lang/Throwable;") ∈ WT := wt_1 (i := 131) rfl rfl
theorem k132 : (Jvm.Cond.lays "java/lang/IllegalStateException" "java/lang/Throwable" "stackTrace" "[Ljava/lang/StackTraceElement;") ∈ WT := wt_1 (i := 132) rfl rfl
theorem k133 : (Jvm.Cond.lays "java/lang/Throwable" "java/lang/Throwable" "stackTrace" "[Ljava/lang/StackTraceElement;") ∈ WT := wt_1 (i := 133) rfl rfl
theorem k134 : (Jvm.Cond.lays "java/lang/IllegalStateException" "java/lang/Throwable" "suppressedExceptions" "Ljava/util/List;") ∈ WT := wt_1 (i := 134) rfl rfl
theorem k135 : (Jvm.Cond.lays "java/lang/Throwable" "java/lang/Throwable" "suppressedExceptions" "Ljava/util/List;") ∈ WT := wt_1 (i := 135) rfl rfl
theorem k136 : (Jvm.Cond.lays "java/lang/IllegalStateException" "java/lang/Throwable" "detailMessage" "Ljava/lang/String;") ∈ WT := wt_1 (i := 136) rfl rfl
theorem k137 : (Jvm.Cond.lays "java/lang/Throwable" "java/lang/Throwable" "detailMessage" "Ljava/lang/String;") ∈ WT := wt_1 (i := 137) rfl rfl
theorem k138 : (Jvm.Cond.lays "java/lang/IllegalStateException" "java/lang/Throwable" "backtrace" "Ljava/lang/Object;") ∈ WT := wt_1 (i := 138) rfl rfl
theorem k139 : (Jvm.Cond.lays "java/lang/Throwable" "java/lang/Throwable" "backtrace" "Ljava/lang/Object;") ∈ WT := wt_1 (i := 139) rfl rfl
theorem k140 : (Jvm.Cond.fieldLink "java/lang/Throwable" (198 : Nat) "java/lang/Throwable" "backtrace" "Ljava/lang/Object;") ∈ WT := wt_1 (i := 140) rfl rfl
theorem k141 : (Jvm.Cond.superclass "java/lang/Throwable" "java/lang/Object") ∈ WT := wt_1 (i := 141) rfl rfl
theorem k142 : (Jvm.Cond.instanceMethod ({ cls := "java/lang/Throwable", name := "<init>", desc := "()V" } : Jvm.MethodName)) ∈ WT := wt_1 (i := 142) rfl rfl
theorem k143 : (Jvm.Cond.code ({ cls := "java/lang/Throwable", name := "<init>", desc := "()V" } : Jvm.MethodName) prog_12_method_1_code (1 : Nat) (Option.none : Option Jvm.ClassFile.FieldType)) ∈ WT := wt_1 (i := 143) rfl rfl
theorem k144 : (Jvm.Cond.methodLink "java/lang/Throwable" (1 : Nat) ({ cls := "java/lang/Object", name := "<init>", desc := "()V" } : Jvm.MethodName)) ∈ WT := wt_1 (i := 144) rfl rfl
theorem k145 : (Jvm.Cond.fieldLink "java/lang/Throwable" (13 : Nat) "java/lang/Throwable" "UNASSIGNED_STACK" "[Ljava/lang/StackTraceElement;") ∈ WT := wt_1 (i := 145) rfl rfl
theorem k146 : (Jvm.Cond.laysStatic "java/lang/Throwable" "UNASSIGNED_STACK" "[Ljava/lang/StackTraceElement;") ∈ lw_tbl := wn_1 (i := 146) rfl
theorem k147 : (Jvm.Cond.fieldLink "java/lang/Throwable" (20 : Nat) "java/lang/Throwable" "SUPPRESSED_SENTINEL" "Ljava/util/List;") ∈ WT := wt_1 (i := 147) rfl rfl
theorem k148 : (Jvm.Cond.laysStatic "java/lang/Throwable" "SUPPRESSED_SENTINEL" "Ljava/util/List;") ∈ lw_tbl := wn_1 (i := 148) rfl
theorem k149 : (Jvm.Cond.methodLink "java/lang/Throwable" (27 : Nat) ({ cls := "java/lang/Throwable", name := "fillInStackTrace", desc := "()Ljava/lang/Throwable;" } : Jvm.MethodName)) ∈ WT := wt_1 (i := 149) rfl rfl
theorem k150 : (Jvm.Cond.instanceMethod ({ cls := "java/lang/Throwable", name := "fillInStackTrace", desc := "()Ljava/lang/Throwable;" } : Jvm.MethodName)) ∈ WT := wt_1 (i := 150) rfl rfl
theorem k151 : (Jvm.Cond.sameMethod "java/lang/Throwable" "java/lang/Throwable" "fillInStackTrace" "()Ljava/lang/Throwable;") ∈ WT := wt_1 (i := 151) rfl rfl
theorem k152 : (Jvm.Cond.selects "java/lang/IllegalArgumentException" ({ cls := "java/lang/Throwable", name := "fillInStackTrace", desc := "()Ljava/lang/Throwable;" } : Jvm.MethodName) ({ cls := "java/lang/Throwable", name := "fillInStackTrace", desc := "()Ljava/lang/Throwable;" } : Jvm.MethodName)) ∈ WT := wt_1 (i := 152) rfl rfl
theorem k153 : (Jvm.Cond.selects "java/lang/IndexOutOfBoundsException" ({ cls := "java/lang/Throwable", name := "fillInStackTrace", desc := "()Ljava/lang/Throwable;" } : Jvm.MethodName) ({ cls := "java/lang/Throwable", name := "fillInStackTrace", desc := "()Ljava/lang/Throwable;" } : Jvm.MethodName)) ∈ WT := wt_1 (i := 153) rfl rfl
theorem k154 : (Jvm.Cond.selects "java/util/NoSuchElementException" ({ cls := "java/lang/Throwable", name := "fillInStackTrace", desc := "()Ljava/lang/Throwable;" } : Jvm.MethodName) ({ cls := "java/lang/Throwable", name := "fillInStackTrace", desc := "()Ljava/lang/Throwable;" } : Jvm.MethodName)) ∈ WT := wt_1 (i := 154) rfl rfl
theorem k155 : (Jvm.Cond.codeSync ({ cls := "java/lang/Throwable", name := "fillInStackTrace", desc := "()Ljava/lang/Throwable;" } : Jvm.MethodName) prog_12_method_18_code (1 : Nat) (Option.some (Jvm.ClassFile.FieldType.object "java/lang/Throwable"))) ∈ WT := wt_1 (i := 155) rfl rfl
theorem k156 : (Jvm.Cond.methodLink "java/lang/Throwable" (202 : Nat) ({ cls := "java/lang/Throwable", name := "fillInStackTrace", desc := "(I)Ljava/lang/Throwable;" } : Jvm.MethodName)) ∈ WT := wt_1 (i := 156) rfl rfl
theorem k157 : (Jvm.Cond.privateMethod ({ cls := "java/lang/Throwable", name := "fillInStackTrace", desc := "(I)Ljava/lang/Throwable;" } : Jvm.MethodName)) ∈ lw_tbl := wn_1 (i := 157) rfl
theorem k158 : (Jvm.Cond.instanceMethod ({ cls := "java/lang/Throwable", name := "fillInStackTrace", desc := "(I)Ljava/lang/Throwable;" } : Jvm.MethodName)) ∈ WT := wt_1 (i := 158) rfl rfl
theorem k159 : (Jvm.Cond.instantiable "java/lang/Throwable" (6 : Nat)) ∈ WT := wt_1 (i := 159) rfl rfl
theorem k160 : (Jvm.Cond.native ({ cls := "java/lang/Throwable", name := "fillInStackTrace", desc := "(I)Ljava/lang/Throwable;" } : Jvm.MethodName)) ∈ WT := wt_1 (i := 160) rfl rfl
theorem k161 : (Jvm.Cond.methodLink "TwoTimesTable" (32 : Nat) ({ cls := "java/lang/IllegalStateException", name := "<init>", desc := "()V" } : Jvm.MethodName)) ∈ WT := wt_1 (i := 161) rfl rfl
theorem k162 : (Jvm.Cond.instanceMethod ({ cls := "java/lang/IllegalStateException", name := "<init>", desc := "()V" } : Jvm.MethodName)) ∈ WT := wt_1 (i := 162) rfl rfl
theorem k163 : (Jvm.Cond.code ({ cls := "java/lang/IllegalStateException", name := "<init>", desc := "()V" } : Jvm.MethodName) prog_8_method_1_code (1 : Nat) (Option.none : Option Jvm.ClassFile.FieldType)) ∈ WT := wt_1 (i := 163) rfl rfl
theorem k164 : (Jvm.Cond.methodLink "java/lang/IllegalStateException" (1 : Nat) ({ cls := "java/lang/RuntimeException", name := "<init>", desc := "()V" } : Jvm.MethodName)) ∈ WT := wt_1 (i := 164) rfl rfl
theorem k165 : (Jvm.Cond.instanceMethod ({ cls := "java/lang/RuntimeException", name := "<init>", desc := "()V" } : Jvm.MethodName)) ∈ WT := wt_1 (i := 165) rfl rfl
theorem k166 : (Jvm.Cond.code ({ cls := "java/lang/RuntimeException", name := "<init>", desc := "()V" } : Jvm.MethodName) prog_10_method_1_code (1 : Nat) (Option.none : Option Jvm.ClassFile.FieldType)) ∈ WT := wt_1 (i := 166) rfl rfl
theorem k167 : (Jvm.Cond.methodLink "java/lang/RuntimeException" (1 : Nat) ({ cls := "java/lang/Exception", name := "<init>", desc := "()V" } : Jvm.MethodName)) ∈ WT := wt_1 (i := 167) rfl rfl
theorem k168 : (Jvm.Cond.instanceMethod ({ cls := "java/lang/Exception", name := "<init>", desc := "()V" } : Jvm.MethodName)) ∈ WT := wt_1 (i := 168) rfl rfl
theorem k169 : (Jvm.Cond.code ({ cls := "java/lang/Exception", name := "<init>", desc := "()V" } : Jvm.MethodName) prog_6_method_1_code (1 : Nat) (Option.none : Option Jvm.ClassFile.FieldType)) ∈ WT := wt_1 (i := 169) rfl rfl
theorem k170 : (Jvm.Cond.methodLink "java/lang/Exception" (1 : Nat) ({ cls := "java/lang/Throwable", name := "<init>", desc := "()V" } : Jvm.MethodName)) ∈ WT := wt_1 (i := 170) rfl rfl
theorem k171 : (Jvm.Cond.fieldLink "java/lang/Throwable" (198 : Nat) "java/lang/Throwable" "backtrace" "Ljava/lang/Object;") ∈ WT := wt_1 (i := 171) rfl rfl
theorem k172 : (Jvm.Cond.fieldLink "java/lang/Throwable" (7 : Nat) "java/lang/Throwable" "cause" "Ljava/lang/Throwable;") ∈ WT := wt_1 (i := 172) rfl rfl
theorem k173 : (Jvm.Cond.fieldLink "java/lang/Throwable" (17 : Nat) "java/lang/Throwable" "stackTrace" "[Ljava/lang/StackTraceElement;") ∈ WT := wt_1 (i := 173) rfl rfl
theorem k174 : (Jvm.Cond.fieldLink "java/lang/Throwable" (24 : Nat) "java/lang/Throwable" "suppressedExceptions" "Ljava/util/List;") ∈ WT := wt_1 (i := 174) rfl rfl
theorem k175 : (Jvm.Cond.soleField "java/lang/Throwable" "backtrace") ∈ WT := wt_1 (i := 175) rfl rfl
theorem k176 : (Jvm.Cond.soleField "java/lang/Throwable" "detailMessage") ∈ WT := wt_1 (i := 176) rfl rfl
theorem k177 : (Jvm.Cond.soleField "java/lang/Throwable" "cause") ∈ WT := wt_1 (i := 177) rfl rfl
theorem k178 : (Jvm.Cond.soleField "java/lang/Throwable" "stackTrace") ∈ WT := wt_1 (i := 178) rfl rfl
theorem k179 : (Jvm.Cond.lays "java/lang/IllegalStateException" "java/lang/Throwable" "depth" "I") ∈ WT := wt_1 (i := 179) rfl rfl
theorem k180 : (Jvm.Cond.soleField "java/lang/Throwable" "depth") ∈ WT := wt_1 (i := 180) rfl rfl
theorem k181 : (Jvm.Cond.soleField "java/lang/Throwable" "suppressedExceptions") ∈ WT := wt_1 (i := 181) rfl rfl
theorem k182 : (Jvm.Cond.superclass "java/lang/IllegalStateException" "java/lang/RuntimeException") ∈ WT := wt_1 (i := 182) rfl rfl
theorem k183 : (Jvm.Cond.methodLink "TwoTimesTable" (33 : Nat) ({ cls := "TwoTimesTable$States", name := "goOn", desc := "()V" } : Jvm.MethodName)) ∈ WT := wt_1 (i := 183) rfl rfl
theorem k184 : (Jvm.Cond.instanceMethod ({ cls := "TwoTimesTable$States", name := "goOn", desc := "()V" } : Jvm.MethodName)) ∈ WT := wt_1 (i := 184) rfl rfl
theorem k185 : (Jvm.Cond.selects "TwoTimesTable$States" ({ cls := "TwoTimesTable$States", name := "goOn", desc := "()V" } : Jvm.MethodName) ({ cls := "TwoTimesTable$States", name := "goOn", desc := "()V" } : Jvm.MethodName)) ∈ WT := wt_1 (i := 185) rfl rfl
theorem k186 : (Jvm.Cond.code ({ cls := "TwoTimesTable$States", name := "goOn", desc := "()V" } : Jvm.MethodName) prog_2_method_2_code (1 : Nat) (Option.none : Option Jvm.ClassFile.FieldType)) ∈ WT := wt_1 (i := 186) rfl rfl
theorem k187 : (Jvm.Cond.methodLink "TwoTimesTable$States" (25 : Nat) ({ cls := "TwoTimesTable$States", name := "copyState", desc := "(II)V" } : Jvm.MethodName)) ∈ WT := wt_1 (i := 187) rfl rfl
theorem k188 : (Jvm.Cond.privateMethod ({ cls := "TwoTimesTable$States", name := "copyState", desc := "(II)V" } : Jvm.MethodName)) ∈ lw_tbl := wn_1 (i := 188) rfl
theorem k189 : (Jvm.Cond.instanceMethod ({ cls := "TwoTimesTable$States", name := "copyState", desc := "(II)V" } : Jvm.MethodName)) ∈ WT := wt_1 (i := 189) rfl rfl
theorem k190 : (Jvm.Cond.code ({ cls := "TwoTimesTable$States", name := "copyState", desc := "(II)V" } : Jvm.MethodName) prog_2_method_5_code (3 : Nat) (Option.none : Option Jvm.ClassFile.FieldType)) ∈ WT := wt_1 (i := 190) rfl rfl
theorem k191 : (Jvm.Cond.methodLink "TwoTimesTable$States" (33 : Nat) ({ cls := "java/lang/System", name := "arraycopy", desc := "(Ljava/lang/Object;ILjava/lang/Object;II)V" } : Jvm.MethodName)) ∈ WT := wt_1 (i := 191) rfl rfl
theorem k192 : (Jvm.Cond.static ({ cls := "java/lang/System", name := "arraycopy", desc := "(Ljava/lang/Object;ILjava/lang/Object;II)V" } : Jvm.MethodName)) ∈ WT := wt_1 (i := 192) rfl rfl
theorem k193 : (Jvm.Cond.native ({ cls := "java/lang/System", name := "arraycopy", desc := "(Ljava/lang/Object;ILjava/lang/Object;II)V" } : Jvm.MethodName)) ∈ WT := wt_1 (i := 193) rfl rfl
theorem k194 : (Jvm.Cond.methodLink "TwoTimesTableLaw" (73 : Nat) ({ cls := "TwoTimesTableLaw", name := "state", desc := "(LTwoTimesTable;IIIII[J)I" } : Jvm.MethodName)) ∈ WT := wt_1 (i := 194) rfl rfl
theorem k195 : (Jvm.Cond.static ({ cls := "TwoTimesTableLaw", name := "state", desc := "(LTwoTimesTable;IIIII[J)I" } : Jvm.MethodName)) ∈ WT := wt_1 (i := 195) rfl rfl
theorem k196 : (Jvm.Cond.codeWith ({ cls := "TwoTimesTableLaw", name := "state", desc := "(LTwoTimesTable;IIIII[J)I" } : Jvm.MethodName) method_4_code (8 : Nat) (Option.some Jvm.ClassFile.FieldType.int) [((0 : Nat), (16 : Nat), (19 : Nat), (19 : Nat)), ((0 : Nat), (16 : Nat), (23 : Nat), (13 : Nat)), ((0 : Nat), (16 : Nat), (27 : Nat), (21 : Nat))]) ∈ WT := wt_1 (i := 196) rfl rfl
theorem k197 : (Jvm.Cond.classLink "TwoTimesTableLaw" (19 : Nat) "java/lang/IllegalArgumentException") ∈ WT := wt_1 (i := 197) rfl rfl
theorem k198 : (Jvm.Cond.classLink "TwoTimesTableLaw" (21 : Nat) "java/util/NoSuchElementException") ∈ WT := wt_1 (i := 198) rfl rfl
theorem k199 : (Jvm.Cond.methodLink "TwoTimesTableLaw" (15 : Nat) ({ cls := "TwoTimesTable", name := "state", desc := "(IIIII)I" } : Jvm.MethodName)) ∈ WT := wt_1 (i := 199) rfl rfl
theorem k200 : (Jvm.Cond.instanceMethod ({ cls := "TwoTimesTable", name := "state", desc := "(IIIII)I" } : Jvm.MethodName)) ∈ WT := wt_1 (i := 200) rfl rfl
theorem k201 : (Jvm.Cond.selects "TwoTimesTable" ({ cls := "TwoTimesTable", name := "state", desc := "(IIIII)I" } : Jvm.MethodName) ({ cls := "TwoTimesTable", name := "state", desc := "(IIIII)I" } : Jvm.MethodName)) ∈ WT := wt_1 (i := 201) rfl rfl
theorem k202 : (Jvm.Cond.code ({ cls := "TwoTimesTable", name := "state", desc := "(IIIII)I" } : Jvm.MethodName) prog_1_method_4_code (7 : Nat) (Option.some Jvm.ClassFile.FieldType.int)) ∈ WT := wt_1 (i := 202) rfl rfl
theorem k203 : (Jvm.Cond.methodLink "TwoTimesTable" (36 : Nat) ({ cls := "TwoTimesTable$States", name := "save", desc := "()V" } : Jvm.MethodName)) ∈ WT := wt_1 (i := 203) rfl rfl
theorem k204 : (Jvm.Cond.instanceMethod ({ cls := "TwoTimesTable$States", name := "save", desc := "()V" } : Jvm.MethodName)) ∈ WT := wt_1 (i := 204) rfl rfl
theorem k205 : (Jvm.Cond.selects "TwoTimesTable$States" ({ cls := "TwoTimesTable$States", name := "save", desc := "()V" } : Jvm.MethodName) ({ cls := "TwoTimesTable$States", name := "save", desc := "()V" } : Jvm.MethodName)) ∈ WT := wt_1 (i := 205) rfl rfl
theorem k206 : (Jvm.Cond.code ({ cls := "TwoTimesTable$States", name := "save", desc := "()V" } : Jvm.MethodName) prog_2_method_3_code (1 : Nat) (Option.none : Option Jvm.ClassFile.FieldType)) ∈ WT := wt_1 (i := 206) rfl rfl
theorem k207 : (Jvm.Cond.methodLink "TwoTimesTable" (39 : Nat) ({ cls := "TwoTimesTable$States", name := "perform", desc := "(IIIII)I" } : Jvm.MethodName)) ∈ WT := wt_1 (i := 207) rfl rfl
theorem k208 : (Jvm.Cond.instanceMethod ({ cls := "TwoTimesTable$States", name := "perform", desc := "(IIIII)I" } : Jvm.MethodName)) ∈ WT := wt_1 (i := 208) rfl rfl
theorem k209 : (Jvm.Cond.selects "TwoTimesTable$States" ({ cls := "TwoTimesTable$States", name := "perform", desc := "(IIIII)I" } : Jvm.MethodName) ({ cls := "TwoTimesTable$States", name := "perform", desc := "(IIIII)I" } : Jvm.MethodName)) ∈ WT := wt_1 (i := 209) rfl rfl
theorem k210 : (Jvm.Cond.code ({ cls := "TwoTimesTable$States", name := "perform", desc := "(IIIII)I" } : Jvm.MethodName) prog_2_method_6_code (10 : Nat) (Option.some Jvm.ClassFile.FieldType.int)) ∈ WT := wt_1 (i := 210) rfl rfl
theorem k211 : (Jvm.Cond.methodLinkNest "TwoTimesTable$States" (39 : Nat) ({ cls := "TwoTimesTable", name := "isKey", desc := "(I)Z" } : Jvm.MethodName) "TwoTimesTable") ∈ lw_tbl := wn_1 (i := 211) rfl
theorem k212 : (Jvm.Cond.methodLinkNest "TwoTimesTable$States" (43 : Nat) ({ cls := "TwoTimesTable", name := "isPeriod", desc := "(II)Z" } : Jvm.MethodName) "TwoTimesTable") ∈ lw_tbl := wn_1 (i := 212) rfl
theorem k213 : (Jvm.Cond.static ({ cls := "TwoTimesTable", name := "isPeriod", desc := "(II)Z" } : Jvm.MethodName)) ∈ WT := wt_1 (i := 213) rfl rfl
theorem k214 : (Jvm.Cond.code ({ cls := "TwoTimesTable", name := "isPeriod", desc := "(II)Z" } : Jvm.MethodName) prog_1_method_21_code (2 : Nat) (Option.some Jvm.ClassFile.FieldType.boolean)) ∈ WT := wt_1 (i := 214) rfl rfl
theorem k215 : (Jvm.Cond.methodLinkNest "TwoTimesTable$States" (47 : Nat) ({ cls := "TwoTimesTable", name := "slotOf", desc := "(II)I" } : Jvm.MethodName) "TwoTimesTable") ∈ lw_tbl := wn_1 (i := 215) rfl
theorem k216 : (Jvm.Cond.methodLink "TwoTimesTable$States" (51 : Nat) ({ cls := "TwoTimesTable$States", name := "maskOf", desc := "(II)I" } : Jvm.MethodName)) ∈ WT := wt_1 (i := 216) rfl rfl
theorem k217 : (Jvm.Cond.static ({ cls := "TwoTimesTable$States", name := "maskOf", desc := "(II)I" } : Jvm.MethodName)) ∈ WT := wt_1 (i := 217) rfl rfl
theorem k218 : (Jvm.Cond.code ({ cls := "TwoTimesTable$States", name := "maskOf", desc := "(II)I" } : Jvm.MethodName) prog_2_method_7_code (2 : Nat) (Option.some Jvm.ClassFile.FieldType.int)) ∈ WT := wt_1 (i := 218) rfl rfl
theorem k219 : (Jvm.Cond.methodLink "TwoTimesTable$States" (54 : Nat) ({ cls := "TwoTimesTable$States", name := "changeDay", desc := "(IIII)Z" } : Jvm.MethodName)) ∈ WT := wt_1 (i := 219) rfl rfl
theorem k220 : (Jvm.Cond.privateMethod ({ cls := "TwoTimesTable$States", name := "changeDay", desc := "(IIII)Z" } : Jvm.MethodName)) ∈ lw_tbl := wn_1 (i := 220) rfl
theorem k221 : (Jvm.Cond.instanceMethod ({ cls := "TwoTimesTable$States", name := "changeDay", desc := "(IIII)Z" } : Jvm.MethodName)) ∈ WT := wt_1 (i := 221) rfl rfl
theorem k222 : (Jvm.Cond.code ({ cls := "TwoTimesTable$States", name := "changeDay", desc := "(IIII)Z" } : Jvm.MethodName) prog_2_method_8_code (9 : Nat) (Option.some Jvm.ClassFile.FieldType.boolean)) ∈ WT := wt_1 (i := 222) rfl rfl
theorem k223 : (Jvm.Cond.methodLink "TwoTimesTable$States" (62 : Nat) ({ cls := "TwoTimesTable$States", name := "isFilled", desc := "(II)Z" } : Jvm.MethodName)) ∈ WT := wt_1 (i := 223) rfl rfl
theorem k224 : (Jvm.Cond.methodLink "TwoTimesTable$States" (29 : Nat) ({ cls := "TwoTimesTable$States", name := "recountRows", desc := "(I)V" } : Jvm.MethodName)) ∈ WT := wt_1 (i := 224) rfl rfl
theorem k225 : (Jvm.Cond.privateMethod ({ cls := "TwoTimesTable$States", name := "recountRows", desc := "(I)V" } : Jvm.MethodName)) ∈ lw_tbl := wn_1 (i := 225) rfl
theorem k226 : (Jvm.Cond.instanceMethod ({ cls := "TwoTimesTable$States", name := "recountRows", desc := "(I)V" } : Jvm.MethodName)) ∈ WT := wt_1 (i := 226) rfl rfl
theorem k227 : (Jvm.Cond.code ({ cls := "TwoTimesTable$States", name := "recountRows", desc := "(I)V" } : Jvm.MethodName) prog_2_method_19_code (5 : Nat) (Option.none : Option Jvm.ClassFile.FieldType)) ∈ WT := wt_1 (i := 227) rfl rfl
theorem k228 : (Jvm.Cond.methodLink "TwoTimesTable$States" (81 : Nat) ({ cls := "TwoTimesTable$States", name := "startsRow", desc := "(II)Z" } : Jvm.MethodName)) ∈ WT := wt_1 (i := 228) rfl rfl
theorem k229 : (Jvm.Cond.privateMethod ({ cls := "TwoTimesTable$States", name := "startsRow", desc := "(II)Z" } : Jvm.MethodName)) ∈ lw_tbl := wn_1 (i := 229) rfl
theorem k230 : (Jvm.Cond.instanceMethod ({ cls := "TwoTimesTable$States", name := "startsRow", desc := "(II)Z" } : Jvm.MethodName)) ∈ WT := wt_1 (i := 230) rfl rfl
theorem k231 : (Jvm.Cond.code ({ cls := "TwoTimesTable$States", name := "startsRow", desc := "(II)Z" } : Jvm.MethodName) prog_2_method_20_code (3 : Nat) (Option.some Jvm.ClassFile.FieldType.boolean)) ∈ WT := wt_1 (i := 231) rfl rfl
theorem k232 : (Jvm.Cond.methodLink "TwoTimesTable$States" (71 : Nat) ({ cls := "TwoTimesTable$States", name := "startsRun", desc := "(II)Z" } : Jvm.MethodName)) ∈ WT := wt_1 (i := 232) rfl rfl
theorem k233 : (Jvm.Cond.instanceMethod ({ cls := "TwoTimesTable$States", name := "startsRun", desc := "(II)Z" } : Jvm.MethodName)) ∈ WT := wt_1 (i := 233) rfl rfl
theorem k234 : (Jvm.Cond.selects "TwoTimesTable$States" ({ cls := "TwoTimesTable$States", name := "startsRun", desc := "(II)Z" } : Jvm.MethodName) ({ cls := "TwoTimesTable$States", name := "startsRun", desc := "(II)Z" } : Jvm.MethodName)) ∈ WT := wt_1 (i := 234) rfl rfl
theorem k235 : (Jvm.Cond.code ({ cls := "TwoTimesTable$States", name := "startsRun", desc := "(II)Z" } : Jvm.MethodName) prog_2_method_12_code (3 : Nat) (Option.some Jvm.ClassFile.FieldType.boolean)) ∈ WT := wt_1 (i := 235) rfl rfl
theorem k236 : (Jvm.Cond.methodLink "TwoTimesTable$States" (68 : Nat) ({ cls := "TwoTimesTable$States", name := "continuesRun", desc := "(II)Z" } : Jvm.MethodName)) ∈ WT := wt_1 (i := 236) rfl rfl
theorem k237 : (Jvm.Cond.privateMethod ({ cls := "TwoTimesTable$States", name := "continuesRun", desc := "(II)Z" } : Jvm.MethodName)) ∈ lw_tbl := wn_1 (i := 237) rfl
theorem k238 : (Jvm.Cond.instanceMethod ({ cls := "TwoTimesTable$States", name := "continuesRun", desc := "(II)Z" } : Jvm.MethodName)) ∈ WT := wt_1 (i := 238) rfl rfl
theorem k239 : (Jvm.Cond.code ({ cls := "TwoTimesTable$States", name := "continuesRun", desc := "(II)Z" } : Jvm.MethodName) prog_2_method_13_code (4 : Nat) (Option.some Jvm.ClassFile.FieldType.boolean)) ∈ WT := wt_1 (i := 239) rfl rfl
theorem k240 : (Jvm.Cond.methodLink "TwoTimesTable$States" (84 : Nat) ({ cls := "TwoTimesTable$States", name := "sharesRun", desc := "(III)Z" } : Jvm.MethodName)) ∈ WT := wt_2 (i := 0) rfl rfl
theorem k241 : (Jvm.Cond.privateMethod ({ cls := "TwoTimesTable$States", name := "sharesRun", desc := "(III)Z" } : Jvm.MethodName)) ∈ lw_tbl := wn_2 (i := 1) rfl
theorem k242 : (Jvm.Cond.instanceMethod ({ cls := "TwoTimesTable$States", name := "sharesRun", desc := "(III)Z" } : Jvm.MethodName)) ∈ WT := wt_2 (i := 2) rfl rfl
theorem k243 : (Jvm.Cond.code ({ cls := "TwoTimesTable$States", name := "sharesRun", desc := "(III)Z" } : Jvm.MethodName) prog_2_method_21_code (4 : Nat) (Option.some Jvm.ClassFile.FieldType.boolean)) ∈ WT := wt_2 (i := 3) rfl rfl
theorem k244 : (Jvm.Cond.methodLink "TwoTimesTable$States" (65 : Nat) ({ cls := "TwoTimesTable$States", name := "valueOn", desc := "(II)I" } : Jvm.MethodName)) ∈ WT := wt_2 (i := 4) rfl rfl
theorem k245 : (Jvm.Cond.instanceMethod ({ cls := "TwoTimesTable$States", name := "valueOn", desc := "(II)I" } : Jvm.MethodName)) ∈ WT := wt_2 (i := 5) rfl rfl
theorem k246 : (Jvm.Cond.selects "TwoTimesTable$States" ({ cls := "TwoTimesTable$States", name := "valueOn", desc := "(II)I" } : Jvm.MethodName) ({ cls := "TwoTimesTable$States", name := "valueOn", desc := "(II)I" } : Jvm.MethodName)) ∈ WT := wt_2 (i := 6) rfl rfl
theorem k247 : (Jvm.Cond.code ({ cls := "TwoTimesTable$States", name := "valueOn", desc := "(II)I" } : Jvm.MethodName) prog_2_method_10_code (3 : Nat) (Option.some Jvm.ClassFile.FieldType.int)) ∈ WT := wt_2 (i := 7) rfl rfl
theorem k248 : (Jvm.Cond.methodLink "TwoTimesTable$States" (74 : Nat) ({ cls := "TwoTimesTable$States", name := "runEnd", desc := "(II)I" } : Jvm.MethodName)) ∈ WT := wt_2 (i := 8) rfl rfl
theorem k249 : (Jvm.Cond.instanceMethod ({ cls := "TwoTimesTable$States", name := "runEnd", desc := "(II)I" } : Jvm.MethodName)) ∈ WT := wt_2 (i := 9) rfl rfl
theorem k250 : (Jvm.Cond.selects "TwoTimesTable$States" ({ cls := "TwoTimesTable$States", name := "runEnd", desc := "(II)I" } : Jvm.MethodName) ({ cls := "TwoTimesTable$States", name := "runEnd", desc := "(II)I" } : Jvm.MethodName)) ∈ WT := wt_2 (i := 10) rfl rfl
theorem k251 : (Jvm.Cond.code ({ cls := "TwoTimesTable$States", name := "runEnd", desc := "(II)I" } : Jvm.MethodName) prog_2_method_14_code (4 : Nat) (Option.some Jvm.ClassFile.FieldType.int)) ∈ WT := wt_2 (i := 11) rfl rfl
theorem k252 : (Jvm.Cond.methodLink "TwoTimesTable$States" (58 : Nat) ({ cls := "TwoTimesTable$States", name := "countRows", desc := "()I" } : Jvm.MethodName)) ∈ WT := wt_2 (i := 12) rfl rfl
theorem k253 : (Jvm.Cond.methodLink "TwoTimesTable" (43 : Nat) ({ cls := "TwoTimesTable$States", name := "restore", desc := "()V" } : Jvm.MethodName)) ∈ WT := wt_2 (i := 13) rfl rfl
theorem k254 : (Jvm.Cond.instanceMethod ({ cls := "TwoTimesTable$States", name := "restore", desc := "()V" } : Jvm.MethodName)) ∈ WT := wt_2 (i := 14) rfl rfl
theorem k255 : (Jvm.Cond.selects "TwoTimesTable$States" ({ cls := "TwoTimesTable$States", name := "restore", desc := "()V" } : Jvm.MethodName) ({ cls := "TwoTimesTable$States", name := "restore", desc := "()V" } : Jvm.MethodName)) ∈ WT := wt_2 (i := 15) rfl rfl
theorem k256 : (Jvm.Cond.code ({ cls := "TwoTimesTable$States", name := "restore", desc := "()V" } : Jvm.MethodName) prog_2_method_4_code (2 : Nat) (Option.none : Option Jvm.ClassFile.FieldType)) ∈ WT := wt_2 (i := 16) rfl rfl
theorem k257 : (Jvm.Cond.methodLink "TwoTimesTable" (46 : Nat) ({ cls := "TwoTimesTable", name := "refuse", desc := "(I)V" } : Jvm.MethodName)) ∈ WT := wt_2 (i := 17) rfl rfl
theorem k258 : (Jvm.Cond.static ({ cls := "TwoTimesTable", name := "refuse", desc := "(I)V" } : Jvm.MethodName)) ∈ WT := wt_2 (i := 18) rfl rfl
theorem k259 : (Jvm.Cond.code ({ cls := "TwoTimesTable", name := "refuse", desc := "(I)V" } : Jvm.MethodName) prog_1_method_18_code (1 : Nat) (Option.none : Option Jvm.ClassFile.FieldType)) ∈ WT := wt_2 (i := 19) rfl rfl
theorem k260 : (Jvm.Cond.classLink "TwoTimesTable" (71 : Nat) "java/lang/IllegalArgumentException") ∈ WT := wt_2 (i := 20) rfl rfl
theorem k261 : (Jvm.Cond.instantiable "java/lang/IllegalArgumentException" (6 : Nat)) ∈ WT := wt_2 (i := 21) rfl rfl
theorem k262 : (Jvm.Cond.castable "java/lang/IllegalArgumentException" "java/lang/IllegalArgumentException") ∈ lw_tbl := wn_2 (i := 22) rfl
theorem k263 : (Jvm.Cond.selects "java/lang/IllegalArgumentException" ({ cls := "java/lang/Throwable", name := "fillInStackTrace", desc := "(I)Ljava/lang/Throwable;" } : Jvm.MethodName) ({ cls := "java/lang/Throwable", name := "fillInStackTrace", desc := "(I)Ljava/lang/Throwable;" } : Jvm.MethodName)) ∈ WT := wt_2 (i := 23) rfl rfl
theorem k264 : (Jvm.Cond.lays "java/lang/IllegalArgumentException" "java/lang/Throwable" "cause" "Ljava/lang/Throwable;") ∈ WT := wt_2 (i := 24) rfl rfl
theorem k265 : (Jvm.Cond.lays "java/lang/IllegalArgumentException" "java/lang/Throwable" "stackTrace" "[Ljava/lang/StackTraceElement;") ∈ WT := wt_2 (i := 25) rfl rfl
theorem k266 : (Jvm.Cond.lays "java/lang/IllegalArgumentException" "java/lang/Throwable" "suppressedExceptions" "Ljava/util/List;") ∈ WT := wt_2 (i := 26) rfl rfl
theorem k267 : (Jvm.Cond.lays "java/lang/IllegalArgumentException" "java/lang/Throwable" "detailMessage" "Ljava/lang/String;") ∈ WT := wt_2 (i := 27) rfl rfl
theorem k268 : (Jvm.Cond.lays "java/lang/IllegalArgumentException" "java/lang/Throwable" "backtrace" "Ljava/lang/Object;") ∈ WT := wt_2 (i := 28) rfl rfl
theorem k269 : (Jvm.Cond.methodLink "TwoTimesTable" (73 : Nat) ({ cls := "java/lang/IllegalArgumentException", name := "<init>", desc := "()V" } : Jvm.MethodName)) ∈ WT := wt_2 (i := 29) rfl rfl
theorem k270 : (Jvm.Cond.instanceMethod ({ cls := "java/lang/IllegalArgumentException", name := "<init>", desc := "()V" } : Jvm.MethodName)) ∈ WT := wt_2 (i := 30) rfl rfl
theorem k271 : (Jvm.Cond.code ({ cls := "java/lang/IllegalArgumentException", name := "<init>", desc := "()V" } : Jvm.MethodName) prog_7_method_1_code (1 : Nat) (Option.none : Option Jvm.ClassFile.FieldType)) ∈ WT := wt_2 (i := 31) rfl rfl
theorem k272 : (Jvm.Cond.methodLink "java/lang/IllegalArgumentException" (1 : Nat) ({ cls := "java/lang/RuntimeException", name := "<init>", desc := "()V" } : Jvm.MethodName)) ∈ WT := wt_2 (i := 32) rfl rfl
theorem k273 : (Jvm.Cond.lays "java/lang/IllegalArgumentException" "java/lang/Throwable" "depth" "I") ∈ WT := wt_2 (i := 33) rfl rfl
theorem k274 : (Jvm.Cond.superclass "java/lang/IllegalArgumentException" "java/lang/RuntimeException") ∈ WT := wt_2 (i := 34) rfl rfl
theorem k275 : (Jvm.Cond.classLink "TwoTimesTable" (81 : Nat) "java/util/NoSuchElementException") ∈ WT := wt_2 (i := 35) rfl rfl
theorem k276 : (Jvm.Cond.instantiable "java/util/NoSuchElementException" (6 : Nat)) ∈ WT := wt_2 (i := 36) rfl rfl
theorem k277 : (Jvm.Cond.castable "java/util/NoSuchElementException" "java/util/NoSuchElementException") ∈ lw_tbl := wn_2 (i := 37) rfl
theorem k278 : (Jvm.Cond.selects "java/util/NoSuchElementException" ({ cls := "java/lang/Throwable", name := "fillInStackTrace", desc := "(I)Ljava/lang/Throwable;" } : Jvm.MethodName) ({ cls := "java/lang/Throwable", name := "fillInStackTrace", desc := "(I)Ljava/lang/Throwable;" } : Jvm.MethodName)) ∈ WT := wt_2 (i := 38) rfl rfl
theorem k279 : (Jvm.Cond.lays "java/util/NoSuchElementException" "java/lang/Throwable" "cause" "Ljava/lang/Throwable;") ∈ WT := wt_2 (i := 39) rfl rfl
theorem k280 : (Jvm.Cond.lays "java/util/NoSuchElementException" "java/lang/Throwable" "stackTrace" "[Ljava/lang/StackTraceElement;") ∈ WT := wt_2 (i := 40) rfl rfl
theorem k281 : (Jvm.Cond.lays "java/util/NoSuchElementException" "java/lang/Throwable" "suppressedExceptions" "Ljava/util/List;") ∈ WT := wt_2 (i := 41) rfl rfl
theorem k282 : (Jvm.Cond.lays "java/util/NoSuchElementException" "java/lang/Throwable" "detailMessage" "Ljava/lang/String;") ∈ WT := wt_2 (i := 42) rfl rfl
theorem k283 : (Jvm.Cond.lays "java/util/NoSuchElementException" "java/lang/Throwable" "backtrace" "Ljava/lang/Object;") ∈ WT := wt_2 (i := 43) rfl rfl
theorem k284 : (Jvm.Cond.methodLink "TwoTimesTable" (83 : Nat) ({ cls := "java/util/NoSuchElementException", name := "<init>", desc := "()V" } : Jvm.MethodName)) ∈ WT := wt_2 (i := 44) rfl rfl
theorem k285 : (Jvm.Cond.instanceMethod ({ cls := "java/util/NoSuchElementException", name := "<init>", desc := "()V" } : Jvm.MethodName)) ∈ WT := wt_2 (i := 45) rfl rfl
theorem k286 : (Jvm.Cond.code ({ cls := "java/util/NoSuchElementException", name := "<init>", desc := "()V" } : Jvm.MethodName) prog_13_method_1_code (1 : Nat) (Option.none : Option Jvm.ClassFile.FieldType)) ∈ WT := wt_2 (i := 46) rfl rfl
theorem k287 : (Jvm.Cond.methodLink "java/util/NoSuchElementException" (1 : Nat) ({ cls := "java/lang/RuntimeException", name := "<init>", desc := "()V" } : Jvm.MethodName)) ∈ WT := wt_2 (i := 47) rfl rfl
theorem k288 : (Jvm.Cond.lays "java/util/NoSuchElementException" "java/lang/Throwable" "depth" "I") ∈ WT := wt_2 (i := 48) rfl rfl
theorem k289 : (Jvm.Cond.superclass "java/util/NoSuchElementException" "java/lang/RuntimeException") ∈ WT := wt_2 (i := 49) rfl rfl
theorem k290 : (Jvm.Cond.methodLink "TwoTimesTableLaw" (82 : Nat) ({ cls := "TwoTimesTableLaw", name := "commit", desc := "(LTwoTimesTable;[J)I" } : Jvm.MethodName)) ∈ WT := wt_2 (i := 50) rfl rfl
theorem k291 : (Jvm.Cond.static ({ cls := "TwoTimesTableLaw", name := "commit", desc := "(LTwoTimesTable;[J)I" } : Jvm.MethodName)) ∈ WT := wt_2 (i := 51) rfl rfl
theorem k292 : (Jvm.Cond.codeWith ({ cls := "TwoTimesTableLaw", name := "commit", desc := "(LTwoTimesTable;[J)I" } : Jvm.MethodName) method_5_code (3 : Nat) (Option.some Jvm.ClassFile.FieldType.int) [((0 : Nat), (8 : Nat), (11 : Nat), (19 : Nat)), ((0 : Nat), (8 : Nat), (14 : Nat), (13 : Nat)), ((0 : Nat), (8 : Nat), (17 : Nat), (21 : Nat))]) ∈ WT := wt_2 (i := 52) rfl rfl
theorem k293 : (Jvm.Cond.methodLink "TwoTimesTableLaw" (23 : Nat) ({ cls := "TwoTimesTable", name := "commit", desc := "()I" } : Jvm.MethodName)) ∈ WT := wt_2 (i := 53) rfl rfl
theorem k294 : (Jvm.Cond.instanceMethod ({ cls := "TwoTimesTable", name := "commit", desc := "()I" } : Jvm.MethodName)) ∈ WT := wt_2 (i := 54) rfl rfl
theorem k295 : (Jvm.Cond.selects "TwoTimesTable" ({ cls := "TwoTimesTable", name := "commit", desc := "()I" } : Jvm.MethodName) ({ cls := "TwoTimesTable", name := "commit", desc := "()I" } : Jvm.MethodName)) ∈ WT := wt_2 (i := 55) rfl rfl
theorem k296 : (Jvm.Cond.code ({ cls := "TwoTimesTable", name := "commit", desc := "()I" } : Jvm.MethodName) prog_1_method_6_code (5 : Nat) (Option.some Jvm.ClassFile.FieldType.int)) ∈ WT := wt_2 (i := 56) rfl rfl
theorem k297 : (Jvm.Cond.methodLink "TwoTimesTable" (57 : Nat) ({ cls := "TwoTimesTable$Waiting", name := "word", desc := "(II)I" } : Jvm.MethodName)) ∈ WT := wt_2 (i := 57) rfl rfl
theorem k298 : (Jvm.Cond.instanceMethod ({ cls := "TwoTimesTable$Waiting", name := "word", desc := "(II)I" } : Jvm.MethodName)) ∈ WT := wt_2 (i := 58) rfl rfl
theorem k299 : (Jvm.Cond.selects "TwoTimesTable$Waiting" ({ cls := "TwoTimesTable$Waiting", name := "word", desc := "(II)I" } : Jvm.MethodName) ({ cls := "TwoTimesTable$Waiting", name := "word", desc := "(II)I" } : Jvm.MethodName)) ∈ WT := wt_2 (i := 59) rfl rfl
theorem k300 : (Jvm.Cond.code ({ cls := "TwoTimesTable$Waiting", name := "word", desc := "(II)I" } : Jvm.MethodName) prog_3_method_3_code (3 : Nat) (Option.some Jvm.ClassFile.FieldType.int)) ∈ WT := wt_2 (i := 60) rfl rfl
theorem k301 : (Jvm.Cond.methodLink "TwoTimesTableLaw" (89 : Nat) ({ cls := "TwoTimesTableLaw", name := "value", desc := "(LTwoTimesTable;III[J)I" } : Jvm.MethodName)) ∈ WT := wt_2 (i := 61) rfl rfl
theorem k302 : (Jvm.Cond.static ({ cls := "TwoTimesTableLaw", name := "value", desc := "(LTwoTimesTable;III[J)I" } : Jvm.MethodName)) ∈ WT := wt_2 (i := 62) rfl rfl
theorem k303 : (Jvm.Cond.codeWith ({ cls := "TwoTimesTableLaw", name := "value", desc := "(LTwoTimesTable;III[J)I" } : Jvm.MethodName) method_6_code (6 : Nat) (Option.some Jvm.ClassFile.FieldType.int) [((0 : Nat), (12 : Nat), (15 : Nat), (19 : Nat)), ((0 : Nat), (12 : Nat), (19 : Nat), (21 : Nat))]) ∈ WT := wt_2 (i := 63) rfl rfl
theorem k304 : (Jvm.Cond.methodLink "TwoTimesTableLaw" (26 : Nat) ({ cls := "TwoTimesTable", name := "value", desc := "(III)I" } : Jvm.MethodName)) ∈ WT := wt_2 (i := 64) rfl rfl
theorem k305 : (Jvm.Cond.instanceMethod ({ cls := "TwoTimesTable", name := "value", desc := "(III)I" } : Jvm.MethodName)) ∈ WT := wt_2 (i := 65) rfl rfl
theorem k306 : (Jvm.Cond.selects "TwoTimesTable" ({ cls := "TwoTimesTable", name := "value", desc := "(III)I" } : Jvm.MethodName) ({ cls := "TwoTimesTable", name := "value", desc := "(III)I" } : Jvm.MethodName)) ∈ WT := wt_2 (i := 66) rfl rfl
theorem k307 : (Jvm.Cond.code ({ cls := "TwoTimesTable", name := "value", desc := "(III)I" } : Jvm.MethodName) prog_1_method_8_code (5 : Nat) (Option.some Jvm.ClassFile.FieldType.int)) ∈ WT := wt_2 (i := 67) rfl rfl
theorem k308 : (Jvm.Cond.methodLink "TwoTimesTable" (84 : Nat) ({ cls := "TwoTimesTable$States", name := "valueOn", desc := "(II)I" } : Jvm.MethodName)) ∈ WT := wt_2 (i := 68) rfl rfl
theorem k309 : (Jvm.Cond.methodLink "TwoTimesTableLaw" (98 : Nat) ({ cls := "TwoTimesTableLaw", name := "sum", desc := "(LTwoTimesTable;IIII[J)I" } : Jvm.MethodName)) ∈ WT := wt_2 (i := 69) rfl rfl
theorem k310 : (Jvm.Cond.static ({ cls := "TwoTimesTableLaw", name := "sum", desc := "(LTwoTimesTable;IIII[J)I" } : Jvm.MethodName)) ∈ WT := wt_2 (i := 70) rfl rfl
theorem k311 : (Jvm.Cond.codeWith ({ cls := "TwoTimesTableLaw", name := "sum", desc := "(LTwoTimesTable;IIII[J)I" } : Jvm.MethodName) method_7_code (7 : Nat) (Option.some Jvm.ClassFile.FieldType.int) [((0 : Nat), (13 : Nat), (16 : Nat), (19 : Nat))]) ∈ WT := wt_2 (i := 71) rfl rfl
theorem k312 : (Jvm.Cond.methodLink "TwoTimesTableLaw" (30 : Nat) ({ cls := "TwoTimesTable", name := "sum", desc := "(IIII)J" } : Jvm.MethodName)) ∈ WT := wt_2 (i := 72) rfl rfl
theorem k313 : (Jvm.Cond.instanceMethod ({ cls := "TwoTimesTable", name := "sum", desc := "(IIII)J" } : Jvm.MethodName)) ∈ WT := wt_2 (i := 73) rfl rfl
theorem k314 : (Jvm.Cond.selects "TwoTimesTable" ({ cls := "TwoTimesTable", name := "sum", desc := "(IIII)J" } : Jvm.MethodName) ({ cls := "TwoTimesTable", name := "sum", desc := "(IIII)J" } : Jvm.MethodName)) ∈ WT := wt_2 (i := 74) rfl rfl
theorem k315 : (Jvm.Cond.code ({ cls := "TwoTimesTable", name := "sum", desc := "(IIII)J" } : Jvm.MethodName) prog_1_method_10_code (9 : Nat) (Option.some Jvm.ClassFile.FieldType.long)) ∈ WT := wt_2 (i := 75) rfl rfl
theorem k316 : (Jvm.Cond.methodLink "TwoTimesTable" (87 : Nat) ({ cls := "TwoTimesTable", name := "isPeriod", desc := "(II)Z" } : Jvm.MethodName)) ∈ WT := wt_2 (i := 76) rfl rfl
theorem k317 : (Jvm.Cond.methodLink "TwoTimesTableLaw" (102 : Nat) ({ cls := "TwoTimesTableLaw", name := "runs", desc := "(LTwoTimesTable;II[J)I" } : Jvm.MethodName)) ∈ WT := wt_2 (i := 77) rfl rfl
theorem k318 : (Jvm.Cond.static ({ cls := "TwoTimesTableLaw", name := "runs", desc := "(LTwoTimesTable;II[J)I" } : Jvm.MethodName)) ∈ WT := wt_2 (i := 78) rfl rfl
theorem k319 : (Jvm.Cond.codeWith ({ cls := "TwoTimesTableLaw", name := "runs", desc := "(LTwoTimesTable;II[J)I" } : Jvm.MethodName) method_8_code (5 : Nat) (Option.some Jvm.ClassFile.FieldType.int) [((0 : Nat), (10 : Nat), (13 : Nat), (19 : Nat))]) ∈ WT := wt_2 (i := 79) rfl rfl
theorem k320 : (Jvm.Cond.methodLink "TwoTimesTableLaw" (34 : Nat) ({ cls := "TwoTimesTable", name := "runs", desc := "(II)I" } : Jvm.MethodName)) ∈ WT := wt_2 (i := 80) rfl rfl
theorem k321 : (Jvm.Cond.instanceMethod ({ cls := "TwoTimesTable", name := "runs", desc := "(II)I" } : Jvm.MethodName)) ∈ WT := wt_2 (i := 81) rfl rfl
theorem k322 : (Jvm.Cond.selects "TwoTimesTable" ({ cls := "TwoTimesTable", name := "runs", desc := "(II)I" } : Jvm.MethodName) ({ cls := "TwoTimesTable", name := "runs", desc := "(II)I" } : Jvm.MethodName)) ∈ WT := wt_2 (i := 82) rfl rfl
theorem k323 : (Jvm.Cond.code ({ cls := "TwoTimesTable", name := "runs", desc := "(II)I" } : Jvm.MethodName) prog_1_method_11_code (3 : Nat) (Option.some Jvm.ClassFile.FieldType.int)) ∈ WT := wt_2 (i := 83) rfl rfl
theorem k324 : (Jvm.Cond.methodLink "TwoTimesTable" (90 : Nat) ({ cls := "TwoTimesTable$States", name := "countRuns", desc := "(I)I" } : Jvm.MethodName)) ∈ WT := wt_2 (i := 84) rfl rfl
theorem k325 : (Jvm.Cond.instanceMethod ({ cls := "TwoTimesTable$States", name := "countRuns", desc := "(I)I" } : Jvm.MethodName)) ∈ WT := wt_2 (i := 85) rfl rfl
theorem k326 : (Jvm.Cond.selects "TwoTimesTable$States" ({ cls := "TwoTimesTable$States", name := "countRuns", desc := "(I)I" } : Jvm.MethodName) ({ cls := "TwoTimesTable$States", name := "countRuns", desc := "(I)I" } : Jvm.MethodName)) ∈ WT := wt_2 (i := 86) rfl rfl
theorem k327 : (Jvm.Cond.code ({ cls := "TwoTimesTable$States", name := "countRuns", desc := "(I)I" } : Jvm.MethodName) prog_2_method_15_code (4 : Nat) (Option.some Jvm.ClassFile.FieldType.int)) ∈ WT := wt_2 (i := 87) rfl rfl
theorem k328 : (Jvm.Cond.methodLink "TwoTimesTableLaw" (106 : Nat) ({ cls := "TwoTimesTableLaw", name := "run", desc := "(LTwoTimesTable;IIII[J)I" } : Jvm.MethodName)) ∈ WT := wt_2 (i := 88) rfl rfl
theorem k329 : (Jvm.Cond.static ({ cls := "TwoTimesTableLaw", name := "run", desc := "(LTwoTimesTable;IIII[J)I" } : Jvm.MethodName)) ∈ WT := wt_2 (i := 89) rfl rfl
theorem k330 : (Jvm.Cond.codeWith ({ cls := "TwoTimesTableLaw", name := "run", desc := "(LTwoTimesTable;IIII[J)I" } : Jvm.MethodName) method_9_code (7 : Nat) (Option.some Jvm.ClassFile.FieldType.int) [((0 : Nat), (14 : Nat), (17 : Nat), (19 : Nat)), ((0 : Nat), (14 : Nat), (21 : Nat), (42 : Nat))]) ∈ WT := wt_2 (i := 90) rfl rfl
theorem k331 : (Jvm.Cond.classLink "TwoTimesTableLaw" (42 : Nat) "java/lang/IndexOutOfBoundsException") ∈ WT := wt_2 (i := 91) rfl rfl
theorem k332 : (Jvm.Cond.methodLink "TwoTimesTableLaw" (38 : Nat) ({ cls := "TwoTimesTable", name := "run", desc := "(IIII)I" } : Jvm.MethodName)) ∈ WT := wt_2 (i := 92) rfl rfl
theorem k333 : (Jvm.Cond.instanceMethod ({ cls := "TwoTimesTable", name := "run", desc := "(IIII)I" } : Jvm.MethodName)) ∈ WT := wt_2 (i := 93) rfl rfl
theorem k334 : (Jvm.Cond.selects "TwoTimesTable" ({ cls := "TwoTimesTable", name := "run", desc := "(IIII)I" } : Jvm.MethodName) ({ cls := "TwoTimesTable", name := "run", desc := "(IIII)I" } : Jvm.MethodName)) ∈ WT := wt_2 (i := 94) rfl rfl
theorem k335 : (Jvm.Cond.code ({ cls := "TwoTimesTable", name := "run", desc := "(IIII)I" } : Jvm.MethodName) prog_1_method_12_code (7 : Nat) (Option.some Jvm.ClassFile.FieldType.int)) ∈ WT := wt_2 (i := 95) rfl rfl
theorem k336 : (Jvm.Cond.methodLink "TwoTimesTable" (94 : Nat) ({ cls := "TwoTimesTable$States", name := "runStart", desc := "(II)I" } : Jvm.MethodName)) ∈ WT := wt_2 (i := 96) rfl rfl
theorem k337 : (Jvm.Cond.instanceMethod ({ cls := "TwoTimesTable$States", name := "runStart", desc := "(II)I" } : Jvm.MethodName)) ∈ WT := wt_2 (i := 97) rfl rfl
theorem k338 : (Jvm.Cond.selects "TwoTimesTable$States" ({ cls := "TwoTimesTable$States", name := "runStart", desc := "(II)I" } : Jvm.MethodName) ({ cls := "TwoTimesTable$States", name := "runStart", desc := "(II)I" } : Jvm.MethodName)) ∈ WT := wt_2 (i := 98) rfl rfl
theorem k339 : (Jvm.Cond.code ({ cls := "TwoTimesTable$States", name := "runStart", desc := "(II)I" } : Jvm.MethodName) prog_2_method_16_code (5 : Nat) (Option.some Jvm.ClassFile.FieldType.int)) ∈ WT := wt_2 (i := 99) rfl rfl
theorem k340 : (Jvm.Cond.classLink "TwoTimesTable" (97 : Nat) "java/lang/IndexOutOfBoundsException") ∈ WT := wt_2 (i := 100) rfl rfl
theorem k341 : (Jvm.Cond.instantiable "java/lang/IndexOutOfBoundsException" (6 : Nat)) ∈ WT := wt_2 (i := 101) rfl rfl
theorem k342 : (Jvm.Cond.castable "java/lang/IndexOutOfBoundsException" "java/lang/IndexOutOfBoundsException") ∈ lw_tbl := wn_2 (i := 102) rfl
theorem k343 : (Jvm.Cond.selects "java/lang/IndexOutOfBoundsException" ({ cls := "java/lang/Throwable", name := "fillInStackTrace", desc := "(I)Ljava/lang/Throwable;" } : Jvm.MethodName) ({ cls := "java/lang/Throwable", name := "fillInStackTrace", desc := "(I)Ljava/lang/Throwable;" } : Jvm.MethodName)) ∈ WT := wt_2 (i := 103) rfl rfl
theorem k344 : (Jvm.Cond.lays "java/lang/IndexOutOfBoundsException" "java/lang/Throwable" "cause" "Ljava/lang/Throwable;") ∈ WT := wt_2 (i := 104) rfl rfl
theorem k345 : (Jvm.Cond.lays "java/lang/IndexOutOfBoundsException" "java/lang/Throwable" "stackTrace" "[Ljava/lang/StackTraceElement;") ∈ WT := wt_2 (i := 105) rfl rfl
theorem k346 : (Jvm.Cond.lays "java/lang/IndexOutOfBoundsException" "java/lang/Throwable" "suppressedExceptions" "Ljava/util/List;") ∈ WT := wt_2 (i := 106) rfl rfl
theorem k347 : (Jvm.Cond.lays "java/lang/IndexOutOfBoundsException" "java/lang/Throwable" "detailMessage" "Ljava/lang/String;") ∈ WT := wt_2 (i := 107) rfl rfl
theorem k348 : (Jvm.Cond.lays "java/lang/IndexOutOfBoundsException" "java/lang/Throwable" "backtrace" "Ljava/lang/Object;") ∈ WT := wt_2 (i := 108) rfl rfl
theorem k349 : (Jvm.Cond.methodLink "TwoTimesTable" (99 : Nat) ({ cls := "java/lang/IndexOutOfBoundsException", name := "<init>", desc := "()V" } : Jvm.MethodName)) ∈ WT := wt_2 (i := 109) rfl rfl
theorem k350 : (Jvm.Cond.instanceMethod ({ cls := "java/lang/IndexOutOfBoundsException", name := "<init>", desc := "()V" } : Jvm.MethodName)) ∈ WT := wt_2 (i := 110) rfl rfl
theorem k351 : (Jvm.Cond.code ({ cls := "java/lang/IndexOutOfBoundsException", name := "<init>", desc := "()V" } : Jvm.MethodName) prog_9_method_1_code (1 : Nat) (Option.none : Option Jvm.ClassFile.FieldType)) ∈ WT := wt_2 (i := 111) rfl rfl
theorem k352 : (Jvm.Cond.methodLink "java/lang/IndexOutOfBoundsException" (1 : Nat) ({ cls := "java/lang/RuntimeException", name := "<init>", desc := "()V" } : Jvm.MethodName)) ∈ WT := wt_2 (i := 112) rfl rfl
theorem k353 : (Jvm.Cond.lays "java/lang/IndexOutOfBoundsException" "java/lang/Throwable" "depth" "I") ∈ WT := wt_2 (i := 113) rfl rfl
theorem k354 : (Jvm.Cond.superclass "java/lang/IndexOutOfBoundsException" "java/lang/RuntimeException") ∈ WT := wt_2 (i := 114) rfl rfl
theorem k355 : (Jvm.Cond.methodLink "TwoTimesTable" (100 : Nat) ({ cls := "TwoTimesTable$States", name := "runEnd", desc := "(II)I" } : Jvm.MethodName)) ∈ WT := wt_2 (i := 115) rfl rfl
theorem k356 : (Jvm.Cond.methodLink "TwoTimesTableLaw" (113 : Nat) ({ cls := "TwoTimesTableLaw", name := "row", desc := "(LTwoTimesTable;II[J)I" } : Jvm.MethodName)) ∈ WT := wt_2 (i := 116) rfl rfl
theorem k357 : (Jvm.Cond.static ({ cls := "TwoTimesTableLaw", name := "row", desc := "(LTwoTimesTable;II[J)I" } : Jvm.MethodName)) ∈ WT := wt_2 (i := 117) rfl rfl
theorem k358 : (Jvm.Cond.codeWith ({ cls := "TwoTimesTableLaw", name := "row", desc := "(LTwoTimesTable;II[J)I" } : Jvm.MethodName) method_10_code (5 : Nat) (Option.some Jvm.ClassFile.FieldType.int) [((0 : Nat), (10 : Nat), (13 : Nat), (19 : Nat)), ((0 : Nat), (10 : Nat), (17 : Nat), (42 : Nat))]) ∈ WT := wt_2 (i := 118) rfl rfl
theorem k359 : (Jvm.Cond.methodLink "TwoTimesTableLaw" (44 : Nat) ({ cls := "TwoTimesTable", name := "row", desc := "(II)I" } : Jvm.MethodName)) ∈ WT := wt_2 (i := 119) rfl rfl
theorem k360 : (Jvm.Cond.instanceMethod ({ cls := "TwoTimesTable", name := "row", desc := "(II)I" } : Jvm.MethodName)) ∈ WT := wt_2 (i := 120) rfl rfl
theorem k361 : (Jvm.Cond.selects "TwoTimesTable" ({ cls := "TwoTimesTable", name := "row", desc := "(II)I" } : Jvm.MethodName) ({ cls := "TwoTimesTable", name := "row", desc := "(II)I" } : Jvm.MethodName)) ∈ WT := wt_2 (i := 121) rfl rfl
theorem k362 : (Jvm.Cond.code ({ cls := "TwoTimesTable", name := "row", desc := "(II)I" } : Jvm.MethodName) prog_1_method_14_code (3 : Nat) (Option.some Jvm.ClassFile.FieldType.int)) ∈ WT := wt_2 (i := 122) rfl rfl
theorem k363 : (Jvm.Cond.methodLink "TwoTimesTable" (107 : Nat) ({ cls := "TwoTimesTable$States", name := "rowPart", desc := "(II)I" } : Jvm.MethodName)) ∈ WT := wt_2 (i := 123) rfl rfl
theorem k364 : (Jvm.Cond.instanceMethod ({ cls := "TwoTimesTable$States", name := "rowPart", desc := "(II)I" } : Jvm.MethodName)) ∈ WT := wt_2 (i := 124) rfl rfl
theorem k365 : (Jvm.Cond.selects "TwoTimesTable$States" ({ cls := "TwoTimesTable$States", name := "rowPart", desc := "(II)I" } : Jvm.MethodName) ({ cls := "TwoTimesTable$States", name := "rowPart", desc := "(II)I" } : Jvm.MethodName)) ∈ WT := wt_2 (i := 125) rfl rfl
theorem k366 : (Jvm.Cond.code ({ cls := "TwoTimesTable$States", name := "rowPart", desc := "(II)I" } : Jvm.MethodName) prog_2_method_22_code (7 : Nat) (Option.some Jvm.ClassFile.FieldType.int)) ∈ WT := wt_2 (i := 126) rfl rfl
theorem k367 : (Jvm.Cond.methodLink "TwoTimesTable$States" (88 : Nat) ({ cls := "TwoTimesTable$States", name := "rowStart", desc := "(II)I" } : Jvm.MethodName)) ∈ WT := wt_2 (i := 127) rfl rfl
theorem k368 : (Jvm.Cond.privateMethod ({ cls := "TwoTimesTable$States", name := "rowStart", desc := "(II)I" } : Jvm.MethodName)) ∈ lw_tbl := wn_2 (i := 128) rfl
theorem k369 : (Jvm.Cond.instanceMethod ({ cls := "TwoTimesTable$States", name := "rowStart", desc := "(II)I" } : Jvm.MethodName)) ∈ WT := wt_2 (i := 129) rfl rfl
theorem k370 : (Jvm.Cond.code ({ cls := "TwoTimesTable$States", name := "rowStart", desc := "(II)I" } : Jvm.MethodName) prog_2_method_23_code (5 : Nat) (Option.some Jvm.ClassFile.FieldType.int)) ∈ WT := wt_2 (i := 130) rfl rfl
theorem k371 : (Jvm.Cond.methodLink "TwoTimesTable$States" (91 : Nat) ({ cls := "TwoTimesTable$States", name := "partOfRow", desc := "(IIII)I" } : Jvm.MethodName)) ∈ WT := wt_2 (i := 131) rfl rfl
theorem k372 : (Jvm.Cond.privateMethod ({ cls := "TwoTimesTable$States", name := "partOfRow", desc := "(IIII)I" } : Jvm.MethodName)) ∈ lw_tbl := wn_2 (i := 132) rfl
theorem k373 : (Jvm.Cond.instanceMethod ({ cls := "TwoTimesTable$States", name := "partOfRow", desc := "(IIII)I" } : Jvm.MethodName)) ∈ WT := wt_2 (i := 133) rfl rfl
theorem k374 : (Jvm.Cond.code ({ cls := "TwoTimesTable$States", name := "partOfRow", desc := "(IIII)I" } : Jvm.MethodName) prog_2_method_24_code (6 : Nat) (Option.some Jvm.ClassFile.FieldType.int)) ∈ WT := wt_2 (i := 134) rfl rfl
theorem k375 : (Jvm.Cond.methodLink "TwoTimesTable$States" (94 : Nat) ({ cls := "TwoTimesTable$States", name := "rowEnd", desc := "(III)I" } : Jvm.MethodName)) ∈ WT := wt_2 (i := 135) rfl rfl
theorem k376 : (Jvm.Cond.privateMethod ({ cls := "TwoTimesTable$States", name := "rowEnd", desc := "(III)I" } : Jvm.MethodName)) ∈ lw_tbl := wn_2 (i := 136) rfl
theorem k377 : (Jvm.Cond.instanceMethod ({ cls := "TwoTimesTable$States", name := "rowEnd", desc := "(III)I" } : Jvm.MethodName)) ∈ WT := wt_2 (i := 137) rfl rfl
theorem k378 : (Jvm.Cond.code ({ cls := "TwoTimesTable$States", name := "rowEnd", desc := "(III)I" } : Jvm.MethodName) prog_2_method_25_code (6 : Nat) (Option.some Jvm.ClassFile.FieldType.int)) ∈ WT := wt_2 (i := 138) rfl rfl
theorem k379 : (Jvm.Cond.methodLink "TwoTimesTableLaw" (116 : Nat) ({ cls := "TwoTimesTableLaw", name := "changes", desc := "(LTwoTimesTable;II[J)I" } : Jvm.MethodName)) ∈ WT := wt_2 (i := 139) rfl rfl
theorem k380 : (Jvm.Cond.static ({ cls := "TwoTimesTableLaw", name := "changes", desc := "(LTwoTimesTable;II[J)I" } : Jvm.MethodName)) ∈ WT := wt_2 (i := 140) rfl rfl
theorem k381 : (Jvm.Cond.codeWith ({ cls := "TwoTimesTableLaw", name := "changes", desc := "(LTwoTimesTable;II[J)I" } : Jvm.MethodName) method_11_code (5 : Nat) (Option.some Jvm.ClassFile.FieldType.int) [((0 : Nat), (10 : Nat), (13 : Nat), (19 : Nat))]) ∈ WT := wt_2 (i := 141) rfl rfl
theorem k382 : (Jvm.Cond.methodLink "TwoTimesTableLaw" (47 : Nat) ({ cls := "TwoTimesTable", name := "changes", desc := "(II)I" } : Jvm.MethodName)) ∈ WT := wt_2 (i := 142) rfl rfl
theorem k383 : (Jvm.Cond.instanceMethod ({ cls := "TwoTimesTable", name := "changes", desc := "(II)I" } : Jvm.MethodName)) ∈ WT := wt_2 (i := 143) rfl rfl
theorem k384 : (Jvm.Cond.selects "TwoTimesTable" ({ cls := "TwoTimesTable", name := "changes", desc := "(II)I" } : Jvm.MethodName) ({ cls := "TwoTimesTable", name := "changes", desc := "(II)I" } : Jvm.MethodName)) ∈ WT := wt_2 (i := 144) rfl rfl
theorem k385 : (Jvm.Cond.code ({ cls := "TwoTimesTable", name := "changes", desc := "(II)I" } : Jvm.MethodName) prog_1_method_15_code (5 : Nat) (Option.some Jvm.ClassFile.FieldType.int)) ∈ WT := wt_2 (i := 145) rfl rfl
theorem k386 : (Jvm.Cond.methodLink "TwoTimesTable" (110 : Nat) ({ cls := "TwoTimesTable$States", name := "differ", desc := "(III)Z" } : Jvm.MethodName)) ∈ WT := wt_2 (i := 146) rfl rfl
theorem k387 : (Jvm.Cond.instanceMethod ({ cls := "TwoTimesTable$States", name := "differ", desc := "(III)Z" } : Jvm.MethodName)) ∈ WT := wt_2 (i := 147) rfl rfl
theorem k388 : (Jvm.Cond.selects "TwoTimesTable$States" ({ cls := "TwoTimesTable$States", name := "differ", desc := "(III)Z" } : Jvm.MethodName) ({ cls := "TwoTimesTable$States", name := "differ", desc := "(III)Z" } : Jvm.MethodName)) ∈ WT := wt_2 (i := 148) rfl rfl
theorem k389 : (Jvm.Cond.code ({ cls := "TwoTimesTable$States", name := "differ", desc := "(III)Z" } : Jvm.MethodName) prog_2_method_11_code (5 : Nat) (Option.some Jvm.ClassFile.FieldType.boolean)) ∈ WT := wt_2 (i := 149) rfl rfl
theorem k390 : (Jvm.Cond.methodLink "TwoTimesTableLaw" (119 : Nat) ({ cls := "TwoTimesTableLaw", name := "relation", desc := "(LTwoTimesTable;IIII[J)I" } : Jvm.MethodName)) ∈ WT := wt_2 (i := 150) rfl rfl
theorem k391 : (Jvm.Cond.static ({ cls := "TwoTimesTableLaw", name := "relation", desc := "(LTwoTimesTable;IIII[J)I" } : Jvm.MethodName)) ∈ WT := wt_2 (i := 151) rfl rfl
theorem k392 : (Jvm.Cond.codeWith ({ cls := "TwoTimesTableLaw", name := "relation", desc := "(LTwoTimesTable;IIII[J)I" } : Jvm.MethodName) method_12_code (7 : Nat) (Option.some Jvm.ClassFile.FieldType.int) [((0 : Nat), (14 : Nat), (17 : Nat), (19 : Nat))]) ∈ WT := wt_2 (i := 152) rfl rfl
theorem k393 : (Jvm.Cond.methodLink "TwoTimesTableLaw" (50 : Nat) ({ cls := "TwoTimesTable", name := "relation", desc := "(IIII)I" } : Jvm.MethodName)) ∈ WT := wt_2 (i := 153) rfl rfl
theorem k394 : (Jvm.Cond.instanceMethod ({ cls := "TwoTimesTable", name := "relation", desc := "(IIII)I" } : Jvm.MethodName)) ∈ WT := wt_2 (i := 154) rfl rfl
theorem k395 : (Jvm.Cond.selects "TwoTimesTable" ({ cls := "TwoTimesTable", name := "relation", desc := "(IIII)I" } : Jvm.MethodName) ({ cls := "TwoTimesTable", name := "relation", desc := "(IIII)I" } : Jvm.MethodName)) ∈ WT := wt_2 (i := 155) rfl rfl
theorem k396 : (Jvm.Cond.code ({ cls := "TwoTimesTable", name := "relation", desc := "(IIII)I" } : Jvm.MethodName) prog_1_method_16_code (5 : Nat) (Option.some Jvm.ClassFile.FieldType.int)) ∈ WT := wt_2 (i := 156) rfl rfl
theorem k397 : (Jvm.Cond.methodLink "TwoTimesTable" (114 : Nat) ({ cls := "TwoTimesTable", name := "relationOf", desc := "(IIII)I" } : Jvm.MethodName)) ∈ WT := wt_2 (i := 157) rfl rfl
theorem k398 : (Jvm.Cond.static ({ cls := "TwoTimesTable", name := "relationOf", desc := "(IIII)I" } : Jvm.MethodName)) ∈ WT := wt_2 (i := 158) rfl rfl
theorem k399 : (Jvm.Cond.code ({ cls := "TwoTimesTable", name := "relationOf", desc := "(IIII)I" } : Jvm.MethodName) prog_1_method_24_code (5 : Nat) (Option.some Jvm.ClassFile.FieldType.int)) ∈ WT := wt_2 (i := 159) rfl rfl
theorem k400 : (Jvm.Cond.methodLink "TwoTimesTable" (124 : Nat) ({ cls := "TwoTimesTable", name := "forwardRelation", desc := "(IIII)I" } : Jvm.MethodName)) ∈ WT := wt_2 (i := 160) rfl rfl
theorem k401 : (Jvm.Cond.static ({ cls := "TwoTimesTable", name := "forwardRelation", desc := "(IIII)I" } : Jvm.MethodName)) ∈ WT := wt_2 (i := 161) rfl rfl
theorem k402 : (Jvm.Cond.code ({ cls := "TwoTimesTable", name := "forwardRelation", desc := "(IIII)I" } : Jvm.MethodName) prog_1_method_25_code (4 : Nat) (Option.some Jvm.ClassFile.FieldType.int)) ∈ WT := wt_2 (i := 162) rfl rfl
theorem k403 : (Jvm.Cond.methodLink "TwoTimesTableLaw" (122 : Nat) ({ cls := "TwoTimesTableLaw", name := "join", desc := "(LTwoTimesTable;IIII[J)I" } : Jvm.MethodName)) ∈ WT := wt_2 (i := 163) rfl rfl
theorem k404 : (Jvm.Cond.static ({ cls := "TwoTimesTableLaw", name := "join", desc := "(LTwoTimesTable;IIII[J)I" } : Jvm.MethodName)) ∈ WT := wt_2 (i := 164) rfl rfl
theorem k405 : (Jvm.Cond.codeWith ({ cls := "TwoTimesTableLaw", name := "join", desc := "(LTwoTimesTable;IIII[J)I" } : Jvm.MethodName) method_13_code (7 : Nat) (Option.some Jvm.ClassFile.FieldType.int) [((0 : Nat), (14 : Nat), (17 : Nat), (19 : Nat))]) ∈ WT := wt_2 (i := 165) rfl rfl
theorem k406 : (Jvm.Cond.methodLink "TwoTimesTableLaw" (53 : Nat) ({ cls := "TwoTimesTable", name := "join", desc := "(IIII)I" } : Jvm.MethodName)) ∈ WT := wt_2 (i := 166) rfl rfl
theorem k407 : (Jvm.Cond.instanceMethod ({ cls := "TwoTimesTable", name := "join", desc := "(IIII)I" } : Jvm.MethodName)) ∈ WT := wt_2 (i := 167) rfl rfl
theorem k408 : (Jvm.Cond.selects "TwoTimesTable" ({ cls := "TwoTimesTable", name := "join", desc := "(IIII)I" } : Jvm.MethodName) ({ cls := "TwoTimesTable", name := "join", desc := "(IIII)I" } : Jvm.MethodName)) ∈ WT := wt_2 (i := 168) rfl rfl
theorem k409 : (Jvm.Cond.code ({ cls := "TwoTimesTable", name := "join", desc := "(IIII)I" } : Jvm.MethodName) prog_1_method_17_code (8 : Nat) (Option.some Jvm.ClassFile.FieldType.int)) ∈ WT := wt_2 (i := 169) rfl rfl
theorem k410 : (Jvm.Cond.methodLink "TwoTimesTable" (118 : Nat) ({ cls := "TwoTimesTable$States", name := "startsRun", desc := "(II)Z" } : Jvm.MethodName)) ∈ WT := wt_2 (i := 170) rfl rfl
theorem k411 : (Jvm.Cond.methodLink "TwoTimesTable" (121 : Nat) ({ cls := "TwoTimesTable$States", name := "countRelated", desc := "(IIII)I" } : Jvm.MethodName)) ∈ WT := wt_2 (i := 171) rfl rfl
theorem k412 : (Jvm.Cond.instanceMethod ({ cls := "TwoTimesTable$States", name := "countRelated", desc := "(IIII)I" } : Jvm.MethodName)) ∈ WT := wt_2 (i := 172) rfl rfl
theorem k413 : (Jvm.Cond.selects "TwoTimesTable$States" ({ cls := "TwoTimesTable$States", name := "countRelated", desc := "(IIII)I" } : Jvm.MethodName) ({ cls := "TwoTimesTable$States", name := "countRelated", desc := "(IIII)I" } : Jvm.MethodName)) ∈ WT := wt_2 (i := 173) rfl rfl
theorem k414 : (Jvm.Cond.code ({ cls := "TwoTimesTable$States", name := "countRelated", desc := "(IIII)I" } : Jvm.MethodName) prog_2_method_17_code (7 : Nat) (Option.some Jvm.ClassFile.FieldType.int)) ∈ WT := wt_2 (i := 174) rfl rfl
theorem k415 : (Jvm.Cond.methodLinkNest "TwoTimesTable$States" (77 : Nat) ({ cls := "TwoTimesTable", name := "relationOf", desc := "(IIII)I" } : Jvm.MethodName) "TwoTimesTable") ∈ lw_tbl := wn_2 (i := 175) rfl
theorem k416 : (Jvm.Cond.classLink "TwoTimesTableLaw" (57 : Nat) "TwoTimesTableModel") ∈ WT := wt_2 (i := 176) rfl rfl
theorem k417 : (Jvm.Cond.instantiable "TwoTimesTableModel" (10 : Nat)) ∈ WT := wt_2 (i := 177) rfl rfl
theorem k418 : (Jvm.Cond.methodLink "TwoTimesTableLaw" (59 : Nat) ({ cls := "TwoTimesTableModel", name := "<init>", desc := "()V" } : Jvm.MethodName)) ∈ WT := wt_2 (i := 178) rfl rfl
theorem k419 : (Jvm.Cond.instanceMethod ({ cls := "TwoTimesTableModel", name := "<init>", desc := "()V" } : Jvm.MethodName)) ∈ WT := wt_2 (i := 179) rfl rfl
theorem k420 : (Jvm.Cond.code ({ cls := "TwoTimesTableModel", name := "<init>", desc := "()V" } : Jvm.MethodName) prog_5_method_1_code (1 : Nat) (Option.none : Option Jvm.ClassFile.FieldType)) ∈ WT := wt_2 (i := 180) rfl rfl
theorem k421 : (Jvm.Cond.methodLink "TwoTimesTableModel" (1 : Nat) ({ cls := "java/lang/Object", name := "<init>", desc := "()V" } : Jvm.MethodName)) ∈ WT := wt_2 (i := 181) rfl rfl
theorem k422 : (Jvm.Cond.fieldLink "TwoTimesTableModel" (33 : Nat) "TwoTimesTableModel" "clock" "I") ∈ WT := wt_2 (i := 182) rfl rfl
theorem k423 : (Jvm.Cond.fieldLink "TwoTimesTableModel" (7 : Nat) "TwoTimesTableModel" "there" "[Z") ∈ WT := wt_2 (i := 183) rfl rfl
theorem k424 : (Jvm.Cond.fieldLink "TwoTimesTableModel" (13 : Nat) "TwoTimesTableModel" "values" "[I") ∈ WT := wt_2 (i := 184) rfl rfl
theorem k425 : (Jvm.Cond.fieldLink "TwoTimesTableModel" (17 : Nat) "TwoTimesTableModel" "keptThere" "[Z") ∈ WT := wt_2 (i := 185) rfl rfl
theorem k426 : (Jvm.Cond.fieldLink "TwoTimesTableModel" (20 : Nat) "TwoTimesTableModel" "keptValues" "[I") ∈ WT := wt_2 (i := 186) rfl rfl
theorem k427 : (Jvm.Cond.fieldLink "TwoTimesTableModel" (94 : Nat) "TwoTimesTableModel" "waits" "I") ∈ WT := wt_2 (i := 187) rfl rfl
theorem k428 : (Jvm.Cond.fieldLink "TwoTimesTableModel" (23 : Nat) "TwoTimesTableModel" "waiting" "[I") ∈ WT := wt_2 (i := 188) rfl rfl
theorem k429 : (Jvm.Cond.fieldLink "TwoTimesTableModel" (26 : Nat) "TwoTimesTableModel" "failed" "I") ∈ WT := wt_2 (i := 189) rfl rfl
theorem k430 : (Jvm.Cond.fieldLink "TwoTimesTableModel" (30 : Nat) "TwoTimesTableModel" "thrown" "I") ∈ WT := wt_2 (i := 190) rfl rfl
theorem k431 : (Jvm.Cond.fieldLink "TwoTimesTableModel" (62 : Nat) "TwoTimesTableModel" "changed" "I") ∈ WT := wt_2 (i := 191) rfl rfl
theorem k432 : (Jvm.Cond.lays "TwoTimesTableModel" "TwoTimesTableModel" "clock" "I") ∈ WT := wt_2 (i := 192) rfl rfl
theorem k433 : (Jvm.Cond.soleField "TwoTimesTableModel" "clock") ∈ WT := wt_2 (i := 193) rfl rfl
theorem k434 : (Jvm.Cond.laysFinal "TwoTimesTableModel" "TwoTimesTableModel" "there" "[Z") ∈ WT := wt_2 (i := 194) rfl rfl
theorem k435 : (Jvm.Cond.soleField "TwoTimesTableModel" "there") ∈ WT := wt_2 (i := 195) rfl rfl
theorem k436 : (Jvm.Cond.laysFinal "TwoTimesTableModel" "TwoTimesTableModel" "values" "[I") ∈ WT := wt_2 (i := 196) rfl rfl
theorem k437 : (Jvm.Cond.soleField "TwoTimesTableModel" "values") ∈ WT := wt_2 (i := 197) rfl rfl
theorem k438 : (Jvm.Cond.laysFinal "TwoTimesTableModel" "TwoTimesTableModel" "keptThere" "[Z") ∈ WT := wt_2 (i := 198) rfl rfl
theorem k439 : (Jvm.Cond.soleField "TwoTimesTableModel" "keptThere") ∈ WT := wt_2 (i := 199) rfl rfl
theorem k440 : (Jvm.Cond.laysFinal "TwoTimesTableModel" "TwoTimesTableModel" "keptValues" "[I") ∈ WT := wt_2 (i := 200) rfl rfl
theorem k441 : (Jvm.Cond.soleField "TwoTimesTableModel" "keptValues") ∈ WT := wt_2 (i := 201) rfl rfl
theorem k442 : (Jvm.Cond.lays "TwoTimesTableModel" "TwoTimesTableModel" "waits" "I") ∈ WT := wt_2 (i := 202) rfl rfl
theorem k443 : (Jvm.Cond.soleField "TwoTimesTableModel" "waits") ∈ WT := wt_2 (i := 203) rfl rfl
theorem k444 : (Jvm.Cond.laysFinal "TwoTimesTableModel" "TwoTimesTableModel" "waiting" "[I") ∈ WT := wt_2 (i := 204) rfl rfl
theorem k445 : (Jvm.Cond.soleField "TwoTimesTableModel" "waiting") ∈ WT := wt_2 (i := 205) rfl rfl
theorem k446 : (Jvm.Cond.lays "TwoTimesTableModel" "TwoTimesTableModel" "failed" "I") ∈ WT := wt_2 (i := 206) rfl rfl
theorem k447 : (Jvm.Cond.soleField "TwoTimesTableModel" "failed") ∈ WT := wt_2 (i := 207) rfl rfl
theorem k448 : (Jvm.Cond.lays "TwoTimesTableModel" "TwoTimesTableModel" "thrown" "I") ∈ WT := wt_2 (i := 208) rfl rfl
theorem k449 : (Jvm.Cond.soleField "TwoTimesTableModel" "thrown") ∈ WT := wt_2 (i := 209) rfl rfl
theorem k450 : (Jvm.Cond.lays "TwoTimesTableModel" "TwoTimesTableModel" "changed" "I") ∈ WT := wt_2 (i := 210) rfl rfl
theorem k451 : (Jvm.Cond.soleField "TwoTimesTableModel" "changed") ∈ WT := wt_2 (i := 211) rfl rfl
theorem k452 : (Jvm.Cond.superclass "TwoTimesTableModel" "java/lang/Object") ∈ WT := wt_2 (i := 212) rfl rfl
theorem k453 : (Jvm.Cond.arrayClass Jvm.ClassFile.FieldType.boolean) ∈ WT := wt_2 (i := 213) rfl rfl
theorem k454 : (Jvm.Cond.methodLink "TwoTimesTableLaw" (66 : Nat) ({ cls := "TwoTimesTableModel", name := "thrown", desc := "()I" } : Jvm.MethodName)) ∈ WT := wt_2 (i := 214) rfl rfl
theorem k455 : (Jvm.Cond.instanceMethod ({ cls := "TwoTimesTableModel", name := "thrown", desc := "()I" } : Jvm.MethodName)) ∈ WT := wt_2 (i := 215) rfl rfl
theorem k456 : (Jvm.Cond.selects "TwoTimesTableModel" ({ cls := "TwoTimesTableModel", name := "thrown", desc := "()I" } : Jvm.MethodName) ({ cls := "TwoTimesTableModel", name := "thrown", desc := "()I" } : Jvm.MethodName)) ∈ WT := wt_2 (i := 216) rfl rfl
theorem k457 : (Jvm.Cond.code ({ cls := "TwoTimesTableModel", name := "thrown", desc := "()I" } : Jvm.MethodName) prog_5_method_2_code (1 : Nat) (Option.some Jvm.ClassFile.FieldType.int)) ∈ WT := wt_2 (i := 217) rfl rfl
theorem k458 : (Jvm.Cond.methodLink "TwoTimesTableLaw" (65 : Nat) ({ cls := "TwoTimesTableModel", name := "tick", desc := "()I" } : Jvm.MethodName)) ∈ WT := wt_2 (i := 218) rfl rfl
theorem k459 : (Jvm.Cond.instanceMethod ({ cls := "TwoTimesTableModel", name := "tick", desc := "()I" } : Jvm.MethodName)) ∈ WT := wt_2 (i := 219) rfl rfl
theorem k460 : (Jvm.Cond.selects "TwoTimesTableModel" ({ cls := "TwoTimesTableModel", name := "tick", desc := "()I" } : Jvm.MethodName) ({ cls := "TwoTimesTableModel", name := "tick", desc := "()I" } : Jvm.MethodName)) ∈ WT := wt_2 (i := 220) rfl rfl
theorem k461 : (Jvm.Cond.code ({ cls := "TwoTimesTableModel", name := "tick", desc := "()I" } : Jvm.MethodName) prog_5_method_8_code (2 : Nat) (Option.some Jvm.ClassFile.FieldType.int)) ∈ WT := wt_2 (i := 221) rfl rfl
theorem k462 : (Jvm.Cond.methodLink "TwoTimesTableModel" (36 : Nat) ({ cls := "TwoTimesTableModel", name := "fail", desc := "(I)I" } : Jvm.MethodName)) ∈ WT := wt_2 (i := 222) rfl rfl
theorem k463 : (Jvm.Cond.privateMethod ({ cls := "TwoTimesTableModel", name := "fail", desc := "(I)I" } : Jvm.MethodName)) ∈ lw_tbl := wn_2 (i := 223) rfl
theorem k464 : (Jvm.Cond.instanceMethod ({ cls := "TwoTimesTableModel", name := "fail", desc := "(I)I" } : Jvm.MethodName)) ∈ WT := wt_2 (i := 224) rfl rfl
theorem k465 : (Jvm.Cond.code ({ cls := "TwoTimesTableModel", name := "fail", desc := "(I)I" } : Jvm.MethodName) prog_5_method_3_code (2 : Nat) (Option.some Jvm.ClassFile.FieldType.int)) ∈ WT := wt_2 (i := 225) rfl rfl
theorem k466 : (Jvm.Cond.methodLink "TwoTimesTableLaw" (72 : Nat) ({ cls := "TwoTimesTableModel", name := "clock", desc := "()I" } : Jvm.MethodName)) ∈ WT := wt_2 (i := 226) rfl rfl
theorem k467 : (Jvm.Cond.instanceMethod ({ cls := "TwoTimesTableModel", name := "clock", desc := "()I" } : Jvm.MethodName)) ∈ WT := wt_2 (i := 227) rfl rfl
theorem k468 : (Jvm.Cond.selects "TwoTimesTableModel" ({ cls := "TwoTimesTableModel", name := "clock", desc := "()I" } : Jvm.MethodName) ({ cls := "TwoTimesTableModel", name := "clock", desc := "()I" } : Jvm.MethodName)) ∈ WT := wt_2 (i := 228) rfl rfl
theorem k469 : (Jvm.Cond.code ({ cls := "TwoTimesTableModel", name := "clock", desc := "()I" } : Jvm.MethodName) prog_5_method_9_code (1 : Nat) (Option.some Jvm.ClassFile.FieldType.int)) ∈ WT := wt_2 (i := 229) rfl rfl
theorem k470 : (Jvm.Cond.methodLink "TwoTimesTableLaw" (76 : Nat) ({ cls := "TwoTimesTableModel", name := "state", desc := "(IIIII)I" } : Jvm.MethodName)) ∈ WT := wt_2 (i := 230) rfl rfl
theorem k471 : (Jvm.Cond.instanceMethod ({ cls := "TwoTimesTableModel", name := "state", desc := "(IIIII)I" } : Jvm.MethodName)) ∈ WT := wt_2 (i := 231) rfl rfl
theorem k472 : (Jvm.Cond.selects "TwoTimesTableModel" ({ cls := "TwoTimesTableModel", name := "state", desc := "(IIIII)I" } : Jvm.MethodName) ({ cls := "TwoTimesTableModel", name := "state", desc := "(IIIII)I" } : Jvm.MethodName)) ∈ WT := wt_2 (i := 232) rfl rfl
theorem k473 : (Jvm.Cond.code ({ cls := "TwoTimesTableModel", name := "state", desc := "(IIIII)I" } : Jvm.MethodName) prog_5_method_21_code (7 : Nat) (Option.some Jvm.ClassFile.FieldType.int)) ∈ WT := wt_2 (i := 233) rfl rfl
theorem k474 : (Jvm.Cond.methodLink "TwoTimesTableModel" (84 : Nat) ({ cls := "TwoTimesTableModel", name := "keep", desc := "()V" } : Jvm.MethodName)) ∈ WT := wt_2 (i := 234) rfl rfl
theorem k475 : (Jvm.Cond.privateMethod ({ cls := "TwoTimesTableModel", name := "keep", desc := "()V" } : Jvm.MethodName)) ∈ lw_tbl := wn_2 (i := 235) rfl
theorem k476 : (Jvm.Cond.instanceMethod ({ cls := "TwoTimesTableModel", name := "keep", desc := "()V" } : Jvm.MethodName)) ∈ WT := wt_2 (i := 236) rfl rfl
theorem k477 : (Jvm.Cond.code ({ cls := "TwoTimesTableModel", name := "keep", desc := "()V" } : Jvm.MethodName) prog_5_method_16_code (2 : Nat) (Option.none : Option Jvm.ClassFile.FieldType)) ∈ WT := wt_2 (i := 237) rfl rfl
theorem k478 : (Jvm.Cond.methodLink "TwoTimesTableModel" (87 : Nat) ({ cls := "TwoTimesTableModel", name := "perform", desc := "(IIIII)I" } : Jvm.MethodName)) ∈ WT := wt_2 (i := 238) rfl rfl
theorem k479 : (Jvm.Cond.privateMethod ({ cls := "TwoTimesTableModel", name := "perform", desc := "(IIIII)I" } : Jvm.MethodName)) ∈ lw_tbl := wn_2 (i := 239) rfl
theorem k480 : (Jvm.Cond.instanceMethod ({ cls := "TwoTimesTableModel", name := "perform", desc := "(IIIII)I" } : Jvm.MethodName)) ∈ WT := wt_3 (i := 0) rfl rfl
theorem k481 : (Jvm.Cond.code ({ cls := "TwoTimesTableModel", name := "perform", desc := "(IIIII)I" } : Jvm.MethodName) prog_5_method_20_code (8 : Nat) (Option.some Jvm.ClassFile.FieldType.int)) ∈ WT := wt_3 (i := 1) rfl rfl
theorem k482 : (Jvm.Cond.methodLink "TwoTimesTableModel" (65 : Nat) ({ cls := "TwoTimesTableModel", name := "isKey", desc := "(I)Z" } : Jvm.MethodName)) ∈ WT := wt_3 (i := 2) rfl rfl
theorem k483 : (Jvm.Cond.static ({ cls := "TwoTimesTableModel", name := "isKey", desc := "(I)Z" } : Jvm.MethodName)) ∈ WT := wt_3 (i := 3) rfl rfl
theorem k484 : (Jvm.Cond.code ({ cls := "TwoTimesTableModel", name := "isKey", desc := "(I)Z" } : Jvm.MethodName) prog_5_method_4_code (1 : Nat) (Option.some Jvm.ClassFile.FieldType.boolean)) ∈ WT := wt_3 (i := 4) rfl rfl
theorem k485 : (Jvm.Cond.methodLink "TwoTimesTableModel" (69 : Nat) ({ cls := "TwoTimesTableModel", name := "isPeriod", desc := "(II)Z" } : Jvm.MethodName)) ∈ WT := wt_3 (i := 5) rfl rfl
theorem k486 : (Jvm.Cond.static ({ cls := "TwoTimesTableModel", name := "isPeriod", desc := "(II)Z" } : Jvm.MethodName)) ∈ WT := wt_3 (i := 6) rfl rfl
theorem k487 : (Jvm.Cond.code ({ cls := "TwoTimesTableModel", name := "isPeriod", desc := "(II)Z" } : Jvm.MethodName) prog_5_method_5_code (2 : Nat) (Option.some Jvm.ClassFile.FieldType.boolean)) ∈ WT := wt_3 (i := 7) rfl rfl
theorem k488 : (Jvm.Cond.methodLink "TwoTimesTableModel" (73 : Nat) ({ cls := "TwoTimesTableModel", name := "heldIn", desc := "(III)I" } : Jvm.MethodName)) ∈ WT := wt_3 (i := 8) rfl rfl
theorem k489 : (Jvm.Cond.privateMethod ({ cls := "TwoTimesTableModel", name := "heldIn", desc := "(III)I" } : Jvm.MethodName)) ∈ lw_tbl := wn_3 (i := 9) rfl
theorem k490 : (Jvm.Cond.instanceMethod ({ cls := "TwoTimesTableModel", name := "heldIn", desc := "(III)I" } : Jvm.MethodName)) ∈ WT := wt_3 (i := 10) rfl rfl
theorem k491 : (Jvm.Cond.code ({ cls := "TwoTimesTableModel", name := "heldIn", desc := "(III)I" } : Jvm.MethodName) prog_5_method_18_code (6 : Nat) (Option.some Jvm.ClassFile.FieldType.int)) ∈ WT := wt_3 (i := 11) rfl rfl
theorem k492 : (Jvm.Cond.methodLink "TwoTimesTableModel" (40 : Nat) ({ cls := "TwoTimesTableModel", name := "place", desc := "(III)I" } : Jvm.MethodName)) ∈ WT := wt_3 (i := 12) rfl rfl
theorem k493 : (Jvm.Cond.static ({ cls := "TwoTimesTableModel", name := "place", desc := "(III)I" } : Jvm.MethodName)) ∈ WT := wt_3 (i := 13) rfl rfl
theorem k494 : (Jvm.Cond.code ({ cls := "TwoTimesTableModel", name := "place", desc := "(III)I" } : Jvm.MethodName) prog_5_method_7_code (3 : Nat) (Option.some Jvm.ClassFile.FieldType.int)) ∈ WT := wt_3 (i := 14) rfl rfl
theorem k495 : (Jvm.Cond.methodLink "TwoTimesTableModel" (76 : Nat) ({ cls := "TwoTimesTableModel", name := "change", desc := "(III)V" } : Jvm.MethodName)) ∈ WT := wt_3 (i := 15) rfl rfl
theorem k496 : (Jvm.Cond.privateMethod ({ cls := "TwoTimesTableModel", name := "change", desc := "(III)V" } : Jvm.MethodName)) ∈ lw_tbl := wn_3 (i := 16) rfl
theorem k497 : (Jvm.Cond.instanceMethod ({ cls := "TwoTimesTableModel", name := "change", desc := "(III)V" } : Jvm.MethodName)) ∈ WT := wt_3 (i := 17) rfl rfl
theorem k498 : (Jvm.Cond.code ({ cls := "TwoTimesTableModel", name := "change", desc := "(III)V" } : Jvm.MethodName) prog_5_method_19_code (8 : Nat) (Option.none : Option Jvm.ClassFile.FieldType)) ∈ WT := wt_3 (i := 18) rfl rfl
theorem k499 : (Jvm.Cond.methodLink "TwoTimesTableModel" (80 : Nat) ({ cls := "TwoTimesTableModel", name := "countRows", desc := "()I" } : Jvm.MethodName)) ∈ WT := wt_3 (i := 19) rfl rfl
theorem k500 : (Jvm.Cond.privateMethod ({ cls := "TwoTimesTableModel", name := "countRows", desc := "()I" } : Jvm.MethodName)) ∈ lw_tbl := wn_3 (i := 20) rfl
theorem k501 : (Jvm.Cond.instanceMethod ({ cls := "TwoTimesTableModel", name := "countRows", desc := "()I" } : Jvm.MethodName)) ∈ WT := wt_3 (i := 21) rfl rfl
theorem k502 : (Jvm.Cond.code ({ cls := "TwoTimesTableModel", name := "countRows", desc := "()I" } : Jvm.MethodName) prog_5_method_15_code (5 : Nat) (Option.some Jvm.ClassFile.FieldType.int)) ∈ WT := wt_3 (i := 22) rfl rfl
theorem k503 : (Jvm.Cond.methodLink "TwoTimesTableModel" (59 : Nat) ({ cls := "TwoTimesTableModel", name := "isRow", desc := "(III)Z" } : Jvm.MethodName)) ∈ WT := wt_3 (i := 23) rfl rfl
theorem k504 : (Jvm.Cond.privateMethod ({ cls := "TwoTimesTableModel", name := "isRow", desc := "(III)Z" } : Jvm.MethodName)) ∈ lw_tbl := wn_3 (i := 24) rfl
theorem k505 : (Jvm.Cond.instanceMethod ({ cls := "TwoTimesTableModel", name := "isRow", desc := "(III)Z" } : Jvm.MethodName)) ∈ WT := wt_3 (i := 25) rfl rfl
theorem k506 : (Jvm.Cond.code ({ cls := "TwoTimesTableModel", name := "isRow", desc := "(III)Z" } : Jvm.MethodName) prog_5_method_14_code (4 : Nat) (Option.some Jvm.ClassFile.FieldType.boolean)) ∈ WT := wt_3 (i := 26) rfl rfl
theorem k507 : (Jvm.Cond.methodLink "TwoTimesTableModel" (48 : Nat) ({ cls := "TwoTimesTableModel", name := "begins", desc := "(III)Z" } : Jvm.MethodName)) ∈ WT := wt_3 (i := 27) rfl rfl
theorem k508 : (Jvm.Cond.privateMethod ({ cls := "TwoTimesTableModel", name := "begins", desc := "(III)Z" } : Jvm.MethodName)) ∈ lw_tbl := wn_3 (i := 28) rfl
theorem k509 : (Jvm.Cond.instanceMethod ({ cls := "TwoTimesTableModel", name := "begins", desc := "(III)Z" } : Jvm.MethodName)) ∈ WT := wt_3 (i := 29) rfl rfl
theorem k510 : (Jvm.Cond.code ({ cls := "TwoTimesTableModel", name := "begins", desc := "(III)Z" } : Jvm.MethodName) prog_5_method_11_code (4 : Nat) (Option.some Jvm.ClassFile.FieldType.boolean)) ∈ WT := wt_3 (i := 30) rfl rfl
theorem k511 : (Jvm.Cond.methodLink "TwoTimesTableModel" (44 : Nat) ({ cls := "TwoTimesTableModel", name := "alike", desc := "(IIII)Z" } : Jvm.MethodName)) ∈ WT := wt_3 (i := 31) rfl rfl
theorem k512 : (Jvm.Cond.privateMethod ({ cls := "TwoTimesTableModel", name := "alike", desc := "(IIII)Z" } : Jvm.MethodName)) ∈ lw_tbl := wn_3 (i := 32) rfl
theorem k513 : (Jvm.Cond.instanceMethod ({ cls := "TwoTimesTableModel", name := "alike", desc := "(IIII)Z" } : Jvm.MethodName)) ∈ WT := wt_3 (i := 33) rfl rfl
theorem k514 : (Jvm.Cond.code ({ cls := "TwoTimesTableModel", name := "alike", desc := "(IIII)Z" } : Jvm.MethodName) prog_5_method_10_code (7 : Nat) (Option.some Jvm.ClassFile.FieldType.boolean)) ∈ WT := wt_3 (i := 34) rfl rfl
theorem k515 : (Jvm.Cond.methodLink "TwoTimesTableModel" (52 : Nat) ({ cls := "TwoTimesTableModel", name := "endOf", desc := "(III)I" } : Jvm.MethodName)) ∈ WT := wt_3 (i := 35) rfl rfl
theorem k516 : (Jvm.Cond.privateMethod ({ cls := "TwoTimesTableModel", name := "endOf", desc := "(III)I" } : Jvm.MethodName)) ∈ lw_tbl := wn_3 (i := 36) rfl
theorem k517 : (Jvm.Cond.instanceMethod ({ cls := "TwoTimesTableModel", name := "endOf", desc := "(III)I" } : Jvm.MethodName)) ∈ WT := wt_3 (i := 37) rfl rfl
theorem k518 : (Jvm.Cond.code ({ cls := "TwoTimesTableModel", name := "endOf", desc := "(III)I" } : Jvm.MethodName) prog_5_method_12_code (5 : Nat) (Option.some Jvm.ClassFile.FieldType.int)) ∈ WT := wt_3 (i := 38) rfl rfl
theorem k519 : (Jvm.Cond.methodLink "TwoTimesTableModel" (55 : Nat) ({ cls := "TwoTimesTableModel", name := "isRun", desc := "(IIIII)Z" } : Jvm.MethodName)) ∈ WT := wt_3 (i := 39) rfl rfl
theorem k520 : (Jvm.Cond.privateMethod ({ cls := "TwoTimesTableModel", name := "isRun", desc := "(IIIII)Z" } : Jvm.MethodName)) ∈ lw_tbl := wn_3 (i := 40) rfl
theorem k521 : (Jvm.Cond.instanceMethod ({ cls := "TwoTimesTableModel", name := "isRun", desc := "(IIIII)Z" } : Jvm.MethodName)) ∈ WT := wt_3 (i := 41) rfl rfl
theorem k522 : (Jvm.Cond.code ({ cls := "TwoTimesTableModel", name := "isRun", desc := "(IIIII)Z" } : Jvm.MethodName) prog_5_method_13_code (6 : Nat) (Option.some Jvm.ClassFile.FieldType.boolean)) ∈ WT := wt_3 (i := 42) rfl rfl
theorem k523 : (Jvm.Cond.methodLink "TwoTimesTableModel" (91 : Nat) ({ cls := "TwoTimesTableModel", name := "goBack", desc := "()V" } : Jvm.MethodName)) ∈ WT := wt_3 (i := 43) rfl rfl
theorem k524 : (Jvm.Cond.privateMethod ({ cls := "TwoTimesTableModel", name := "goBack", desc := "()V" } : Jvm.MethodName)) ∈ lw_tbl := wn_3 (i := 44) rfl
theorem k525 : (Jvm.Cond.instanceMethod ({ cls := "TwoTimesTableModel", name := "goBack", desc := "()V" } : Jvm.MethodName)) ∈ WT := wt_3 (i := 45) rfl rfl
theorem k526 : (Jvm.Cond.code ({ cls := "TwoTimesTableModel", name := "goBack", desc := "()V" } : Jvm.MethodName) prog_5_method_17_code (2 : Nat) (Option.none : Option Jvm.ClassFile.FieldType)) ∈ WT := wt_3 (i := 46) rfl rfl
theorem k527 : (Jvm.Cond.methodLink "TwoTimesTableLaw" (81 : Nat) ({ cls := "TwoTimesTableModel", name := "queue", desc := "(IIIII)Z" } : Jvm.MethodName)) ∈ WT := wt_3 (i := 47) rfl rfl
theorem k528 : (Jvm.Cond.instanceMethod ({ cls := "TwoTimesTableModel", name := "queue", desc := "(IIIII)Z" } : Jvm.MethodName)) ∈ WT := wt_3 (i := 48) rfl rfl
theorem k529 : (Jvm.Cond.selects "TwoTimesTableModel" ({ cls := "TwoTimesTableModel", name := "queue", desc := "(IIIII)Z" } : Jvm.MethodName) ({ cls := "TwoTimesTableModel", name := "queue", desc := "(IIIII)Z" } : Jvm.MethodName)) ∈ WT := wt_3 (i := 49) rfl rfl
theorem k530 : (Jvm.Cond.code ({ cls := "TwoTimesTableModel", name := "queue", desc := "(IIIII)Z" } : Jvm.MethodName) prog_5_method_22_code (6 : Nat) (Option.some Jvm.ClassFile.FieldType.boolean)) ∈ WT := wt_3 (i := 50) rfl rfl
theorem k531 : (Jvm.Cond.methodLink "TwoTimesTableLaw" (84 : Nat) ({ cls := "TwoTimesTableModel", name := "commit", desc := "()I" } : Jvm.MethodName)) ∈ WT := wt_3 (i := 51) rfl rfl
theorem k532 : (Jvm.Cond.instanceMethod ({ cls := "TwoTimesTableModel", name := "commit", desc := "()I" } : Jvm.MethodName)) ∈ WT := wt_3 (i := 52) rfl rfl
theorem k533 : (Jvm.Cond.selects "TwoTimesTableModel" ({ cls := "TwoTimesTableModel", name := "commit", desc := "()I" } : Jvm.MethodName) ({ cls := "TwoTimesTableModel", name := "commit", desc := "()I" } : Jvm.MethodName)) ∈ WT := wt_3 (i := 53) rfl rfl
theorem k534 : (Jvm.Cond.code ({ cls := "TwoTimesTableModel", name := "commit", desc := "()I" } : Jvm.MethodName) prog_5_method_23_code (5 : Nat) (Option.some Jvm.ClassFile.FieldType.int)) ∈ WT := wt_3 (i := 54) rfl rfl
theorem k535 : (Jvm.Cond.methodLink "TwoTimesTableLaw" (88 : Nat) ({ cls := "TwoTimesTableModel", name := "failed", desc := "()I" } : Jvm.MethodName)) ∈ WT := wt_3 (i := 55) rfl rfl
theorem k536 : (Jvm.Cond.instanceMethod ({ cls := "TwoTimesTableModel", name := "failed", desc := "()I" } : Jvm.MethodName)) ∈ WT := wt_3 (i := 56) rfl rfl
theorem k537 : (Jvm.Cond.selects "TwoTimesTableModel" ({ cls := "TwoTimesTableModel", name := "failed", desc := "()I" } : Jvm.MethodName) ({ cls := "TwoTimesTableModel", name := "failed", desc := "()I" } : Jvm.MethodName)) ∈ WT := wt_3 (i := 57) rfl rfl
theorem k538 : (Jvm.Cond.code ({ cls := "TwoTimesTableModel", name := "failed", desc := "()I" } : Jvm.MethodName) prog_5_method_24_code (1 : Nat) (Option.some Jvm.ClassFile.FieldType.int)) ∈ WT := wt_3 (i := 58) rfl rfl
theorem k539 : (Jvm.Cond.methodLink "TwoTimesTableLaw" (92 : Nat) ({ cls := "TwoTimesTableModel", name := "value", desc := "(III)I" } : Jvm.MethodName)) ∈ WT := wt_3 (i := 59) rfl rfl
theorem k540 : (Jvm.Cond.instanceMethod ({ cls := "TwoTimesTableModel", name := "value", desc := "(III)I" } : Jvm.MethodName)) ∈ WT := wt_3 (i := 60) rfl rfl
theorem k541 : (Jvm.Cond.selects "TwoTimesTableModel" ({ cls := "TwoTimesTableModel", name := "value", desc := "(III)I" } : Jvm.MethodName) ({ cls := "TwoTimesTableModel", name := "value", desc := "(III)I" } : Jvm.MethodName)) ∈ WT := wt_3 (i := 61) rfl rfl
theorem k542 : (Jvm.Cond.code ({ cls := "TwoTimesTableModel", name := "value", desc := "(III)I" } : Jvm.MethodName) prog_5_method_26_code (5 : Nat) (Option.some Jvm.ClassFile.FieldType.int)) ∈ WT := wt_3 (i := 62) rfl rfl
theorem k543 : (Jvm.Cond.methodLink "TwoTimesTableModel" (97 : Nat) ({ cls := "TwoTimesTableModel", name := "isDay", desc := "(I)Z" } : Jvm.MethodName)) ∈ WT := wt_3 (i := 63) rfl rfl
theorem k544 : (Jvm.Cond.static ({ cls := "TwoTimesTableModel", name := "isDay", desc := "(I)Z" } : Jvm.MethodName)) ∈ WT := wt_3 (i := 64) rfl rfl
theorem k545 : (Jvm.Cond.code ({ cls := "TwoTimesTableModel", name := "isDay", desc := "(I)Z" } : Jvm.MethodName) prog_5_method_25_code (1 : Nat) (Option.some Jvm.ClassFile.FieldType.boolean)) ∈ WT := wt_3 (i := 65) rfl rfl
theorem k546 : (Jvm.Cond.methodLink "TwoTimesTableModel" (100 : Nat) ({ cls := "TwoTimesTableModel", name := "isTime", desc := "(I)Z" } : Jvm.MethodName)) ∈ WT := wt_3 (i := 66) rfl rfl
theorem k547 : (Jvm.Cond.privateMethod ({ cls := "TwoTimesTableModel", name := "isTime", desc := "(I)Z" } : Jvm.MethodName)) ∈ lw_tbl := wn_3 (i := 67) rfl
theorem k548 : (Jvm.Cond.instanceMethod ({ cls := "TwoTimesTableModel", name := "isTime", desc := "(I)Z" } : Jvm.MethodName)) ∈ WT := wt_3 (i := 68) rfl rfl
theorem k549 : (Jvm.Cond.code ({ cls := "TwoTimesTableModel", name := "isTime", desc := "(I)Z" } : Jvm.MethodName) prog_5_method_6_code (2 : Nat) (Option.some Jvm.ClassFile.FieldType.boolean)) ∈ WT := wt_3 (i := 69) rfl rfl
theorem k550 : (Jvm.Cond.methodLink "TwoTimesTableLaw" (97 : Nat) ({ cls := "TwoTimesTableModel", name := "has", desc := "(III)Z" } : Jvm.MethodName)) ∈ WT := wt_3 (i := 70) rfl rfl
theorem k551 : (Jvm.Cond.instanceMethod ({ cls := "TwoTimesTableModel", name := "has", desc := "(III)Z" } : Jvm.MethodName)) ∈ WT := wt_3 (i := 71) rfl rfl
theorem k552 : (Jvm.Cond.selects "TwoTimesTableModel" ({ cls := "TwoTimesTableModel", name := "has", desc := "(III)Z" } : Jvm.MethodName) ({ cls := "TwoTimesTableModel", name := "has", desc := "(III)Z" } : Jvm.MethodName)) ∈ WT := wt_3 (i := 72) rfl rfl
theorem k553 : (Jvm.Cond.code ({ cls := "TwoTimesTableModel", name := "has", desc := "(III)Z" } : Jvm.MethodName) prog_5_method_27_code (4 : Nat) (Option.some Jvm.ClassFile.FieldType.boolean)) ∈ WT := wt_3 (i := 73) rfl rfl
theorem k554 : (Jvm.Cond.methodLink "TwoTimesTableLaw" (101 : Nat) ({ cls := "TwoTimesTableModel", name := "sum", desc := "(IIII)J" } : Jvm.MethodName)) ∈ WT := wt_3 (i := 74) rfl rfl
theorem k555 : (Jvm.Cond.instanceMethod ({ cls := "TwoTimesTableModel", name := "sum", desc := "(IIII)J" } : Jvm.MethodName)) ∈ WT := wt_3 (i := 75) rfl rfl
theorem k556 : (Jvm.Cond.selects "TwoTimesTableModel" ({ cls := "TwoTimesTableModel", name := "sum", desc := "(IIII)J" } : Jvm.MethodName) ({ cls := "TwoTimesTableModel", name := "sum", desc := "(IIII)J" } : Jvm.MethodName)) ∈ WT := wt_3 (i := 76) rfl rfl
theorem k557 : (Jvm.Cond.code ({ cls := "TwoTimesTableModel", name := "sum", desc := "(IIII)J" } : Jvm.MethodName) prog_5_method_28_code (8 : Nat) (Option.some Jvm.ClassFile.FieldType.long)) ∈ WT := wt_3 (i := 77) rfl rfl
theorem k558 : (Jvm.Cond.methodLink "TwoTimesTableLaw" (105 : Nat) ({ cls := "TwoTimesTableModel", name := "runs", desc := "(II)I" } : Jvm.MethodName)) ∈ WT := wt_3 (i := 78) rfl rfl
theorem k559 : (Jvm.Cond.instanceMethod ({ cls := "TwoTimesTableModel", name := "runs", desc := "(II)I" } : Jvm.MethodName)) ∈ WT := wt_3 (i := 79) rfl rfl
theorem k560 : (Jvm.Cond.selects "TwoTimesTableModel" ({ cls := "TwoTimesTableModel", name := "runs", desc := "(II)I" } : Jvm.MethodName) ({ cls := "TwoTimesTableModel", name := "runs", desc := "(II)I" } : Jvm.MethodName)) ∈ WT := wt_3 (i := 80) rfl rfl
theorem k561 : (Jvm.Cond.code ({ cls := "TwoTimesTableModel", name := "runs", desc := "(II)I" } : Jvm.MethodName) prog_5_method_29_code (5 : Nat) (Option.some Jvm.ClassFile.FieldType.int)) ∈ WT := wt_3 (i := 81) rfl rfl
theorem k562 : (Jvm.Cond.methodLink "TwoTimesTableLaw" (108 : Nat) ({ cls := "TwoTimesTableModel", name := "run", desc := "(IIII)I" } : Jvm.MethodName)) ∈ WT := wt_3 (i := 82) rfl rfl
theorem k563 : (Jvm.Cond.instanceMethod ({ cls := "TwoTimesTableModel", name := "run", desc := "(IIII)I" } : Jvm.MethodName)) ∈ WT := wt_3 (i := 83) rfl rfl
theorem k564 : (Jvm.Cond.selects "TwoTimesTableModel" ({ cls := "TwoTimesTableModel", name := "run", desc := "(IIII)I" } : Jvm.MethodName) ({ cls := "TwoTimesTableModel", name := "run", desc := "(IIII)I" } : Jvm.MethodName)) ∈ WT := wt_3 (i := 84) rfl rfl
theorem k565 : (Jvm.Cond.code ({ cls := "TwoTimesTableModel", name := "run", desc := "(IIII)I" } : Jvm.MethodName) prog_5_method_30_code (7 : Nat) (Option.some Jvm.ClassFile.FieldType.int)) ∈ WT := wt_3 (i := 85) rfl rfl
theorem k566 : (Jvm.Cond.methodLink "TwoTimesTableLaw" (112 : Nat) ({ cls := "TwoTimesTableModel", name := "rows", desc := "()I" } : Jvm.MethodName)) ∈ WT := wt_3 (i := 86) rfl rfl
theorem k567 : (Jvm.Cond.instanceMethod ({ cls := "TwoTimesTableModel", name := "rows", desc := "()I" } : Jvm.MethodName)) ∈ WT := wt_3 (i := 87) rfl rfl
theorem k568 : (Jvm.Cond.selects "TwoTimesTableModel" ({ cls := "TwoTimesTableModel", name := "rows", desc := "()I" } : Jvm.MethodName) ({ cls := "TwoTimesTableModel", name := "rows", desc := "()I" } : Jvm.MethodName)) ∈ WT := wt_3 (i := 88) rfl rfl
theorem k569 : (Jvm.Cond.code ({ cls := "TwoTimesTableModel", name := "rows", desc := "()I" } : Jvm.MethodName) prog_5_method_31_code (1 : Nat) (Option.some Jvm.ClassFile.FieldType.int)) ∈ WT := wt_3 (i := 89) rfl rfl
theorem k570 : (Jvm.Cond.methodLink "TwoTimesTableLaw" (115 : Nat) ({ cls := "TwoTimesTableModel", name := "row", desc := "(II)I" } : Jvm.MethodName)) ∈ WT := wt_3 (i := 90) rfl rfl
theorem k571 : (Jvm.Cond.instanceMethod ({ cls := "TwoTimesTableModel", name := "row", desc := "(II)I" } : Jvm.MethodName)) ∈ WT := wt_3 (i := 91) rfl rfl
theorem k572 : (Jvm.Cond.selects "TwoTimesTableModel" ({ cls := "TwoTimesTableModel", name := "row", desc := "(II)I" } : Jvm.MethodName) ({ cls := "TwoTimesTableModel", name := "row", desc := "(II)I" } : Jvm.MethodName)) ∈ WT := wt_3 (i := 92) rfl rfl
theorem k573 : (Jvm.Cond.code ({ cls := "TwoTimesTableModel", name := "row", desc := "(II)I" } : Jvm.MethodName) prog_5_method_33_code (7 : Nat) (Option.some Jvm.ClassFile.FieldType.int)) ∈ WT := wt_3 (i := 93) rfl rfl
theorem k574 : (Jvm.Cond.methodLink "TwoTimesTableModel" (103 : Nat) ({ cls := "TwoTimesTableModel", name := "endTime", desc := "(III)I" } : Jvm.MethodName)) ∈ WT := wt_3 (i := 94) rfl rfl
theorem k575 : (Jvm.Cond.privateMethod ({ cls := "TwoTimesTableModel", name := "endTime", desc := "(III)I" } : Jvm.MethodName)) ∈ lw_tbl := wn_3 (i := 95) rfl
theorem k576 : (Jvm.Cond.instanceMethod ({ cls := "TwoTimesTableModel", name := "endTime", desc := "(III)I" } : Jvm.MethodName)) ∈ WT := wt_3 (i := 96) rfl rfl
theorem k577 : (Jvm.Cond.code ({ cls := "TwoTimesTableModel", name := "endTime", desc := "(III)I" } : Jvm.MethodName) prog_5_method_32_code (7 : Nat) (Option.some Jvm.ClassFile.FieldType.int)) ∈ WT := wt_3 (i := 97) rfl rfl
theorem k578 : (Jvm.Cond.methodLink "TwoTimesTableLaw" (118 : Nat) ({ cls := "TwoTimesTableModel", name := "changes", desc := "(II)I" } : Jvm.MethodName)) ∈ WT := wt_3 (i := 98) rfl rfl
theorem k579 : (Jvm.Cond.instanceMethod ({ cls := "TwoTimesTableModel", name := "changes", desc := "(II)I" } : Jvm.MethodName)) ∈ WT := wt_3 (i := 99) rfl rfl
theorem k580 : (Jvm.Cond.selects "TwoTimesTableModel" ({ cls := "TwoTimesTableModel", name := "changes", desc := "(II)I" } : Jvm.MethodName) ({ cls := "TwoTimesTableModel", name := "changes", desc := "(II)I" } : Jvm.MethodName)) ∈ WT := wt_3 (i := 100) rfl rfl
theorem k581 : (Jvm.Cond.code ({ cls := "TwoTimesTableModel", name := "changes", desc := "(II)I" } : Jvm.MethodName) prog_5_method_34_code (7 : Nat) (Option.some Jvm.ClassFile.FieldType.int)) ∈ WT := wt_3 (i := 101) rfl rfl
theorem k582 : (Jvm.Cond.methodLink "TwoTimesTableLaw" (121 : Nat) ({ cls := "TwoTimesTableModel", name := "relation", desc := "(IIII)I" } : Jvm.MethodName)) ∈ WT := wt_3 (i := 102) rfl rfl
theorem k583 : (Jvm.Cond.instanceMethod ({ cls := "TwoTimesTableModel", name := "relation", desc := "(IIII)I" } : Jvm.MethodName)) ∈ WT := wt_3 (i := 103) rfl rfl
theorem k584 : (Jvm.Cond.selects "TwoTimesTableModel" ({ cls := "TwoTimesTableModel", name := "relation", desc := "(IIII)I" } : Jvm.MethodName) ({ cls := "TwoTimesTableModel", name := "relation", desc := "(IIII)I" } : Jvm.MethodName)) ∈ WT := wt_3 (i := 104) rfl rfl
theorem k585 : (Jvm.Cond.code ({ cls := "TwoTimesTableModel", name := "relation", desc := "(IIII)I" } : Jvm.MethodName) prog_5_method_37_code (5 : Nat) (Option.some Jvm.ClassFile.FieldType.int)) ∈ WT := wt_3 (i := 105) rfl rfl
theorem k586 : (Jvm.Cond.methodLink "TwoTimesTableModel" (110 : Nat) ({ cls := "TwoTimesTableModel", name := "lies", desc := "(IIII)I" } : Jvm.MethodName)) ∈ WT := wt_3 (i := 106) rfl rfl
theorem k587 : (Jvm.Cond.static ({ cls := "TwoTimesTableModel", name := "lies", desc := "(IIII)I" } : Jvm.MethodName)) ∈ WT := wt_3 (i := 107) rfl rfl
theorem k588 : (Jvm.Cond.code ({ cls := "TwoTimesTableModel", name := "lies", desc := "(IIII)I" } : Jvm.MethodName) prog_5_method_36_code (5 : Nat) (Option.some Jvm.ClassFile.FieldType.int)) ∈ WT := wt_3 (i := 108) rfl rfl
theorem k589 : (Jvm.Cond.methodLink "TwoTimesTableModel" (106 : Nat) ({ cls := "TwoTimesTableModel", name := "early", desc := "(IIII)I" } : Jvm.MethodName)) ∈ WT := wt_3 (i := 109) rfl rfl
theorem k590 : (Jvm.Cond.static ({ cls := "TwoTimesTableModel", name := "early", desc := "(IIII)I" } : Jvm.MethodName)) ∈ WT := wt_3 (i := 110) rfl rfl
theorem k591 : (Jvm.Cond.code ({ cls := "TwoTimesTableModel", name := "early", desc := "(IIII)I" } : Jvm.MethodName) prog_5_method_35_code (4 : Nat) (Option.some Jvm.ClassFile.FieldType.int)) ∈ WT := wt_3 (i := 111) rfl rfl
theorem k592 : (Jvm.Cond.methodLink "TwoTimesTableLaw" (124 : Nat) ({ cls := "TwoTimesTableModel", name := "join", desc := "(IIII)I" } : Jvm.MethodName)) ∈ WT := wt_3 (i := 112) rfl rfl
theorem k593 : (Jvm.Cond.instanceMethod ({ cls := "TwoTimesTableModel", name := "join", desc := "(IIII)I" } : Jvm.MethodName)) ∈ WT := wt_3 (i := 113) rfl rfl
theorem k594 : (Jvm.Cond.selects "TwoTimesTableModel" ({ cls := "TwoTimesTableModel", name := "join", desc := "(IIII)I" } : Jvm.MethodName) ({ cls := "TwoTimesTableModel", name := "join", desc := "(IIII)I" } : Jvm.MethodName)) ∈ WT := wt_3 (i := 114) rfl rfl
theorem k595 : (Jvm.Cond.code ({ cls := "TwoTimesTableModel", name := "join", desc := "(IIII)I" } : Jvm.MethodName) prog_5_method_38_code (9 : Nat) (Option.some Jvm.ClassFile.FieldType.int)) ∈ WT := wt_3 (i := 115) rfl rfl
theorem k596 : (Jvm.Cond.arrayClass Jvm.ClassFile.FieldType.long) ∈ WT := wt_3 (i := 116) rfl rfl
theorem k597 : (Jvm.Cond.sameMethod "java/lang/Throwable" "java/lang/Throwable" "fillInStackTrace" "(I)Ljava/lang/Throwable;") ∈ WT := wt_3 (i := 117) rfl rfl
theorem k598 : (Jvm.Cond.castable "TwoTimesTable" "java/lang/Object") ∈ lw_tbl := wn_3 (i := 118) rfl
theorem k599 : (Jvm.Cond.castable "TwoTimesTable$States" "java/lang/Object") ∈ lw_tbl := wn_3 (i := 119) rfl
theorem k600 : (Jvm.Cond.castable "TwoTimesTable$Waiting" "java/lang/Object") ∈ lw_tbl := wn_3 (i := 120) rfl
theorem k601 : (Jvm.Cond.castable "TwoTimesTableModel" "java/lang/Object") ∈ lw_tbl := wn_3 (i := 121) rfl
theorem k602 : (Jvm.Cond.castable "java/lang/IllegalStateException" "java/lang/Object") ∈ lw_tbl := wn_3 (i := 122) rfl
theorem k603 : (Jvm.Cond.castable "java/lang/IllegalArgumentException" "java/lang/Object") ∈ lw_tbl := wn_3 (i := 123) rfl
theorem k604 : (Jvm.Cond.castable "java/util/NoSuchElementException" "java/lang/Object") ∈ lw_tbl := wn_3 (i := 124) rfl
theorem k605 : (Jvm.Cond.castable "java/lang/IndexOutOfBoundsException" "java/lang/Object") ∈ lw_tbl := wn_3 (i := 125) rfl
theorem k606 : (Jvm.Cond.castable "java/lang/Throwable" "java/lang/Object") ∈ lw_tbl := wn_3 (i := 126) rfl
theorem s0 : (Cond.selects "TwoTimesTable" ⟨"TwoTimesTable", "isTime", "(I)Z"⟩ ⟨"TwoTimesTable", "isTime", "(I)Z"⟩) ∈ WT := wt_s (i := 0) rfl rfl
theorem s1 : (Cond.selects "java/lang/Throwable" ⟨"java/lang/Throwable", "fillInStackTrace", "(I)Ljava/lang/Throwable;"⟩ ⟨"java/lang/Throwable", "fillInStackTrace", "(I)Ljava/lang/Throwable;"⟩) ∈ WT := wt_s (i := 1) rfl rfl
theorem s2 : (Cond.selects "TwoTimesTable$States" ⟨"TwoTimesTable$States", "copyState", "(II)V"⟩ ⟨"TwoTimesTable$States", "copyState", "(II)V"⟩) ∈ WT := wt_s (i := 2) rfl rfl
theorem s3 : (Cond.selects "TwoTimesTable$States" ⟨"TwoTimesTable$States", "changeDay", "(IIII)Z"⟩ ⟨"TwoTimesTable$States", "changeDay", "(IIII)Z"⟩) ∈ WT := wt_s (i := 3) rfl rfl
theorem s4 : (Cond.selects "TwoTimesTable$States" ⟨"TwoTimesTable$States", "recountRows", "(I)V"⟩ ⟨"TwoTimesTable$States", "recountRows", "(I)V"⟩) ∈ WT := wt_s (i := 4) rfl rfl
theorem s5 : (Cond.selects "TwoTimesTable$States" ⟨"TwoTimesTable$States", "startsRow", "(II)Z"⟩ ⟨"TwoTimesTable$States", "startsRow", "(II)Z"⟩) ∈ WT := wt_s (i := 5) rfl rfl
theorem s6 : (Cond.selects "TwoTimesTable$States" ⟨"TwoTimesTable$States", "continuesRun", "(II)Z"⟩ ⟨"TwoTimesTable$States", "continuesRun", "(II)Z"⟩) ∈ WT := wt_s (i := 6) rfl rfl
theorem s7 : (Cond.selects "TwoTimesTable$States" ⟨"TwoTimesTable$States", "sharesRun", "(III)Z"⟩ ⟨"TwoTimesTable$States", "sharesRun", "(III)Z"⟩) ∈ WT := wt_s (i := 7) rfl rfl
theorem s8 : (Cond.selects "TwoTimesTable$States" ⟨"TwoTimesTable$States", "rowStart", "(II)I"⟩ ⟨"TwoTimesTable$States", "rowStart", "(II)I"⟩) ∈ WT := wt_s (i := 8) rfl rfl
theorem s9 : (Cond.selects "TwoTimesTable$States" ⟨"TwoTimesTable$States", "partOfRow", "(IIII)I"⟩ ⟨"TwoTimesTable$States", "partOfRow", "(IIII)I"⟩) ∈ WT := wt_s (i := 9) rfl rfl
theorem s10 : (Cond.selects "TwoTimesTable$States" ⟨"TwoTimesTable$States", "rowEnd", "(III)I"⟩ ⟨"TwoTimesTable$States", "rowEnd", "(III)I"⟩) ∈ WT := wt_s (i := 10) rfl rfl
theorem s11 : (Cond.selects "TwoTimesTableModel" ⟨"TwoTimesTableModel", "fail", "(I)I"⟩ ⟨"TwoTimesTableModel", "fail", "(I)I"⟩) ∈ WT := wt_s (i := 11) rfl rfl
theorem s12 : (Cond.selects "TwoTimesTableModel" ⟨"TwoTimesTableModel", "keep", "()V"⟩ ⟨"TwoTimesTableModel", "keep", "()V"⟩) ∈ WT := wt_s (i := 12) rfl rfl
theorem s13 : (Cond.selects "TwoTimesTableModel" ⟨"TwoTimesTableModel", "perform", "(IIIII)I"⟩ ⟨"TwoTimesTableModel", "perform", "(IIIII)I"⟩) ∈ WT := wt_s (i := 13) rfl rfl
theorem s14 : (Cond.selects "TwoTimesTableModel" ⟨"TwoTimesTableModel", "heldIn", "(III)I"⟩ ⟨"TwoTimesTableModel", "heldIn", "(III)I"⟩) ∈ WT := wt_s (i := 14) rfl rfl
theorem s15 : (Cond.selects "TwoTimesTableModel" ⟨"TwoTimesTableModel", "change", "(III)V"⟩ ⟨"TwoTimesTableModel", "change", "(III)V"⟩) ∈ WT := wt_s (i := 15) rfl rfl
theorem s16 : (Cond.selects "TwoTimesTableModel" ⟨"TwoTimesTableModel", "countRows", "()I"⟩ ⟨"TwoTimesTableModel", "countRows", "()I"⟩) ∈ WT := wt_s (i := 16) rfl rfl
theorem s17 : (Cond.selects "TwoTimesTableModel" ⟨"TwoTimesTableModel", "isRow", "(III)Z"⟩ ⟨"TwoTimesTableModel", "isRow", "(III)Z"⟩) ∈ WT := wt_s (i := 17) rfl rfl
theorem s18 : (Cond.selects "TwoTimesTableModel" ⟨"TwoTimesTableModel", "begins", "(III)Z"⟩ ⟨"TwoTimesTableModel", "begins", "(III)Z"⟩) ∈ WT := wt_s (i := 18) rfl rfl
theorem s19 : (Cond.selects "TwoTimesTableModel" ⟨"TwoTimesTableModel", "alike", "(IIII)Z"⟩ ⟨"TwoTimesTableModel", "alike", "(IIII)Z"⟩) ∈ WT := wt_s (i := 19) rfl rfl
theorem s20 : (Cond.selects "TwoTimesTableModel" ⟨"TwoTimesTableModel", "endOf", "(III)I"⟩ ⟨"TwoTimesTableModel", "endOf", "(III)I"⟩) ∈ WT := wt_s (i := 20) rfl rfl
theorem s21 : (Cond.selects "TwoTimesTableModel" ⟨"TwoTimesTableModel", "isRun", "(IIIII)Z"⟩ ⟨"TwoTimesTableModel", "isRun", "(IIIII)Z"⟩) ∈ WT := wt_s (i := 21) rfl rfl
theorem s22 : (Cond.selects "TwoTimesTableModel" ⟨"TwoTimesTableModel", "goBack", "()V"⟩ ⟨"TwoTimesTableModel", "goBack", "()V"⟩) ∈ WT := wt_s (i := 22) rfl rfl
theorem s23 : (Cond.selects "TwoTimesTableModel" ⟨"TwoTimesTableModel", "isTime", "(I)Z"⟩ ⟨"TwoTimesTableModel", "isTime", "(I)Z"⟩) ∈ WT := wt_s (i := 23) rfl rfl
theorem s24 : (Cond.selects "TwoTimesTableModel" ⟨"TwoTimesTableModel", "endTime", "(III)I"⟩ ⟨"TwoTimesTableModel", "endTime", "(III)I"⟩) ∈ WT := wt_s (i := 24) rfl rfl

/-! links of fields, calls and classes, by their places in the tables -/
set_option maxRecDepth 20000 in
theorem xa_t1 (n : Nat) {w : Cond} (h : tables_1_1[n]? = some w) : w ∈ tables_1 := List.mem_append_left _ (List.mem_of_getElem? h)
set_option maxRecDepth 20000 in
theorem xa_t2 (n : Nat) {w : Cond} (h : tables_1_2[n]? = some w) : w ∈ tables_1 := List.mem_append_right _ (List.mem_append_left _ (List.mem_of_getElem? h))
set_option maxRecDepth 20000 in
theorem xa_t3 (n : Nat) {w : Cond} (h : tables_1_3[n]? = some w) : w ∈ tables_1 := List.mem_append_right _ (List.mem_append_right _ (List.mem_append_left _ (List.mem_of_getElem? h)))
set_option maxRecDepth 20000 in
theorem xa_t4 (n : Nat) {w : Cond} (h : tables_1_4[n]? = some w) : w ∈ tables_1 := List.mem_append_right _ (List.mem_append_right _ (List.mem_append_right _ (List.mem_append_left _ (List.mem_of_getElem? h))))
set_option maxRecDepth 20000 in
theorem xa_t5 (n : Nat) {w : Cond} (h : tables_1_5[n]? = some w) : w ∈ tables_1 := List.mem_append_right _ (List.mem_append_right _ (List.mem_append_right _ (List.mem_append_right _ (List.mem_append_left _ (List.mem_of_getElem? h)))))
set_option maxRecDepth 20000 in
theorem xa_t6 (n : Nat) {w : Cond} (h : tables_1_6[n]? = some w) : w ∈ tables_1 := List.mem_append_right _ (List.mem_append_right _ (List.mem_append_right _ (List.mem_append_right _ (List.mem_append_right _ ((List.mem_of_getElem? h))))))
set_option maxRecDepth 20000 in
theorem tb1 : (Jvm.Cond.initialized "WhoIsThere") ∈ xa_G := List.mem_filter.mpr ⟨List.mem_append_right _ (xa_t1 1 rfl), rfl⟩
set_option maxRecDepth 20000 in
theorem tb2 : (Jvm.Cond.initialized "WhoIsThereModel") ∈ xa_G := List.mem_filter.mpr ⟨List.mem_append_right _ (xa_t1 2 rfl), rfl⟩
set_option maxRecDepth 20000 in
theorem tb3 : (Jvm.Cond.initialized "WhoIsThere$Host") ∈ xa_G := List.mem_filter.mpr ⟨List.mem_append_right _ (xa_t1 3 rfl), rfl⟩
set_option maxRecDepth 20000 in
theorem tb4 : (Jvm.Cond.initialized "WhoIsThere$Store") ∈ xa_G := List.mem_filter.mpr ⟨List.mem_append_right _ (xa_t1 4 rfl), rfl⟩
set_option maxRecDepth 20000 in
theorem tb5 : (Jvm.Cond.initialized "WhoIsThere$Asks") ∈ xa_G := List.mem_filter.mpr ⟨List.mem_append_right _ (xa_t1 5 rfl), rfl⟩
set_option maxRecDepth 20000 in
theorem tb6 : (Jvm.Cond.initialized "WhoIsThere$Answers") ∈ xa_G := List.mem_filter.mpr ⟨List.mem_append_right _ (xa_t1 6 rfl), rfl⟩
set_option maxRecDepth 20000 in
theorem tb7 : (Jvm.Cond.initialized "WhoIsThere$Letter") ∈ xa_G := List.mem_filter.mpr ⟨List.mem_append_right _ (xa_t1 7 rfl), rfl⟩
set_option maxRecDepth 20000 in
theorem tb8 : (Jvm.Cond.initialized "WhoIsThere$Service") ∈ xa_G := List.mem_filter.mpr ⟨List.mem_append_right _ (xa_t1 8 rfl), rfl⟩
set_option maxRecDepth 20000 in
theorem tb9 : (Jvm.Cond.initialized "WhoIsThere$Bridge") ∈ xa_G := List.mem_filter.mpr ⟨List.mem_append_right _ (xa_t1 9 rfl), rfl⟩
set_option maxRecDepth 20000 in
theorem tb10 : (Jvm.Cond.initialized "java/lang/Integer") ∈ xa_G := List.mem_filter.mpr ⟨List.mem_append_right _ (xa_t1 10 rfl), rfl⟩
set_option maxRecDepth 20000 in
theorem tb11 : (Jvm.Cond.classLink "WhoIsThereLaw" (7 : Nat) "WhoIsThere") ∈ xa_G := List.mem_filter.mpr ⟨List.mem_append_right _ (xa_t1 11 rfl), rfl⟩
set_option maxRecDepth 20000 in
theorem tb12 : (Jvm.Cond.instantiable "WhoIsThere" (13 : Nat)) ∈ xa_G := List.mem_filter.mpr ⟨List.mem_append_right _ (xa_t1 12 rfl), rfl⟩
set_option maxRecDepth 20000 in
theorem tb13 : (Jvm.Cond.methodLink "WhoIsThereLaw" (9 : Nat) ({ cls := "WhoIsThere", name := "<init>", desc := "()V" } : Jvm.MethodName)) ∈ xa_G := List.mem_filter.mpr ⟨List.mem_append_right _ (xa_t1 13 rfl), rfl⟩
set_option maxRecDepth 20000 in
theorem tb14 : (Jvm.Cond.instanceMethod ({ cls := "WhoIsThere", name := "<init>", desc := "()V" } : Jvm.MethodName)) ∈ xa_G := List.mem_filter.mpr ⟨List.mem_append_right _ (xa_t1 14 rfl), rfl⟩
set_option maxRecDepth 20000 in
theorem tb15 : (Jvm.Cond.code ({ cls := "WhoIsThere", name := "<init>", desc := "()V" } : Jvm.MethodName) prog_1_method_1_code (1 : Nat) (Option.none : Option FieldType)) ∈ xa_G := List.mem_filter.mpr ⟨List.mem_append_right _ (xa_t1 15 rfl), rfl⟩
set_option maxRecDepth 20000 in
theorem tb16 : (Jvm.Cond.methodLink "WhoIsThere" (1 : Nat) ({ cls := "java/lang/Object", name := "<init>", desc := "()V" } : Jvm.MethodName)) ∈ xa_G := List.mem_filter.mpr ⟨List.mem_append_right _ (xa_t1 16 rfl), rfl⟩
set_option maxRecDepth 20000 in
theorem tb17 : (Jvm.Cond.instanceMethod ({ cls := "java/lang/Object", name := "<init>", desc := "()V" } : Jvm.MethodName)) ∈ xa_G := List.mem_filter.mpr ⟨List.mem_append_right _ (xa_t1 17 rfl), rfl⟩
set_option maxRecDepth 20000 in
theorem tb18 : (Jvm.Cond.code ({ cls := "java/lang/Object", name := "<init>", desc := "()V" } : Jvm.MethodName) object_method_1_code (1 : Nat) (Option.none : Option FieldType)) ∈ xa_G := List.mem_filter.mpr ⟨List.mem_append_right _ (xa_t1 18 rfl), rfl⟩
set_option maxRecDepth 20000 in
theorem tb19 : (Jvm.Cond.classLink "WhoIsThere" (9 : Nat) "WhoIsThere$Host") ∈ xa_G := List.mem_filter.mpr ⟨List.mem_append_right _ (xa_t1 19 rfl), rfl⟩
set_option maxRecDepth 20000 in
theorem tb21 : (Jvm.Cond.classLink "WhoIsThere" (15 : Nat) "WhoIsThere$Service") ∈ xa_G := List.mem_filter.mpr ⟨List.mem_append_right _ (xa_t1 21 rfl), rfl⟩
set_option maxRecDepth 20000 in
theorem tb23 : (Jvm.Cond.fieldLink "WhoIsThere" (11 : Nat) "WhoIsThere" "hosts" "[LWhoIsThere$Host;") ∈ xa_G := List.mem_filter.mpr ⟨List.mem_append_right _ (xa_t1 23 rfl), rfl⟩
set_option maxRecDepth 20000 in
theorem tb24 : (Jvm.Cond.fieldLink "WhoIsThere" (17 : Nat) "WhoIsThere" "services" "[LWhoIsThere$Service;") ∈ xa_G := List.mem_filter.mpr ⟨List.mem_append_right _ (xa_t1 24 rfl), rfl⟩
set_option maxRecDepth 20000 in
theorem tb25 : (Jvm.Cond.fieldLink "WhoIsThere" (25 : Nat) "WhoIsThere" "hostCount" "I") ∈ xa_G := List.mem_filter.mpr ⟨List.mem_append_right _ (xa_t1 25 rfl), rfl⟩
set_option maxRecDepth 20000 in
theorem tb26 : (Jvm.Cond.fieldLink "WhoIsThere" (103 : Nat) "WhoIsThere" "serviceCount" "I") ∈ xa_G := List.mem_filter.mpr ⟨List.mem_append_right _ (xa_t1 26 rfl), rfl⟩
set_option maxRecDepth 20000 in
theorem tb27 : (Jvm.Cond.fieldLink "WhoIsThere" (62 : Nat) "WhoIsThere" "now" "I") ∈ xa_G := List.mem_filter.mpr ⟨List.mem_append_right _ (xa_t1 27 rfl), rfl⟩
set_option maxRecDepth 20000 in
theorem tb28 : (Jvm.Cond.fieldLink "WhoIsThere" (226 : Nat) "WhoIsThere" "letters" "I") ∈ xa_G := List.mem_filter.mpr ⟨List.mem_append_right _ (xa_t1 28 rfl), rfl⟩
set_option maxRecDepth 20000 in
theorem tb29 : (Jvm.Cond.fieldLink "WhoIsThere" (244 : Nat) "WhoIsThere" "lettersLately" "I") ∈ xa_G := List.mem_filter.mpr ⟨List.mem_append_right _ (xa_t1 29 rfl), rfl⟩
set_option maxRecDepth 20000 in
theorem tb30 : (Jvm.Cond.fieldLink "WhoIsThere" (229 : Nat) "WhoIsThere" "lost" "I") ∈ xa_G := List.mem_filter.mpr ⟨List.mem_append_right _ (xa_t1 30 rfl), rfl⟩
set_option maxRecDepth 20000 in
theorem tb31 : (Jvm.Cond.fieldLink "WhoIsThere" (232 : Nat) "WhoIsThere" "yields" "I") ∈ xa_G := List.mem_filter.mpr ⟨List.mem_append_right _ (xa_t1 31 rfl), rfl⟩
set_option maxRecDepth 20000 in
theorem tb32 : (Jvm.Cond.fieldLink "WhoIsThere" (235 : Nat) "WhoIsThere" "lies" "I") ∈ xa_G := List.mem_filter.mpr ⟨List.mem_append_right _ (xa_t1 32 rfl), rfl⟩
set_option maxRecDepth 20000 in
theorem tb33 : (Jvm.Cond.fieldLink "WhoIsThere" (238 : Nat) "WhoIsThere" "leftOut" "I") ∈ xa_G := List.mem_filter.mpr ⟨List.mem_append_right _ (xa_t1 33 rfl), rfl⟩
set_option maxRecDepth 20000 in
theorem tb34 : (Jvm.Cond.fieldLink "WhoIsThere" (241 : Nat) "WhoIsThere" "woken" "I") ∈ xa_G := List.mem_filter.mpr ⟨List.mem_append_right _ (xa_t1 34 rfl), rfl⟩
set_option maxRecDepth 20000 in
theorem tb35 : (Jvm.Cond.fieldLink "WhoIsThere" (247 : Nat) "WhoIsThere" "takenUp" "I") ∈ xa_G := List.mem_filter.mpr ⟨List.mem_append_right _ (xa_t1 35 rfl), rfl⟩
set_option maxRecDepth 20000 in
theorem tb63 : (Jvm.Cond.methodLink "WhoIsThereLaw" (13 : Nat) ({ cls := "WhoIsThere", name := "host", desc := "(IIII)I" } : Jvm.MethodName)) ∈ xa_G := List.mem_filter.mpr ⟨List.mem_append_right _ (xa_t1 63 rfl), rfl⟩
set_option maxRecDepth 20000 in
theorem tb64 : (Jvm.Cond.instanceMethod ({ cls := "WhoIsThere", name := "host", desc := "(IIII)I" } : Jvm.MethodName)) ∈ xa_G := List.mem_filter.mpr ⟨List.mem_append_right _ (xa_t1 64 rfl), rfl⟩
set_option maxRecDepth 20000 in
theorem tb65 : (Jvm.Cond.selects "WhoIsThere" ({ cls := "WhoIsThere", name := "host", desc := "(IIII)I" } : Jvm.MethodName) ({ cls := "WhoIsThere", name := "host", desc := "(IIII)I" } : Jvm.MethodName)) ∈ xa_G := List.mem_filter.mpr ⟨List.mem_append_right _ (xa_t1 65 rfl), rfl⟩
set_option maxRecDepth 20000 in
theorem tb66 : (Jvm.Cond.code ({ cls := "WhoIsThere", name := "host", desc := "(IIII)I" } : Jvm.MethodName) prog_1_method_2_code (7 : Nat) (Option.some FieldType.int)) ∈ xa_G := List.mem_filter.mpr ⟨List.mem_append_right _ (xa_t1 66 rfl), rfl⟩
set_option maxRecDepth 20000 in
theorem tb67 : (Jvm.Cond.methodLink "WhoIsThere" (21 : Nat) ({ cls := "WhoIsThere", name := "isNet", desc := "(I)Z" } : Jvm.MethodName)) ∈ xa_G := List.mem_filter.mpr ⟨List.mem_append_right _ (xa_t1 67 rfl), rfl⟩
set_option maxRecDepth 20000 in
theorem tb68 : (Jvm.Cond.static ({ cls := "WhoIsThere", name := "isNet", desc := "(I)Z" } : Jvm.MethodName)) ∈ xa_G := List.mem_filter.mpr ⟨List.mem_append_right _ (xa_t1 68 rfl), rfl⟩
set_option maxRecDepth 20000 in
theorem tb69 : (Jvm.Cond.code ({ cls := "WhoIsThere", name := "isNet", desc := "(I)Z" } : Jvm.MethodName) prog_1_method_25_code (1 : Nat) (Option.some FieldType.boolean)) ∈ xa_G := List.mem_filter.mpr ⟨List.mem_append_right _ (xa_t1 69 rfl), rfl⟩
set_option maxRecDepth 20000 in
theorem tb70 : (Jvm.Cond.instantiable "WhoIsThere$Host" (16 : Nat)) ∈ xa_G := List.mem_filter.mpr ⟨List.mem_append_right _ (xa_t1 70 rfl), rfl⟩
set_option maxRecDepth 20000 in
theorem tb71 : (Jvm.Cond.methodLink "WhoIsThere" (29 : Nat) ({ cls := "WhoIsThere$Host", name := "<init>", desc := "(IIIII)V" } : Jvm.MethodName)) ∈ xa_G := List.mem_filter.mpr ⟨List.mem_append_right _ (xa_t1 71 rfl), rfl⟩
set_option maxRecDepth 20000 in
theorem tb72 : (Jvm.Cond.instanceMethod ({ cls := "WhoIsThere$Host", name := "<init>", desc := "(IIIII)V" } : Jvm.MethodName)) ∈ xa_G := List.mem_filter.mpr ⟨List.mem_append_right _ (xa_t1 72 rfl), rfl⟩
set_option maxRecDepth 20000 in
theorem tb73 : (Jvm.Cond.code ({ cls := "WhoIsThere$Host", name := "<init>", desc := "(IIIII)V" } : Jvm.MethodName) prog_5_method_1_code (6 : Nat) (Option.none : Option FieldType)) ∈ xa_G := List.mem_filter.mpr ⟨List.mem_append_right _ (xa_t1 73 rfl), rfl⟩
set_option maxRecDepth 20000 in
theorem tb74 : (Jvm.Cond.methodLink "WhoIsThere$Host" (3 : Nat) ({ cls := "java/lang/Object", name := "<init>", desc := "()V" } : Jvm.MethodName)) ∈ xa_G := List.mem_filter.mpr ⟨List.mem_append_right _ (xa_t1 74 rfl), rfl⟩
set_option maxRecDepth 20000 in
theorem tb75 : (Jvm.Cond.classLink "WhoIsThere$Host" (9 : Nat) "WhoIsThere$Store") ∈ xa_G := List.mem_filter.mpr ⟨List.mem_append_right _ (xa_t1 75 rfl), rfl⟩
set_option maxRecDepth 20000 in
theorem tb76 : (Jvm.Cond.instantiable "WhoIsThere$Store" (5 : Nat)) ∈ xa_G := List.mem_filter.mpr ⟨List.mem_append_right _ (xa_t1 76 rfl), rfl⟩
set_option maxRecDepth 20000 in
theorem tb78 : (Jvm.Cond.instanceMethod ({ cls := "WhoIsThere$Store", name := "<init>", desc := "()V" } : Jvm.MethodName)) ∈ xa_G := List.mem_filter.mpr ⟨List.mem_append_right _ (xa_t1 78 rfl), rfl⟩
set_option maxRecDepth 20000 in
theorem tb79 : (Jvm.Cond.code ({ cls := "WhoIsThere$Store", name := "<init>", desc := "()V" } : Jvm.MethodName) prog_8_method_1_code (1 : Nat) (Option.none : Option FieldType)) ∈ xa_G := List.mem_filter.mpr ⟨List.mem_append_right _ (xa_t1 79 rfl), rfl⟩
set_option maxRecDepth 20000 in
theorem tb80 : (Jvm.Cond.methodLink "WhoIsThere$Store" (3 : Nat) ({ cls := "java/lang/Object", name := "<init>", desc := "()V" } : Jvm.MethodName)) ∈ xa_G := List.mem_filter.mpr ⟨List.mem_append_right _ (xa_t1 80 rfl), rfl⟩
set_option maxRecDepth 20000 in
theorem tb81 : (Jvm.Cond.fieldLink "WhoIsThere$Store" (9 : Nat) "WhoIsThere$Store" "name" "[I") ∈ xa_G := List.mem_filter.mpr ⟨List.mem_append_right _ (xa_t1 81 rfl), rfl⟩
set_option maxRecDepth 20000 in
theorem tb82 : (Jvm.Cond.fieldLink "WhoIsThere" (184 : Nat) "WhoIsThere$Store" "name" "[I") ∈ xa_G := List.mem_filter.mpr ⟨List.mem_append_right _ (xa_t1 82 rfl), rfl⟩
set_option maxRecDepth 20000 in
theorem tb83 : (Jvm.Cond.fieldLink "WhoIsThere$Store" (15 : Nat) "WhoIsThere$Store" "marks" "[I") ∈ xa_G := List.mem_filter.mpr ⟨List.mem_append_right _ (xa_t1 83 rfl), rfl⟩
set_option maxRecDepth 20000 in
theorem tb84 : (Jvm.Cond.fieldLink "WhoIsThere" (192 : Nat) "WhoIsThere$Store" "marks" "[I") ∈ xa_G := List.mem_filter.mpr ⟨List.mem_append_right _ (xa_t1 84 rfl), rfl⟩
set_option maxRecDepth 20000 in
theorem tb85 : (Jvm.Cond.fieldLink "WhoIsThere$Store" (18 : Nat) "WhoIsThere$Store" "life" "[I") ∈ xa_G := List.mem_filter.mpr ⟨List.mem_append_right _ (xa_t1 85 rfl), rfl⟩
set_option maxRecDepth 20000 in
theorem tb86 : (Jvm.Cond.fieldLink "WhoIsThere" (198 : Nat) "WhoIsThere$Store" "life" "[I") ∈ xa_G := List.mem_filter.mpr ⟨List.mem_append_right _ (xa_t1 86 rfl), rfl⟩
set_option maxRecDepth 20000 in
theorem tb87 : (Jvm.Cond.fieldLink "WhoIsThere$Store" (21 : Nat) "WhoIsThere$Store" "end" "[I") ∈ xa_G := List.mem_filter.mpr ⟨List.mem_append_right _ (xa_t1 87 rfl), rfl⟩
set_option maxRecDepth 20000 in
theorem tb88 : (Jvm.Cond.fieldLink "WhoIsThere$Store" (24 : Nat) "WhoIsThere$Store" "held" "I") ∈ xa_G := List.mem_filter.mpr ⟨List.mem_append_right _ (xa_t1 88 rfl), rfl⟩
set_option maxRecDepth 20000 in
theorem tb100 : (Jvm.Cond.arrayClass FieldType.int) ∈ xa_G := List.mem_filter.mpr ⟨List.mem_append_right _ (xa_t1 100 rfl), rfl⟩
set_option maxRecDepth 20000 in
theorem tb101 : (Jvm.Cond.classLink "WhoIsThere$Host" (18 : Nat) "WhoIsThere$Asks") ∈ xa_G := List.mem_filter.mpr ⟨List.mem_append_right _ (xa_t1 101 rfl), rfl⟩
set_option maxRecDepth 20000 in
theorem tb102 : (Jvm.Cond.instantiable "WhoIsThere$Asks" (3 : Nat)) ∈ xa_G := List.mem_filter.mpr ⟨List.mem_append_right _ (xa_t1 102 rfl), rfl⟩
set_option maxRecDepth 20000 in
theorem tb104 : (Jvm.Cond.instanceMethod ({ cls := "WhoIsThere$Asks", name := "<init>", desc := "()V" } : Jvm.MethodName)) ∈ xa_G := List.mem_filter.mpr ⟨List.mem_append_right _ (xa_t1 104 rfl), rfl⟩
set_option maxRecDepth 20000 in
theorem tb105 : (Jvm.Cond.code ({ cls := "WhoIsThere$Asks", name := "<init>", desc := "()V" } : Jvm.MethodName) prog_3_method_1_code (1 : Nat) (Option.none : Option FieldType)) ∈ xa_G := List.mem_filter.mpr ⟨List.mem_append_right _ (xa_t1 105 rfl), rfl⟩
set_option maxRecDepth 20000 in
theorem tb106 : (Jvm.Cond.methodLink "WhoIsThere$Asks" (3 : Nat) ({ cls := "java/lang/Object", name := "<init>", desc := "()V" } : Jvm.MethodName)) ∈ xa_G := List.mem_filter.mpr ⟨List.mem_append_right _ (xa_t1 106 rfl), rfl⟩
set_option maxRecDepth 20000 in
theorem tb107 : (Jvm.Cond.fieldLink "WhoIsThere$Asks" (9 : Nat) "WhoIsThere$Asks" "marks" "[I") ∈ xa_G := List.mem_filter.mpr ⟨List.mem_append_right _ (xa_t1 107 rfl), rfl⟩
set_option maxRecDepth 20000 in
theorem tb108 : (Jvm.Cond.fieldLink "WhoIsThere" (305 : Nat) "WhoIsThere$Asks" "marks" "[I") ∈ xa_G := List.mem_filter.mpr ⟨List.mem_append_right _ (xa_t1 108 rfl), rfl⟩
set_option maxRecDepth 20000 in
theorem tb109 : (Jvm.Cond.fieldLink "WhoIsThere$Asks" (15 : Nat) "WhoIsThere$Asks" "due" "[I") ∈ xa_G := List.mem_filter.mpr ⟨List.mem_append_right _ (xa_t1 109 rfl), rfl⟩
set_option maxRecDepth 20000 in
theorem tb110 : (Jvm.Cond.fieldLink "WhoIsThere$Asks" (18 : Nat) "WhoIsThere$Asks" "waiting" "I") ∈ xa_G := List.mem_filter.mpr ⟨List.mem_append_right _ (xa_t1 110 rfl), rfl⟩
set_option maxRecDepth 20000 in
theorem tb118 : (Jvm.Cond.classLink "WhoIsThere$Host" (25 : Nat) "WhoIsThere$Answers") ∈ xa_G := List.mem_filter.mpr ⟨List.mem_append_right _ (xa_t1 118 rfl), rfl⟩
set_option maxRecDepth 20000 in
theorem tb119 : (Jvm.Cond.instantiable "WhoIsThere$Answers" (2 : Nat)) ∈ xa_G := List.mem_filter.mpr ⟨List.mem_append_right _ (xa_t1 119 rfl), rfl⟩
set_option maxRecDepth 20000 in
theorem tb121 : (Jvm.Cond.instanceMethod ({ cls := "WhoIsThere$Answers", name := "<init>", desc := "()V" } : Jvm.MethodName)) ∈ xa_G := List.mem_filter.mpr ⟨List.mem_append_right _ (xa_t1 121 rfl), rfl⟩
set_option maxRecDepth 20000 in
theorem tb122 : (Jvm.Cond.code ({ cls := "WhoIsThere$Answers", name := "<init>", desc := "()V" } : Jvm.MethodName) prog_2_method_1_code (1 : Nat) (Option.none : Option FieldType)) ∈ xa_G := List.mem_filter.mpr ⟨List.mem_append_right _ (xa_t1 122 rfl), rfl⟩
set_option maxRecDepth 20000 in
theorem tb123 : (Jvm.Cond.methodLink "WhoIsThere$Answers" (3 : Nat) ({ cls := "java/lang/Object", name := "<init>", desc := "()V" } : Jvm.MethodName)) ∈ xa_G := List.mem_filter.mpr ⟨List.mem_append_right _ (xa_t1 123 rfl), rfl⟩
set_option maxRecDepth 20000 in
theorem tb124 : (Jvm.Cond.fieldLink "WhoIsThere$Answers" (9 : Nat) "WhoIsThere$Answers" "due" "[I") ∈ xa_G := List.mem_filter.mpr ⟨List.mem_append_right _ (xa_t1 124 rfl), rfl⟩
set_option maxRecDepth 20000 in
theorem tb125 : (Jvm.Cond.fieldLink "WhoIsThere$Answers" (15 : Nat) "WhoIsThere$Answers" "waiting" "I") ∈ xa_G := List.mem_filter.mpr ⟨List.mem_append_right _ (xa_t1 125 rfl), rfl⟩
set_option maxRecDepth 20000 in
theorem tb131 : (Jvm.Cond.classLink "WhoIsThere$Host" (36 : Nat) "WhoIsThere$Letter") ∈ xa_G := List.mem_filter.mpr ⟨List.mem_append_right _ (xa_t1 131 rfl), rfl⟩
set_option maxRecDepth 20000 in
theorem tb132 : (Jvm.Cond.instantiable "WhoIsThere$Letter" (15 : Nat)) ∈ xa_G := List.mem_filter.mpr ⟨List.mem_append_right _ (xa_t1 132 rfl), rfl⟩
set_option maxRecDepth 20000 in
theorem tb134 : (Jvm.Cond.instanceMethod ({ cls := "WhoIsThere$Letter", name := "<init>", desc := "()V" } : Jvm.MethodName)) ∈ xa_G := List.mem_filter.mpr ⟨List.mem_append_right _ (xa_t1 134 rfl), rfl⟩
set_option maxRecDepth 20000 in
theorem tb135 : (Jvm.Cond.code ({ cls := "WhoIsThere$Letter", name := "<init>", desc := "()V" } : Jvm.MethodName) prog_6_method_1_code (1 : Nat) (Option.none : Option FieldType)) ∈ xa_G := List.mem_filter.mpr ⟨List.mem_append_right _ (xa_t1 135 rfl), rfl⟩
set_option maxRecDepth 20000 in
theorem tb136 : (Jvm.Cond.methodLink "WhoIsThere$Letter" (3 : Nat) ({ cls := "java/lang/Object", name := "<init>", desc := "()V" } : Jvm.MethodName)) ∈ xa_G := List.mem_filter.mpr ⟨List.mem_append_right _ (xa_t1 136 rfl), rfl⟩
set_option maxRecDepth 20000 in
theorem tb137 : (Jvm.Cond.fieldLink "WhoIsThere$Letter" (65 : Nat) "WhoIsThere$Letter" "net" "I") ∈ xa_G := List.mem_filter.mpr ⟨List.mem_append_right _ (xa_t1 137 rfl), rfl⟩
set_option maxRecDepth 20000 in
theorem tb138 : (Jvm.Cond.fieldLink "WhoIsThere" (348 : Nat) "WhoIsThere$Letter" "net" "I") ∈ xa_G := List.mem_filter.mpr ⟨List.mem_append_right _ (xa_t1 138 rfl), rfl⟩
set_option maxRecDepth 20000 in
theorem tb139 : (Jvm.Cond.fieldLink "WhoIsThere$Letter" (42 : Nat) "WhoIsThere$Letter" "asks" "I") ∈ xa_G := List.mem_filter.mpr ⟨List.mem_append_right _ (xa_t1 139 rfl), rfl⟩
set_option maxRecDepth 20000 in
theorem tb140 : (Jvm.Cond.fieldLink "WhoIsThere" (372 : Nat) "WhoIsThere$Letter" "asks" "I") ∈ xa_G := List.mem_filter.mpr ⟨List.mem_append_right _ (xa_t1 140 rfl), rfl⟩
set_option maxRecDepth 20000 in
theorem tb141 : (Jvm.Cond.fieldLink "WhoIsThere$Letter" (9 : Nat) "WhoIsThere$Letter" "askMarks" "[I") ∈ xa_G := List.mem_filter.mpr ⟨List.mem_append_right _ (xa_t1 141 rfl), rfl⟩
set_option maxRecDepth 20000 in
theorem tb142 : (Jvm.Cond.fieldLink "WhoIsThere" (420 : Nat) "WhoIsThere$Letter" "askMarks" "[I") ∈ xa_G := List.mem_filter.mpr ⟨List.mem_append_right _ (xa_t1 142 rfl), rfl⟩
set_option maxRecDepth 20000 in
theorem tb143 : (Jvm.Cond.fieldLink "WhoIsThere$Letter" (15 : Nat) "WhoIsThere$Letter" "askKnown" "[I") ∈ xa_G := List.mem_filter.mpr ⟨List.mem_append_right _ (xa_t1 143 rfl), rfl⟩
set_option maxRecDepth 20000 in
theorem tb144 : (Jvm.Cond.fieldLink "WhoIsThere" (423 : Nat) "WhoIsThere$Letter" "askKnown" "[I") ∈ xa_G := List.mem_filter.mpr ⟨List.mem_append_right _ (xa_t1 144 rfl), rfl⟩
set_option maxRecDepth 20000 in
theorem tb145 : (Jvm.Cond.fieldLink "WhoIsThere$Letter" (18 : Nat) "WhoIsThere$Letter" "askBorne" "[I") ∈ xa_G := List.mem_filter.mpr ⟨List.mem_append_right _ (xa_t1 145 rfl), rfl⟩
set_option maxRecDepth 20000 in
theorem tb146 : (Jvm.Cond.fieldLink "WhoIsThere$Letter" (46 : Nat) "WhoIsThere$Letter" "claims" "I") ∈ xa_G := List.mem_filter.mpr ⟨List.mem_append_right _ (xa_t1 146 rfl), rfl⟩
set_option maxRecDepth 20000 in
theorem tb147 : (Jvm.Cond.fieldLink "WhoIsThere" (365 : Nat) "WhoIsThere$Letter" "claims" "I") ∈ xa_G := List.mem_filter.mpr ⟨List.mem_append_right _ (xa_t1 147 rfl), rfl⟩
set_option maxRecDepth 20000 in
theorem tb148 : (Jvm.Cond.fieldLink "WhoIsThere$Letter" (21 : Nat) "WhoIsThere$Letter" "claimName" "[I") ∈ xa_G := List.mem_filter.mpr ⟨List.mem_append_right _ (xa_t1 148 rfl), rfl⟩
set_option maxRecDepth 20000 in
theorem tb149 : (Jvm.Cond.fieldLink "WhoIsThere" (403 : Nat) "WhoIsThere$Letter" "claimName" "[I") ∈ xa_G := List.mem_filter.mpr ⟨List.mem_append_right _ (xa_t1 149 rfl), rfl⟩
set_option maxRecDepth 20000 in
theorem tb150 : (Jvm.Cond.fieldLink "WhoIsThere$Letter" (24 : Nat) "WhoIsThere$Letter" "claimBorne" "[I") ∈ xa_G := List.mem_filter.mpr ⟨List.mem_append_right _ (xa_t1 150 rfl), rfl⟩
set_option maxRecDepth 20000 in
theorem tb151 : (Jvm.Cond.fieldLink "WhoIsThere$Letter" (49 : Nat) "WhoIsThere$Letter" "byes" "I") ∈ xa_G := List.mem_filter.mpr ⟨List.mem_append_right _ (xa_t1 151 rfl), rfl⟩
set_option maxRecDepth 20000 in
theorem tb152 : (Jvm.Cond.fieldLink "WhoIsThere" (366 : Nat) "WhoIsThere$Letter" "byes" "I") ∈ xa_G := List.mem_filter.mpr ⟨List.mem_append_right _ (xa_t1 152 rfl), rfl⟩
set_option maxRecDepth 20000 in
theorem tb153 : (Jvm.Cond.fieldLink "WhoIsThere$Letter" (27 : Nat) "WhoIsThere$Letter" "byeBorne" "[I") ∈ xa_G := List.mem_filter.mpr ⟨List.mem_append_right _ (xa_t1 153 rfl), rfl⟩
set_option maxRecDepth 20000 in
theorem tb154 : (Jvm.Cond.fieldLink "WhoIsThere$Letter" (52 : Nat) "WhoIsThere$Letter" "tellings" "I") ∈ xa_G := List.mem_filter.mpr ⟨List.mem_append_right _ (xa_t1 154 rfl), rfl⟩
set_option maxRecDepth 20000 in
theorem tb155 : (Jvm.Cond.fieldLink "WhoIsThere" (369 : Nat) "WhoIsThere$Letter" "tellings" "I") ∈ xa_G := List.mem_filter.mpr ⟨List.mem_append_right _ (xa_t1 155 rfl), rfl⟩
set_option maxRecDepth 20000 in
theorem tb156 : (Jvm.Cond.fieldLink "WhoIsThere$Letter" (30 : Nat) "WhoIsThere$Letter" "tellName" "[I") ∈ xa_G := List.mem_filter.mpr ⟨List.mem_append_right _ (xa_t1 156 rfl), rfl⟩
set_option maxRecDepth 20000 in
theorem tb157 : (Jvm.Cond.fieldLink "WhoIsThere" (440 : Nat) "WhoIsThere$Letter" "tellName" "[I") ∈ xa_G := List.mem_filter.mpr ⟨List.mem_append_right _ (xa_t1 157 rfl), rfl⟩
set_option maxRecDepth 20000 in
theorem tb158 : (Jvm.Cond.fieldLink "WhoIsThere$Letter" (33 : Nat) "WhoIsThere$Letter" "tellMarks" "[I") ∈ xa_G := List.mem_filter.mpr ⟨List.mem_append_right _ (xa_t1 158 rfl), rfl⟩
set_option maxRecDepth 20000 in
theorem tb159 : (Jvm.Cond.fieldLink "WhoIsThere" (455 : Nat) "WhoIsThere$Letter" "tellMarks" "[I") ∈ xa_G := List.mem_filter.mpr ⟨List.mem_append_right _ (xa_t1 159 rfl), rfl⟩
set_option maxRecDepth 20000 in
theorem tb160 : (Jvm.Cond.fieldLink "WhoIsThere$Letter" (36 : Nat) "WhoIsThere$Letter" "tellLife" "[I") ∈ xa_G := List.mem_filter.mpr ⟨List.mem_append_right _ (xa_t1 160 rfl), rfl⟩
set_option maxRecDepth 20000 in
theorem tb161 : (Jvm.Cond.fieldLink "WhoIsThere" (443 : Nat) "WhoIsThere$Letter" "tellLife" "[I") ∈ xa_G := List.mem_filter.mpr ⟨List.mem_append_right _ (xa_t1 161 rfl), rfl⟩
set_option maxRecDepth 20000 in
theorem tb162 : (Jvm.Cond.fieldLink "WhoIsThere$Letter" (39 : Nat) "WhoIsThere$Letter" "tellBorne" "[I") ∈ xa_G := List.mem_filter.mpr ⟨List.mem_append_right _ (xa_t1 162 rfl), rfl⟩
set_option maxRecDepth 20000 in
theorem tb194 : (Jvm.Cond.fieldLink "WhoIsThere$Host" (43 : Nat) "WhoIsThere$Host" "number" "I") ∈ xa_G := List.mem_filter.mpr ⟨List.mem_append_right _ (xa_t1 194 rfl), rfl⟩
set_option maxRecDepth 20000 in
theorem tb195 : (Jvm.Cond.fieldLink "WhoIsThere" (32 : Nat) "WhoIsThere$Host" "number" "I") ∈ xa_G := List.mem_filter.mpr ⟨List.mem_append_right _ (xa_t1 195 rfl), rfl⟩
set_option maxRecDepth 20000 in
theorem tb196 : (Jvm.Cond.fieldLink "WhoIsThere$Host" (49 : Nat) "WhoIsThere$Host" "from" "I") ∈ xa_G := List.mem_filter.mpr ⟨List.mem_append_right _ (xa_t1 196 rfl), rfl⟩
set_option maxRecDepth 20000 in
theorem tb197 : (Jvm.Cond.fieldLink "WhoIsThere" (464 : Nat) "WhoIsThere$Host" "from" "I") ∈ xa_G := List.mem_filter.mpr ⟨List.mem_append_right _ (xa_t1 197 rfl), rfl⟩
set_option maxRecDepth 20000 in
theorem tb198 : (Jvm.Cond.fieldLink "WhoIsThere$Host" (52 : Nat) "WhoIsThere$Host" "to" "I") ∈ xa_G := List.mem_filter.mpr ⟨List.mem_append_right _ (xa_t1 198 rfl), rfl⟩
set_option maxRecDepth 20000 in
theorem tb199 : (Jvm.Cond.fieldLink "WhoIsThere" (467 : Nat) "WhoIsThere$Host" "to" "I") ∈ xa_G := List.mem_filter.mpr ⟨List.mem_append_right _ (xa_t1 199 rfl), rfl⟩
set_option maxRecDepth 20000 in
theorem tb200 : (Jvm.Cond.fieldLink "WhoIsThere$Host" (55 : Nat) "WhoIsThere$Host" "rank" "I") ∈ xa_G := List.mem_filter.mpr ⟨List.mem_append_right _ (xa_t1 200 rfl), rfl⟩
set_option maxRecDepth 20000 in
theorem tb201 : (Jvm.Cond.fieldLink "WhoIsThere" (271 : Nat) "WhoIsThere$Host" "rank" "I") ∈ xa_G := List.mem_filter.mpr ⟨List.mem_append_right _ (xa_t1 201 rfl), rfl⟩
set_option maxRecDepth 20000 in
theorem tb202 : (Jvm.Cond.fieldLink "WhoIsThere$Host" (12 : Nat) "WhoIsThere$Host" "store" "LWhoIsThere$Store;") ∈ xa_G := List.mem_filter.mpr ⟨List.mem_append_right _ (xa_t1 202 rfl), rfl⟩
set_option maxRecDepth 20000 in
theorem tb203 : (Jvm.Cond.fieldLink "WhoIsThere" (134 : Nat) "WhoIsThere$Host" "store" "LWhoIsThere$Store;") ∈ xa_G := List.mem_filter.mpr ⟨List.mem_append_right _ (xa_t1 203 rfl), rfl⟩
set_option maxRecDepth 20000 in
theorem tb204 : (Jvm.Cond.fieldLink "WhoIsThere$Host" (21 : Nat) "WhoIsThere$Host" "asks" "LWhoIsThere$Asks;") ∈ xa_G := List.mem_filter.mpr ⟨List.mem_append_right _ (xa_t1 204 rfl), rfl⟩
set_option maxRecDepth 20000 in
theorem tb205 : (Jvm.Cond.fieldLink "WhoIsThere" (71 : Nat) "WhoIsThere$Host" "asks" "LWhoIsThere$Asks;") ∈ xa_G := List.mem_filter.mpr ⟨List.mem_append_right _ (xa_t1 205 rfl), rfl⟩
set_option maxRecDepth 20000 in
theorem tb206 : (Jvm.Cond.fieldLink "WhoIsThere$Host" (28 : Nat) "WhoIsThere$Host" "answers" "LWhoIsThere$Answers;") ∈ xa_G := List.mem_filter.mpr ⟨List.mem_append_right _ (xa_t1 206 rfl), rfl⟩
set_option maxRecDepth 20000 in
theorem tb207 : (Jvm.Cond.fieldLink "WhoIsThere" (143 : Nat) "WhoIsThere$Host" "answers" "LWhoIsThere$Answers;") ∈ xa_G := List.mem_filter.mpr ⟨List.mem_append_right _ (xa_t1 207 rfl), rfl⟩
set_option maxRecDepth 20000 in
theorem tb208 : (Jvm.Cond.fieldLink "WhoIsThere$Host" (46 : Nat) "WhoIsThere$Host" "net" "I") ∈ xa_G := List.mem_filter.mpr ⟨List.mem_append_right _ (xa_t1 208 rfl), rfl⟩
set_option maxRecDepth 20000 in
theorem tb209 : (Jvm.Cond.fieldLink "WhoIsThere" (88 : Nat) "WhoIsThere$Host" "net" "I") ∈ xa_G := List.mem_filter.mpr ⟨List.mem_append_right _ (xa_t1 209 rfl), rfl⟩
set_option maxRecDepth 20000 in
theorem tb210 : (Jvm.Cond.fieldLink "WhoIsThere$Host" (32 : Nat) "WhoIsThere$Host" "state" "I") ∈ xa_G := List.mem_filter.mpr ⟨List.mem_append_right _ (xa_t1 210 rfl), rfl⟩
set_option maxRecDepth 20000 in
theorem tb211 : (Jvm.Cond.fieldLink "WhoIsThere" (95 : Nat) "WhoIsThere$Host" "state" "I") ∈ xa_G := List.mem_filter.mpr ⟨List.mem_append_right _ (xa_t1 211 rfl), rfl⟩
set_option maxRecDepth 20000 in
theorem tb212 : (Jvm.Cond.fieldLink "WhoIsThere$Host" (65 : Nat) "WhoIsThere$Host" "isKeeper" "Z") ∈ xa_G := List.mem_filter.mpr ⟨List.mem_append_right _ (xa_t1 212 rfl), rfl⟩
set_option maxRecDepth 20000 in
theorem tb213 : (Jvm.Cond.fieldLink "WhoIsThere" (91 : Nat) "WhoIsThere$Host" "isKeeper" "Z") ∈ xa_G := List.mem_filter.mpr ⟨List.mem_append_right _ (xa_t1 213 rfl), rfl⟩
set_option maxRecDepth 20000 in
theorem tb214 : (Jvm.Cond.fieldLink "WhoIsThere" (96 : Nat) "WhoIsThere$Host" "proxy" "LWhoIsThere$Host;") ∈ xa_G := List.mem_filter.mpr ⟨List.mem_append_right _ (xa_t1 214 rfl), rfl⟩
set_option maxRecDepth 20000 in
theorem tb215 : (Jvm.Cond.fieldLink "WhoIsThere$Host" (58 : Nat) "WhoIsThere$Host" "bridge" "LWhoIsThere$Bridge;") ∈ xa_G := List.mem_filter.mpr ⟨List.mem_append_right _ (xa_t1 215 rfl), rfl⟩
set_option maxRecDepth 20000 in
theorem tb216 : (Jvm.Cond.fieldLink "WhoIsThere" (155 : Nat) "WhoIsThere$Host" "bridge" "LWhoIsThere$Bridge;") ∈ xa_G := List.mem_filter.mpr ⟨List.mem_append_right _ (xa_t1 216 rfl), rfl⟩
set_option maxRecDepth 20000 in
theorem tb217 : (Jvm.Cond.fieldLink "WhoIsThere" (159 : Nat) "WhoIsThere$Host" "toLose" "I") ∈ xa_G := List.mem_filter.mpr ⟨List.mem_append_right _ (xa_t1 217 rfl), rfl⟩
set_option maxRecDepth 20000 in
theorem tb218 : (Jvm.Cond.fieldLink "WhoIsThere" (162 : Nat) "WhoIsThere$Host" "toMiss" "I") ∈ xa_G := List.mem_filter.mpr ⟨List.mem_append_right _ (xa_t1 218 rfl), rfl⟩
set_option maxRecDepth 20000 in
theorem tb219 : (Jvm.Cond.fieldLink "WhoIsThere" (213 : Nat) "WhoIsThere$Host" "written" "I") ∈ xa_G := List.mem_filter.mpr ⟨List.mem_append_right _ (xa_t1 219 rfl), rfl⟩
set_option maxRecDepth 20000 in
theorem tb220 : (Jvm.Cond.fieldLink "WhoIsThere$Host" (39 : Nat) "WhoIsThere$Host" "letter" "LWhoIsThere$Letter;") ∈ xa_G := List.mem_filter.mpr ⟨List.mem_append_right _ (xa_t1 220 rfl), rfl⟩
set_option maxRecDepth 20000 in
theorem tb221 : (Jvm.Cond.fieldLink "WhoIsThere" (280 : Nat) "WhoIsThere$Host" "letter" "LWhoIsThere$Letter;") ∈ xa_G := List.mem_filter.mpr ⟨List.mem_append_right _ (xa_t1 221 rfl), rfl⟩
set_option maxRecDepth 20000 in
theorem tb255 : (Jvm.Cond.methodLink "WhoIsThereLaw" (18 : Nat) ({ cls := "WhoIsThere", name := "offer", desc := "(IIIII)I" } : Jvm.MethodName)) ∈ xa_G := List.mem_filter.mpr ⟨List.mem_append_right _ (xa_t2 15 rfl), rfl⟩
set_option maxRecDepth 20000 in
theorem tb256 : (Jvm.Cond.instanceMethod ({ cls := "WhoIsThere", name := "offer", desc := "(IIIII)I" } : Jvm.MethodName)) ∈ xa_G := List.mem_filter.mpr ⟨List.mem_append_right _ (xa_t2 16 rfl), rfl⟩
set_option maxRecDepth 20000 in
theorem tb257 : (Jvm.Cond.selects "WhoIsThere" ({ cls := "WhoIsThere", name := "offer", desc := "(IIIII)I" } : Jvm.MethodName) ({ cls := "WhoIsThere", name := "offer", desc := "(IIIII)I" } : Jvm.MethodName)) ∈ xa_G := List.mem_filter.mpr ⟨List.mem_append_right _ (xa_t2 17 rfl), rfl⟩
set_option maxRecDepth 20000 in
theorem tb258 : (Jvm.Cond.code ({ cls := "WhoIsThere", name := "offer", desc := "(IIIII)I" } : Jvm.MethodName) prog_1_method_3_code (7 : Nat) (Option.some FieldType.int)) ∈ xa_G := List.mem_filter.mpr ⟨List.mem_append_right _ (xa_t2 18 rfl), rfl⟩
set_option maxRecDepth 20000 in
theorem tb259 : (Jvm.Cond.methodLink "WhoIsThere" (35 : Nat) ({ cls := "WhoIsThere", name := "stayingHelper", desc := "(I)LWhoIsThere$Host;" } : Jvm.MethodName)) ∈ xa_G := List.mem_filter.mpr ⟨List.mem_append_right _ (xa_t2 19 rfl), rfl⟩
set_option maxRecDepth 20000 in
theorem tb261 : (Jvm.Cond.instanceMethod ({ cls := "WhoIsThere", name := "stayingHelper", desc := "(I)LWhoIsThere$Host;" } : Jvm.MethodName)) ∈ xa_G := List.mem_filter.mpr ⟨List.mem_append_right _ (xa_t2 21 rfl), rfl⟩
set_option maxRecDepth 20000 in
theorem tb262 : (Jvm.Cond.code ({ cls := "WhoIsThere", name := "stayingHelper", desc := "(I)LWhoIsThere$Host;" } : Jvm.MethodName) prog_1_method_30_code (3 : Nat) (Option.some (FieldType.object "WhoIsThere$Host"))) ∈ xa_G := List.mem_filter.mpr ⟨List.mem_append_right _ (xa_t2 22 rfl), rfl⟩
set_option maxRecDepth 20000 in
theorem tb263 : (Jvm.Cond.methodLink "WhoIsThere" (115 : Nat) ({ cls := "WhoIsThere", name := "stayingHost", desc := "(I)LWhoIsThere$Host;" } : Jvm.MethodName)) ∈ xa_G := List.mem_filter.mpr ⟨List.mem_append_right _ (xa_t2 23 rfl), rfl⟩
set_option maxRecDepth 20000 in
theorem tb265 : (Jvm.Cond.instanceMethod ({ cls := "WhoIsThere", name := "stayingHost", desc := "(I)LWhoIsThere$Host;" } : Jvm.MethodName)) ∈ xa_G := List.mem_filter.mpr ⟨List.mem_append_right _ (xa_t2 25 rfl), rfl⟩
set_option maxRecDepth 20000 in
theorem tb266 : (Jvm.Cond.code ({ cls := "WhoIsThere", name := "stayingHost", desc := "(I)LWhoIsThere$Host;" } : Jvm.MethodName) prog_1_method_29_code (3 : Nat) (Option.some (FieldType.object "WhoIsThere$Host"))) ∈ xa_G := List.mem_filter.mpr ⟨List.mem_append_right _ (xa_t2 26 rfl), rfl⟩
set_option maxRecDepth 20000 in
theorem tb267 : (Jvm.Cond.methodLink "WhoIsThere" (100 : Nat) ({ cls := "WhoIsThere", name := "hostAt", desc := "(I)LWhoIsThere$Host;" } : Jvm.MethodName)) ∈ xa_G := List.mem_filter.mpr ⟨List.mem_append_right _ (xa_t2 27 rfl), rfl⟩
set_option maxRecDepth 20000 in
theorem tb269 : (Jvm.Cond.instanceMethod ({ cls := "WhoIsThere", name := "hostAt", desc := "(I)LWhoIsThere$Host;" } : Jvm.MethodName)) ∈ xa_G := List.mem_filter.mpr ⟨List.mem_append_right _ (xa_t2 29 rfl), rfl⟩
set_option maxRecDepth 20000 in
theorem tb270 : (Jvm.Cond.code ({ cls := "WhoIsThere", name := "hostAt", desc := "(I)LWhoIsThere$Host;" } : Jvm.MethodName) prog_1_method_28_code (2 : Nat) (Option.some (FieldType.object "WhoIsThere$Host"))) ∈ xa_G := List.mem_filter.mpr ⟨List.mem_append_right _ (xa_t2 30 rfl), rfl⟩
set_option maxRecDepth 20000 in
theorem tb271 : (Jvm.Cond.methodLink "WhoIsThere" (39 : Nat) ({ cls := "WhoIsThere$Host", name := "hasForName", desc := "(I)Z" } : Jvm.MethodName)) ∈ xa_G := List.mem_filter.mpr ⟨List.mem_append_right _ (xa_t2 31 rfl), rfl⟩
set_option maxRecDepth 20000 in
theorem tb272 : (Jvm.Cond.instanceMethod ({ cls := "WhoIsThere$Host", name := "hasForName", desc := "(I)Z" } : Jvm.MethodName)) ∈ xa_G := List.mem_filter.mpr ⟨List.mem_append_right _ (xa_t2 32 rfl), rfl⟩
set_option maxRecDepth 20000 in
theorem tb273 : (Jvm.Cond.selects "WhoIsThere$Host" ({ cls := "WhoIsThere$Host", name := "hasForName", desc := "(I)Z" } : Jvm.MethodName) ({ cls := "WhoIsThere$Host", name := "hasForName", desc := "(I)Z" } : Jvm.MethodName)) ∈ xa_G := List.mem_filter.mpr ⟨List.mem_append_right _ (xa_t2 33 rfl), rfl⟩
set_option maxRecDepth 20000 in
theorem tb274 : (Jvm.Cond.code ({ cls := "WhoIsThere$Host", name := "hasForName", desc := "(I)Z" } : Jvm.MethodName) prog_5_method_2_code (2 : Nat) (Option.some FieldType.boolean)) ∈ xa_G := List.mem_filter.mpr ⟨List.mem_append_right _ (xa_t2 34 rfl), rfl⟩
set_option maxRecDepth 20000 in
theorem tb275 : (Jvm.Cond.methodLink "WhoIsThere" (42 : Nat) ({ cls := "WhoIsThere", name := "addService", desc := "(LWhoIsThere$Host;IIIIZ)I" } : Jvm.MethodName)) ∈ xa_G := List.mem_filter.mpr ⟨List.mem_append_right _ (xa_t2 35 rfl), rfl⟩
set_option maxRecDepth 20000 in
theorem tb277 : (Jvm.Cond.instanceMethod ({ cls := "WhoIsThere", name := "addService", desc := "(LWhoIsThere$Host;IIIIZ)I" } : Jvm.MethodName)) ∈ xa_G := List.mem_filter.mpr ⟨List.mem_append_right _ (xa_t2 37 rfl), rfl⟩
set_option maxRecDepth 20000 in
theorem tb278 : (Jvm.Cond.code ({ cls := "WhoIsThere", name := "addService", desc := "(LWhoIsThere$Host;IIIIZ)I" } : Jvm.MethodName) prog_1_method_33_code (9 : Nat) (Option.some FieldType.int)) ∈ xa_G := List.mem_filter.mpr ⟨List.mem_append_right _ (xa_t2 38 rfl), rfl⟩
set_option maxRecDepth 20000 in
theorem tb279 : (Jvm.Cond.methodLink "WhoIsThere" (68 : Nat) ({ cls := "WhoIsThere", name := "isKind", desc := "(I)Z" } : Jvm.MethodName)) ∈ xa_G := List.mem_filter.mpr ⟨List.mem_append_right _ (xa_t2 39 rfl), rfl⟩
set_option maxRecDepth 20000 in
theorem tb280 : (Jvm.Cond.static ({ cls := "WhoIsThere", name := "isKind", desc := "(I)Z" } : Jvm.MethodName)) ∈ xa_G := List.mem_filter.mpr ⟨List.mem_append_right _ (xa_t2 40 rfl), rfl⟩
set_option maxRecDepth 20000 in
theorem tb281 : (Jvm.Cond.code ({ cls := "WhoIsThere", name := "isKind", desc := "(I)Z" } : Jvm.MethodName) prog_1_method_26_code (1 : Nat) (Option.some FieldType.boolean)) ∈ xa_G := List.mem_filter.mpr ⟨List.mem_append_right _ (xa_t2 41 rfl), rfl⟩
set_option maxRecDepth 20000 in
theorem tb282 : (Jvm.Cond.methodLink "WhoIsThere" (53 : Nat) ({ cls := "WhoIsThere", name := "areMarks", desc := "(I)Z" } : Jvm.MethodName)) ∈ xa_G := List.mem_filter.mpr ⟨List.mem_append_right _ (xa_t2 42 rfl), rfl⟩
set_option maxRecDepth 20000 in
theorem tb283 : (Jvm.Cond.static ({ cls := "WhoIsThere", name := "areMarks", desc := "(I)Z" } : Jvm.MethodName)) ∈ xa_G := List.mem_filter.mpr ⟨List.mem_append_right _ (xa_t2 43 rfl), rfl⟩
set_option maxRecDepth 20000 in
theorem tb284 : (Jvm.Cond.code ({ cls := "WhoIsThere", name := "areMarks", desc := "(I)Z" } : Jvm.MethodName) prog_1_method_27_code (1 : Nat) (Option.some FieldType.boolean)) ∈ xa_G := List.mem_filter.mpr ⟨List.mem_append_right _ (xa_t2 44 rfl), rfl⟩
set_option maxRecDepth 20000 in
theorem tb285 : (Jvm.Cond.methodLink "WhoIsThere" (250 : Nat) ({ cls := "WhoIsThere", name := "liveServicesOf", desc := "(LWhoIsThere$Host;)I" } : Jvm.MethodName)) ∈ xa_G := List.mem_filter.mpr ⟨List.mem_append_right _ (xa_t2 45 rfl), rfl⟩
set_option maxRecDepth 20000 in
theorem tb287 : (Jvm.Cond.instanceMethod ({ cls := "WhoIsThere", name := "liveServicesOf", desc := "(LWhoIsThere$Host;)I" } : Jvm.MethodName)) ∈ xa_G := List.mem_filter.mpr ⟨List.mem_append_right _ (xa_t2 47 rfl), rfl⟩
set_option maxRecDepth 20000 in
theorem tb288 : (Jvm.Cond.code ({ cls := "WhoIsThere", name := "liveServicesOf", desc := "(LWhoIsThere$Host;)I" } : Jvm.MethodName) prog_1_method_34_code (4 : Nat) (Option.some FieldType.int)) ∈ xa_G := List.mem_filter.mpr ⟨List.mem_append_right _ (xa_t2 48 rfl), rfl⟩
set_option maxRecDepth 20000 in
theorem tb289 : (Jvm.Cond.methodLink "WhoIsThere" (253 : Nat) ({ cls := "WhoIsThere", name := "isNameTaken", desc := "(LWhoIsThere$Host;I)Z" } : Jvm.MethodName)) ∈ xa_G := List.mem_filter.mpr ⟨List.mem_append_right _ (xa_t2 49 rfl), rfl⟩
set_option maxRecDepth 20000 in
theorem tb291 : (Jvm.Cond.instanceMethod ({ cls := "WhoIsThere", name := "isNameTaken", desc := "(LWhoIsThere$Host;I)Z" } : Jvm.MethodName)) ∈ xa_G := List.mem_filter.mpr ⟨List.mem_append_right _ (xa_t2 51 rfl), rfl⟩
set_option maxRecDepth 20000 in
theorem tb292 : (Jvm.Cond.code ({ cls := "WhoIsThere", name := "isNameTaken", desc := "(LWhoIsThere$Host;I)Z" } : Jvm.MethodName) prog_1_method_35_code (5 : Nat) (Option.some FieldType.boolean)) ∈ xa_G := List.mem_filter.mpr ⟨List.mem_append_right _ (xa_t2 52 rfl), rfl⟩
set_option maxRecDepth 20000 in
theorem tb293 : (Jvm.Cond.instantiable "WhoIsThere$Service" (12 : Nat)) ∈ xa_G := List.mem_filter.mpr ⟨List.mem_append_right _ (xa_t2 53 rfl), rfl⟩
set_option maxRecDepth 20000 in
theorem tb294 : (Jvm.Cond.methodLink "WhoIsThere" (257 : Nat) ({ cls := "WhoIsThere$Service", name := "<init>", desc := "(ILWhoIsThere$Host;IIIIZ)V" } : Jvm.MethodName)) ∈ xa_G := List.mem_filter.mpr ⟨List.mem_append_right _ (xa_t2 54 rfl), rfl⟩
set_option maxRecDepth 20000 in
theorem tb295 : (Jvm.Cond.instanceMethod ({ cls := "WhoIsThere$Service", name := "<init>", desc := "(ILWhoIsThere$Host;IIIIZ)V" } : Jvm.MethodName)) ∈ xa_G := List.mem_filter.mpr ⟨List.mem_append_right _ (xa_t2 55 rfl), rfl⟩
set_option maxRecDepth 20000 in
theorem tb296 : (Jvm.Cond.code ({ cls := "WhoIsThere$Service", name := "<init>", desc := "(ILWhoIsThere$Host;IIIIZ)V" } : Jvm.MethodName) prog_7_method_1_code (8 : Nat) (Option.none : Option FieldType)) ∈ xa_G := List.mem_filter.mpr ⟨List.mem_append_right _ (xa_t2 56 rfl), rfl⟩
set_option maxRecDepth 20000 in
theorem tb297 : (Jvm.Cond.methodLink "WhoIsThere$Service" (3 : Nat) ({ cls := "java/lang/Object", name := "<init>", desc := "()V" } : Jvm.MethodName)) ∈ xa_G := List.mem_filter.mpr ⟨List.mem_append_right _ (xa_t2 57 rfl), rfl⟩
set_option maxRecDepth 20000 in
theorem tb298 : (Jvm.Cond.fieldLink "WhoIsThere$Service" (18 : Nat) "WhoIsThere$Service" "number" "I") ∈ xa_G := List.mem_filter.mpr ⟨List.mem_append_right _ (xa_t2 58 rfl), rfl⟩
set_option maxRecDepth 20000 in
theorem tb299 : (Jvm.Cond.fieldLink "WhoIsThere" (264 : Nat) "WhoIsThere$Service" "number" "I") ∈ xa_G := List.mem_filter.mpr ⟨List.mem_append_right _ (xa_t2 59 rfl), rfl⟩
set_option maxRecDepth 20000 in
theorem tb300 : (Jvm.Cond.fieldLink "WhoIsThere$Service" (21 : Nat) "WhoIsThere$Service" "host" "LWhoIsThere$Host;") ∈ xa_G := List.mem_filter.mpr ⟨List.mem_append_right _ (xa_t2 60 rfl), rfl⟩
set_option maxRecDepth 20000 in
theorem tb301 : (Jvm.Cond.fieldLink "WhoIsThere" (106 : Nat) "WhoIsThere$Service" "host" "LWhoIsThere$Host;") ∈ xa_G := List.mem_filter.mpr ⟨List.mem_append_right _ (xa_t2 61 rfl), rfl⟩
set_option maxRecDepth 20000 in
theorem tb302 : (Jvm.Cond.fieldLink "WhoIsThere$Service" (25 : Nat) "WhoIsThere$Service" "kind" "I") ∈ xa_G := List.mem_filter.mpr ⟨List.mem_append_right _ (xa_t2 62 rfl), rfl⟩
set_option maxRecDepth 20000 in
theorem tb303 : (Jvm.Cond.fieldLink "WhoIsThere" (268 : Nat) "WhoIsThere$Service" "kind" "I") ∈ xa_G := List.mem_filter.mpr ⟨List.mem_append_right _ (xa_t2 63 rfl), rfl⟩
set_option maxRecDepth 20000 in
theorem tb304 : (Jvm.Cond.fieldLink "WhoIsThere$Service" (34 : Nat) "WhoIsThere$Service" "life" "I") ∈ xa_G := List.mem_filter.mpr ⟨List.mem_append_right _ (xa_t2 64 rfl), rfl⟩
set_option maxRecDepth 20000 in
theorem tb305 : (Jvm.Cond.fieldLink "WhoIsThere" (335 : Nat) "WhoIsThere$Service" "life" "I") ∈ xa_G := List.mem_filter.mpr ⟨List.mem_append_right _ (xa_t2 65 rfl), rfl⟩
set_option maxRecDepth 20000 in
theorem tb306 : (Jvm.Cond.fieldLink "WhoIsThere$Service" (37 : Nat) "WhoIsThere$Service" "isFalse" "Z") ∈ xa_G := List.mem_filter.mpr ⟨List.mem_append_right _ (xa_t2 66 rfl), rfl⟩
set_option maxRecDepth 20000 in
theorem tb307 : (Jvm.Cond.fieldLink "WhoIsThere" (265 : Nat) "WhoIsThere$Service" "isFalse" "Z") ∈ xa_G := List.mem_filter.mpr ⟨List.mem_append_right _ (xa_t2 67 rfl), rfl⟩
set_option maxRecDepth 20000 in
theorem tb308 : (Jvm.Cond.fieldLink "WhoIsThere$Service" (28 : Nat) "WhoIsThere$Service" "name" "I") ∈ xa_G := List.mem_filter.mpr ⟨List.mem_append_right _ (xa_t2 68 rfl), rfl⟩
set_option maxRecDepth 20000 in
theorem tb309 : (Jvm.Cond.fieldLink "WhoIsThere" (201 : Nat) "WhoIsThere$Service" "name" "I") ∈ xa_G := List.mem_filter.mpr ⟨List.mem_append_right _ (xa_t2 69 rfl), rfl⟩
set_option maxRecDepth 20000 in
theorem tb310 : (Jvm.Cond.fieldLink "WhoIsThere$Service" (31 : Nat) "WhoIsThere$Service" "marks" "I") ∈ xa_G := List.mem_filter.mpr ⟨List.mem_append_right _ (xa_t2 70 rfl), rfl⟩
set_option maxRecDepth 20000 in
theorem tb311 : (Jvm.Cond.fieldLink "WhoIsThere" (56 : Nat) "WhoIsThere$Service" "marks" "I") ∈ xa_G := List.mem_filter.mpr ⟨List.mem_append_right _ (xa_t2 71 rfl), rfl⟩
set_option maxRecDepth 20000 in
theorem tb312 : (Jvm.Cond.fieldLink "WhoIsThere$Service" (9 : Nat) "WhoIsThere$Service" "state" "I") ∈ xa_G := List.mem_filter.mpr ⟨List.mem_append_right _ (xa_t2 72 rfl), rfl⟩
set_option maxRecDepth 20000 in
theorem tb313 : (Jvm.Cond.fieldLink "WhoIsThere" (59 : Nat) "WhoIsThere$Service" "state" "I") ∈ xa_G := List.mem_filter.mpr ⟨List.mem_append_right _ (xa_t2 73 rfl), rfl⟩
set_option maxRecDepth 20000 in
theorem tb314 : (Jvm.Cond.fieldLink "WhoIsThere$Service" (15 : Nat) "WhoIsThere$Service" "claims" "I") ∈ xa_G := List.mem_filter.mpr ⟨List.mem_append_right _ (xa_t2 74 rfl), rfl⟩
set_option maxRecDepth 20000 in
theorem tb315 : (Jvm.Cond.fieldLink "WhoIsThere" (203 : Nat) "WhoIsThere$Service" "claims" "I") ∈ xa_G := List.mem_filter.mpr ⟨List.mem_append_right _ (xa_t2 75 rfl), rfl⟩
set_option maxRecDepth 20000 in
theorem tb316 : (Jvm.Cond.fieldLink "WhoIsThere$Service" (41 : Nat) "WhoIsThere$Service" "renewal" "I") ∈ xa_G := List.mem_filter.mpr ⟨List.mem_append_right _ (xa_t2 76 rfl), rfl⟩
set_option maxRecDepth 20000 in
theorem tb317 : (Jvm.Cond.fieldLink "WhoIsThere" (65 : Nat) "WhoIsThere$Service" "renewal" "I") ∈ xa_G := List.mem_filter.mpr ⟨List.mem_append_right _ (xa_t2 77 rfl), rfl⟩
set_option maxRecDepth 20000 in
theorem tb318 : (Jvm.Cond.fieldLink "WhoIsThere$Service" (44 : Nat) "WhoIsThere$Service" "hasBye" "Z") ∈ xa_G := List.mem_filter.mpr ⟨List.mem_append_right _ (xa_t2 78 rfl), rfl⟩
set_option maxRecDepth 20000 in
theorem tb319 : (Jvm.Cond.fieldLink "WhoIsThere" (109 : Nat) "WhoIsThere$Service" "hasBye" "Z") ∈ xa_G := List.mem_filter.mpr ⟨List.mem_append_right _ (xa_t2 79 rfl), rfl⟩
set_option maxRecDepth 20000 in
theorem tb320 : (Jvm.Cond.fieldLink "WhoIsThere$Service" (47 : Nat) "WhoIsThere$Service" "yielded" "I") ∈ xa_G := List.mem_filter.mpr ⟨List.mem_append_right _ (xa_t2 80 rfl), rfl⟩
set_option maxRecDepth 20000 in
theorem tb321 : (Jvm.Cond.fieldLink "WhoIsThere" (206 : Nat) "WhoIsThere$Service" "yielded" "I") ∈ xa_G := List.mem_filter.mpr ⟨List.mem_append_right _ (xa_t2 81 rfl), rfl⟩
set_option maxRecDepth 20000 in
theorem tb347 : (Jvm.Cond.methodLink "WhoIsThere" (260 : Nat) ({ cls := "WhoIsThere$Service", name := "hold", desc := "(I)V" } : Jvm.MethodName)) ∈ xa_G := List.mem_filter.mpr ⟨List.mem_append_right _ (xa_t2 107 rfl), rfl⟩
set_option maxRecDepth 20000 in
theorem tb348 : (Jvm.Cond.instanceMethod ({ cls := "WhoIsThere$Service", name := "hold", desc := "(I)V" } : Jvm.MethodName)) ∈ xa_G := List.mem_filter.mpr ⟨List.mem_append_right _ (xa_t2 108 rfl), rfl⟩
set_option maxRecDepth 20000 in
theorem tb349 : (Jvm.Cond.selects "WhoIsThere$Service" ({ cls := "WhoIsThere$Service", name := "hold", desc := "(I)V" } : Jvm.MethodName) ({ cls := "WhoIsThere$Service", name := "hold", desc := "(I)V" } : Jvm.MethodName)) ∈ xa_G := List.mem_filter.mpr ⟨List.mem_append_right _ (xa_t2 109 rfl), rfl⟩
set_option maxRecDepth 20000 in
theorem tb350 : (Jvm.Cond.code ({ cls := "WhoIsThere$Service", name := "hold", desc := "(I)V" } : Jvm.MethodName) prog_7_method_2_code (2 : Nat) (Option.none : Option FieldType)) ∈ xa_G := List.mem_filter.mpr ⟨List.mem_append_right _ (xa_t2 110 rfl), rfl⟩
set_option maxRecDepth 20000 in
theorem tb351 : (Jvm.Cond.methodLink "WhoIsThereLaw" (23 : Nat) ({ cls := "WhoIsThere", name := "lie", desc := "(IIIII)I" } : Jvm.MethodName)) ∈ xa_G := List.mem_filter.mpr ⟨List.mem_append_right _ (xa_t2 111 rfl), rfl⟩
set_option maxRecDepth 20000 in
theorem tb352 : (Jvm.Cond.instanceMethod ({ cls := "WhoIsThere", name := "lie", desc := "(IIIII)I" } : Jvm.MethodName)) ∈ xa_G := List.mem_filter.mpr ⟨List.mem_append_right _ (xa_t2 112 rfl), rfl⟩
set_option maxRecDepth 20000 in
theorem tb353 : (Jvm.Cond.selects "WhoIsThere" ({ cls := "WhoIsThere", name := "lie", desc := "(IIIII)I" } : Jvm.MethodName) ({ cls := "WhoIsThere", name := "lie", desc := "(IIIII)I" } : Jvm.MethodName)) ∈ xa_G := List.mem_filter.mpr ⟨List.mem_append_right _ (xa_t2 113 rfl), rfl⟩
set_option maxRecDepth 20000 in
theorem tb354 : (Jvm.Cond.code ({ cls := "WhoIsThere", name := "lie", desc := "(IIIII)I" } : Jvm.MethodName) prog_1_method_4_code (7 : Nat) (Option.some FieldType.int)) ∈ xa_G := List.mem_filter.mpr ⟨List.mem_append_right _ (xa_t2 114 rfl), rfl⟩
set_option maxRecDepth 20000 in
theorem tb355 : (Jvm.Cond.methodLink "WhoIsThereLaw" (27 : Nat) ({ cls := "WhoIsThere", name := "drop", desc := "(I)Z" } : Jvm.MethodName)) ∈ xa_G := List.mem_filter.mpr ⟨List.mem_append_right _ (xa_t2 115 rfl), rfl⟩
set_option maxRecDepth 20000 in
theorem tb356 : (Jvm.Cond.instanceMethod ({ cls := "WhoIsThere", name := "drop", desc := "(I)Z" } : Jvm.MethodName)) ∈ xa_G := List.mem_filter.mpr ⟨List.mem_append_right _ (xa_t2 116 rfl), rfl⟩
set_option maxRecDepth 20000 in
theorem tb357 : (Jvm.Cond.selects "WhoIsThere" ({ cls := "WhoIsThere", name := "drop", desc := "(I)Z" } : Jvm.MethodName) ({ cls := "WhoIsThere", name := "drop", desc := "(I)Z" } : Jvm.MethodName)) ∈ xa_G := List.mem_filter.mpr ⟨List.mem_append_right _ (xa_t2 117 rfl), rfl⟩
set_option maxRecDepth 20000 in
theorem tb358 : (Jvm.Cond.code ({ cls := "WhoIsThere", name := "drop", desc := "(I)Z" } : Jvm.MethodName) prog_1_method_5_code (3 : Nat) (Option.some FieldType.boolean)) ∈ xa_G := List.mem_filter.mpr ⟨List.mem_append_right _ (xa_t2 118 rfl), rfl⟩
set_option maxRecDepth 20000 in
theorem tb359 : (Jvm.Cond.methodLink "WhoIsThere" (46 : Nat) ({ cls := "WhoIsThere", name := "serviceInCare", desc := "(I)LWhoIsThere$Service;" } : Jvm.MethodName)) ∈ xa_G := List.mem_filter.mpr ⟨List.mem_append_right _ (xa_t2 119 rfl), rfl⟩
set_option maxRecDepth 20000 in
theorem tb361 : (Jvm.Cond.instanceMethod ({ cls := "WhoIsThere", name := "serviceInCare", desc := "(I)LWhoIsThere$Service;" } : Jvm.MethodName)) ∈ xa_G := List.mem_filter.mpr ⟨List.mem_append_right _ (xa_t2 121 rfl), rfl⟩
set_option maxRecDepth 20000 in
theorem tb362 : (Jvm.Cond.code ({ cls := "WhoIsThere", name := "serviceInCare", desc := "(I)LWhoIsThere$Service;" } : Jvm.MethodName) prog_1_method_32_code (3 : Nat) (Option.some (FieldType.object "WhoIsThere$Service"))) ∈ xa_G := List.mem_filter.mpr ⟨List.mem_append_right _ (xa_t2 122 rfl), rfl⟩
set_option maxRecDepth 20000 in
theorem tb363 : (Jvm.Cond.methodLink "WhoIsThere" (188 : Nat) ({ cls := "WhoIsThere", name := "serviceAt", desc := "(I)LWhoIsThere$Service;" } : Jvm.MethodName)) ∈ xa_G := List.mem_filter.mpr ⟨List.mem_append_right _ (xa_t2 123 rfl), rfl⟩
set_option maxRecDepth 20000 in
theorem tb365 : (Jvm.Cond.instanceMethod ({ cls := "WhoIsThere", name := "serviceAt", desc := "(I)LWhoIsThere$Service;" } : Jvm.MethodName)) ∈ xa_G := List.mem_filter.mpr ⟨List.mem_append_right _ (xa_t2 125 rfl), rfl⟩
set_option maxRecDepth 20000 in
theorem tb366 : (Jvm.Cond.code ({ cls := "WhoIsThere", name := "serviceAt", desc := "(I)LWhoIsThere$Service;" } : Jvm.MethodName) prog_1_method_31_code (2 : Nat) (Option.some (FieldType.object "WhoIsThere$Service"))) ∈ xa_G := List.mem_filter.mpr ⟨List.mem_append_right _ (xa_t2 126 rfl), rfl⟩
set_option maxRecDepth 20000 in
theorem tb367 : (Jvm.Cond.methodLink "WhoIsThere" (50 : Nat) ({ cls := "WhoIsThere$Service", name := "end", desc := "()V" } : Jvm.MethodName)) ∈ xa_G := List.mem_filter.mpr ⟨List.mem_append_right _ (xa_t2 127 rfl), rfl⟩
set_option maxRecDepth 20000 in
theorem tb368 : (Jvm.Cond.instanceMethod ({ cls := "WhoIsThere$Service", name := "end", desc := "()V" } : Jvm.MethodName)) ∈ xa_G := List.mem_filter.mpr ⟨List.mem_append_right _ (xa_t2 128 rfl), rfl⟩
set_option maxRecDepth 20000 in
theorem tb369 : (Jvm.Cond.selects "WhoIsThere$Service" ({ cls := "WhoIsThere$Service", name := "end", desc := "()V" } : Jvm.MethodName) ({ cls := "WhoIsThere$Service", name := "end", desc := "()V" } : Jvm.MethodName)) ∈ xa_G := List.mem_filter.mpr ⟨List.mem_append_right _ (xa_t2 129 rfl), rfl⟩
set_option maxRecDepth 20000 in
theorem tb370 : (Jvm.Cond.code ({ cls := "WhoIsThere$Service", name := "end", desc := "()V" } : Jvm.MethodName) prog_7_method_3_code (1 : Nat) (Option.none : Option FieldType)) ∈ xa_G := List.mem_filter.mpr ⟨List.mem_append_right _ (xa_t2 130 rfl), rfl⟩
set_option maxRecDepth 20000 in
theorem tb371 : (Jvm.Cond.methodLink "WhoIsThereLaw" (32 : Nat) ({ cls := "WhoIsThere", name := "change", desc := "(II)Z" } : Jvm.MethodName)) ∈ xa_G := List.mem_filter.mpr ⟨List.mem_append_right _ (xa_t2 131 rfl), rfl⟩
set_option maxRecDepth 20000 in
theorem tb372 : (Jvm.Cond.instanceMethod ({ cls := "WhoIsThere", name := "change", desc := "(II)Z" } : Jvm.MethodName)) ∈ xa_G := List.mem_filter.mpr ⟨List.mem_append_right _ (xa_t2 132 rfl), rfl⟩
set_option maxRecDepth 20000 in
theorem tb373 : (Jvm.Cond.selects "WhoIsThere" ({ cls := "WhoIsThere", name := "change", desc := "(II)Z" } : Jvm.MethodName) ({ cls := "WhoIsThere", name := "change", desc := "(II)Z" } : Jvm.MethodName)) ∈ xa_G := List.mem_filter.mpr ⟨List.mem_append_right _ (xa_t2 133 rfl), rfl⟩
set_option maxRecDepth 20000 in
theorem tb374 : (Jvm.Cond.code ({ cls := "WhoIsThere", name := "change", desc := "(II)Z" } : Jvm.MethodName) prog_1_method_6_code (4 : Nat) (Option.some FieldType.boolean)) ∈ xa_G := List.mem_filter.mpr ⟨List.mem_append_right _ (xa_t2 134 rfl), rfl⟩
set_option maxRecDepth 20000 in
theorem tb375 : (Jvm.Cond.methodLink "WhoIsThereLaw" (37 : Nat) ({ cls := "WhoIsThere", name := "ask", desc := "(III)Z" } : Jvm.MethodName)) ∈ xa_G := List.mem_filter.mpr ⟨List.mem_append_right _ (xa_t2 135 rfl), rfl⟩
set_option maxRecDepth 20000 in
theorem tb376 : (Jvm.Cond.instanceMethod ({ cls := "WhoIsThere", name := "ask", desc := "(III)Z" } : Jvm.MethodName)) ∈ xa_G := List.mem_filter.mpr ⟨List.mem_append_right _ (xa_t2 136 rfl), rfl⟩
set_option maxRecDepth 20000 in
theorem tb377 : (Jvm.Cond.selects "WhoIsThere" ({ cls := "WhoIsThere", name := "ask", desc := "(III)Z" } : Jvm.MethodName) ({ cls := "WhoIsThere", name := "ask", desc := "(III)Z" } : Jvm.MethodName)) ∈ xa_G := List.mem_filter.mpr ⟨List.mem_append_right _ (xa_t2 137 rfl), rfl⟩
set_option maxRecDepth 20000 in
theorem tb378 : (Jvm.Cond.code ({ cls := "WhoIsThere", name := "ask", desc := "(III)Z" } : Jvm.MethodName) prog_1_method_7_code (5 : Nat) (Option.some FieldType.boolean)) ∈ xa_G := List.mem_filter.mpr ⟨List.mem_append_right _ (xa_t2 138 rfl), rfl⟩
set_option maxRecDepth 20000 in
theorem tb379 : (Jvm.Cond.methodLink "WhoIsThere" (75 : Nat) ({ cls := "WhoIsThere$Asks", name := "has", desc := "(I)Z" } : Jvm.MethodName)) ∈ xa_G := List.mem_filter.mpr ⟨List.mem_append_right _ (xa_t2 139 rfl), rfl⟩
set_option maxRecDepth 20000 in
theorem tb380 : (Jvm.Cond.instanceMethod ({ cls := "WhoIsThere$Asks", name := "has", desc := "(I)Z" } : Jvm.MethodName)) ∈ xa_G := List.mem_filter.mpr ⟨List.mem_append_right _ (xa_t2 140 rfl), rfl⟩
set_option maxRecDepth 20000 in
theorem tb381 : (Jvm.Cond.selects "WhoIsThere$Asks" ({ cls := "WhoIsThere$Asks", name := "has", desc := "(I)Z" } : Jvm.MethodName) ({ cls := "WhoIsThere$Asks", name := "has", desc := "(I)Z" } : Jvm.MethodName)) ∈ xa_G := List.mem_filter.mpr ⟨List.mem_append_right _ (xa_t2 141 rfl), rfl⟩
set_option maxRecDepth 20000 in
theorem tb382 : (Jvm.Cond.code ({ cls := "WhoIsThere$Asks", name := "has", desc := "(I)Z" } : Jvm.MethodName) prog_3_method_2_code (2 : Nat) (Option.some FieldType.boolean)) ∈ xa_G := List.mem_filter.mpr ⟨List.mem_append_right _ (xa_t2 142 rfl), rfl⟩
set_option maxRecDepth 20000 in
theorem tb384 : (Jvm.Cond.static ({ cls := "WhoIsThere", name := "isIn", desc := "(II)Z" } : Jvm.MethodName)) ∈ xa_G := List.mem_filter.mpr ⟨List.mem_append_right _ (xa_t2 144 rfl), rfl⟩
set_option maxRecDepth 20000 in
theorem tb385 : (Jvm.Cond.code ({ cls := "WhoIsThere", name := "isIn", desc := "(II)Z" } : Jvm.MethodName) prog_1_method_67_code (2 : Nat) (Option.some FieldType.boolean)) ∈ xa_G := List.mem_filter.mpr ⟨List.mem_append_right _ (xa_t2 145 rfl), rfl⟩
set_option maxRecDepth 20000 in
theorem tb386 : (Jvm.Cond.methodLink "WhoIsThere" (80 : Nat) ({ cls := "WhoIsThere", name := "lotOf", desc := "(LWhoIsThere$Host;)I" } : Jvm.MethodName)) ∈ xa_G := List.mem_filter.mpr ⟨List.mem_append_right _ (xa_t2 146 rfl), rfl⟩
set_option maxRecDepth 20000 in
theorem tb388 : (Jvm.Cond.instanceMethod ({ cls := "WhoIsThere", name := "lotOf", desc := "(LWhoIsThere$Host;)I" } : Jvm.MethodName)) ∈ xa_G := List.mem_filter.mpr ⟨List.mem_append_right _ (xa_t2 148 rfl), rfl⟩
set_option maxRecDepth 20000 in
theorem tb389 : (Jvm.Cond.code ({ cls := "WhoIsThere", name := "lotOf", desc := "(LWhoIsThere$Host;)I" } : Jvm.MethodName) prog_1_method_41_code (2 : Nat) (Option.some FieldType.int)) ∈ xa_G := List.mem_filter.mpr ⟨List.mem_append_right _ (xa_t2 149 rfl), rfl⟩
set_option maxRecDepth 20000 in
theorem tb390 : (Jvm.Cond.methodLink "WhoIsThere" (84 : Nat) ({ cls := "WhoIsThere$Asks", name := "put", desc := "(III)V" } : Jvm.MethodName)) ∈ xa_G := List.mem_filter.mpr ⟨List.mem_append_right _ (xa_t2 150 rfl), rfl⟩
set_option maxRecDepth 20000 in
theorem tb391 : (Jvm.Cond.instanceMethod ({ cls := "WhoIsThere$Asks", name := "put", desc := "(III)V" } : Jvm.MethodName)) ∈ xa_G := List.mem_filter.mpr ⟨List.mem_append_right _ (xa_t2 151 rfl), rfl⟩
set_option maxRecDepth 20000 in
theorem tb392 : (Jvm.Cond.selects "WhoIsThere$Asks" ({ cls := "WhoIsThere$Asks", name := "put", desc := "(III)V" } : Jvm.MethodName) ({ cls := "WhoIsThere$Asks", name := "put", desc := "(III)V" } : Jvm.MethodName)) ∈ xa_G := List.mem_filter.mpr ⟨List.mem_append_right _ (xa_t2 152 rfl), rfl⟩
set_option maxRecDepth 20000 in
theorem tb393 : (Jvm.Cond.code ({ cls := "WhoIsThere$Asks", name := "put", desc := "(III)V" } : Jvm.MethodName) prog_3_method_6_code (4 : Nat) (Option.none : Option FieldType)) ∈ xa_G := List.mem_filter.mpr ⟨List.mem_append_right _ (xa_t2 153 rfl), rfl⟩
set_option maxRecDepth 20000 in
theorem tb394 : (Jvm.Cond.methodLink "WhoIsThereLaw" (42 : Nat) ({ cls := "WhoIsThere", name := "sleep", desc := "(II)Z" } : Jvm.MethodName)) ∈ xa_G := List.mem_filter.mpr ⟨List.mem_append_right _ (xa_t2 154 rfl), rfl⟩
set_option maxRecDepth 20000 in
theorem tb395 : (Jvm.Cond.instanceMethod ({ cls := "WhoIsThere", name := "sleep", desc := "(II)Z" } : Jvm.MethodName)) ∈ xa_G := List.mem_filter.mpr ⟨List.mem_append_right _ (xa_t2 155 rfl), rfl⟩
set_option maxRecDepth 20000 in
theorem tb396 : (Jvm.Cond.selects "WhoIsThere" ({ cls := "WhoIsThere", name := "sleep", desc := "(II)Z" } : Jvm.MethodName) ({ cls := "WhoIsThere", name := "sleep", desc := "(II)Z" } : Jvm.MethodName)) ∈ xa_G := List.mem_filter.mpr ⟨List.mem_append_right _ (xa_t2 156 rfl), rfl⟩
set_option maxRecDepth 20000 in
theorem tb397 : (Jvm.Cond.code ({ cls := "WhoIsThere", name := "sleep", desc := "(II)Z" } : Jvm.MethodName) prog_1_method_8_code (5 : Nat) (Option.some FieldType.boolean)) ∈ xa_G := List.mem_filter.mpr ⟨List.mem_append_right _ (xa_t2 157 rfl), rfl⟩
set_option maxRecDepth 20000 in
theorem tb398 : (Jvm.Cond.methodLink "WhoIsThereLaw" (46 : Nat) ({ cls := "WhoIsThere", name := "wake", desc := "(I)Z" } : Jvm.MethodName)) ∈ xa_G := List.mem_filter.mpr ⟨List.mem_append_right _ (xa_t2 158 rfl), rfl⟩
set_option maxRecDepth 20000 in
theorem tb399 : (Jvm.Cond.instanceMethod ({ cls := "WhoIsThere", name := "wake", desc := "(I)Z" } : Jvm.MethodName)) ∈ xa_G := List.mem_filter.mpr ⟨List.mem_append_right _ (xa_t2 159 rfl), rfl⟩
set_option maxRecDepth 20000 in
theorem tb400 : (Jvm.Cond.selects "WhoIsThere" ({ cls := "WhoIsThere", name := "wake", desc := "(I)Z" } : Jvm.MethodName) ({ cls := "WhoIsThere", name := "wake", desc := "(I)Z" } : Jvm.MethodName)) ∈ xa_G := List.mem_filter.mpr ⟨List.mem_append_right _ (xa_t2 160 rfl), rfl⟩
set_option maxRecDepth 20000 in
theorem tb401 : (Jvm.Cond.code ({ cls := "WhoIsThere", name := "wake", desc := "(I)Z" } : Jvm.MethodName) prog_1_method_9_code (3 : Nat) (Option.some FieldType.boolean)) ∈ xa_G := List.mem_filter.mpr ⟨List.mem_append_right _ (xa_t2 161 rfl), rfl⟩
set_option maxRecDepth 20000 in
theorem tb402 : (Jvm.Cond.methodLink "WhoIsThereLaw" (50 : Nat) ({ cls := "WhoIsThere", name := "fall", desc := "(I)Z" } : Jvm.MethodName)) ∈ xa_G := List.mem_filter.mpr ⟨List.mem_append_right _ (xa_t2 162 rfl), rfl⟩
set_option maxRecDepth 20000 in
theorem tb403 : (Jvm.Cond.instanceMethod ({ cls := "WhoIsThere", name := "fall", desc := "(I)Z" } : Jvm.MethodName)) ∈ xa_G := List.mem_filter.mpr ⟨List.mem_append_right _ (xa_t2 163 rfl), rfl⟩
set_option maxRecDepth 20000 in
theorem tb404 : (Jvm.Cond.selects "WhoIsThere" ({ cls := "WhoIsThere", name := "fall", desc := "(I)Z" } : Jvm.MethodName) ({ cls := "WhoIsThere", name := "fall", desc := "(I)Z" } : Jvm.MethodName)) ∈ xa_G := List.mem_filter.mpr ⟨List.mem_append_right _ (xa_t2 164 rfl), rfl⟩
set_option maxRecDepth 20000 in
theorem tb405 : (Jvm.Cond.code ({ cls := "WhoIsThere", name := "fall", desc := "(I)Z" } : Jvm.MethodName) prog_1_method_10_code (4 : Nat) (Option.some FieldType.boolean)) ∈ xa_G := List.mem_filter.mpr ⟨List.mem_append_right _ (xa_t2 165 rfl), rfl⟩
set_option maxRecDepth 20000 in
theorem tb406 : (Jvm.Cond.methodLink "WhoIsThere" (112 : Nat) ({ cls := "WhoIsThere$Host", name := "goAway", desc := "()V" } : Jvm.MethodName)) ∈ xa_G := List.mem_filter.mpr ⟨List.mem_append_right _ (xa_t2 166 rfl), rfl⟩
set_option maxRecDepth 20000 in
theorem tb407 : (Jvm.Cond.instanceMethod ({ cls := "WhoIsThere$Host", name := "goAway", desc := "()V" } : Jvm.MethodName)) ∈ xa_G := List.mem_filter.mpr ⟨List.mem_append_right _ (xa_t2 167 rfl), rfl⟩
set_option maxRecDepth 20000 in
theorem tb408 : (Jvm.Cond.selects "WhoIsThere$Host" ({ cls := "WhoIsThere$Host", name := "goAway", desc := "()V" } : Jvm.MethodName) ({ cls := "WhoIsThere$Host", name := "goAway", desc := "()V" } : Jvm.MethodName)) ∈ xa_G := List.mem_filter.mpr ⟨List.mem_append_right _ (xa_t2 168 rfl), rfl⟩
set_option maxRecDepth 20000 in
theorem tb409 : (Jvm.Cond.code ({ cls := "WhoIsThere$Host", name := "goAway", desc := "()V" } : Jvm.MethodName) prog_5_method_5_code (1 : Nat) (Option.none : Option FieldType)) ∈ xa_G := List.mem_filter.mpr ⟨List.mem_append_right _ (xa_t2 169 rfl), rfl⟩
set_option maxRecDepth 20000 in
theorem tb410 : (Jvm.Cond.methodLink "WhoIsThere$Host" (69 : Nat) ({ cls := "WhoIsThere$Store", name := "clear", desc := "()V" } : Jvm.MethodName)) ∈ xa_G := List.mem_filter.mpr ⟨List.mem_append_right _ (xa_t2 170 rfl), rfl⟩
set_option maxRecDepth 20000 in
theorem tb411 : (Jvm.Cond.instanceMethod ({ cls := "WhoIsThere$Store", name := "clear", desc := "()V" } : Jvm.MethodName)) ∈ xa_G := List.mem_filter.mpr ⟨List.mem_append_right _ (xa_t2 171 rfl), rfl⟩
set_option maxRecDepth 20000 in
theorem tb412 : (Jvm.Cond.selects "WhoIsThere$Store" ({ cls := "WhoIsThere$Store", name := "clear", desc := "()V" } : Jvm.MethodName) ({ cls := "WhoIsThere$Store", name := "clear", desc := "()V" } : Jvm.MethodName)) ∈ xa_G := List.mem_filter.mpr ⟨List.mem_append_right _ (xa_t2 172 rfl), rfl⟩
set_option maxRecDepth 20000 in
theorem tb413 : (Jvm.Cond.code ({ cls := "WhoIsThere$Store", name := "clear", desc := "()V" } : Jvm.MethodName) prog_8_method_10_code (1 : Nat) (Option.none : Option FieldType)) ∈ xa_G := List.mem_filter.mpr ⟨List.mem_append_right _ (xa_t2 173 rfl), rfl⟩
set_option maxRecDepth 20000 in
theorem tb414 : (Jvm.Cond.methodLink "WhoIsThere$Host" (72 : Nat) ({ cls := "WhoIsThere$Asks", name := "clear", desc := "()V" } : Jvm.MethodName)) ∈ xa_G := List.mem_filter.mpr ⟨List.mem_append_right _ (xa_t2 174 rfl), rfl⟩
set_option maxRecDepth 20000 in
theorem tb415 : (Jvm.Cond.instanceMethod ({ cls := "WhoIsThere$Asks", name := "clear", desc := "()V" } : Jvm.MethodName)) ∈ xa_G := List.mem_filter.mpr ⟨List.mem_append_right _ (xa_t2 175 rfl), rfl⟩
set_option maxRecDepth 20000 in
theorem tb416 : (Jvm.Cond.selects "WhoIsThere$Asks" ({ cls := "WhoIsThere$Asks", name := "clear", desc := "()V" } : Jvm.MethodName) ({ cls := "WhoIsThere$Asks", name := "clear", desc := "()V" } : Jvm.MethodName)) ∈ xa_G := List.mem_filter.mpr ⟨List.mem_append_right _ (xa_t2 176 rfl), rfl⟩
set_option maxRecDepth 20000 in
theorem tb417 : (Jvm.Cond.code ({ cls := "WhoIsThere$Asks", name := "clear", desc := "()V" } : Jvm.MethodName) prog_3_method_8_code (1 : Nat) (Option.none : Option FieldType)) ∈ xa_G := List.mem_filter.mpr ⟨List.mem_append_right _ (xa_t2 177 rfl), rfl⟩
set_option maxRecDepth 20000 in
theorem tb418 : (Jvm.Cond.methodLink "WhoIsThere$Host" (73 : Nat) ({ cls := "WhoIsThere$Answers", name := "clear", desc := "()V" } : Jvm.MethodName)) ∈ xa_G := List.mem_filter.mpr ⟨List.mem_append_right _ (xa_t2 178 rfl), rfl⟩
set_option maxRecDepth 20000 in
theorem tb419 : (Jvm.Cond.instanceMethod ({ cls := "WhoIsThere$Answers", name := "clear", desc := "()V" } : Jvm.MethodName)) ∈ xa_G := List.mem_filter.mpr ⟨List.mem_append_right _ (xa_t2 179 rfl), rfl⟩
set_option maxRecDepth 20000 in
theorem tb420 : (Jvm.Cond.selects "WhoIsThere$Answers" ({ cls := "WhoIsThere$Answers", name := "clear", desc := "()V" } : Jvm.MethodName) ({ cls := "WhoIsThere$Answers", name := "clear", desc := "()V" } : Jvm.MethodName)) ∈ xa_G := List.mem_filter.mpr ⟨List.mem_append_right _ (xa_t2 180 rfl), rfl⟩
set_option maxRecDepth 20000 in
theorem tb421 : (Jvm.Cond.code ({ cls := "WhoIsThere$Answers", name := "clear", desc := "()V" } : Jvm.MethodName) prog_2_method_6_code (1 : Nat) (Option.none : Option FieldType)) ∈ xa_G := List.mem_filter.mpr ⟨List.mem_append_right _ (xa_t2 181 rfl), rfl⟩
set_option maxRecDepth 20000 in
theorem tb422 : (Jvm.Cond.methodLink "WhoIsThereLaw" (54 : Nat) ({ cls := "WhoIsThere", name := "leave", desc := "(I)Z" } : Jvm.MethodName)) ∈ xa_G := List.mem_filter.mpr ⟨List.mem_append_right _ (xa_t2 182 rfl), rfl⟩
set_option maxRecDepth 20000 in
theorem tb423 : (Jvm.Cond.instanceMethod ({ cls := "WhoIsThere", name := "leave", desc := "(I)Z" } : Jvm.MethodName)) ∈ xa_G := List.mem_filter.mpr ⟨List.mem_append_right _ (xa_t2 183 rfl), rfl⟩
set_option maxRecDepth 20000 in
theorem tb424 : (Jvm.Cond.selects "WhoIsThere" ({ cls := "WhoIsThere", name := "leave", desc := "(I)Z" } : Jvm.MethodName) ({ cls := "WhoIsThere", name := "leave", desc := "(I)Z" } : Jvm.MethodName)) ∈ xa_G := List.mem_filter.mpr ⟨List.mem_append_right _ (xa_t2 184 rfl), rfl⟩
set_option maxRecDepth 20000 in
theorem tb425 : (Jvm.Cond.code ({ cls := "WhoIsThere", name := "leave", desc := "(I)Z" } : Jvm.MethodName) prog_1_method_11_code (4 : Nat) (Option.some FieldType.boolean)) ∈ xa_G := List.mem_filter.mpr ⟨List.mem_append_right _ (xa_t2 185 rfl), rfl⟩
set_option maxRecDepth 20000 in
theorem tb426 : (Jvm.Cond.methodLink "WhoIsThere" (118 : Nat) ({ cls := "WhoIsThere", name := "rouse", desc := "(LWhoIsThere$Host;)V" } : Jvm.MethodName)) ∈ xa_G := List.mem_filter.mpr ⟨List.mem_append_right _ (xa_t2 186 rfl), rfl⟩
set_option maxRecDepth 20000 in
theorem tb428 : (Jvm.Cond.instanceMethod ({ cls := "WhoIsThere", name := "rouse", desc := "(LWhoIsThere$Host;)V" } : Jvm.MethodName)) ∈ xa_G := List.mem_filter.mpr ⟨List.mem_append_right _ (xa_t2 188 rfl), rfl⟩
set_option maxRecDepth 20000 in
theorem tb429 : (Jvm.Cond.code ({ cls := "WhoIsThere", name := "rouse", desc := "(LWhoIsThere$Host;)V" } : Jvm.MethodName) prog_1_method_42_code (2 : Nat) (Option.none : Option FieldType)) ∈ xa_G := List.mem_filter.mpr ⟨List.mem_append_right _ (xa_t2 189 rfl), rfl⟩
set_option maxRecDepth 20000 in
theorem tb430 : (Jvm.Cond.methodLink "WhoIsThereLaw" (58 : Nat) ({ cls := "WhoIsThere", name := "keeper", desc := "(IZ)Z" } : Jvm.MethodName)) ∈ xa_G := List.mem_filter.mpr ⟨List.mem_append_right _ (xa_t2 190 rfl), rfl⟩
set_option maxRecDepth 20000 in
theorem tb431 : (Jvm.Cond.instanceMethod ({ cls := "WhoIsThere", name := "keeper", desc := "(IZ)Z" } : Jvm.MethodName)) ∈ xa_G := List.mem_filter.mpr ⟨List.mem_append_right _ (xa_t2 191 rfl), rfl⟩
set_option maxRecDepth 20000 in
theorem tb432 : (Jvm.Cond.selects "WhoIsThere" ({ cls := "WhoIsThere", name := "keeper", desc := "(IZ)Z" } : Jvm.MethodName) ({ cls := "WhoIsThere", name := "keeper", desc := "(IZ)Z" } : Jvm.MethodName)) ∈ xa_G := List.mem_filter.mpr ⟨List.mem_append_right _ (xa_t2 192 rfl), rfl⟩
set_option maxRecDepth 20000 in
theorem tb433 : (Jvm.Cond.code ({ cls := "WhoIsThere", name := "keeper", desc := "(IZ)Z" } : Jvm.MethodName) prog_1_method_12_code (4 : Nat) (Option.some FieldType.boolean)) ∈ xa_G := List.mem_filter.mpr ⟨List.mem_append_right _ (xa_t2 193 rfl), rfl⟩
set_option maxRecDepth 20000 in
theorem tb434 : (Jvm.Cond.methodLink "WhoIsThereLaw" (63 : Nat) ({ cls := "WhoIsThere", name := "bridge", desc := "(III)Z" } : Jvm.MethodName)) ∈ xa_G := List.mem_filter.mpr ⟨List.mem_append_right _ (xa_t2 194 rfl), rfl⟩
set_option maxRecDepth 20000 in
theorem tb435 : (Jvm.Cond.instanceMethod ({ cls := "WhoIsThere", name := "bridge", desc := "(III)Z" } : Jvm.MethodName)) ∈ xa_G := List.mem_filter.mpr ⟨List.mem_append_right _ (xa_t2 195 rfl), rfl⟩
set_option maxRecDepth 20000 in
theorem tb436 : (Jvm.Cond.selects "WhoIsThere" ({ cls := "WhoIsThere", name := "bridge", desc := "(III)Z" } : Jvm.MethodName) ({ cls := "WhoIsThere", name := "bridge", desc := "(III)Z" } : Jvm.MethodName)) ∈ xa_G := List.mem_filter.mpr ⟨List.mem_append_right _ (xa_t2 196 rfl), rfl⟩
set_option maxRecDepth 20000 in
theorem tb437 : (Jvm.Cond.code ({ cls := "WhoIsThere", name := "bridge", desc := "(III)Z" } : Jvm.MethodName) prog_1_method_13_code (5 : Nat) (Option.some FieldType.boolean)) ∈ xa_G := List.mem_filter.mpr ⟨List.mem_append_right _ (xa_t2 197 rfl), rfl⟩
set_option maxRecDepth 20000 in
theorem tb438 : (Jvm.Cond.constant "WhoIsThere" (122 : Nat) (65535 : Int32)) ∈ xa_G := List.mem_filter.mpr ⟨List.mem_append_right _ (xa_t2 198 rfl), rfl⟩
set_option maxRecDepth 20000 in
theorem tb439 : (Jvm.Cond.methodLink "WhoIsThere" (123 : Nat) ({ cls := "WhoIsThere$Asks", name := "isEmpty", desc := "()Z" } : Jvm.MethodName)) ∈ xa_G := List.mem_filter.mpr ⟨List.mem_append_right _ (xa_t2 199 rfl), rfl⟩
set_option maxRecDepth 20000 in
theorem tb440 : (Jvm.Cond.instanceMethod ({ cls := "WhoIsThere$Asks", name := "isEmpty", desc := "()Z" } : Jvm.MethodName)) ∈ xa_G := List.mem_filter.mpr ⟨List.mem_append_right _ (xa_t2 200 rfl), rfl⟩
set_option maxRecDepth 20000 in
theorem tb441 : (Jvm.Cond.selects "WhoIsThere$Asks" ({ cls := "WhoIsThere$Asks", name := "isEmpty", desc := "()Z" } : Jvm.MethodName) ({ cls := "WhoIsThere$Asks", name := "isEmpty", desc := "()Z" } : Jvm.MethodName)) ∈ xa_G := List.mem_filter.mpr ⟨List.mem_append_right _ (xa_t2 201 rfl), rfl⟩
set_option maxRecDepth 20000 in
theorem tb442 : (Jvm.Cond.code ({ cls := "WhoIsThere$Asks", name := "isEmpty", desc := "()Z" } : Jvm.MethodName) prog_3_method_4_code (1 : Nat) (Option.some FieldType.boolean)) ∈ xa_G := List.mem_filter.mpr ⟨List.mem_append_right _ (xa_t2 202 rfl), rfl⟩
set_option maxRecDepth 20000 in
theorem tb443 : (Jvm.Cond.methodLink "WhoIsThere" (127 : Nat) ({ cls := "WhoIsThere", name := "hasHadServices", desc := "(LWhoIsThere$Host;)Z" } : Jvm.MethodName)) ∈ xa_G := List.mem_filter.mpr ⟨List.mem_append_right _ (xa_t2 203 rfl), rfl⟩
set_option maxRecDepth 20000 in
theorem tb445 : (Jvm.Cond.instanceMethod ({ cls := "WhoIsThere", name := "hasHadServices", desc := "(LWhoIsThere$Host;)Z" } : Jvm.MethodName)) ∈ xa_G := List.mem_filter.mpr ⟨List.mem_append_right _ (xa_t2 205 rfl), rfl⟩
set_option maxRecDepth 20000 in
theorem tb446 : (Jvm.Cond.code ({ cls := "WhoIsThere", name := "hasHadServices", desc := "(LWhoIsThere$Host;)Z" } : Jvm.MethodName) prog_1_method_36_code (3 : Nat) (Option.some FieldType.boolean)) ∈ xa_G := List.mem_filter.mpr ⟨List.mem_append_right _ (xa_t2 206 rfl), rfl⟩
set_option maxRecDepth 20000 in
theorem tb447 : (Jvm.Cond.methodLink "WhoIsThere" (131 : Nat) ({ cls := "WhoIsThere", name := "isProxyOfASleeper", desc := "(LWhoIsThere$Host;)Z" } : Jvm.MethodName)) ∈ xa_G := List.mem_filter.mpr ⟨List.mem_append_right _ (xa_t2 207 rfl), rfl⟩
set_option maxRecDepth 20000 in
theorem tb449 : (Jvm.Cond.instanceMethod ({ cls := "WhoIsThere", name := "isProxyOfASleeper", desc := "(LWhoIsThere$Host;)Z" } : Jvm.MethodName)) ∈ xa_G := List.mem_filter.mpr ⟨List.mem_append_right _ (xa_t2 209 rfl), rfl⟩
set_option maxRecDepth 20000 in
theorem tb450 : (Jvm.Cond.code ({ cls := "WhoIsThere", name := "isProxyOfASleeper", desc := "(LWhoIsThere$Host;)Z" } : Jvm.MethodName) prog_1_method_37_code (3 : Nat) (Option.some FieldType.boolean)) ∈ xa_G := List.mem_filter.mpr ⟨List.mem_append_right _ (xa_t2 210 rfl), rfl⟩
set_option maxRecDepth 20000 in
theorem tb451 : (Jvm.Cond.methodLink "WhoIsThere" (138 : Nat) ({ cls := "WhoIsThere$Store", name := "clear", desc := "()V" } : Jvm.MethodName)) ∈ xa_G := List.mem_filter.mpr ⟨List.mem_append_right _ (xa_t2 211 rfl), rfl⟩
set_option maxRecDepth 20000 in
theorem tb452 : (Jvm.Cond.methodLink "WhoIsThere" (147 : Nat) ({ cls := "WhoIsThere$Answers", name := "clear", desc := "()V" } : Jvm.MethodName)) ∈ xa_G := List.mem_filter.mpr ⟨List.mem_append_right _ (xa_t2 212 rfl), rfl⟩
set_option maxRecDepth 20000 in
theorem tb453 : (Jvm.Cond.classLink "WhoIsThere" (150 : Nat) "WhoIsThere$Bridge") ∈ xa_G := List.mem_filter.mpr ⟨List.mem_append_right _ (xa_t2 213 rfl), rfl⟩
set_option maxRecDepth 20000 in
theorem tb454 : (Jvm.Cond.instantiable "WhoIsThere$Bridge" (5 : Nat)) ∈ xa_G := List.mem_filter.mpr ⟨List.mem_append_right _ (xa_t2 214 rfl), rfl⟩
set_option maxRecDepth 20000 in
theorem tb455 : (Jvm.Cond.methodLink "WhoIsThere" (152 : Nat) ({ cls := "WhoIsThere$Bridge", name := "<init>", desc := "(II)V" } : Jvm.MethodName)) ∈ xa_G := List.mem_filter.mpr ⟨List.mem_append_right _ (xa_t2 215 rfl), rfl⟩
set_option maxRecDepth 20000 in
theorem tb456 : (Jvm.Cond.instanceMethod ({ cls := "WhoIsThere$Bridge", name := "<init>", desc := "(II)V" } : Jvm.MethodName)) ∈ xa_G := List.mem_filter.mpr ⟨List.mem_append_right _ (xa_t2 216 rfl), rfl⟩
set_option maxRecDepth 20000 in
theorem tb457 : (Jvm.Cond.code ({ cls := "WhoIsThere$Bridge", name := "<init>", desc := "(II)V" } : Jvm.MethodName) prog_4_method_1_code (3 : Nat) (Option.none : Option FieldType)) ∈ xa_G := List.mem_filter.mpr ⟨List.mem_append_right _ (xa_t2 217 rfl), rfl⟩
set_option maxRecDepth 20000 in
theorem tb458 : (Jvm.Cond.methodLink "WhoIsThere$Bridge" (1 : Nat) ({ cls := "java/lang/Object", name := "<init>", desc := "()V" } : Jvm.MethodName)) ∈ xa_G := List.mem_filter.mpr ⟨List.mem_append_right _ (xa_t2 218 rfl), rfl⟩
set_option maxRecDepth 20000 in
theorem tb459 : (Jvm.Cond.classLink "WhoIsThere$Bridge" (7 : Nat) "WhoIsThere$Letter") ∈ xa_G := List.mem_filter.mpr ⟨List.mem_append_right _ (xa_t2 219 rfl), rfl⟩
set_option maxRecDepth 20000 in
theorem tb461 : (Jvm.Cond.fieldLink "WhoIsThere$Bridge" (26 : Nat) "WhoIsThere$Bridge" "kinds" "I") ∈ xa_G := List.mem_filter.mpr ⟨List.mem_append_right _ (xa_t2 221 rfl), rfl⟩
set_option maxRecDepth 20000 in
theorem tb462 : (Jvm.Cond.fieldLink "WhoIsThere$Bridge" (22 : Nat) "WhoIsThere$Bridge" "net" "I") ∈ xa_G := List.mem_filter.mpr ⟨List.mem_append_right _ (xa_t2 222 rfl), rfl⟩
set_option maxRecDepth 20000 in
theorem tb463 : (Jvm.Cond.fieldLink "WhoIsThere$Host" (62 : Nat) "WhoIsThere$Bridge" "net" "I") ∈ xa_G := List.mem_filter.mpr ⟨List.mem_append_right _ (xa_t2 223 rfl), rfl⟩
set_option maxRecDepth 20000 in
theorem tb464 : (Jvm.Cond.fieldLink "WhoIsThere" (209 : Nat) "WhoIsThere$Bridge" "net" "I") ∈ xa_G := List.mem_filter.mpr ⟨List.mem_append_right _ (xa_t2 224 rfl), rfl⟩
set_option maxRecDepth 20000 in
theorem tb465 : (Jvm.Cond.fieldLink "WhoIsThere$Bridge" (10 : Nat) "WhoIsThere$Bridge" "letter" "LWhoIsThere$Letter;") ∈ xa_G := List.mem_filter.mpr ⟨List.mem_append_right _ (xa_t2 225 rfl), rfl⟩
set_option maxRecDepth 20000 in
theorem tb466 : (Jvm.Cond.fieldLink "WhoIsThere$Host" (75 : Nat) "WhoIsThere$Bridge" "letter" "LWhoIsThere$Letter;") ∈ xa_G := List.mem_filter.mpr ⟨List.mem_append_right _ (xa_t2 226 rfl), rfl⟩
set_option maxRecDepth 20000 in
theorem tb467 : (Jvm.Cond.fieldLink "WhoIsThere" (343 : Nat) "WhoIsThere$Bridge" "letter" "LWhoIsThere$Letter;") ∈ xa_G := List.mem_filter.mpr ⟨List.mem_append_right _ (xa_t2 227 rfl), rfl⟩
set_option maxRecDepth 20000 in
theorem tb468 : (Jvm.Cond.fieldLink "WhoIsThere$Bridge" (16 : Nat) "WhoIsThere$Bridge" "waitingForHome" "LWhoIsThere$Letter;") ∈ xa_G := List.mem_filter.mpr ⟨List.mem_append_right _ (xa_t2 228 rfl), rfl⟩
set_option maxRecDepth 20000 in
theorem tb469 : (Jvm.Cond.fieldLink "WhoIsThere" (340 : Nat) "WhoIsThere$Bridge" "waitingForHome" "LWhoIsThere$Letter;") ∈ xa_G := List.mem_filter.mpr ⟨List.mem_append_right _ (xa_t2 229 rfl), rfl⟩
set_option maxRecDepth 20000 in
theorem tb470 : (Jvm.Cond.fieldLink "WhoIsThere$Bridge" (19 : Nat) "WhoIsThere$Bridge" "waitingForSecond" "LWhoIsThere$Letter;") ∈ xa_G := List.mem_filter.mpr ⟨List.mem_append_right _ (xa_t2 230 rfl), rfl⟩
set_option maxRecDepth 20000 in
theorem tb471 : (Jvm.Cond.fieldLink "WhoIsThere" (344 : Nat) "WhoIsThere$Bridge" "waitingForSecond" "LWhoIsThere$Letter;") ∈ xa_G := List.mem_filter.mpr ⟨List.mem_append_right _ (xa_t2 231 rfl), rfl⟩
set_option maxRecDepth 20000 in
theorem tb483 : (Jvm.Cond.methodLink "WhoIsThereLaw" (67 : Nat) ({ cls := "WhoIsThere", name := "lose", desc := "(II)Z" } : Jvm.MethodName)) ∈ xa_G := List.mem_filter.mpr ⟨List.mem_append_right _ (xa_t3 3 rfl), rfl⟩
set_option maxRecDepth 20000 in
theorem tb484 : (Jvm.Cond.instanceMethod ({ cls := "WhoIsThere", name := "lose", desc := "(II)Z" } : Jvm.MethodName)) ∈ xa_G := List.mem_filter.mpr ⟨List.mem_append_right _ (xa_t3 4 rfl), rfl⟩
set_option maxRecDepth 20000 in
theorem tb485 : (Jvm.Cond.selects "WhoIsThere" ({ cls := "WhoIsThere", name := "lose", desc := "(II)Z" } : Jvm.MethodName) ({ cls := "WhoIsThere", name := "lose", desc := "(II)Z" } : Jvm.MethodName)) ∈ xa_G := List.mem_filter.mpr ⟨List.mem_append_right _ (xa_t3 5 rfl), rfl⟩
set_option maxRecDepth 20000 in
theorem tb486 : (Jvm.Cond.code ({ cls := "WhoIsThere", name := "lose", desc := "(II)Z" } : Jvm.MethodName) prog_1_method_14_code (4 : Nat) (Option.some FieldType.boolean)) ∈ xa_G := List.mem_filter.mpr ⟨List.mem_append_right _ (xa_t3 6 rfl), rfl⟩
set_option maxRecDepth 20000 in
theorem tb487 : (Jvm.Cond.methodLink "WhoIsThereLaw" (71 : Nat) ({ cls := "WhoIsThere", name := "deaf", desc := "(II)Z" } : Jvm.MethodName)) ∈ xa_G := List.mem_filter.mpr ⟨List.mem_append_right _ (xa_t3 7 rfl), rfl⟩
set_option maxRecDepth 20000 in
theorem tb488 : (Jvm.Cond.instanceMethod ({ cls := "WhoIsThere", name := "deaf", desc := "(II)Z" } : Jvm.MethodName)) ∈ xa_G := List.mem_filter.mpr ⟨List.mem_append_right _ (xa_t3 8 rfl), rfl⟩
set_option maxRecDepth 20000 in
theorem tb489 : (Jvm.Cond.selects "WhoIsThere" ({ cls := "WhoIsThere", name := "deaf", desc := "(II)Z" } : Jvm.MethodName) ({ cls := "WhoIsThere", name := "deaf", desc := "(II)Z" } : Jvm.MethodName)) ∈ xa_G := List.mem_filter.mpr ⟨List.mem_append_right _ (xa_t3 9 rfl), rfl⟩
set_option maxRecDepth 20000 in
theorem tb490 : (Jvm.Cond.code ({ cls := "WhoIsThere", name := "deaf", desc := "(II)Z" } : Jvm.MethodName) prog_1_method_15_code (4 : Nat) (Option.some FieldType.boolean)) ∈ xa_G := List.mem_filter.mpr ⟨List.mem_append_right _ (xa_t3 10 rfl), rfl⟩
set_option maxRecDepth 20000 in
theorem tb491 : (Jvm.Cond.methodLink "WhoIsThereLaw" (75 : Nat) ({ cls := "WhoIsThere", name := "join", desc := "(II)Z" } : Jvm.MethodName)) ∈ xa_G := List.mem_filter.mpr ⟨List.mem_append_right _ (xa_t3 11 rfl), rfl⟩
set_option maxRecDepth 20000 in
theorem tb492 : (Jvm.Cond.instanceMethod ({ cls := "WhoIsThere", name := "join", desc := "(II)Z" } : Jvm.MethodName)) ∈ xa_G := List.mem_filter.mpr ⟨List.mem_append_right _ (xa_t3 12 rfl), rfl⟩
set_option maxRecDepth 20000 in
theorem tb493 : (Jvm.Cond.selects "WhoIsThere" ({ cls := "WhoIsThere", name := "join", desc := "(II)Z" } : Jvm.MethodName) ({ cls := "WhoIsThere", name := "join", desc := "(II)Z" } : Jvm.MethodName)) ∈ xa_G := List.mem_filter.mpr ⟨List.mem_append_right _ (xa_t3 13 rfl), rfl⟩
set_option maxRecDepth 20000 in
theorem tb494 : (Jvm.Cond.code ({ cls := "WhoIsThere", name := "join", desc := "(II)Z" } : Jvm.MethodName) prog_1_method_16_code (4 : Nat) (Option.some FieldType.boolean)) ∈ xa_G := List.mem_filter.mpr ⟨List.mem_append_right _ (xa_t3 14 rfl), rfl⟩
set_option maxRecDepth 20000 in
theorem tb495 : (Jvm.Cond.methodLink "WhoIsThere" (165 : Nat) ({ cls := "WhoIsThere$Host", name := "move", desc := "(II)V" } : Jvm.MethodName)) ∈ xa_G := List.mem_filter.mpr ⟨List.mem_append_right _ (xa_t3 15 rfl), rfl⟩
set_option maxRecDepth 20000 in
theorem tb496 : (Jvm.Cond.instanceMethod ({ cls := "WhoIsThere$Host", name := "move", desc := "(II)V" } : Jvm.MethodName)) ∈ xa_G := List.mem_filter.mpr ⟨List.mem_append_right _ (xa_t3 16 rfl), rfl⟩
set_option maxRecDepth 20000 in
theorem tb497 : (Jvm.Cond.selects "WhoIsThere$Host" ({ cls := "WhoIsThere$Host", name := "move", desc := "(II)V" } : Jvm.MethodName) ({ cls := "WhoIsThere$Host", name := "move", desc := "(II)V" } : Jvm.MethodName)) ∈ xa_G := List.mem_filter.mpr ⟨List.mem_append_right _ (xa_t3 17 rfl), rfl⟩
set_option maxRecDepth 20000 in
theorem tb498 : (Jvm.Cond.code ({ cls := "WhoIsThere$Host", name := "move", desc := "(II)V" } : Jvm.MethodName) prog_5_method_4_code (3 : Nat) (Option.none : Option FieldType)) ∈ xa_G := List.mem_filter.mpr ⟨List.mem_append_right _ (xa_t3 18 rfl), rfl⟩
set_option maxRecDepth 20000 in
theorem tb499 : (Jvm.Cond.methodLink "WhoIsThereLaw" (79 : Nat) ({ cls := "WhoIsThere", name := "tick", desc := "(I)I" } : Jvm.MethodName)) ∈ xa_G := List.mem_filter.mpr ⟨List.mem_append_right _ (xa_t3 19 rfl), rfl⟩
set_option maxRecDepth 20000 in
theorem tb500 : (Jvm.Cond.instanceMethod ({ cls := "WhoIsThere", name := "tick", desc := "(I)I" } : Jvm.MethodName)) ∈ xa_G := List.mem_filter.mpr ⟨List.mem_append_right _ (xa_t3 20 rfl), rfl⟩
set_option maxRecDepth 20000 in
theorem tb501 : (Jvm.Cond.selects "WhoIsThere" ({ cls := "WhoIsThere", name := "tick", desc := "(I)I" } : Jvm.MethodName) ({ cls := "WhoIsThere", name := "tick", desc := "(I)I" } : Jvm.MethodName)) ∈ xa_G := List.mem_filter.mpr ⟨List.mem_append_right _ (xa_t3 21 rfl), rfl⟩
set_option maxRecDepth 20000 in
theorem tb502 : (Jvm.Cond.code ({ cls := "WhoIsThere", name := "tick", desc := "(I)I" } : Jvm.MethodName) prog_1_method_17_code (3 : Nat) (Option.some FieldType.int)) ∈ xa_G := List.mem_filter.mpr ⟨List.mem_append_right _ (xa_t3 22 rfl), rfl⟩
set_option maxRecDepth 20000 in
theorem tb503 : (Jvm.Cond.methodLink "WhoIsThere" (168 : Nat) ({ cls := "WhoIsThere", name := "holdClaimedNames", desc := "()V" } : Jvm.MethodName)) ∈ xa_G := List.mem_filter.mpr ⟨List.mem_append_right _ (xa_t3 23 rfl), rfl⟩
set_option maxRecDepth 20000 in
theorem tb505 : (Jvm.Cond.instanceMethod ({ cls := "WhoIsThere", name := "holdClaimedNames", desc := "()V" } : Jvm.MethodName)) ∈ xa_G := List.mem_filter.mpr ⟨List.mem_append_right _ (xa_t3 25 rfl), rfl⟩
set_option maxRecDepth 20000 in
theorem tb506 : (Jvm.Cond.code ({ cls := "WhoIsThere", name := "holdClaimedNames", desc := "()V" } : Jvm.MethodName) prog_1_method_45_code (3 : Nat) (Option.none : Option FieldType)) ∈ xa_G := List.mem_filter.mpr ⟨List.mem_append_right _ (xa_t3 26 rfl), rfl⟩
set_option maxRecDepth 20000 in
theorem tb507 : (Jvm.Cond.methodLink "WhoIsThere" (171 : Nat) ({ cls := "WhoIsThere", name := "writeLetters", desc := "()V" } : Jvm.MethodName)) ∈ xa_G := List.mem_filter.mpr ⟨List.mem_append_right _ (xa_t3 27 rfl), rfl⟩
set_option maxRecDepth 20000 in
theorem tb509 : (Jvm.Cond.instanceMethod ({ cls := "WhoIsThere", name := "writeLetters", desc := "()V" } : Jvm.MethodName)) ∈ xa_G := List.mem_filter.mpr ⟨List.mem_append_right _ (xa_t3 29 rfl), rfl⟩
set_option maxRecDepth 20000 in
theorem tb510 : (Jvm.Cond.code ({ cls := "WhoIsThere", name := "writeLetters", desc := "()V" } : Jvm.MethodName) prog_1_method_46_code (3 : Nat) (Option.none : Option FieldType)) ∈ xa_G := List.mem_filter.mpr ⟨List.mem_append_right _ (xa_t3 30 rfl), rfl⟩
set_option maxRecDepth 20000 in
theorem tb511 : (Jvm.Cond.methodLink "WhoIsThere" (274 : Nat) ({ cls := "WhoIsThere$Host", name := "clearLetters", desc := "()V" } : Jvm.MethodName)) ∈ xa_G := List.mem_filter.mpr ⟨List.mem_append_right _ (xa_t3 31 rfl), rfl⟩
set_option maxRecDepth 20000 in
theorem tb512 : (Jvm.Cond.instanceMethod ({ cls := "WhoIsThere$Host", name := "clearLetters", desc := "()V" } : Jvm.MethodName)) ∈ xa_G := List.mem_filter.mpr ⟨List.mem_append_right _ (xa_t3 32 rfl), rfl⟩
set_option maxRecDepth 20000 in
theorem tb513 : (Jvm.Cond.selects "WhoIsThere$Host" ({ cls := "WhoIsThere$Host", name := "clearLetters", desc := "()V" } : Jvm.MethodName) ({ cls := "WhoIsThere$Host", name := "clearLetters", desc := "()V" } : Jvm.MethodName)) ∈ xa_G := List.mem_filter.mpr ⟨List.mem_append_right _ (xa_t3 33 rfl), rfl⟩
set_option maxRecDepth 20000 in
theorem tb514 : (Jvm.Cond.code ({ cls := "WhoIsThere$Host", name := "clearLetters", desc := "()V" } : Jvm.MethodName) prog_5_method_6_code (1 : Nat) (Option.none : Option FieldType)) ∈ xa_G := List.mem_filter.mpr ⟨List.mem_append_right _ (xa_t3 34 rfl), rfl⟩
set_option maxRecDepth 20000 in
theorem tb515 : (Jvm.Cond.methodLink "WhoIsThere$Host" (74 : Nat) ({ cls := "WhoIsThere$Letter", name := "clear", desc := "()V" } : Jvm.MethodName)) ∈ xa_G := List.mem_filter.mpr ⟨List.mem_append_right _ (xa_t3 35 rfl), rfl⟩
set_option maxRecDepth 20000 in
theorem tb516 : (Jvm.Cond.instanceMethod ({ cls := "WhoIsThere$Letter", name := "clear", desc := "()V" } : Jvm.MethodName)) ∈ xa_G := List.mem_filter.mpr ⟨List.mem_append_right _ (xa_t3 36 rfl), rfl⟩
set_option maxRecDepth 20000 in
theorem tb517 : (Jvm.Cond.selects "WhoIsThere$Letter" ({ cls := "WhoIsThere$Letter", name := "clear", desc := "()V" } : Jvm.MethodName) ({ cls := "WhoIsThere$Letter", name := "clear", desc := "()V" } : Jvm.MethodName)) ∈ xa_G := List.mem_filter.mpr ⟨List.mem_append_right _ (xa_t3 37 rfl), rfl⟩
set_option maxRecDepth 20000 in
theorem tb518 : (Jvm.Cond.code ({ cls := "WhoIsThere$Letter", name := "clear", desc := "()V" } : Jvm.MethodName) prog_6_method_4_code (1 : Nat) (Option.none : Option FieldType)) ∈ xa_G := List.mem_filter.mpr ⟨List.mem_append_right _ (xa_t3 38 rfl), rfl⟩
set_option maxRecDepth 20000 in
theorem tb519 : (Jvm.Cond.methodLink "WhoIsThere" (277 : Nat) ({ cls := "WhoIsThere", name := "writeByes", desc := "(LWhoIsThere$Host;)V" } : Jvm.MethodName)) ∈ xa_G := List.mem_filter.mpr ⟨List.mem_append_right _ (xa_t3 39 rfl), rfl⟩
set_option maxRecDepth 20000 in
theorem tb521 : (Jvm.Cond.instanceMethod ({ cls := "WhoIsThere", name := "writeByes", desc := "(LWhoIsThere$Host;)V" } : Jvm.MethodName)) ∈ xa_G := List.mem_filter.mpr ⟨List.mem_append_right _ (xa_t3 41 rfl), rfl⟩
set_option maxRecDepth 20000 in
theorem tb522 : (Jvm.Cond.code ({ cls := "WhoIsThere", name := "writeByes", desc := "(LWhoIsThere$Host;)V" } : Jvm.MethodName) prog_1_method_49_code (4 : Nat) (Option.none : Option FieldType)) ∈ xa_G := List.mem_filter.mpr ⟨List.mem_append_right _ (xa_t3 42 rfl), rfl⟩
set_option maxRecDepth 20000 in
theorem tb523 : (Jvm.Cond.methodLink "WhoIsThere" (322 : Nat) ({ cls := "WhoIsThere$Letter", name := "addBye", desc := "(II)V" } : Jvm.MethodName)) ∈ xa_G := List.mem_filter.mpr ⟨List.mem_append_right _ (xa_t3 43 rfl), rfl⟩
set_option maxRecDepth 20000 in
theorem tb524 : (Jvm.Cond.instanceMethod ({ cls := "WhoIsThere$Letter", name := "addBye", desc := "(II)V" } : Jvm.MethodName)) ∈ xa_G := List.mem_filter.mpr ⟨List.mem_append_right _ (xa_t3 44 rfl), rfl⟩
set_option maxRecDepth 20000 in
theorem tb525 : (Jvm.Cond.selects "WhoIsThere$Letter" ({ cls := "WhoIsThere$Letter", name := "addBye", desc := "(II)V" } : Jvm.MethodName) ({ cls := "WhoIsThere$Letter", name := "addBye", desc := "(II)V" } : Jvm.MethodName)) ∈ xa_G := List.mem_filter.mpr ⟨List.mem_append_right _ (xa_t3 45 rfl), rfl⟩
set_option maxRecDepth 20000 in
theorem tb526 : (Jvm.Cond.code ({ cls := "WhoIsThere$Letter", name := "addBye", desc := "(II)V" } : Jvm.MethodName) prog_6_method_11_code (3 : Nat) (Option.none : Option FieldType)) ∈ xa_G := List.mem_filter.mpr ⟨List.mem_append_right _ (xa_t3 46 rfl), rfl⟩
set_option maxRecDepth 20000 in
theorem tb527 : (Jvm.Cond.methodLink "WhoIsThere" (284 : Nat) ({ cls := "WhoIsThere", name := "post", desc := "(LWhoIsThere$Host;LWhoIsThere$Letter;I)V" } : Jvm.MethodName)) ∈ xa_G := List.mem_filter.mpr ⟨List.mem_append_right _ (xa_t3 47 rfl), rfl⟩
set_option maxRecDepth 20000 in
theorem tb529 : (Jvm.Cond.instanceMethod ({ cls := "WhoIsThere", name := "post", desc := "(LWhoIsThere$Host;LWhoIsThere$Letter;I)V" } : Jvm.MethodName)) ∈ xa_G := List.mem_filter.mpr ⟨List.mem_append_right _ (xa_t3 49 rfl), rfl⟩
set_option maxRecDepth 20000 in
theorem tb530 : (Jvm.Cond.code ({ cls := "WhoIsThere", name := "post", desc := "(LWhoIsThere$Host;LWhoIsThere$Letter;I)V" } : Jvm.MethodName) prog_1_method_53_code (4 : Nat) (Option.none : Option FieldType)) ∈ xa_G := List.mem_filter.mpr ⟨List.mem_append_right _ (xa_t3 50 rfl), rfl⟩
set_option maxRecDepth 20000 in
theorem tb531 : (Jvm.Cond.methodLink "WhoIsThere" (347 : Nat) ({ cls := "WhoIsThere$Letter", name := "isEmpty", desc := "()Z" } : Jvm.MethodName)) ∈ xa_G := List.mem_filter.mpr ⟨List.mem_append_right _ (xa_t3 51 rfl), rfl⟩
set_option maxRecDepth 20000 in
theorem tb532 : (Jvm.Cond.instanceMethod ({ cls := "WhoIsThere$Letter", name := "isEmpty", desc := "()Z" } : Jvm.MethodName)) ∈ xa_G := List.mem_filter.mpr ⟨List.mem_append_right _ (xa_t3 52 rfl), rfl⟩
set_option maxRecDepth 20000 in
theorem tb533 : (Jvm.Cond.selects "WhoIsThere$Letter" ({ cls := "WhoIsThere$Letter", name := "isEmpty", desc := "()Z" } : Jvm.MethodName) ({ cls := "WhoIsThere$Letter", name := "isEmpty", desc := "()Z" } : Jvm.MethodName)) ∈ xa_G := List.mem_filter.mpr ⟨List.mem_append_right _ (xa_t3 53 rfl), rfl⟩
set_option maxRecDepth 20000 in
theorem tb534 : (Jvm.Cond.code ({ cls := "WhoIsThere$Letter", name := "isEmpty", desc := "()Z" } : Jvm.MethodName) prog_6_method_2_code (1 : Nat) (Option.some FieldType.boolean)) ∈ xa_G := List.mem_filter.mpr ⟨List.mem_append_right _ (xa_t3 54 rfl), rfl⟩
set_option maxRecDepth 20000 in
theorem tb535 : (Jvm.Cond.methodLink "WhoIsThere" (288 : Nat) ({ cls := "WhoIsThere", name := "writeCarried", desc := "(LWhoIsThere$Host;LWhoIsThere$Bridge;)V" } : Jvm.MethodName)) ∈ xa_G := List.mem_filter.mpr ⟨List.mem_append_right _ (xa_t3 55 rfl), rfl⟩
set_option maxRecDepth 20000 in
theorem tb537 : (Jvm.Cond.instanceMethod ({ cls := "WhoIsThere", name := "writeCarried", desc := "(LWhoIsThere$Host;LWhoIsThere$Bridge;)V" } : Jvm.MethodName)) ∈ xa_G := List.mem_filter.mpr ⟨List.mem_append_right _ (xa_t3 57 rfl), rfl⟩
set_option maxRecDepth 20000 in
theorem tb538 : (Jvm.Cond.code ({ cls := "WhoIsThere", name := "writeCarried", desc := "(LWhoIsThere$Host;LWhoIsThere$Bridge;)V" } : Jvm.MethodName) prog_1_method_52_code (4 : Nat) (Option.none : Option FieldType)) ∈ xa_G := List.mem_filter.mpr ⟨List.mem_append_right _ (xa_t3 58 rfl), rfl⟩
set_option maxRecDepth 20000 in
theorem tb539 : (Jvm.Cond.methodLink "WhoIsThere" (292 : Nat) ({ cls := "WhoIsThere", name := "writeAsks", desc := "(LWhoIsThere$Host;)V" } : Jvm.MethodName)) ∈ xa_G := List.mem_filter.mpr ⟨List.mem_append_right _ (xa_t3 59 rfl), rfl⟩
set_option maxRecDepth 20000 in
theorem tb541 : (Jvm.Cond.instanceMethod ({ cls := "WhoIsThere", name := "writeAsks", desc := "(LWhoIsThere$Host;)V" } : Jvm.MethodName)) ∈ xa_G := List.mem_filter.mpr ⟨List.mem_append_right _ (xa_t3 61 rfl), rfl⟩
set_option maxRecDepth 20000 in
theorem tb542 : (Jvm.Cond.code ({ cls := "WhoIsThere", name := "writeAsks", desc := "(LWhoIsThere$Host;)V" } : Jvm.MethodName) prog_1_method_47_code (3 : Nat) (Option.none : Option FieldType)) ∈ xa_G := List.mem_filter.mpr ⟨List.mem_append_right _ (xa_t3 62 rfl), rfl⟩
set_option maxRecDepth 20000 in
theorem tb543 : (Jvm.Cond.methodLink "WhoIsThere" (301 : Nat) ({ cls := "WhoIsThere$Asks", name := "isDue", desc := "(II)Z" } : Jvm.MethodName)) ∈ xa_G := List.mem_filter.mpr ⟨List.mem_append_right _ (xa_t3 63 rfl), rfl⟩
set_option maxRecDepth 20000 in
theorem tb544 : (Jvm.Cond.instanceMethod ({ cls := "WhoIsThere$Asks", name := "isDue", desc := "(II)Z" } : Jvm.MethodName)) ∈ xa_G := List.mem_filter.mpr ⟨List.mem_append_right _ (xa_t3 64 rfl), rfl⟩
set_option maxRecDepth 20000 in
theorem tb545 : (Jvm.Cond.selects "WhoIsThere$Asks" ({ cls := "WhoIsThere$Asks", name := "isDue", desc := "(II)Z" } : Jvm.MethodName) ({ cls := "WhoIsThere$Asks", name := "isDue", desc := "(II)Z" } : Jvm.MethodName)) ∈ xa_G := List.mem_filter.mpr ⟨List.mem_append_right _ (xa_t3 65 rfl), rfl⟩
set_option maxRecDepth 20000 in
theorem tb546 : (Jvm.Cond.code ({ cls := "WhoIsThere$Asks", name := "isDue", desc := "(II)Z" } : Jvm.MethodName) prog_3_method_3_code (3 : Nat) (Option.some FieldType.boolean)) ∈ xa_G := List.mem_filter.mpr ⟨List.mem_append_right _ (xa_t3 66 rfl), rfl⟩
set_option maxRecDepth 20000 in
theorem tb547 : (Jvm.Cond.methodLink "WhoIsThere$Asks" (26 : Nat) ({ cls := "WhoIsThere$Asks", name := "has", desc := "(I)Z" } : Jvm.MethodName)) ∈ xa_G := List.mem_filter.mpr ⟨List.mem_append_right _ (xa_t3 67 rfl), rfl⟩
set_option maxRecDepth 20000 in
theorem tb548 : (Jvm.Cond.methodLink "WhoIsThere" (306 : Nat) ({ cls := "WhoIsThere", name := "knownTo", desc := "(LWhoIsThere$Host;I)I" } : Jvm.MethodName)) ∈ xa_G := List.mem_filter.mpr ⟨List.mem_append_right _ (xa_t3 68 rfl), rfl⟩
set_option maxRecDepth 20000 in
theorem tb550 : (Jvm.Cond.instanceMethod ({ cls := "WhoIsThere", name := "knownTo", desc := "(LWhoIsThere$Host;I)I" } : Jvm.MethodName)) ∈ xa_G := List.mem_filter.mpr ⟨List.mem_append_right _ (xa_t3 70 rfl), rfl⟩
set_option maxRecDepth 20000 in
theorem tb551 : (Jvm.Cond.code ({ cls := "WhoIsThere", name := "knownTo", desc := "(LWhoIsThere$Host;I)I" } : Jvm.MethodName) prog_1_method_61_code (5 : Nat) (Option.some FieldType.int)) ∈ xa_G := List.mem_filter.mpr ⟨List.mem_append_right _ (xa_t3 71 rfl), rfl⟩
set_option maxRecDepth 20000 in
theorem tb552 : (Jvm.Cond.methodLink "WhoIsThere" (437 : Nat) ({ cls := "WhoIsThere$Store", name := "isFresh", desc := "(II)Z" } : Jvm.MethodName)) ∈ xa_G := List.mem_filter.mpr ⟨List.mem_append_right _ (xa_t3 72 rfl), rfl⟩
set_option maxRecDepth 20000 in
theorem tb553 : (Jvm.Cond.instanceMethod ({ cls := "WhoIsThere$Store", name := "isFresh", desc := "(II)Z" } : Jvm.MethodName)) ∈ xa_G := List.mem_filter.mpr ⟨List.mem_append_right _ (xa_t3 73 rfl), rfl⟩
set_option maxRecDepth 20000 in
theorem tb554 : (Jvm.Cond.selects "WhoIsThere$Store" ({ cls := "WhoIsThere$Store", name := "isFresh", desc := "(II)Z" } : Jvm.MethodName) ({ cls := "WhoIsThere$Store", name := "isFresh", desc := "(II)Z" } : Jvm.MethodName)) ∈ xa_G := List.mem_filter.mpr ⟨List.mem_append_right _ (xa_t3 74 rfl), rfl⟩
set_option maxRecDepth 20000 in
theorem tb555 : (Jvm.Cond.code ({ cls := "WhoIsThere$Store", name := "isFresh", desc := "(II)Z" } : Jvm.MethodName) prog_8_method_5_code (3 : Nat) (Option.some FieldType.boolean)) ∈ xa_G := List.mem_filter.mpr ⟨List.mem_append_right _ (xa_t3 75 rfl), rfl⟩
set_option maxRecDepth 20000 in
theorem tb557 : (Jvm.Cond.methodLink "WhoIsThere" (310 : Nat) ({ cls := "WhoIsThere$Letter", name := "addAsk", desc := "(IIII)V" } : Jvm.MethodName)) ∈ xa_G := List.mem_filter.mpr ⟨List.mem_append_right _ (xa_t3 77 rfl), rfl⟩
set_option maxRecDepth 20000 in
theorem tb558 : (Jvm.Cond.instanceMethod ({ cls := "WhoIsThere$Letter", name := "addAsk", desc := "(IIII)V" } : Jvm.MethodName)) ∈ xa_G := List.mem_filter.mpr ⟨List.mem_append_right _ (xa_t3 78 rfl), rfl⟩
set_option maxRecDepth 20000 in
theorem tb559 : (Jvm.Cond.selects "WhoIsThere$Letter" ({ cls := "WhoIsThere$Letter", name := "addAsk", desc := "(IIII)V" } : Jvm.MethodName) ({ cls := "WhoIsThere$Letter", name := "addAsk", desc := "(IIII)V" } : Jvm.MethodName)) ∈ xa_G := List.mem_filter.mpr ⟨List.mem_append_right _ (xa_t3 79 rfl), rfl⟩
set_option maxRecDepth 20000 in
theorem tb560 : (Jvm.Cond.code ({ cls := "WhoIsThere$Letter", name := "addAsk", desc := "(IIII)V" } : Jvm.MethodName) prog_6_method_9_code (5 : Nat) (Option.none : Option FieldType)) ∈ xa_G := List.mem_filter.mpr ⟨List.mem_append_right _ (xa_t3 80 rfl), rfl⟩
set_option maxRecDepth 20000 in
theorem tb561 : (Jvm.Cond.methodLink "WhoIsThere" (316 : Nat) ({ cls := "WhoIsThere$Asks", name := "remove", desc := "(I)V" } : Jvm.MethodName)) ∈ xa_G := List.mem_filter.mpr ⟨List.mem_append_right _ (xa_t3 81 rfl), rfl⟩
set_option maxRecDepth 20000 in
theorem tb562 : (Jvm.Cond.instanceMethod ({ cls := "WhoIsThere$Asks", name := "remove", desc := "(I)V" } : Jvm.MethodName)) ∈ xa_G := List.mem_filter.mpr ⟨List.mem_append_right _ (xa_t3 82 rfl), rfl⟩
set_option maxRecDepth 20000 in
theorem tb563 : (Jvm.Cond.selects "WhoIsThere$Asks" ({ cls := "WhoIsThere$Asks", name := "remove", desc := "(I)V" } : Jvm.MethodName) ({ cls := "WhoIsThere$Asks", name := "remove", desc := "(I)V" } : Jvm.MethodName)) ∈ xa_G := List.mem_filter.mpr ⟨List.mem_append_right _ (xa_t3 83 rfl), rfl⟩
set_option maxRecDepth 20000 in
theorem tb564 : (Jvm.Cond.code ({ cls := "WhoIsThere$Asks", name := "remove", desc := "(I)V" } : Jvm.MethodName) prog_3_method_7_code (2 : Nat) (Option.none : Option FieldType)) ∈ xa_G := List.mem_filter.mpr ⟨List.mem_append_right _ (xa_t3 84 rfl), rfl⟩
set_option maxRecDepth 20000 in
theorem tb565 : (Jvm.Cond.methodLink "WhoIsThere" (295 : Nat) ({ cls := "WhoIsThere", name := "writeClaims", desc := "(LWhoIsThere$Host;)V" } : Jvm.MethodName)) ∈ xa_G := List.mem_filter.mpr ⟨List.mem_append_right _ (xa_t3 85 rfl), rfl⟩
set_option maxRecDepth 20000 in
theorem tb567 : (Jvm.Cond.instanceMethod ({ cls := "WhoIsThere", name := "writeClaims", desc := "(LWhoIsThere$Host;)V" } : Jvm.MethodName)) ∈ xa_G := List.mem_filter.mpr ⟨List.mem_append_right _ (xa_t3 87 rfl), rfl⟩
set_option maxRecDepth 20000 in
theorem tb568 : (Jvm.Cond.code ({ cls := "WhoIsThere", name := "writeClaims", desc := "(LWhoIsThere$Host;)V" } : Jvm.MethodName) prog_1_method_48_code (4 : Nat) (Option.none : Option FieldType)) ∈ xa_G := List.mem_filter.mpr ⟨List.mem_append_right _ (xa_t3 88 rfl), rfl⟩
set_option maxRecDepth 20000 in
theorem tb569 : (Jvm.Cond.methodLink "WhoIsThere" (319 : Nat) ({ cls := "WhoIsThere$Letter", name := "addClaim", desc := "(III)V" } : Jvm.MethodName)) ∈ xa_G := List.mem_filter.mpr ⟨List.mem_append_right _ (xa_t3 89 rfl), rfl⟩
set_option maxRecDepth 20000 in
theorem tb570 : (Jvm.Cond.instanceMethod ({ cls := "WhoIsThere$Letter", name := "addClaim", desc := "(III)V" } : Jvm.MethodName)) ∈ xa_G := List.mem_filter.mpr ⟨List.mem_append_right _ (xa_t3 90 rfl), rfl⟩
set_option maxRecDepth 20000 in
theorem tb571 : (Jvm.Cond.selects "WhoIsThere$Letter" ({ cls := "WhoIsThere$Letter", name := "addClaim", desc := "(III)V" } : Jvm.MethodName) ({ cls := "WhoIsThere$Letter", name := "addClaim", desc := "(III)V" } : Jvm.MethodName)) ∈ xa_G := List.mem_filter.mpr ⟨List.mem_append_right _ (xa_t3 91 rfl), rfl⟩
set_option maxRecDepth 20000 in
theorem tb572 : (Jvm.Cond.code ({ cls := "WhoIsThere$Letter", name := "addClaim", desc := "(III)V" } : Jvm.MethodName) prog_6_method_10_code (4 : Nat) (Option.none : Option FieldType)) ∈ xa_G := List.mem_filter.mpr ⟨List.mem_append_right _ (xa_t3 92 rfl), rfl⟩
set_option maxRecDepth 20000 in
theorem tb573 : (Jvm.Cond.methodLink "WhoIsThere" (298 : Nat) ({ cls := "WhoIsThere", name := "writeTellings", desc := "(LWhoIsThere$Host;)V" } : Jvm.MethodName)) ∈ xa_G := List.mem_filter.mpr ⟨List.mem_append_right _ (xa_t3 93 rfl), rfl⟩
set_option maxRecDepth 20000 in
theorem tb575 : (Jvm.Cond.instanceMethod ({ cls := "WhoIsThere", name := "writeTellings", desc := "(LWhoIsThere$Host;)V" } : Jvm.MethodName)) ∈ xa_G := List.mem_filter.mpr ⟨List.mem_append_right _ (xa_t3 95 rfl), rfl⟩
set_option maxRecDepth 20000 in
theorem tb576 : (Jvm.Cond.code ({ cls := "WhoIsThere", name := "writeTellings", desc := "(LWhoIsThere$Host;)V" } : Jvm.MethodName) prog_1_method_50_code (5 : Nat) (Option.none : Option FieldType)) ∈ xa_G := List.mem_filter.mpr ⟨List.mem_append_right _ (xa_t3 96 rfl), rfl⟩
set_option maxRecDepth 20000 in
theorem tb577 : (Jvm.Cond.methodLink "WhoIsThere" (325 : Nat) ({ cls := "WhoIsThere$Answers", name := "isDue", desc := "(II)Z" } : Jvm.MethodName)) ∈ xa_G := List.mem_filter.mpr ⟨List.mem_append_right _ (xa_t3 97 rfl), rfl⟩
set_option maxRecDepth 20000 in
theorem tb578 : (Jvm.Cond.instanceMethod ({ cls := "WhoIsThere$Answers", name := "isDue", desc := "(II)Z" } : Jvm.MethodName)) ∈ xa_G := List.mem_filter.mpr ⟨List.mem_append_right _ (xa_t3 98 rfl), rfl⟩
set_option maxRecDepth 20000 in
theorem tb579 : (Jvm.Cond.selects "WhoIsThere$Answers" ({ cls := "WhoIsThere$Answers", name := "isDue", desc := "(II)Z" } : Jvm.MethodName) ({ cls := "WhoIsThere$Answers", name := "isDue", desc := "(II)Z" } : Jvm.MethodName)) ∈ xa_G := List.mem_filter.mpr ⟨List.mem_append_right _ (xa_t3 99 rfl), rfl⟩
set_option maxRecDepth 20000 in
theorem tb580 : (Jvm.Cond.code ({ cls := "WhoIsThere$Answers", name := "isDue", desc := "(II)Z" } : Jvm.MethodName) prog_2_method_2_code (3 : Nat) (Option.some FieldType.boolean)) ∈ xa_G := List.mem_filter.mpr ⟨List.mem_append_right _ (xa_t3 100 rfl), rfl⟩
set_option maxRecDepth 20000 in
theorem tb582 : (Jvm.Cond.methodLink "WhoIsThere" (326 : Nat) ({ cls := "WhoIsThere", name := "writeTelling", desc := "(LWhoIsThere$Host;LWhoIsThere$Service;Z)V" } : Jvm.MethodName)) ∈ xa_G := List.mem_filter.mpr ⟨List.mem_append_right _ (xa_t3 102 rfl), rfl⟩
set_option maxRecDepth 20000 in
theorem tb584 : (Jvm.Cond.instanceMethod ({ cls := "WhoIsThere", name := "writeTelling", desc := "(LWhoIsThere$Host;LWhoIsThere$Service;Z)V" } : Jvm.MethodName)) ∈ xa_G := List.mem_filter.mpr ⟨List.mem_append_right _ (xa_t3 104 rfl), rfl⟩
set_option maxRecDepth 20000 in
theorem tb585 : (Jvm.Cond.code ({ cls := "WhoIsThere", name := "writeTelling", desc := "(LWhoIsThere$Host;LWhoIsThere$Service;Z)V" } : Jvm.MethodName) prog_1_method_51_code (6 : Nat) (Option.none : Option FieldType)) ∈ xa_G := List.mem_filter.mpr ⟨List.mem_append_right _ (xa_t3 105 rfl), rfl⟩
set_option maxRecDepth 20000 in
theorem tb586 : (Jvm.Cond.methodLink "WhoIsThere" (331 : Nat) ({ cls := "WhoIsThere", name := "speaksFor", desc := "(LWhoIsThere$Host;LWhoIsThere$Service;)Z" } : Jvm.MethodName)) ∈ xa_G := List.mem_filter.mpr ⟨List.mem_append_right _ (xa_t3 106 rfl), rfl⟩
set_option maxRecDepth 20000 in
theorem tb588 : (Jvm.Cond.instanceMethod ({ cls := "WhoIsThere", name := "speaksFor", desc := "(LWhoIsThere$Host;LWhoIsThere$Service;)Z" } : Jvm.MethodName)) ∈ xa_G := List.mem_filter.mpr ⟨List.mem_append_right _ (xa_t3 108 rfl), rfl⟩
set_option maxRecDepth 20000 in
theorem tb589 : (Jvm.Cond.code ({ cls := "WhoIsThere", name := "speaksFor", desc := "(LWhoIsThere$Host;LWhoIsThere$Service;)Z" } : Jvm.MethodName) prog_1_method_43_code (3 : Nat) (Option.some FieldType.boolean)) ∈ xa_G := List.mem_filter.mpr ⟨List.mem_append_right _ (xa_t3 109 rfl), rfl⟩
set_option maxRecDepth 20000 in
theorem tb590 : (Jvm.Cond.methodLink "WhoIsThere" (337 : Nat) ({ cls := "WhoIsThere$Letter", name := "addTelling", desc := "(IIIII)V" } : Jvm.MethodName)) ∈ xa_G := List.mem_filter.mpr ⟨List.mem_append_right _ (xa_t3 110 rfl), rfl⟩
set_option maxRecDepth 20000 in
theorem tb591 : (Jvm.Cond.instanceMethod ({ cls := "WhoIsThere$Letter", name := "addTelling", desc := "(IIIII)V" } : Jvm.MethodName)) ∈ xa_G := List.mem_filter.mpr ⟨List.mem_append_right _ (xa_t3 111 rfl), rfl⟩
set_option maxRecDepth 20000 in
theorem tb592 : (Jvm.Cond.selects "WhoIsThere$Letter" ({ cls := "WhoIsThere$Letter", name := "addTelling", desc := "(IIIII)V" } : Jvm.MethodName) ({ cls := "WhoIsThere$Letter", name := "addTelling", desc := "(IIIII)V" } : Jvm.MethodName)) ∈ xa_G := List.mem_filter.mpr ⟨List.mem_append_right _ (xa_t3 112 rfl), rfl⟩
set_option maxRecDepth 20000 in
theorem tb593 : (Jvm.Cond.code ({ cls := "WhoIsThere$Letter", name := "addTelling", desc := "(IIIII)V" } : Jvm.MethodName) prog_6_method_12_code (6 : Nat) (Option.none : Option FieldType)) ∈ xa_G := List.mem_filter.mpr ⟨List.mem_append_right _ (xa_t3 113 rfl), rfl⟩
set_option maxRecDepth 20000 in
theorem tb594 : (Jvm.Cond.methodLink "WhoIsThere" (191 : Nat) ({ cls := "WhoIsThere$Store", name := "has", desc := "(I)Z" } : Jvm.MethodName)) ∈ xa_G := List.mem_filter.mpr ⟨List.mem_append_right _ (xa_t3 114 rfl), rfl⟩
set_option maxRecDepth 20000 in
theorem tb595 : (Jvm.Cond.instanceMethod ({ cls := "WhoIsThere$Store", name := "has", desc := "(I)Z" } : Jvm.MethodName)) ∈ xa_G := List.mem_filter.mpr ⟨List.mem_append_right _ (xa_t3 115 rfl), rfl⟩
set_option maxRecDepth 20000 in
theorem tb596 : (Jvm.Cond.selects "WhoIsThere$Store" ({ cls := "WhoIsThere$Store", name := "has", desc := "(I)Z" } : Jvm.MethodName) ({ cls := "WhoIsThere$Store", name := "has", desc := "(I)Z" } : Jvm.MethodName)) ∈ xa_G := List.mem_filter.mpr ⟨List.mem_append_right _ (xa_t3 116 rfl), rfl⟩
set_option maxRecDepth 20000 in
theorem tb597 : (Jvm.Cond.code ({ cls := "WhoIsThere$Store", name := "has", desc := "(I)Z" } : Jvm.MethodName) prog_8_method_2_code (2 : Nat) (Option.some FieldType.boolean)) ∈ xa_G := List.mem_filter.mpr ⟨List.mem_append_right _ (xa_t3 117 rfl), rfl⟩
set_option maxRecDepth 20000 in
theorem tb598 : (Jvm.Cond.methodLink "WhoIsThere" (194 : Nat) ({ cls := "WhoIsThere$Store", name := "left", desc := "(II)I" } : Jvm.MethodName)) ∈ xa_G := List.mem_filter.mpr ⟨List.mem_append_right _ (xa_t3 118 rfl), rfl⟩
set_option maxRecDepth 20000 in
theorem tb599 : (Jvm.Cond.instanceMethod ({ cls := "WhoIsThere$Store", name := "left", desc := "(II)I" } : Jvm.MethodName)) ∈ xa_G := List.mem_filter.mpr ⟨List.mem_append_right _ (xa_t3 119 rfl), rfl⟩
set_option maxRecDepth 20000 in
theorem tb600 : (Jvm.Cond.selects "WhoIsThere$Store" ({ cls := "WhoIsThere$Store", name := "left", desc := "(II)I" } : Jvm.MethodName) ({ cls := "WhoIsThere$Store", name := "left", desc := "(II)I" } : Jvm.MethodName)) ∈ xa_G := List.mem_filter.mpr ⟨List.mem_append_right _ (xa_t3 120 rfl), rfl⟩
set_option maxRecDepth 20000 in
theorem tb601 : (Jvm.Cond.code ({ cls := "WhoIsThere$Store", name := "left", desc := "(II)I" } : Jvm.MethodName) prog_8_method_4_code (3 : Nat) (Option.some FieldType.int)) ∈ xa_G := List.mem_filter.mpr ⟨List.mem_append_right _ (xa_t3 121 rfl), rfl⟩
set_option maxRecDepth 20000 in
theorem tb602 : (Jvm.Cond.methodLink "WhoIsThere" (330 : Nat) ({ cls := "WhoIsThere$Answers", name := "remove", desc := "(I)V" } : Jvm.MethodName)) ∈ xa_G := List.mem_filter.mpr ⟨List.mem_append_right _ (xa_t3 122 rfl), rfl⟩
set_option maxRecDepth 20000 in
theorem tb603 : (Jvm.Cond.instanceMethod ({ cls := "WhoIsThere$Answers", name := "remove", desc := "(I)V" } : Jvm.MethodName)) ∈ xa_G := List.mem_filter.mpr ⟨List.mem_append_right _ (xa_t3 123 rfl), rfl⟩
set_option maxRecDepth 20000 in
theorem tb604 : (Jvm.Cond.selects "WhoIsThere$Answers" ({ cls := "WhoIsThere$Answers", name := "remove", desc := "(I)V" } : Jvm.MethodName) ({ cls := "WhoIsThere$Answers", name := "remove", desc := "(I)V" } : Jvm.MethodName)) ∈ xa_G := List.mem_filter.mpr ⟨List.mem_append_right _ (xa_t3 124 rfl), rfl⟩
set_option maxRecDepth 20000 in
theorem tb605 : (Jvm.Cond.code ({ cls := "WhoIsThere$Answers", name := "remove", desc := "(I)V" } : Jvm.MethodName) prog_2_method_5_code (2 : Nat) (Option.none : Option FieldType)) ∈ xa_G := List.mem_filter.mpr ⟨List.mem_append_right _ (xa_t3 125 rfl), rfl⟩
set_option maxRecDepth 20000 in
theorem tb606 : (Jvm.Cond.methodLink "WhoIsThere" (174 : Nat) ({ cls := "WhoIsThere", name := "hearLetters", desc := "()V" } : Jvm.MethodName)) ∈ xa_G := List.mem_filter.mpr ⟨List.mem_append_right _ (xa_t3 126 rfl), rfl⟩
set_option maxRecDepth 20000 in
theorem tb608 : (Jvm.Cond.instanceMethod ({ cls := "WhoIsThere", name := "hearLetters", desc := "()V" } : Jvm.MethodName)) ∈ xa_G := List.mem_filter.mpr ⟨List.mem_append_right _ (xa_t3 128 rfl), rfl⟩
set_option maxRecDepth 20000 in
theorem tb609 : (Jvm.Cond.code ({ cls := "WhoIsThere", name := "hearLetters", desc := "()V" } : Jvm.MethodName) prog_1_method_54_code (3 : Nat) (Option.none : Option FieldType)) ∈ xa_G := List.mem_filter.mpr ⟨List.mem_append_right _ (xa_t3 129 rfl), rfl⟩
set_option maxRecDepth 20000 in
theorem tb610 : (Jvm.Cond.methodLink "WhoIsThere" (349 : Nat) ({ cls := "WhoIsThere", name := "sendOut", desc := "(LWhoIsThere$Host;LWhoIsThere$Letter;)V" } : Jvm.MethodName)) ∈ xa_G := List.mem_filter.mpr ⟨List.mem_append_right _ (xa_t3 130 rfl), rfl⟩
set_option maxRecDepth 20000 in
theorem tb612 : (Jvm.Cond.instanceMethod ({ cls := "WhoIsThere", name := "sendOut", desc := "(LWhoIsThere$Host;LWhoIsThere$Letter;)V" } : Jvm.MethodName)) ∈ xa_G := List.mem_filter.mpr ⟨List.mem_append_right _ (xa_t3 132 rfl), rfl⟩
set_option maxRecDepth 20000 in
theorem tb613 : (Jvm.Cond.code ({ cls := "WhoIsThere", name := "sendOut", desc := "(LWhoIsThere$Host;LWhoIsThere$Letter;)V" } : Jvm.MethodName) prog_1_method_55_code (5 : Nat) (Option.none : Option FieldType)) ∈ xa_G := List.mem_filter.mpr ⟨List.mem_append_right _ (xa_t3 133 rfl), rfl⟩
set_option maxRecDepth 20000 in
theorem tb614 : (Jvm.Cond.methodLink "WhoIsThere" (353 : Nat) ({ cls := "WhoIsThere$Host", name := "isOn", desc := "(I)Z" } : Jvm.MethodName)) ∈ xa_G := List.mem_filter.mpr ⟨List.mem_append_right _ (xa_t3 134 rfl), rfl⟩
set_option maxRecDepth 20000 in
theorem tb615 : (Jvm.Cond.instanceMethod ({ cls := "WhoIsThere$Host", name := "isOn", desc := "(I)Z" } : Jvm.MethodName)) ∈ xa_G := List.mem_filter.mpr ⟨List.mem_append_right _ (xa_t3 135 rfl), rfl⟩
set_option maxRecDepth 20000 in
theorem tb616 : (Jvm.Cond.selects "WhoIsThere$Host" ({ cls := "WhoIsThere$Host", name := "isOn", desc := "(I)Z" } : Jvm.MethodName) ({ cls := "WhoIsThere$Host", name := "isOn", desc := "(I)Z" } : Jvm.MethodName)) ∈ xa_G := List.mem_filter.mpr ⟨List.mem_append_right _ (xa_t3 136 rfl), rfl⟩
set_option maxRecDepth 20000 in
theorem tb617 : (Jvm.Cond.code ({ cls := "WhoIsThere$Host", name := "isOn", desc := "(I)Z" } : Jvm.MethodName) prog_5_method_3_code (2 : Nat) (Option.some FieldType.boolean)) ∈ xa_G := List.mem_filter.mpr ⟨List.mem_append_right _ (xa_t3 137 rfl), rfl⟩
set_option maxRecDepth 20000 in
theorem tb618 : (Jvm.Cond.methodLink "WhoIsThere" (356 : Nat) ({ cls := "WhoIsThere", name := "takeUp", desc := "(LWhoIsThere$Host;LWhoIsThere$Bridge;LWhoIsThere$Letter;)V" } : Jvm.MethodName)) ∈ xa_G := List.mem_filter.mpr ⟨List.mem_append_right _ (xa_t3 138 rfl), rfl⟩
set_option maxRecDepth 20000 in
theorem tb620 : (Jvm.Cond.instanceMethod ({ cls := "WhoIsThere", name := "takeUp", desc := "(LWhoIsThere$Host;LWhoIsThere$Bridge;LWhoIsThere$Letter;)V" } : Jvm.MethodName)) ∈ xa_G := List.mem_filter.mpr ⟨List.mem_append_right _ (xa_t3 140 rfl), rfl⟩
set_option maxRecDepth 20000 in
theorem tb621 : (Jvm.Cond.code ({ cls := "WhoIsThere", name := "takeUp", desc := "(LWhoIsThere$Host;LWhoIsThere$Bridge;LWhoIsThere$Letter;)V" } : Jvm.MethodName) prog_1_method_56_code (10 : Nat) (Option.none : Option FieldType)) ∈ xa_G := List.mem_filter.mpr ⟨List.mem_append_right _ (xa_t3 141 rfl), rfl⟩
set_option maxRecDepth 20000 in
theorem tb622 : (Jvm.Cond.methodLink "WhoIsThere" (364 : Nat) ({ cls := "WhoIsThere$Letter", name := "size", desc := "()I" } : Jvm.MethodName)) ∈ xa_G := List.mem_filter.mpr ⟨List.mem_append_right _ (xa_t3 142 rfl), rfl⟩
set_option maxRecDepth 20000 in
theorem tb623 : (Jvm.Cond.instanceMethod ({ cls := "WhoIsThere$Letter", name := "size", desc := "()I" } : Jvm.MethodName)) ∈ xa_G := List.mem_filter.mpr ⟨List.mem_append_right _ (xa_t3 143 rfl), rfl⟩
set_option maxRecDepth 20000 in
theorem tb624 : (Jvm.Cond.selects "WhoIsThere$Letter" ({ cls := "WhoIsThere$Letter", name := "size", desc := "()I" } : Jvm.MethodName) ({ cls := "WhoIsThere$Letter", name := "size", desc := "()I" } : Jvm.MethodName)) ∈ xa_G := List.mem_filter.mpr ⟨List.mem_append_right _ (xa_t3 144 rfl), rfl⟩
set_option maxRecDepth 20000 in
theorem tb625 : (Jvm.Cond.code ({ cls := "WhoIsThere$Letter", name := "size", desc := "()I" } : Jvm.MethodName) prog_6_method_3_code (1 : Nat) (Option.some FieldType.int)) ∈ xa_G := List.mem_filter.mpr ⟨List.mem_append_right _ (xa_t3 145 rfl), rfl⟩
set_option maxRecDepth 20000 in
theorem tb626 : (Jvm.Cond.methodLink "WhoIsThere$Letter" (55 : Nat) ({ cls := "java/lang/Integer", name := "bitCount", desc := "(I)I" } : Jvm.MethodName)) ∈ xa_G := List.mem_filter.mpr ⟨List.mem_append_right _ (xa_t3 146 rfl), rfl⟩
set_option maxRecDepth 20000 in
theorem tb627 : (Jvm.Cond.static ({ cls := "java/lang/Integer", name := "bitCount", desc := "(I)I" } : Jvm.MethodName)) ∈ xa_G := List.mem_filter.mpr ⟨List.mem_append_right _ (xa_t3 147 rfl), rfl⟩
set_option maxRecDepth 20000 in
theorem tb628 : (Jvm.Cond.code ({ cls := "java/lang/Integer", name := "bitCount", desc := "(I)I" } : Jvm.MethodName) prog_11_method_49_code (1 : Nat) (Option.some FieldType.int)) ∈ xa_G := List.mem_filter.mpr ⟨List.mem_append_right _ (xa_t3 148 rfl), rfl⟩
set_option maxRecDepth 20000 in
theorem tb629 : (Jvm.Cond.constant "java/lang/Integer" (265 : Nat) (1431655765 : Int32)) ∈ xa_G := List.mem_filter.mpr ⟨List.mem_append_right _ (xa_t3 149 rfl), rfl⟩
set_option maxRecDepth 20000 in
theorem tb630 : (Jvm.Cond.constant "java/lang/Integer" (266 : Nat) (858993459 : Int32)) ∈ xa_G := List.mem_filter.mpr ⟨List.mem_append_right _ (xa_t3 150 rfl), rfl⟩
set_option maxRecDepth 20000 in
theorem tb631 : (Jvm.Cond.constant "java/lang/Integer" (267 : Nat) (252645135 : Int32)) ∈ xa_G := List.mem_filter.mpr ⟨List.mem_append_right _ (xa_t3 151 rfl), rfl⟩
set_option maxRecDepth 20000 in
theorem tb632 : (Jvm.Cond.methodLink "WhoIsThere" (374 : Nat) ({ cls := "WhoIsThere$Bridge", name := "carries", desc := "(I)Z" } : Jvm.MethodName)) ∈ xa_G := List.mem_filter.mpr ⟨List.mem_append_right _ (xa_t3 152 rfl), rfl⟩
set_option maxRecDepth 20000 in
theorem tb633 : (Jvm.Cond.instanceMethod ({ cls := "WhoIsThere$Bridge", name := "carries", desc := "(I)Z" } : Jvm.MethodName)) ∈ xa_G := List.mem_filter.mpr ⟨List.mem_append_right _ (xa_t3 153 rfl), rfl⟩
set_option maxRecDepth 20000 in
theorem tb634 : (Jvm.Cond.selects "WhoIsThere$Bridge" ({ cls := "WhoIsThere$Bridge", name := "carries", desc := "(I)Z" } : Jvm.MethodName) ({ cls := "WhoIsThere$Bridge", name := "carries", desc := "(I)Z" } : Jvm.MethodName)) ∈ xa_G := List.mem_filter.mpr ⟨List.mem_append_right _ (xa_t3 154 rfl), rfl⟩
set_option maxRecDepth 20000 in
theorem tb635 : (Jvm.Cond.code ({ cls := "WhoIsThere$Bridge", name := "carries", desc := "(I)Z" } : Jvm.MethodName) prog_4_method_2_code (2 : Nat) (Option.some FieldType.boolean)) ∈ xa_G := List.mem_filter.mpr ⟨List.mem_append_right _ (xa_t3 155 rfl), rfl⟩
set_option maxRecDepth 20000 in
theorem tb637 : (Jvm.Cond.methodLink "WhoIsThere" (377 : Nat) ({ cls := "WhoIsThere$Letter", name := "takeAsk", desc := "(LWhoIsThere$Letter;II)V" } : Jvm.MethodName)) ∈ xa_G := List.mem_filter.mpr ⟨List.mem_append_right _ (xa_t3 157 rfl), rfl⟩
set_option maxRecDepth 20000 in
theorem tb638 : (Jvm.Cond.instanceMethod ({ cls := "WhoIsThere$Letter", name := "takeAsk", desc := "(LWhoIsThere$Letter;II)V" } : Jvm.MethodName)) ∈ xa_G := List.mem_filter.mpr ⟨List.mem_append_right _ (xa_t3 158 rfl), rfl⟩
set_option maxRecDepth 20000 in
theorem tb639 : (Jvm.Cond.selects "WhoIsThere$Letter" ({ cls := "WhoIsThere$Letter", name := "takeAsk", desc := "(LWhoIsThere$Letter;II)V" } : Jvm.MethodName) ({ cls := "WhoIsThere$Letter", name := "takeAsk", desc := "(LWhoIsThere$Letter;II)V" } : Jvm.MethodName)) ∈ xa_G := List.mem_filter.mpr ⟨List.mem_append_right _ (xa_t3 159 rfl), rfl⟩
set_option maxRecDepth 20000 in
theorem tb640 : (Jvm.Cond.code ({ cls := "WhoIsThere$Letter", name := "takeAsk", desc := "(LWhoIsThere$Letter;II)V" } : Jvm.MethodName) prog_6_method_13_code (5 : Nat) (Option.none : Option FieldType)) ∈ xa_G := List.mem_filter.mpr ⟨List.mem_append_right _ (xa_t3 160 rfl), rfl⟩
set_option maxRecDepth 20000 in
theorem tb641 : (Jvm.Cond.methodLink "WhoIsThere$Letter" (68 : Nat) ({ cls := "WhoIsThere$Letter", name := "hasAsk", desc := "(I)Z" } : Jvm.MethodName)) ∈ xa_G := List.mem_filter.mpr ⟨List.mem_append_right _ (xa_t3 161 rfl), rfl⟩
set_option maxRecDepth 20000 in
theorem tb642 : (Jvm.Cond.instanceMethod ({ cls := "WhoIsThere$Letter", name := "hasAsk", desc := "(I)Z" } : Jvm.MethodName)) ∈ xa_G := List.mem_filter.mpr ⟨List.mem_append_right _ (xa_t3 162 rfl), rfl⟩
set_option maxRecDepth 20000 in
theorem tb643 : (Jvm.Cond.selects "WhoIsThere$Letter" ({ cls := "WhoIsThere$Letter", name := "hasAsk", desc := "(I)Z" } : Jvm.MethodName) ({ cls := "WhoIsThere$Letter", name := "hasAsk", desc := "(I)Z" } : Jvm.MethodName)) ∈ xa_G := List.mem_filter.mpr ⟨List.mem_append_right _ (xa_t3 163 rfl), rfl⟩
set_option maxRecDepth 20000 in
theorem tb644 : (Jvm.Cond.code ({ cls := "WhoIsThere$Letter", name := "hasAsk", desc := "(I)Z" } : Jvm.MethodName) prog_6_method_5_code (2 : Nat) (Option.some FieldType.boolean)) ∈ xa_G := List.mem_filter.mpr ⟨List.mem_append_right _ (xa_t3 164 rfl), rfl⟩
set_option maxRecDepth 20000 in
theorem tb646 : (Jvm.Cond.methodLink "WhoIsThere$Letter" (72 : Nat) ({ cls := "WhoIsThere$Letter", name := "addAsk", desc := "(IIII)V" } : Jvm.MethodName)) ∈ xa_G := List.mem_filter.mpr ⟨List.mem_append_right _ (xa_t3 166 rfl), rfl⟩
set_option maxRecDepth 20000 in
theorem tb647 : (Jvm.Cond.methodLink "WhoIsThere" (381 : Nat) ({ cls := "WhoIsThere", name := "isIn", desc := "(II)Z" } : Jvm.MethodName)) ∈ xa_G := List.mem_filter.mpr ⟨List.mem_append_right _ (xa_t3 167 rfl), rfl⟩
set_option maxRecDepth 20000 in
theorem tb648 : (Jvm.Cond.methodLink "WhoIsThere" (384 : Nat) ({ cls := "WhoIsThere$Letter", name := "takeClaim", desc := "(LWhoIsThere$Letter;II)V" } : Jvm.MethodName)) ∈ xa_G := List.mem_filter.mpr ⟨List.mem_append_right _ (xa_t3 168 rfl), rfl⟩
set_option maxRecDepth 20000 in
theorem tb649 : (Jvm.Cond.instanceMethod ({ cls := "WhoIsThere$Letter", name := "takeClaim", desc := "(LWhoIsThere$Letter;II)V" } : Jvm.MethodName)) ∈ xa_G := List.mem_filter.mpr ⟨List.mem_append_right _ (xa_t3 169 rfl), rfl⟩
set_option maxRecDepth 20000 in
theorem tb650 : (Jvm.Cond.selects "WhoIsThere$Letter" ({ cls := "WhoIsThere$Letter", name := "takeClaim", desc := "(LWhoIsThere$Letter;II)V" } : Jvm.MethodName) ({ cls := "WhoIsThere$Letter", name := "takeClaim", desc := "(LWhoIsThere$Letter;II)V" } : Jvm.MethodName)) ∈ xa_G := List.mem_filter.mpr ⟨List.mem_append_right _ (xa_t3 170 rfl), rfl⟩
set_option maxRecDepth 20000 in
theorem tb651 : (Jvm.Cond.code ({ cls := "WhoIsThere$Letter", name := "takeClaim", desc := "(LWhoIsThere$Letter;II)V" } : Jvm.MethodName) prog_6_method_14_code (5 : Nat) (Option.none : Option FieldType)) ∈ xa_G := List.mem_filter.mpr ⟨List.mem_append_right _ (xa_t3 171 rfl), rfl⟩
set_option maxRecDepth 20000 in
theorem tb652 : (Jvm.Cond.methodLink "WhoIsThere$Letter" (76 : Nat) ({ cls := "WhoIsThere$Letter", name := "hasClaim", desc := "(I)Z" } : Jvm.MethodName)) ∈ xa_G := List.mem_filter.mpr ⟨List.mem_append_right _ (xa_t3 172 rfl), rfl⟩
set_option maxRecDepth 20000 in
theorem tb653 : (Jvm.Cond.instanceMethod ({ cls := "WhoIsThere$Letter", name := "hasClaim", desc := "(I)Z" } : Jvm.MethodName)) ∈ xa_G := List.mem_filter.mpr ⟨List.mem_append_right _ (xa_t3 173 rfl), rfl⟩
set_option maxRecDepth 20000 in
theorem tb654 : (Jvm.Cond.selects "WhoIsThere$Letter" ({ cls := "WhoIsThere$Letter", name := "hasClaim", desc := "(I)Z" } : Jvm.MethodName) ({ cls := "WhoIsThere$Letter", name := "hasClaim", desc := "(I)Z" } : Jvm.MethodName)) ∈ xa_G := List.mem_filter.mpr ⟨List.mem_append_right _ (xa_t3 174 rfl), rfl⟩
set_option maxRecDepth 20000 in
theorem tb655 : (Jvm.Cond.code ({ cls := "WhoIsThere$Letter", name := "hasClaim", desc := "(I)Z" } : Jvm.MethodName) prog_6_method_6_code (2 : Nat) (Option.some FieldType.boolean)) ∈ xa_G := List.mem_filter.mpr ⟨List.mem_append_right _ (xa_t3 175 rfl), rfl⟩
set_option maxRecDepth 20000 in
theorem tb656 : (Jvm.Cond.methodLink "WhoIsThere$Letter" (79 : Nat) ({ cls := "WhoIsThere$Letter", name := "addClaim", desc := "(III)V" } : Jvm.MethodName)) ∈ xa_G := List.mem_filter.mpr ⟨List.mem_append_right _ (xa_t3 176 rfl), rfl⟩
set_option maxRecDepth 20000 in
theorem tb657 : (Jvm.Cond.methodLink "WhoIsThere" (387 : Nat) ({ cls := "WhoIsThere$Letter", name := "takeBye", desc := "(LWhoIsThere$Letter;II)V" } : Jvm.MethodName)) ∈ xa_G := List.mem_filter.mpr ⟨List.mem_append_right _ (xa_t3 177 rfl), rfl⟩
set_option maxRecDepth 20000 in
theorem tb658 : (Jvm.Cond.instanceMethod ({ cls := "WhoIsThere$Letter", name := "takeBye", desc := "(LWhoIsThere$Letter;II)V" } : Jvm.MethodName)) ∈ xa_G := List.mem_filter.mpr ⟨List.mem_append_right _ (xa_t3 178 rfl), rfl⟩
set_option maxRecDepth 20000 in
theorem tb659 : (Jvm.Cond.selects "WhoIsThere$Letter" ({ cls := "WhoIsThere$Letter", name := "takeBye", desc := "(LWhoIsThere$Letter;II)V" } : Jvm.MethodName) ({ cls := "WhoIsThere$Letter", name := "takeBye", desc := "(LWhoIsThere$Letter;II)V" } : Jvm.MethodName)) ∈ xa_G := List.mem_filter.mpr ⟨List.mem_append_right _ (xa_t3 179 rfl), rfl⟩
set_option maxRecDepth 20000 in
theorem tb660 : (Jvm.Cond.code ({ cls := "WhoIsThere$Letter", name := "takeBye", desc := "(LWhoIsThere$Letter;II)V" } : Jvm.MethodName) prog_6_method_15_code (5 : Nat) (Option.none : Option FieldType)) ∈ xa_G := List.mem_filter.mpr ⟨List.mem_append_right _ (xa_t3 180 rfl), rfl⟩
set_option maxRecDepth 20000 in
theorem tb661 : (Jvm.Cond.methodLink "WhoIsThere$Letter" (83 : Nat) ({ cls := "WhoIsThere$Letter", name := "hasBye", desc := "(I)Z" } : Jvm.MethodName)) ∈ xa_G := List.mem_filter.mpr ⟨List.mem_append_right _ (xa_t3 181 rfl), rfl⟩
set_option maxRecDepth 20000 in
theorem tb662 : (Jvm.Cond.instanceMethod ({ cls := "WhoIsThere$Letter", name := "hasBye", desc := "(I)Z" } : Jvm.MethodName)) ∈ xa_G := List.mem_filter.mpr ⟨List.mem_append_right _ (xa_t3 182 rfl), rfl⟩
set_option maxRecDepth 20000 in
theorem tb663 : (Jvm.Cond.selects "WhoIsThere$Letter" ({ cls := "WhoIsThere$Letter", name := "hasBye", desc := "(I)Z" } : Jvm.MethodName) ({ cls := "WhoIsThere$Letter", name := "hasBye", desc := "(I)Z" } : Jvm.MethodName)) ∈ xa_G := List.mem_filter.mpr ⟨List.mem_append_right _ (xa_t3 183 rfl), rfl⟩
set_option maxRecDepth 20000 in
theorem tb664 : (Jvm.Cond.code ({ cls := "WhoIsThere$Letter", name := "hasBye", desc := "(I)Z" } : Jvm.MethodName) prog_6_method_7_code (2 : Nat) (Option.some FieldType.boolean)) ∈ xa_G := List.mem_filter.mpr ⟨List.mem_append_right _ (xa_t3 184 rfl), rfl⟩
set_option maxRecDepth 20000 in
theorem tb665 : (Jvm.Cond.methodLink "WhoIsThere$Letter" (86 : Nat) ({ cls := "WhoIsThere$Letter", name := "addBye", desc := "(II)V" } : Jvm.MethodName)) ∈ xa_G := List.mem_filter.mpr ⟨List.mem_append_right _ (xa_t3 185 rfl), rfl⟩
set_option maxRecDepth 20000 in
theorem tb666 : (Jvm.Cond.methodLink "WhoIsThere" (390 : Nat) ({ cls := "WhoIsThere$Letter", name := "takeTelling", desc := "(LWhoIsThere$Letter;II)V" } : Jvm.MethodName)) ∈ xa_G := List.mem_filter.mpr ⟨List.mem_append_right _ (xa_t3 186 rfl), rfl⟩
set_option maxRecDepth 20000 in
theorem tb667 : (Jvm.Cond.instanceMethod ({ cls := "WhoIsThere$Letter", name := "takeTelling", desc := "(LWhoIsThere$Letter;II)V" } : Jvm.MethodName)) ∈ xa_G := List.mem_filter.mpr ⟨List.mem_append_right _ (xa_t3 187 rfl), rfl⟩
set_option maxRecDepth 20000 in
theorem tb668 : (Jvm.Cond.selects "WhoIsThere$Letter" ({ cls := "WhoIsThere$Letter", name := "takeTelling", desc := "(LWhoIsThere$Letter;II)V" } : Jvm.MethodName) ({ cls := "WhoIsThere$Letter", name := "takeTelling", desc := "(LWhoIsThere$Letter;II)V" } : Jvm.MethodName)) ∈ xa_G := List.mem_filter.mpr ⟨List.mem_append_right _ (xa_t3 188 rfl), rfl⟩
set_option maxRecDepth 20000 in
theorem tb669 : (Jvm.Cond.code ({ cls := "WhoIsThere$Letter", name := "takeTelling", desc := "(LWhoIsThere$Letter;II)V" } : Jvm.MethodName) prog_6_method_16_code (6 : Nat) (Option.none : Option FieldType)) ∈ xa_G := List.mem_filter.mpr ⟨List.mem_append_right _ (xa_t3 189 rfl), rfl⟩
set_option maxRecDepth 20000 in
theorem tb670 : (Jvm.Cond.methodLink "WhoIsThere$Letter" (90 : Nat) ({ cls := "WhoIsThere$Letter", name := "hasTelling", desc := "(I)Z" } : Jvm.MethodName)) ∈ xa_G := List.mem_filter.mpr ⟨List.mem_append_right _ (xa_t3 190 rfl), rfl⟩
set_option maxRecDepth 20000 in
theorem tb671 : (Jvm.Cond.instanceMethod ({ cls := "WhoIsThere$Letter", name := "hasTelling", desc := "(I)Z" } : Jvm.MethodName)) ∈ xa_G := List.mem_filter.mpr ⟨List.mem_append_right _ (xa_t3 191 rfl), rfl⟩
set_option maxRecDepth 20000 in
theorem tb672 : (Jvm.Cond.selects "WhoIsThere$Letter" ({ cls := "WhoIsThere$Letter", name := "hasTelling", desc := "(I)Z" } : Jvm.MethodName) ({ cls := "WhoIsThere$Letter", name := "hasTelling", desc := "(I)Z" } : Jvm.MethodName)) ∈ xa_G := List.mem_filter.mpr ⟨List.mem_append_right _ (xa_t3 192 rfl), rfl⟩
set_option maxRecDepth 20000 in
theorem tb673 : (Jvm.Cond.code ({ cls := "WhoIsThere$Letter", name := "hasTelling", desc := "(I)Z" } : Jvm.MethodName) prog_6_method_8_code (2 : Nat) (Option.some FieldType.boolean)) ∈ xa_G := List.mem_filter.mpr ⟨List.mem_append_right _ (xa_t3 193 rfl), rfl⟩
set_option maxRecDepth 20000 in
theorem tb674 : (Jvm.Cond.methodLink "WhoIsThere$Letter" (93 : Nat) ({ cls := "WhoIsThere$Letter", name := "addTelling", desc := "(IIIII)V" } : Jvm.MethodName)) ∈ xa_G := List.mem_filter.mpr ⟨List.mem_append_right _ (xa_t3 194 rfl), rfl⟩
set_option maxRecDepth 20000 in
theorem tb675 : (Jvm.Cond.methodLink "WhoIsThere" (360 : Nat) ({ cls := "WhoIsThere", name := "hearLetter", desc := "(LWhoIsThere$Host;LWhoIsThere$Host;LWhoIsThere$Letter;)V" } : Jvm.MethodName)) ∈ xa_G := List.mem_filter.mpr ⟨List.mem_append_right _ (xa_t3 195 rfl), rfl⟩
set_option maxRecDepth 20000 in
theorem tb677 : (Jvm.Cond.instanceMethod ({ cls := "WhoIsThere", name := "hearLetter", desc := "(LWhoIsThere$Host;LWhoIsThere$Host;LWhoIsThere$Letter;)V" } : Jvm.MethodName)) ∈ xa_G := List.mem_filter.mpr ⟨List.mem_append_right _ (xa_t3 197 rfl), rfl⟩
set_option maxRecDepth 20000 in
theorem tb678 : (Jvm.Cond.code ({ cls := "WhoIsThere", name := "hearLetter", desc := "(LWhoIsThere$Host;LWhoIsThere$Host;LWhoIsThere$Letter;)V" } : Jvm.MethodName) prog_1_method_57_code (5 : Nat) (Option.none : Option FieldType)) ∈ xa_G := List.mem_filter.mpr ⟨List.mem_append_right _ (xa_t3 198 rfl), rfl⟩
set_option maxRecDepth 20000 in
theorem tb679 : (Jvm.Cond.methodLink "WhoIsThere" (393 : Nat) ({ cls := "WhoIsThere$Letter", name := "hasAsk", desc := "(I)Z" } : Jvm.MethodName)) ∈ xa_G := List.mem_filter.mpr ⟨List.mem_append_right _ (xa_t3 199 rfl), rfl⟩
set_option maxRecDepth 20000 in
theorem tb680 : (Jvm.Cond.methodLink "WhoIsThere" (396 : Nat) ({ cls := "WhoIsThere", name := "hearAsk", desc := "(LWhoIsThere$Host;LWhoIsThere$Host;LWhoIsThere$Letter;I)V" } : Jvm.MethodName)) ∈ xa_G := List.mem_filter.mpr ⟨List.mem_append_right _ (xa_t3 200 rfl), rfl⟩
set_option maxRecDepth 20000 in
theorem tb682 : (Jvm.Cond.instanceMethod ({ cls := "WhoIsThere", name := "hearAsk", desc := "(LWhoIsThere$Host;LWhoIsThere$Host;LWhoIsThere$Letter;I)V" } : Jvm.MethodName)) ∈ xa_G := List.mem_filter.mpr ⟨List.mem_append_right _ (xa_t3 202 rfl), rfl⟩
set_option maxRecDepth 20000 in
theorem tb683 : (Jvm.Cond.code ({ cls := "WhoIsThere", name := "hearAsk", desc := "(LWhoIsThere$Host;LWhoIsThere$Host;LWhoIsThere$Letter;I)V" } : Jvm.MethodName) prog_1_method_58_code (11 : Nat) (Option.none : Option FieldType)) ∈ xa_G := List.mem_filter.mpr ⟨List.mem_append_right _ (xa_t3 203 rfl), rfl⟩
set_option maxRecDepth 20000 in
theorem tb684 : (Jvm.Cond.methodLink "WhoIsThere" (426 : Nat) ({ cls := "WhoIsThere", name := "leastKeeperOn", desc := "(ILWhoIsThere$Host;)LWhoIsThere$Host;" } : Jvm.MethodName)) ∈ xa_G := List.mem_filter.mpr ⟨List.mem_append_right _ (xa_t3 204 rfl), rfl⟩
set_option maxRecDepth 20000 in
theorem tb686 : (Jvm.Cond.instanceMethod ({ cls := "WhoIsThere", name := "leastKeeperOn", desc := "(ILWhoIsThere$Host;)LWhoIsThere$Host;" } : Jvm.MethodName)) ∈ xa_G := List.mem_filter.mpr ⟨List.mem_append_right _ (xa_t3 206 rfl), rfl⟩
set_option maxRecDepth 20000 in
theorem tb687 : (Jvm.Cond.code ({ cls := "WhoIsThere", name := "leastKeeperOn", desc := "(ILWhoIsThere$Host;)LWhoIsThere$Host;" } : Jvm.MethodName) prog_1_method_60_code (5 : Nat) (Option.some (FieldType.object "WhoIsThere$Host"))) ∈ xa_G := List.mem_filter.mpr ⟨List.mem_append_right _ (xa_t3 207 rfl), rfl⟩
set_option maxRecDepth 20000 in
theorem tb688 : (Jvm.Cond.methodLink "WhoIsThere" (430 : Nat) ({ cls := "WhoIsThere", name := "canAnswer", desc := "(LWhoIsThere$Host;II)Z" } : Jvm.MethodName)) ∈ xa_G := List.mem_filter.mpr ⟨List.mem_append_right _ (xa_t3 208 rfl), rfl⟩
set_option maxRecDepth 20000 in
theorem tb690 : (Jvm.Cond.instanceMethod ({ cls := "WhoIsThere", name := "canAnswer", desc := "(LWhoIsThere$Host;II)Z" } : Jvm.MethodName)) ∈ xa_G := List.mem_filter.mpr ⟨List.mem_append_right _ (xa_t3 210 rfl), rfl⟩
set_option maxRecDepth 20000 in
theorem tb691 : (Jvm.Cond.code ({ cls := "WhoIsThere", name := "canAnswer", desc := "(LWhoIsThere$Host;II)Z" } : Jvm.MethodName) prog_1_method_59_code (5 : Nat) (Option.some FieldType.boolean)) ∈ xa_G := List.mem_filter.mpr ⟨List.mem_append_right _ (xa_t3 211 rfl), rfl⟩
set_option maxRecDepth 20000 in
theorem tb692 : (Jvm.Cond.methodLink "WhoIsThere" (434 : Nat) ({ cls := "WhoIsThere$Answers", name := "comeDue", desc := "(II)V" } : Jvm.MethodName)) ∈ xa_G := List.mem_filter.mpr ⟨List.mem_append_right _ (xa_t3 212 rfl), rfl⟩
set_option maxRecDepth 20000 in
theorem tb693 : (Jvm.Cond.instanceMethod ({ cls := "WhoIsThere$Answers", name := "comeDue", desc := "(II)V" } : Jvm.MethodName)) ∈ xa_G := List.mem_filter.mpr ⟨List.mem_append_right _ (xa_t3 213 rfl), rfl⟩
set_option maxRecDepth 20000 in
theorem tb694 : (Jvm.Cond.selects "WhoIsThere$Answers" ({ cls := "WhoIsThere$Answers", name := "comeDue", desc := "(II)V" } : Jvm.MethodName) ({ cls := "WhoIsThere$Answers", name := "comeDue", desc := "(II)V" } : Jvm.MethodName)) ∈ xa_G := List.mem_filter.mpr ⟨List.mem_append_right _ (xa_t3 214 rfl), rfl⟩
set_option maxRecDepth 20000 in
theorem tb695 : (Jvm.Cond.code ({ cls := "WhoIsThere$Answers", name := "comeDue", desc := "(II)V" } : Jvm.MethodName) prog_2_method_4_code (3 : Nat) (Option.none : Option FieldType)) ∈ xa_G := List.mem_filter.mpr ⟨List.mem_append_right _ (xa_t3 215 rfl), rfl⟩
set_option maxRecDepth 20000 in
theorem tb696 : (Jvm.Cond.methodLink "WhoIsThere" (400 : Nat) ({ cls := "WhoIsThere$Letter", name := "hasClaim", desc := "(I)Z" } : Jvm.MethodName)) ∈ xa_G := List.mem_filter.mpr ⟨List.mem_append_right _ (xa_t3 216 rfl), rfl⟩
set_option maxRecDepth 20000 in
theorem tb697 : (Jvm.Cond.methodLink "WhoIsThere" (406 : Nat) ({ cls := "WhoIsThere", name := "contend", desc := "(LWhoIsThere$Host;LWhoIsThere$Service;IZ)V" } : Jvm.MethodName)) ∈ xa_G := List.mem_filter.mpr ⟨List.mem_append_right _ (xa_t3 217 rfl), rfl⟩
set_option maxRecDepth 20000 in
theorem tb699 : (Jvm.Cond.instanceMethod ({ cls := "WhoIsThere", name := "contend", desc := "(LWhoIsThere$Host;LWhoIsThere$Service;IZ)V" } : Jvm.MethodName)) ∈ xa_G := List.mem_filter.mpr ⟨List.mem_append_right _ (xa_t3 219 rfl), rfl⟩
set_option maxRecDepth 20000 in
theorem tb700 : (Jvm.Cond.code ({ cls := "WhoIsThere", name := "contend", desc := "(LWhoIsThere$Host;LWhoIsThere$Service;IZ)V" } : Jvm.MethodName) prog_1_method_64_code (9 : Nat) (Option.none : Option FieldType)) ∈ xa_G := List.mem_filter.mpr ⟨List.mem_append_right _ (xa_t3 220 rfl), rfl⟩
set_option maxRecDepth 20000 in
theorem tb701 : (Jvm.Cond.methodLink "WhoIsThere" (450 : Nat) ({ cls := "WhoIsThere", name := "isStronger", desc := "(LWhoIsThere$Service;LWhoIsThere$Service;)Z" } : Jvm.MethodName)) ∈ xa_G := List.mem_filter.mpr ⟨List.mem_append_right _ (xa_t3 221 rfl), rfl⟩
set_option maxRecDepth 20000 in
theorem tb703 : (Jvm.Cond.instanceMethod ({ cls := "WhoIsThere", name := "isStronger", desc := "(LWhoIsThere$Service;LWhoIsThere$Service;)Z" } : Jvm.MethodName)) ∈ xa_G := List.mem_filter.mpr ⟨List.mem_append_right _ (xa_t3 223 rfl), rfl⟩
set_option maxRecDepth 20000 in
theorem tb704 : (Jvm.Cond.code ({ cls := "WhoIsThere", name := "isStronger", desc := "(LWhoIsThere$Service;LWhoIsThere$Service;)Z" } : Jvm.MethodName) prog_1_method_44_code (3 : Nat) (Option.some FieldType.boolean)) ∈ xa_G := List.mem_filter.mpr ⟨List.mem_append_right _ (xa_t3 224 rfl), rfl⟩
set_option maxRecDepth 20000 in
theorem tb705 : (Jvm.Cond.methodLink "WhoIsThere" (460 : Nat) ({ cls := "WhoIsThere", name := "giveWay", desc := "(LWhoIsThere$Service;)V" } : Jvm.MethodName)) ∈ xa_G := List.mem_filter.mpr ⟨List.mem_append_right _ (xa_t3 225 rfl), rfl⟩
set_option maxRecDepth 20000 in
theorem tb707 : (Jvm.Cond.instanceMethod ({ cls := "WhoIsThere", name := "giveWay", desc := "(LWhoIsThere$Service;)V" } : Jvm.MethodName)) ∈ xa_G := List.mem_filter.mpr ⟨List.mem_append_right _ (xa_t3 227 rfl), rfl⟩
set_option maxRecDepth 20000 in
theorem tb708 : (Jvm.Cond.code ({ cls := "WhoIsThere", name := "giveWay", desc := "(LWhoIsThere$Service;)V" } : Jvm.MethodName) prog_1_method_65_code (6 : Nat) (Option.none : Option FieldType)) ∈ xa_G := List.mem_filter.mpr ⟨List.mem_append_right _ (xa_t3 228 rfl), rfl⟩
set_option maxRecDepth 20000 in
theorem tb709 : (Jvm.Cond.methodLink "WhoIsThere" (470 : Nat) ({ cls := "WhoIsThere$Service", name := "claimAnew", desc := "(I)V" } : Jvm.MethodName)) ∈ xa_G := List.mem_filter.mpr ⟨List.mem_append_right _ (xa_t3 229 rfl), rfl⟩
set_option maxRecDepth 20000 in
theorem tb710 : (Jvm.Cond.instanceMethod ({ cls := "WhoIsThere$Service", name := "claimAnew", desc := "(I)V" } : Jvm.MethodName)) ∈ xa_G := List.mem_filter.mpr ⟨List.mem_append_right _ (xa_t3 230 rfl), rfl⟩
set_option maxRecDepth 20000 in
theorem tb711 : (Jvm.Cond.selects "WhoIsThere$Service" ({ cls := "WhoIsThere$Service", name := "claimAnew", desc := "(I)V" } : Jvm.MethodName) ({ cls := "WhoIsThere$Service", name := "claimAnew", desc := "(I)V" } : Jvm.MethodName)) ∈ xa_G := List.mem_filter.mpr ⟨List.mem_append_right _ (xa_t3 231 rfl), rfl⟩
set_option maxRecDepth 20000 in
theorem tb712 : (Jvm.Cond.code ({ cls := "WhoIsThere$Service", name := "claimAnew", desc := "(I)V" } : Jvm.MethodName) prog_7_method_4_code (2 : Nat) (Option.none : Option FieldType)) ∈ xa_G := List.mem_filter.mpr ⟨List.mem_append_right _ (xa_t3 232 rfl), rfl⟩
set_option maxRecDepth 20000 in
theorem tb713 : (Jvm.Cond.methodLink "WhoIsThere" (410 : Nat) ({ cls := "WhoIsThere$Store", name := "removeAll", desc := "(I)V" } : Jvm.MethodName)) ∈ xa_G := List.mem_filter.mpr ⟨List.mem_append_right _ (xa_t3 233 rfl), rfl⟩
set_option maxRecDepth 20000 in
theorem tb714 : (Jvm.Cond.instanceMethod ({ cls := "WhoIsThere$Store", name := "removeAll", desc := "(I)V" } : Jvm.MethodName)) ∈ xa_G := List.mem_filter.mpr ⟨List.mem_append_right _ (xa_t3 234 rfl), rfl⟩
set_option maxRecDepth 20000 in
theorem tb715 : (Jvm.Cond.selects "WhoIsThere$Store" ({ cls := "WhoIsThere$Store", name := "removeAll", desc := "(I)V" } : Jvm.MethodName) ({ cls := "WhoIsThere$Store", name := "removeAll", desc := "(I)V" } : Jvm.MethodName)) ∈ xa_G := List.mem_filter.mpr ⟨List.mem_append_right _ (xa_t3 235 rfl), rfl⟩
set_option maxRecDepth 20000 in
theorem tb716 : (Jvm.Cond.code ({ cls := "WhoIsThere$Store", name := "removeAll", desc := "(I)V" } : Jvm.MethodName) prog_8_method_8_code (2 : Nat) (Option.none : Option FieldType)) ∈ xa_G := List.mem_filter.mpr ⟨List.mem_append_right _ (xa_t3 236 rfl), rfl⟩
set_option maxRecDepth 20000 in
theorem tb717 : (Jvm.Cond.methodLink "WhoIsThere" (413 : Nat) ({ cls := "WhoIsThere$Letter", name := "hasTelling", desc := "(I)Z" } : Jvm.MethodName)) ∈ xa_G := List.mem_filter.mpr ⟨List.mem_append_right _ (xa_t3 237 rfl), rfl⟩
set_option maxRecDepth 20000 in
theorem tb718 : (Jvm.Cond.methodLink "WhoIsThere" (416 : Nat) ({ cls := "WhoIsThere", name := "hearTelling", desc := "(LWhoIsThere$Host;LWhoIsThere$Service;LWhoIsThere$Letter;)V" } : Jvm.MethodName)) ∈ xa_G := List.mem_filter.mpr ⟨List.mem_append_right _ (xa_t3 238 rfl), rfl⟩
set_option maxRecDepth 20000 in
theorem tb720 : (Jvm.Cond.instanceMethod ({ cls := "WhoIsThere", name := "hearTelling", desc := "(LWhoIsThere$Host;LWhoIsThere$Service;LWhoIsThere$Letter;)V" } : Jvm.MethodName)) ∈ xa_G := List.mem_filter.mpr ⟨List.mem_append_right _ (xa_t4 0 rfl), rfl⟩
set_option maxRecDepth 20000 in
theorem tb721 : (Jvm.Cond.code ({ cls := "WhoIsThere", name := "hearTelling", desc := "(LWhoIsThere$Host;LWhoIsThere$Service;LWhoIsThere$Letter;)V" } : Jvm.MethodName) prog_1_method_62_code (8 : Nat) (Option.none : Option FieldType)) ∈ xa_G := List.mem_filter.mpr ⟨List.mem_append_right _ (xa_t4 1 rfl), rfl⟩
set_option maxRecDepth 20000 in
theorem tb722 : (Jvm.Cond.methodLink "WhoIsThere" (446 : Nat) ({ cls := "WhoIsThere", name := "otherRecorded", desc := "(LWhoIsThere$Store;LWhoIsThere$Service;I)LWhoIsThere$Service;" } : Jvm.MethodName)) ∈ xa_G := List.mem_filter.mpr ⟨List.mem_append_right _ (xa_t4 2 rfl), rfl⟩
set_option maxRecDepth 20000 in
theorem tb724 : (Jvm.Cond.instanceMethod ({ cls := "WhoIsThere", name := "otherRecorded", desc := "(LWhoIsThere$Store;LWhoIsThere$Service;I)LWhoIsThere$Service;" } : Jvm.MethodName)) ∈ xa_G := List.mem_filter.mpr ⟨List.mem_append_right _ (xa_t4 4 rfl), rfl⟩
set_option maxRecDepth 20000 in
theorem tb725 : (Jvm.Cond.code ({ cls := "WhoIsThere", name := "otherRecorded", desc := "(LWhoIsThere$Store;LWhoIsThere$Service;I)LWhoIsThere$Service;" } : Jvm.MethodName) prog_1_method_63_code (5 : Nat) (Option.some (FieldType.object "WhoIsThere$Service"))) ∈ xa_G := List.mem_filter.mpr ⟨List.mem_append_right _ (xa_t4 5 rfl), rfl⟩
set_option maxRecDepth 20000 in
theorem tb726 : (Jvm.Cond.methodLink "WhoIsThere" (454 : Nat) ({ cls := "WhoIsThere$Store", name := "remove", desc := "(I)V" } : Jvm.MethodName)) ∈ xa_G := List.mem_filter.mpr ⟨List.mem_append_right _ (xa_t4 6 rfl), rfl⟩
set_option maxRecDepth 20000 in
theorem tb727 : (Jvm.Cond.instanceMethod ({ cls := "WhoIsThere$Store", name := "remove", desc := "(I)V" } : Jvm.MethodName)) ∈ xa_G := List.mem_filter.mpr ⟨List.mem_append_right _ (xa_t4 7 rfl), rfl⟩
set_option maxRecDepth 20000 in
theorem tb728 : (Jvm.Cond.selects "WhoIsThere$Store" ({ cls := "WhoIsThere$Store", name := "remove", desc := "(I)V" } : Jvm.MethodName) ({ cls := "WhoIsThere$Store", name := "remove", desc := "(I)V" } : Jvm.MethodName)) ∈ xa_G := List.mem_filter.mpr ⟨List.mem_append_right _ (xa_t4 8 rfl), rfl⟩
set_option maxRecDepth 20000 in
theorem tb729 : (Jvm.Cond.code ({ cls := "WhoIsThere$Store", name := "remove", desc := "(I)V" } : Jvm.MethodName) prog_8_method_7_code (2 : Nat) (Option.none : Option FieldType)) ∈ xa_G := List.mem_filter.mpr ⟨List.mem_append_right _ (xa_t4 9 rfl), rfl⟩
set_option maxRecDepth 20000 in
theorem tb730 : (Jvm.Cond.methodLink "WhoIsThere" (458 : Nat) ({ cls := "WhoIsThere$Store", name := "put", desc := "(IIIII)V" } : Jvm.MethodName)) ∈ xa_G := List.mem_filter.mpr ⟨List.mem_append_right _ (xa_t4 10 rfl), rfl⟩
set_option maxRecDepth 20000 in
theorem tb731 : (Jvm.Cond.instanceMethod ({ cls := "WhoIsThere$Store", name := "put", desc := "(IIIII)V" } : Jvm.MethodName)) ∈ xa_G := List.mem_filter.mpr ⟨List.mem_append_right _ (xa_t4 11 rfl), rfl⟩
set_option maxRecDepth 20000 in
theorem tb732 : (Jvm.Cond.selects "WhoIsThere$Store" ({ cls := "WhoIsThere$Store", name := "put", desc := "(IIIII)V" } : Jvm.MethodName) ({ cls := "WhoIsThere$Store", name := "put", desc := "(IIIII)V" } : Jvm.MethodName)) ∈ xa_G := List.mem_filter.mpr ⟨List.mem_append_right _ (xa_t4 12 rfl), rfl⟩
set_option maxRecDepth 20000 in
theorem tb733 : (Jvm.Cond.code ({ cls := "WhoIsThere$Store", name := "put", desc := "(IIIII)V" } : Jvm.MethodName) prog_8_method_6_code (6 : Nat) (Option.none : Option FieldType)) ∈ xa_G := List.mem_filter.mpr ⟨List.mem_append_right _ (xa_t4 13 rfl), rfl⟩
set_option maxRecDepth 20000 in
theorem tb734 : (Jvm.Cond.methodLink "WhoIsThere" (177 : Nat) ({ cls := "WhoIsThere", name := "forgetWhatEnds", desc := "()V" } : Jvm.MethodName)) ∈ xa_G := List.mem_filter.mpr ⟨List.mem_append_right _ (xa_t4 14 rfl), rfl⟩
set_option maxRecDepth 20000 in
theorem tb736 : (Jvm.Cond.instanceMethod ({ cls := "WhoIsThere", name := "forgetWhatEnds", desc := "()V" } : Jvm.MethodName)) ∈ xa_G := List.mem_filter.mpr ⟨List.mem_append_right _ (xa_t4 16 rfl), rfl⟩
set_option maxRecDepth 20000 in
theorem tb737 : (Jvm.Cond.code ({ cls := "WhoIsThere", name := "forgetWhatEnds", desc := "()V" } : Jvm.MethodName) prog_1_method_66_code (2 : Nat) (Option.none : Option FieldType)) ∈ xa_G := List.mem_filter.mpr ⟨List.mem_append_right _ (xa_t4 17 rfl), rfl⟩
set_option maxRecDepth 20000 in
theorem tb738 : (Jvm.Cond.methodLink "WhoIsThere" (473 : Nat) ({ cls := "WhoIsThere$Store", name := "removeEnding", desc := "(I)V" } : Jvm.MethodName)) ∈ xa_G := List.mem_filter.mpr ⟨List.mem_append_right _ (xa_t4 18 rfl), rfl⟩
set_option maxRecDepth 20000 in
theorem tb739 : (Jvm.Cond.instanceMethod ({ cls := "WhoIsThere$Store", name := "removeEnding", desc := "(I)V" } : Jvm.MethodName)) ∈ xa_G := List.mem_filter.mpr ⟨List.mem_append_right _ (xa_t4 19 rfl), rfl⟩
set_option maxRecDepth 20000 in
theorem tb740 : (Jvm.Cond.selects "WhoIsThere$Store" ({ cls := "WhoIsThere$Store", name := "removeEnding", desc := "(I)V" } : Jvm.MethodName) ({ cls := "WhoIsThere$Store", name := "removeEnding", desc := "(I)V" } : Jvm.MethodName)) ∈ xa_G := List.mem_filter.mpr ⟨List.mem_append_right _ (xa_t4 20 rfl), rfl⟩
set_option maxRecDepth 20000 in
theorem tb741 : (Jvm.Cond.code ({ cls := "WhoIsThere$Store", name := "removeEnding", desc := "(I)V" } : Jvm.MethodName) prog_8_method_9_code (3 : Nat) (Option.none : Option FieldType)) ∈ xa_G := List.mem_filter.mpr ⟨List.mem_append_right _ (xa_t4 21 rfl), rfl⟩
set_option maxRecDepth 20000 in
theorem tb742 : (Jvm.Cond.methodLink "WhoIsThere$Store" (38 : Nat) ({ cls := "WhoIsThere$Store", name := "has", desc := "(I)Z" } : Jvm.MethodName)) ∈ xa_G := List.mem_filter.mpr ⟨List.mem_append_right _ (xa_t4 22 rfl), rfl⟩
set_option maxRecDepth 20000 in
theorem tb743 : (Jvm.Cond.methodLink "WhoIsThere$Store" (42 : Nat) ({ cls := "WhoIsThere$Store", name := "remove", desc := "(I)V" } : Jvm.MethodName)) ∈ xa_G := List.mem_filter.mpr ⟨List.mem_append_right _ (xa_t4 23 rfl), rfl⟩
set_option maxRecDepth 20000 in
theorem tb744 : (Jvm.Cond.methodLink "WhoIsThereLaw" (84 : Nat) ({ cls := "WhoIsThere", name := "find", desc := "(IIII)I" } : Jvm.MethodName)) ∈ xa_G := List.mem_filter.mpr ⟨List.mem_append_right _ (xa_t4 24 rfl), rfl⟩
set_option maxRecDepth 20000 in
theorem tb745 : (Jvm.Cond.instanceMethod ({ cls := "WhoIsThere", name := "find", desc := "(IIII)I" } : Jvm.MethodName)) ∈ xa_G := List.mem_filter.mpr ⟨List.mem_append_right _ (xa_t4 25 rfl), rfl⟩
set_option maxRecDepth 20000 in
theorem tb746 : (Jvm.Cond.selects "WhoIsThere" ({ cls := "WhoIsThere", name := "find", desc := "(IIII)I" } : Jvm.MethodName) ({ cls := "WhoIsThere", name := "find", desc := "(IIII)I" } : Jvm.MethodName)) ∈ xa_G := List.mem_filter.mpr ⟨List.mem_append_right _ (xa_t4 26 rfl), rfl⟩
set_option maxRecDepth 20000 in
theorem tb747 : (Jvm.Cond.code ({ cls := "WhoIsThere", name := "find", desc := "(IIII)I" } : Jvm.MethodName) prog_1_method_18_code (9 : Nat) (Option.some FieldType.int)) ∈ xa_G := List.mem_filter.mpr ⟨List.mem_append_right _ (xa_t4 27 rfl), rfl⟩
set_option maxRecDepth 20000 in
theorem tb748 : (Jvm.Cond.methodLink "WhoIsThere" (180 : Nat) ({ cls := "WhoIsThere", name := "isFound", desc := "(LWhoIsThere$Store;III)Z" } : Jvm.MethodName)) ∈ xa_G := List.mem_filter.mpr ⟨List.mem_append_right _ (xa_t4 28 rfl), rfl⟩
set_option maxRecDepth 20000 in
theorem tb750 : (Jvm.Cond.instanceMethod ({ cls := "WhoIsThere", name := "isFound", desc := "(LWhoIsThere$Store;III)Z" } : Jvm.MethodName)) ∈ xa_G := List.mem_filter.mpr ⟨List.mem_append_right _ (xa_t4 30 rfl), rfl⟩
set_option maxRecDepth 20000 in
theorem tb751 : (Jvm.Cond.code ({ cls := "WhoIsThere", name := "isFound", desc := "(LWhoIsThere$Store;III)Z" } : Jvm.MethodName) prog_1_method_40_code (5 : Nat) (Option.some FieldType.boolean)) ∈ xa_G := List.mem_filter.mpr ⟨List.mem_append_right _ (xa_t4 31 rfl), rfl⟩
set_option maxRecDepth 20000 in
theorem tb752 : (Jvm.Cond.methodLink "WhoIsThereLaw" (88 : Nat) ({ cls := "WhoIsThere", name := "record", desc := "(III)I" } : Jvm.MethodName)) ∈ xa_G := List.mem_filter.mpr ⟨List.mem_append_right _ (xa_t4 32 rfl), rfl⟩
set_option maxRecDepth 20000 in
theorem tb753 : (Jvm.Cond.instanceMethod ({ cls := "WhoIsThere", name := "record", desc := "(III)I" } : Jvm.MethodName)) ∈ xa_G := List.mem_filter.mpr ⟨List.mem_append_right _ (xa_t4 33 rfl), rfl⟩
set_option maxRecDepth 20000 in
theorem tb754 : (Jvm.Cond.selects "WhoIsThere" ({ cls := "WhoIsThere", name := "record", desc := "(III)I" } : Jvm.MethodName) ({ cls := "WhoIsThere", name := "record", desc := "(III)I" } : Jvm.MethodName)) ∈ xa_G := List.mem_filter.mpr ⟨List.mem_append_right _ (xa_t4 34 rfl), rfl⟩
set_option maxRecDepth 20000 in
theorem tb755 : (Jvm.Cond.code ({ cls := "WhoIsThere", name := "record", desc := "(III)I" } : Jvm.MethodName) prog_1_method_19_code (5 : Nat) (Option.some FieldType.int)) ∈ xa_G := List.mem_filter.mpr ⟨List.mem_append_right _ (xa_t4 35 rfl), rfl⟩
set_option maxRecDepth 20000 in
theorem tb756 : (Jvm.Cond.methodLink "WhoIsThereLaw" (93 : Nat) ({ cls := "WhoIsThere", name := "service", desc := "(II)I" } : Jvm.MethodName)) ∈ xa_G := List.mem_filter.mpr ⟨List.mem_append_right _ (xa_t4 36 rfl), rfl⟩
set_option maxRecDepth 20000 in
theorem tb757 : (Jvm.Cond.instanceMethod ({ cls := "WhoIsThere", name := "service", desc := "(II)I" } : Jvm.MethodName)) ∈ xa_G := List.mem_filter.mpr ⟨List.mem_append_right _ (xa_t4 37 rfl), rfl⟩
set_option maxRecDepth 20000 in
theorem tb758 : (Jvm.Cond.selects "WhoIsThere" ({ cls := "WhoIsThere", name := "service", desc := "(II)I" } : Jvm.MethodName) ({ cls := "WhoIsThere", name := "service", desc := "(II)I" } : Jvm.MethodName)) ∈ xa_G := List.mem_filter.mpr ⟨List.mem_append_right _ (xa_t4 38 rfl), rfl⟩
set_option maxRecDepth 20000 in
theorem tb759 : (Jvm.Cond.code ({ cls := "WhoIsThere", name := "service", desc := "(II)I" } : Jvm.MethodName) prog_1_method_20_code (4 : Nat) (Option.some FieldType.int)) ∈ xa_G := List.mem_filter.mpr ⟨List.mem_append_right _ (xa_t4 39 rfl), rfl⟩
set_option maxRecDepth 20000 in
theorem tb760 : (Jvm.Cond.methodLink "WhoIsThereLaw" (98 : Nat) ({ cls := "WhoIsThere", name := "look", desc := "(II)I" } : Jvm.MethodName)) ∈ xa_G := List.mem_filter.mpr ⟨List.mem_append_right _ (xa_t4 40 rfl), rfl⟩
set_option maxRecDepth 20000 in
theorem tb761 : (Jvm.Cond.instanceMethod ({ cls := "WhoIsThere", name := "look", desc := "(II)I" } : Jvm.MethodName)) ∈ xa_G := List.mem_filter.mpr ⟨List.mem_append_right _ (xa_t4 41 rfl), rfl⟩
set_option maxRecDepth 20000 in
theorem tb762 : (Jvm.Cond.selects "WhoIsThere" ({ cls := "WhoIsThere", name := "look", desc := "(II)I" } : Jvm.MethodName) ({ cls := "WhoIsThere", name := "look", desc := "(II)I" } : Jvm.MethodName)) ∈ xa_G := List.mem_filter.mpr ⟨List.mem_append_right _ (xa_t4 42 rfl), rfl⟩
set_option maxRecDepth 20000 in
theorem tb763 : (Jvm.Cond.code ({ cls := "WhoIsThere", name := "look", desc := "(II)I" } : Jvm.MethodName) prog_1_method_21_code (4 : Nat) (Option.some FieldType.int)) ∈ xa_G := List.mem_filter.mpr ⟨List.mem_append_right _ (xa_t4 43 rfl), rfl⟩
set_option maxRecDepth 20000 in
theorem tb764 : (Jvm.Cond.methodLink "WhoIsThere" (210 : Nat) ({ cls := "WhoIsThere", name := "hasProxyAwake", desc := "(LWhoIsThere$Host;)Z" } : Jvm.MethodName)) ∈ xa_G := List.mem_filter.mpr ⟨List.mem_append_right _ (xa_t4 44 rfl), rfl⟩
set_option maxRecDepth 20000 in
theorem tb766 : (Jvm.Cond.instanceMethod ({ cls := "WhoIsThere", name := "hasProxyAwake", desc := "(LWhoIsThere$Host;)Z" } : Jvm.MethodName)) ∈ xa_G := List.mem_filter.mpr ⟨List.mem_append_right _ (xa_t4 46 rfl), rfl⟩
set_option maxRecDepth 20000 in
theorem tb767 : (Jvm.Cond.code ({ cls := "WhoIsThere", name := "hasProxyAwake", desc := "(LWhoIsThere$Host;)Z" } : Jvm.MethodName) prog_1_method_38_code (2 : Nat) (Option.some FieldType.boolean)) ∈ xa_G := List.mem_filter.mpr ⟨List.mem_append_right _ (xa_t4 47 rfl), rfl⟩
set_option maxRecDepth 20000 in
theorem tb768 : (Jvm.Cond.methodLink "WhoIsThere" (216 : Nat) ({ cls := "WhoIsThere$Store", name := "size", desc := "()I" } : Jvm.MethodName)) ∈ xa_G := List.mem_filter.mpr ⟨List.mem_append_right _ (xa_t4 48 rfl), rfl⟩
set_option maxRecDepth 20000 in
theorem tb769 : (Jvm.Cond.instanceMethod ({ cls := "WhoIsThere$Store", name := "size", desc := "()I" } : Jvm.MethodName)) ∈ xa_G := List.mem_filter.mpr ⟨List.mem_append_right _ (xa_t4 49 rfl), rfl⟩
set_option maxRecDepth 20000 in
theorem tb770 : (Jvm.Cond.selects "WhoIsThere$Store" ({ cls := "WhoIsThere$Store", name := "size", desc := "()I" } : Jvm.MethodName) ({ cls := "WhoIsThere$Store", name := "size", desc := "()I" } : Jvm.MethodName)) ∈ xa_G := List.mem_filter.mpr ⟨List.mem_append_right _ (xa_t4 50 rfl), rfl⟩
set_option maxRecDepth 20000 in
theorem tb771 : (Jvm.Cond.code ({ cls := "WhoIsThere$Store", name := "size", desc := "()I" } : Jvm.MethodName) prog_8_method_3_code (1 : Nat) (Option.some FieldType.int)) ∈ xa_G := List.mem_filter.mpr ⟨List.mem_append_right _ (xa_t4 51 rfl), rfl⟩
set_option maxRecDepth 20000 in
theorem tb772 : (Jvm.Cond.methodLink "WhoIsThere$Store" (32 : Nat) ({ cls := "java/lang/Integer", name := "bitCount", desc := "(I)I" } : Jvm.MethodName)) ∈ xa_G := List.mem_filter.mpr ⟨List.mem_append_right _ (xa_t4 52 rfl), rfl⟩
set_option maxRecDepth 20000 in
theorem tb773 : (Jvm.Cond.methodLink "WhoIsThere" (220 : Nat) ({ cls := "WhoIsThere$Asks", name := "size", desc := "()I" } : Jvm.MethodName)) ∈ xa_G := List.mem_filter.mpr ⟨List.mem_append_right _ (xa_t4 53 rfl), rfl⟩
set_option maxRecDepth 20000 in
theorem tb774 : (Jvm.Cond.instanceMethod ({ cls := "WhoIsThere$Asks", name := "size", desc := "()I" } : Jvm.MethodName)) ∈ xa_G := List.mem_filter.mpr ⟨List.mem_append_right _ (xa_t4 54 rfl), rfl⟩
set_option maxRecDepth 20000 in
theorem tb775 : (Jvm.Cond.selects "WhoIsThere$Asks" ({ cls := "WhoIsThere$Asks", name := "size", desc := "()I" } : Jvm.MethodName) ({ cls := "WhoIsThere$Asks", name := "size", desc := "()I" } : Jvm.MethodName)) ∈ xa_G := List.mem_filter.mpr ⟨List.mem_append_right _ (xa_t4 55 rfl), rfl⟩
set_option maxRecDepth 20000 in
theorem tb776 : (Jvm.Cond.code ({ cls := "WhoIsThere$Asks", name := "size", desc := "()I" } : Jvm.MethodName) prog_3_method_5_code (1 : Nat) (Option.some FieldType.int)) ∈ xa_G := List.mem_filter.mpr ⟨List.mem_append_right _ (xa_t4 56 rfl), rfl⟩
set_option maxRecDepth 20000 in
theorem tb777 : (Jvm.Cond.methodLink "WhoIsThere$Asks" (30 : Nat) ({ cls := "java/lang/Integer", name := "bitCount", desc := "(I)I" } : Jvm.MethodName)) ∈ xa_G := List.mem_filter.mpr ⟨List.mem_append_right _ (xa_t4 57 rfl), rfl⟩
set_option maxRecDepth 20000 in
theorem tb778 : (Jvm.Cond.methodLink "WhoIsThere" (221 : Nat) ({ cls := "WhoIsThere$Answers", name := "size", desc := "()I" } : Jvm.MethodName)) ∈ xa_G := List.mem_filter.mpr ⟨List.mem_append_right _ (xa_t4 58 rfl), rfl⟩
set_option maxRecDepth 20000 in
theorem tb779 : (Jvm.Cond.instanceMethod ({ cls := "WhoIsThere$Answers", name := "size", desc := "()I" } : Jvm.MethodName)) ∈ xa_G := List.mem_filter.mpr ⟨List.mem_append_right _ (xa_t4 59 rfl), rfl⟩
set_option maxRecDepth 20000 in
theorem tb780 : (Jvm.Cond.selects "WhoIsThere$Answers" ({ cls := "WhoIsThere$Answers", name := "size", desc := "()I" } : Jvm.MethodName) ({ cls := "WhoIsThere$Answers", name := "size", desc := "()I" } : Jvm.MethodName)) ∈ xa_G := List.mem_filter.mpr ⟨List.mem_append_right _ (xa_t4 60 rfl), rfl⟩
set_option maxRecDepth 20000 in
theorem tb781 : (Jvm.Cond.code ({ cls := "WhoIsThere$Answers", name := "size", desc := "()I" } : Jvm.MethodName) prog_2_method_3_code (1 : Nat) (Option.some FieldType.int)) ∈ xa_G := List.mem_filter.mpr ⟨List.mem_append_right _ (xa_t4 61 rfl), rfl⟩
set_option maxRecDepth 20000 in
theorem tb782 : (Jvm.Cond.methodLink "WhoIsThere$Answers" (23 : Nat) ({ cls := "java/lang/Integer", name := "bitCount", desc := "(I)I" } : Jvm.MethodName)) ∈ xa_G := List.mem_filter.mpr ⟨List.mem_append_right _ (xa_t4 62 rfl), rfl⟩
set_option maxRecDepth 20000 in
theorem tb783 : (Jvm.Cond.methodLink "WhoIsThereLaw" (102 : Nat) ({ cls := "WhoIsThere", name := "reach", desc := "(II)I" } : Jvm.MethodName)) ∈ xa_G := List.mem_filter.mpr ⟨List.mem_append_right _ (xa_t4 63 rfl), rfl⟩
set_option maxRecDepth 20000 in
theorem tb784 : (Jvm.Cond.instanceMethod ({ cls := "WhoIsThere", name := "reach", desc := "(II)I" } : Jvm.MethodName)) ∈ xa_G := List.mem_filter.mpr ⟨List.mem_append_right _ (xa_t4 64 rfl), rfl⟩
set_option maxRecDepth 20000 in
theorem tb785 : (Jvm.Cond.selects "WhoIsThere" ({ cls := "WhoIsThere", name := "reach", desc := "(II)I" } : Jvm.MethodName) ({ cls := "WhoIsThere", name := "reach", desc := "(II)I" } : Jvm.MethodName)) ∈ xa_G := List.mem_filter.mpr ⟨List.mem_append_right _ (xa_t4 65 rfl), rfl⟩
set_option maxRecDepth 20000 in
theorem tb786 : (Jvm.Cond.code ({ cls := "WhoIsThere", name := "reach", desc := "(II)I" } : Jvm.MethodName) prog_1_method_22_code (5 : Nat) (Option.some FieldType.int)) ∈ xa_G := List.mem_filter.mpr ⟨List.mem_append_right _ (xa_t4 66 rfl), rfl⟩
set_option maxRecDepth 20000 in
theorem tb787 : (Jvm.Cond.methodLink "WhoIsThereLaw" (106 : Nat) ({ cls := "WhoIsThere", name := "twice", desc := "(I)I" } : Jvm.MethodName)) ∈ xa_G := List.mem_filter.mpr ⟨List.mem_append_right _ (xa_t4 67 rfl), rfl⟩
set_option maxRecDepth 20000 in
theorem tb788 : (Jvm.Cond.instanceMethod ({ cls := "WhoIsThere", name := "twice", desc := "(I)I" } : Jvm.MethodName)) ∈ xa_G := List.mem_filter.mpr ⟨List.mem_append_right _ (xa_t4 68 rfl), rfl⟩
set_option maxRecDepth 20000 in
theorem tb789 : (Jvm.Cond.selects "WhoIsThere" ({ cls := "WhoIsThere", name := "twice", desc := "(I)I" } : Jvm.MethodName) ({ cls := "WhoIsThere", name := "twice", desc := "(I)I" } : Jvm.MethodName)) ∈ xa_G := List.mem_filter.mpr ⟨List.mem_append_right _ (xa_t4 69 rfl), rfl⟩
set_option maxRecDepth 20000 in
theorem tb790 : (Jvm.Cond.code ({ cls := "WhoIsThere", name := "twice", desc := "(I)I" } : Jvm.MethodName) prog_1_method_23_code (5 : Nat) (Option.some FieldType.int)) ∈ xa_G := List.mem_filter.mpr ⟨List.mem_append_right _ (xa_t4 70 rfl), rfl⟩
set_option maxRecDepth 20000 in
theorem tb791 : (Jvm.Cond.methodLink "WhoIsThere" (222 : Nat) ({ cls := "WhoIsThere", name := "isSpokenForOn", desc := "(LWhoIsThere$Service;I)Z" } : Jvm.MethodName)) ∈ xa_G := List.mem_filter.mpr ⟨List.mem_append_right _ (xa_t4 71 rfl), rfl⟩
set_option maxRecDepth 20000 in
theorem tb793 : (Jvm.Cond.instanceMethod ({ cls := "WhoIsThere", name := "isSpokenForOn", desc := "(LWhoIsThere$Service;I)Z" } : Jvm.MethodName)) ∈ xa_G := List.mem_filter.mpr ⟨List.mem_append_right _ (xa_t4 73 rfl), rfl⟩
set_option maxRecDepth 20000 in
theorem tb794 : (Jvm.Cond.code ({ cls := "WhoIsThere", name := "isSpokenForOn", desc := "(LWhoIsThere$Service;I)Z" } : Jvm.MethodName) prog_1_method_39_code (3 : Nat) (Option.some FieldType.boolean)) ∈ xa_G := List.mem_filter.mpr ⟨List.mem_append_right _ (xa_t4 74 rfl), rfl⟩
set_option maxRecDepth 20000 in
theorem tb795 : (Jvm.Cond.methodLink "WhoIsThereLaw" (110 : Nat) ({ cls := "WhoIsThere", name := "count", desc := "(I)I" } : Jvm.MethodName)) ∈ xa_G := List.mem_filter.mpr ⟨List.mem_append_right _ (xa_t4 75 rfl), rfl⟩
set_option maxRecDepth 20000 in
theorem tb796 : (Jvm.Cond.instanceMethod ({ cls := "WhoIsThere", name := "count", desc := "(I)I" } : Jvm.MethodName)) ∈ xa_G := List.mem_filter.mpr ⟨List.mem_append_right _ (xa_t4 76 rfl), rfl⟩
set_option maxRecDepth 20000 in
theorem tb797 : (Jvm.Cond.selects "WhoIsThere" ({ cls := "WhoIsThere", name := "count", desc := "(I)I" } : Jvm.MethodName) ({ cls := "WhoIsThere", name := "count", desc := "(I)I" } : Jvm.MethodName)) ∈ xa_G := List.mem_filter.mpr ⟨List.mem_append_right _ (xa_t4 77 rfl), rfl⟩
set_option maxRecDepth 20000 in
theorem tb798 : (Jvm.Cond.code ({ cls := "WhoIsThere", name := "count", desc := "(I)I" } : Jvm.MethodName) prog_1_method_24_code (2 : Nat) (Option.some FieldType.int)) ∈ xa_G := List.mem_filter.mpr ⟨List.mem_append_right _ (xa_t4 78 rfl), rfl⟩
set_option maxRecDepth 20000 in
theorem tb799 : (Jvm.Cond.classLink "WhoIsThereLaw" (10 : Nat) "WhoIsThereModel") ∈ xa_G := List.mem_filter.mpr ⟨List.mem_append_right _ (xa_t4 79 rfl), rfl⟩
set_option maxRecDepth 20000 in
theorem tb800 : (Jvm.Cond.instantiable "WhoIsThereModel" (60 : Nat)) ∈ xa_G := List.mem_filter.mpr ⟨List.mem_append_right _ (xa_t4 80 rfl), rfl⟩
set_option maxRecDepth 20000 in
theorem tb801 : (Jvm.Cond.methodLink "WhoIsThereLaw" (12 : Nat) ({ cls := "WhoIsThereModel", name := "<init>", desc := "()V" } : Jvm.MethodName)) ∈ xa_G := List.mem_filter.mpr ⟨List.mem_append_right _ (xa_t4 81 rfl), rfl⟩
set_option maxRecDepth 20000 in
theorem tb802 : (Jvm.Cond.instanceMethod ({ cls := "WhoIsThereModel", name := "<init>", desc := "()V" } : Jvm.MethodName)) ∈ xa_G := List.mem_filter.mpr ⟨List.mem_append_right _ (xa_t4 82 rfl), rfl⟩
set_option maxRecDepth 20000 in
theorem tb803 : (Jvm.Cond.code ({ cls := "WhoIsThereModel", name := "<init>", desc := "()V" } : Jvm.MethodName) prog_10_method_1_code (2 : Nat) (Option.none : Option FieldType)) ∈ xa_G := List.mem_filter.mpr ⟨List.mem_append_right _ (xa_t4 83 rfl), rfl⟩
set_option maxRecDepth 20000 in
theorem tb804 : (Jvm.Cond.methodLink "WhoIsThereModel" (3 : Nat) ({ cls := "java/lang/Object", name := "<init>", desc := "()V" } : Jvm.MethodName)) ∈ xa_G := List.mem_filter.mpr ⟨List.mem_append_right _ (xa_t4 84 rfl), rfl⟩
set_option maxRecDepth 20000 in
theorem tb805 : (Jvm.Cond.fieldLink "WhoIsThereModel" (9 : Nat) "WhoIsThereModel" "home" "[I") ∈ xa_G := List.mem_filter.mpr ⟨List.mem_append_right _ (xa_t4 85 rfl), rfl⟩
set_option maxRecDepth 20000 in
theorem tb806 : (Jvm.Cond.fieldLink "WhoIsThereModel" (13 : Nat) "WhoIsThereModel" "second" "[I") ∈ xa_G := List.mem_filter.mpr ⟨List.mem_append_right _ (xa_t4 86 rfl), rfl⟩
set_option maxRecDepth 20000 in
theorem tb807 : (Jvm.Cond.fieldLink "WhoIsThereModel" (16 : Nat) "WhoIsThereModel" "low" "[I") ∈ xa_G := List.mem_filter.mpr ⟨List.mem_append_right _ (xa_t4 87 rfl), rfl⟩
set_option maxRecDepth 20000 in
theorem tb808 : (Jvm.Cond.fieldLink "WhoIsThereModel" (19 : Nat) "WhoIsThereModel" "high" "[I") ∈ xa_G := List.mem_filter.mpr ⟨List.mem_append_right _ (xa_t4 88 rfl), rfl⟩
set_option maxRecDepth 20000 in
theorem tb809 : (Jvm.Cond.fieldLink "WhoIsThereModel" (22 : Nat) "WhoIsThereModel" "rank" "[I") ∈ xa_G := List.mem_filter.mpr ⟨List.mem_append_right _ (xa_t4 89 rfl), rfl⟩
set_option maxRecDepth 20000 in
theorem tb810 : (Jvm.Cond.fieldLink "WhoIsThereModel" (25 : Nat) "WhoIsThereModel" "how" "[I") ∈ xa_G := List.mem_filter.mpr ⟨List.mem_append_right _ (xa_t4 90 rfl), rfl⟩
set_option maxRecDepth 20000 in
theorem tb811 : (Jvm.Cond.fieldLink "WhoIsThereModel" (28 : Nat) "WhoIsThereModel" "leaves" "[Z") ∈ xa_G := List.mem_filter.mpr ⟨List.mem_append_right _ (xa_t4 91 rfl), rfl⟩
set_option maxRecDepth 20000 in
theorem tb812 : (Jvm.Cond.fieldLink "WhoIsThereModel" (32 : Nat) "WhoIsThereModel" "isKeeper" "[Z") ∈ xa_G := List.mem_filter.mpr ⟨List.mem_append_right _ (xa_t4 92 rfl), rfl⟩
set_option maxRecDepth 20000 in
theorem tb813 : (Jvm.Cond.fieldLink "WhoIsThereModel" (35 : Nat) "WhoIsThereModel" "isBridge" "[Z") ∈ xa_G := List.mem_filter.mpr ⟨List.mem_append_right _ (xa_t4 93 rfl), rfl⟩
set_option maxRecDepth 20000 in
theorem tb814 : (Jvm.Cond.fieldLink "WhoIsThereModel" (38 : Nat) "WhoIsThereModel" "kinds" "[I") ∈ xa_G := List.mem_filter.mpr ⟨List.mem_append_right _ (xa_t4 94 rfl), rfl⟩
set_option maxRecDepth 20000 in
theorem tb815 : (Jvm.Cond.fieldLink "WhoIsThereModel" (41 : Nat) "WhoIsThereModel" "proxy" "[I") ∈ xa_G := List.mem_filter.mpr ⟨List.mem_append_right _ (xa_t4 95 rfl), rfl⟩
set_option maxRecDepth 20000 in
theorem tb816 : (Jvm.Cond.fieldLink "WhoIsThereModel" (44 : Nat) "WhoIsThereModel" "wrote" "[I") ∈ xa_G := List.mem_filter.mpr ⟨List.mem_append_right _ (xa_t4 96 rfl), rfl⟩
set_option maxRecDepth 20000 in
theorem tb817 : (Jvm.Cond.fieldLink "WhoIsThereModel" (47 : Nat) "WhoIsThereModel" "loses" "[I") ∈ xa_G := List.mem_filter.mpr ⟨List.mem_append_right _ (xa_t4 97 rfl), rfl⟩
set_option maxRecDepth 20000 in
theorem tb818 : (Jvm.Cond.fieldLink "WhoIsThereModel" (50 : Nat) "WhoIsThereModel" "deaf" "[I") ∈ xa_G := List.mem_filter.mpr ⟨List.mem_append_right _ (xa_t4 98 rfl), rfl⟩
set_option maxRecDepth 20000 in
theorem tb819 : (Jvm.Cond.fieldLink "WhoIsThereModel" (155 : Nat) "WhoIsThereModel" "hosts" "I") ∈ xa_G := List.mem_filter.mpr ⟨List.mem_append_right _ (xa_t4 99 rfl), rfl⟩
set_option maxRecDepth 20000 in
theorem tb820 : (Jvm.Cond.fieldLink "WhoIsThereModel" (53 : Nat) "WhoIsThereModel" "hostOf" "[I") ∈ xa_G := List.mem_filter.mpr ⟨List.mem_append_right _ (xa_t4 100 rfl), rfl⟩
set_option maxRecDepth 20000 in
theorem tb821 : (Jvm.Cond.fieldLink "WhoIsThereModel" (56 : Nat) "WhoIsThereModel" "kind" "[I") ∈ xa_G := List.mem_filter.mpr ⟨List.mem_append_right _ (xa_t4 101 rfl), rfl⟩
set_option maxRecDepth 20000 in
theorem tb822 : (Jvm.Cond.fieldLink "WhoIsThereModel" (59 : Nat) "WhoIsThereModel" "name" "[I") ∈ xa_G := List.mem_filter.mpr ⟨List.mem_append_right _ (xa_t4 102 rfl), rfl⟩
set_option maxRecDepth 20000 in
theorem tb823 : (Jvm.Cond.fieldLink "WhoIsThereModel" (62 : Nat) "WhoIsThereModel" "marks" "[I") ∈ xa_G := List.mem_filter.mpr ⟨List.mem_append_right _ (xa_t4 103 rfl), rfl⟩
set_option maxRecDepth 20000 in
theorem tb824 : (Jvm.Cond.fieldLink "WhoIsThereModel" (65 : Nat) "WhoIsThereModel" "life" "[I") ∈ xa_G := List.mem_filter.mpr ⟨List.mem_append_right _ (xa_t4 104 rfl), rfl⟩
set_option maxRecDepth 20000 in
theorem tb825 : (Jvm.Cond.fieldLink "WhoIsThereModel" (68 : Nat) "WhoIsThereModel" "is" "[I") ∈ xa_G := List.mem_filter.mpr ⟨List.mem_append_right _ (xa_t4 105 rfl), rfl⟩
set_option maxRecDepth 20000 in
theorem tb826 : (Jvm.Cond.fieldLink "WhoIsThereModel" (71 : Nat) "WhoIsThereModel" "claims" "[I") ∈ xa_G := List.mem_filter.mpr ⟨List.mem_append_right _ (xa_t4 106 rfl), rfl⟩
set_option maxRecDepth 20000 in
theorem tb827 : (Jvm.Cond.fieldLink "WhoIsThereModel" (74 : Nat) "WhoIsThereModel" "renewal" "[I") ∈ xa_G := List.mem_filter.mpr ⟨List.mem_append_right _ (xa_t4 107 rfl), rfl⟩
set_option maxRecDepth 20000 in
theorem tb828 : (Jvm.Cond.fieldLink "WhoIsThereModel" (77 : Nat) "WhoIsThereModel" "yielded" "[I") ∈ xa_G := List.mem_filter.mpr ⟨List.mem_append_right _ (xa_t4 108 rfl), rfl⟩
set_option maxRecDepth 20000 in
theorem tb829 : (Jvm.Cond.fieldLink "WhoIsThereModel" (80 : Nat) "WhoIsThereModel" "hasBye" "[Z") ∈ xa_G := List.mem_filter.mpr ⟨List.mem_append_right _ (xa_t4 109 rfl), rfl⟩
set_option maxRecDepth 20000 in
theorem tb830 : (Jvm.Cond.fieldLink "WhoIsThereModel" (83 : Nat) "WhoIsThereModel" "isFalse" "[Z") ∈ xa_G := List.mem_filter.mpr ⟨List.mem_append_right _ (xa_t4 110 rfl), rfl⟩
set_option maxRecDepth 20000 in
theorem tb831 : (Jvm.Cond.fieldLink "WhoIsThereModel" (170 : Nat) "WhoIsThereModel" "services" "I") ∈ xa_G := List.mem_filter.mpr ⟨List.mem_append_right _ (xa_t4 111 rfl), rfl⟩
set_option maxRecDepth 20000 in
theorem tb832 : (Jvm.Cond.fieldLink "WhoIsThereModel" (86 : Nat) "WhoIsThereModel" "hasRecord" "[Z") ∈ xa_G := List.mem_filter.mpr ⟨List.mem_append_right _ (xa_t4 112 rfl), rfl⟩
set_option maxRecDepth 20000 in
theorem tb833 : (Jvm.Cond.fieldLink "WhoIsThereModel" (89 : Nat) "WhoIsThereModel" "recName" "[I") ∈ xa_G := List.mem_filter.mpr ⟨List.mem_append_right _ (xa_t4 113 rfl), rfl⟩
set_option maxRecDepth 20000 in
theorem tb834 : (Jvm.Cond.fieldLink "WhoIsThereModel" (92 : Nat) "WhoIsThereModel" "recMarks" "[I") ∈ xa_G := List.mem_filter.mpr ⟨List.mem_append_right _ (xa_t4 114 rfl), rfl⟩
set_option maxRecDepth 20000 in
theorem tb835 : (Jvm.Cond.fieldLink "WhoIsThereModel" (95 : Nat) "WhoIsThereModel" "recLife" "[I") ∈ xa_G := List.mem_filter.mpr ⟨List.mem_append_right _ (xa_t4 115 rfl), rfl⟩
set_option maxRecDepth 20000 in
theorem tb836 : (Jvm.Cond.fieldLink "WhoIsThereModel" (98 : Nat) "WhoIsThereModel" "recEnds" "[I") ∈ xa_G := List.mem_filter.mpr ⟨List.mem_append_right _ (xa_t4 116 rfl), rfl⟩
set_option maxRecDepth 20000 in
theorem tb837 : (Jvm.Cond.fieldLink "WhoIsThereModel" (101 : Nat) "WhoIsThereModel" "answerAt" "[I") ∈ xa_G := List.mem_filter.mpr ⟨List.mem_append_right _ (xa_t4 117 rfl), rfl⟩
set_option maxRecDepth 20000 in
theorem tb838 : (Jvm.Cond.fieldLink "WhoIsThereModel" (104 : Nat) "WhoIsThereModel" "hasAsk" "[Z") ∈ xa_G := List.mem_filter.mpr ⟨List.mem_append_right _ (xa_t4 118 rfl), rfl⟩
set_option maxRecDepth 20000 in
theorem tb839 : (Jvm.Cond.fieldLink "WhoIsThereModel" (107 : Nat) "WhoIsThereModel" "askMarks" "[I") ∈ xa_G := List.mem_filter.mpr ⟨List.mem_append_right _ (xa_t4 119 rfl), rfl⟩
set_option maxRecDepth 20000 in
theorem tb840 : (Jvm.Cond.fieldLink "WhoIsThereModel" (110 : Nat) "WhoIsThereModel" "askAt" "[I") ∈ xa_G := List.mem_filter.mpr ⟨List.mem_append_right _ (xa_t4 120 rfl), rfl⟩
set_option maxRecDepth 20000 in
theorem tb841 : (Jvm.Cond.fieldLink "WhoIsThereModel" (191 : Nat) "WhoIsThereModel" "tick" "I") ∈ xa_G := List.mem_filter.mpr ⟨List.mem_append_right _ (xa_t4 121 rfl), rfl⟩
set_option maxRecDepth 20000 in
theorem tb842 : (Jvm.Cond.fieldLink "WhoIsThereModel" (231 : Nat) "WhoIsThereModel" "letters" "I") ∈ xa_G := List.mem_filter.mpr ⟨List.mem_append_right _ (xa_t4 122 rfl), rfl⟩
set_option maxRecDepth 20000 in
theorem tb843 : (Jvm.Cond.fieldLink "WhoIsThereModel" (274 : Nat) "WhoIsThereModel" "lost" "I") ∈ xa_G := List.mem_filter.mpr ⟨List.mem_append_right _ (xa_t4 123 rfl), rfl⟩
set_option maxRecDepth 20000 in
theorem tb844 : (Jvm.Cond.fieldLink "WhoIsThereModel" (237 : Nat) "WhoIsThereModel" "yields" "I") ∈ xa_G := List.mem_filter.mpr ⟨List.mem_append_right _ (xa_t4 124 rfl), rfl⟩
set_option maxRecDepth 20000 in
theorem tb845 : (Jvm.Cond.fieldLink "WhoIsThereModel" (311 : Nat) "WhoIsThereModel" "lies" "I") ∈ xa_G := List.mem_filter.mpr ⟨List.mem_append_right _ (xa_t4 125 rfl), rfl⟩
set_option maxRecDepth 20000 in
theorem tb846 : (Jvm.Cond.fieldLink "WhoIsThereModel" (314 : Nat) "WhoIsThereModel" "leftOut" "I") ∈ xa_G := List.mem_filter.mpr ⟨List.mem_append_right _ (xa_t4 126 rfl), rfl⟩
set_option maxRecDepth 20000 in
theorem tb847 : (Jvm.Cond.fieldLink "WhoIsThereModel" (221 : Nat) "WhoIsThereModel" "woken" "I") ∈ xa_G := List.mem_filter.mpr ⟨List.mem_append_right _ (xa_t4 127 rfl), rfl⟩
set_option maxRecDepth 20000 in
theorem tb848 : (Jvm.Cond.fieldLink "WhoIsThereModel" (234 : Nat) "WhoIsThereModel" "lately" "I") ∈ xa_G := List.mem_filter.mpr ⟨List.mem_append_right _ (xa_t4 128 rfl), rfl⟩
set_option maxRecDepth 20000 in
theorem tb849 : (Jvm.Cond.fieldLink "WhoIsThereModel" (286 : Nat) "WhoIsThereModel" "carried" "I") ∈ xa_G := List.mem_filter.mpr ⟨List.mem_append_right _ (xa_t4 129 rfl), rfl⟩
set_option maxRecDepth 20000 in
theorem tb850 : (Jvm.Cond.fieldLink "WhoIsThereModel" (113 : Nat) "WhoIsThereModel" "writer" "[I") ∈ xa_G := List.mem_filter.mpr ⟨List.mem_append_right _ (xa_t4 130 rfl), rfl⟩
set_option maxRecDepth 20000 in
theorem tb851 : (Jvm.Cond.fieldLink "WhoIsThereModel" (116 : Nat) "WhoIsThereModel" "netOf" "[I") ∈ xa_G := List.mem_filter.mpr ⟨List.mem_append_right _ (xa_t4 131 rfl), rfl⟩
set_option maxRecDepth 20000 in
theorem tb852 : (Jvm.Cond.fieldLink "WhoIsThereModel" (225 : Nat) "WhoIsThereModel" "written" "I") ∈ xa_G := List.mem_filter.mpr ⟨List.mem_append_right _ (xa_t4 132 rfl), rfl⟩
set_option maxRecDepth 20000 in
theorem tb853 : (Jvm.Cond.fieldLink "WhoIsThereModel" (119 : Nat) "WhoIsThereModel" "lAsk" "[Z") ∈ xa_G := List.mem_filter.mpr ⟨List.mem_append_right _ (xa_t4 133 rfl), rfl⟩
set_option maxRecDepth 20000 in
theorem tb854 : (Jvm.Cond.fieldLink "WhoIsThereModel" (122 : Nat) "WhoIsThereModel" "lAskMarks" "[I") ∈ xa_G := List.mem_filter.mpr ⟨List.mem_append_right _ (xa_t4 134 rfl), rfl⟩
set_option maxRecDepth 20000 in
theorem tb855 : (Jvm.Cond.fieldLink "WhoIsThereModel" (125 : Nat) "WhoIsThereModel" "lKnown" "[I") ∈ xa_G := List.mem_filter.mpr ⟨List.mem_append_right _ (xa_t4 135 rfl), rfl⟩
set_option maxRecDepth 20000 in
theorem tb856 : (Jvm.Cond.fieldLink "WhoIsThereModel" (128 : Nat) "WhoIsThereModel" "lAskBore" "[I") ∈ xa_G := List.mem_filter.mpr ⟨List.mem_append_right _ (xa_t4 136 rfl), rfl⟩
set_option maxRecDepth 20000 in
theorem tb857 : (Jvm.Cond.fieldLink "WhoIsThereModel" (131 : Nat) "WhoIsThereModel" "lClaim" "[I") ∈ xa_G := List.mem_filter.mpr ⟨List.mem_append_right _ (xa_t4 137 rfl), rfl⟩
set_option maxRecDepth 20000 in
theorem tb858 : (Jvm.Cond.fieldLink "WhoIsThereModel" (134 : Nat) "WhoIsThereModel" "lClaimBore" "[I") ∈ xa_G := List.mem_filter.mpr ⟨List.mem_append_right _ (xa_t4 138 rfl), rfl⟩
set_option maxRecDepth 20000 in
theorem tb859 : (Jvm.Cond.fieldLink "WhoIsThereModel" (137 : Nat) "WhoIsThereModel" "lBye" "[Z") ∈ xa_G := List.mem_filter.mpr ⟨List.mem_append_right _ (xa_t4 139 rfl), rfl⟩
set_option maxRecDepth 20000 in
theorem tb860 : (Jvm.Cond.fieldLink "WhoIsThereModel" (140 : Nat) "WhoIsThereModel" "lByeBore" "[I") ∈ xa_G := List.mem_filter.mpr ⟨List.mem_append_right _ (xa_t4 140 rfl), rfl⟩
set_option maxRecDepth 20000 in
theorem tb861 : (Jvm.Cond.fieldLink "WhoIsThereModel" (143 : Nat) "WhoIsThereModel" "lTold" "[I") ∈ xa_G := List.mem_filter.mpr ⟨List.mem_append_right _ (xa_t4 141 rfl), rfl⟩
set_option maxRecDepth 20000 in
theorem tb862 : (Jvm.Cond.fieldLink "WhoIsThereModel" (146 : Nat) "WhoIsThereModel" "lToldMarks" "[I") ∈ xa_G := List.mem_filter.mpr ⟨List.mem_append_right _ (xa_t4 142 rfl), rfl⟩
set_option maxRecDepth 20000 in
theorem tb863 : (Jvm.Cond.fieldLink "WhoIsThereModel" (149 : Nat) "WhoIsThereModel" "lToldLife" "[I") ∈ xa_G := List.mem_filter.mpr ⟨List.mem_append_right _ (xa_t4 143 rfl), rfl⟩
set_option maxRecDepth 20000 in
theorem tb864 : (Jvm.Cond.fieldLink "WhoIsThereModel" (152 : Nat) "WhoIsThereModel" "lToldBore" "[I") ∈ xa_G := List.mem_filter.mpr ⟨List.mem_append_right _ (xa_t4 144 rfl), rfl⟩
set_option maxRecDepth 20000 in
theorem tb986 : (Jvm.Cond.arrayClass FieldType.boolean) ∈ xa_G := List.mem_filter.mpr ⟨List.mem_append_right _ (xa_t5 26 rfl), rfl⟩
set_option maxRecDepth 20000 in
theorem tb987 : (Jvm.Cond.methodLink "WhoIsThereLaw" (17 : Nat) ({ cls := "WhoIsThereModel", name := "host", desc := "(IIII)I" } : Jvm.MethodName)) ∈ xa_G := List.mem_filter.mpr ⟨List.mem_append_right _ (xa_t5 27 rfl), rfl⟩
set_option maxRecDepth 20000 in
theorem tb988 : (Jvm.Cond.instanceMethod ({ cls := "WhoIsThereModel", name := "host", desc := "(IIII)I" } : Jvm.MethodName)) ∈ xa_G := List.mem_filter.mpr ⟨List.mem_append_right _ (xa_t5 28 rfl), rfl⟩
set_option maxRecDepth 20000 in
theorem tb989 : (Jvm.Cond.selects "WhoIsThereModel" ({ cls := "WhoIsThereModel", name := "host", desc := "(IIII)I" } : Jvm.MethodName) ({ cls := "WhoIsThereModel", name := "host", desc := "(IIII)I" } : Jvm.MethodName)) ∈ xa_G := List.mem_filter.mpr ⟨List.mem_append_right _ (xa_t5 29 rfl), rfl⟩
set_option maxRecDepth 20000 in
theorem tb990 : (Jvm.Cond.code ({ cls := "WhoIsThereModel", name := "host", desc := "(IIII)I" } : Jvm.MethodName) prog_10_method_7_code (6 : Nat) (Option.some FieldType.int)) ∈ xa_G := List.mem_filter.mpr ⟨List.mem_append_right _ (xa_t5 30 rfl), rfl⟩
set_option maxRecDepth 20000 in
theorem tb991 : (Jvm.Cond.methodLink "WhoIsThereModel" (159 : Nat) ({ cls := "WhoIsThereModel", name := "in", desc := "(III)Z" } : Jvm.MethodName)) ∈ xa_G := List.mem_filter.mpr ⟨List.mem_append_right _ (xa_t5 31 rfl), rfl⟩
set_option maxRecDepth 20000 in
theorem tb992 : (Jvm.Cond.static ({ cls := "WhoIsThereModel", name := "in", desc := "(III)Z" } : Jvm.MethodName)) ∈ xa_G := List.mem_filter.mpr ⟨List.mem_append_right _ (xa_t5 32 rfl), rfl⟩
set_option maxRecDepth 20000 in
theorem tb993 : (Jvm.Cond.code ({ cls := "WhoIsThereModel", name := "in", desc := "(III)Z" } : Jvm.MethodName) prog_10_method_2_code (3 : Nat) (Option.some FieldType.boolean)) ∈ xa_G := List.mem_filter.mpr ⟨List.mem_append_right _ (xa_t5 33 rfl), rfl⟩
set_option maxRecDepth 20000 in
theorem tb994 : (Jvm.Cond.methodLink "WhoIsThereLaw" (22 : Nat) ({ cls := "WhoIsThereModel", name := "offer", desc := "(IIIII)I" } : Jvm.MethodName)) ∈ xa_G := List.mem_filter.mpr ⟨List.mem_append_right _ (xa_t5 34 rfl), rfl⟩
set_option maxRecDepth 20000 in
theorem tb995 : (Jvm.Cond.instanceMethod ({ cls := "WhoIsThereModel", name := "offer", desc := "(IIIII)I" } : Jvm.MethodName)) ∈ xa_G := List.mem_filter.mpr ⟨List.mem_append_right _ (xa_t5 35 rfl), rfl⟩
set_option maxRecDepth 20000 in
theorem tb996 : (Jvm.Cond.selects "WhoIsThereModel" ({ cls := "WhoIsThereModel", name := "offer", desc := "(IIIII)I" } : Jvm.MethodName) ({ cls := "WhoIsThereModel", name := "offer", desc := "(IIIII)I" } : Jvm.MethodName)) ∈ xa_G := List.mem_filter.mpr ⟨List.mem_append_right _ (xa_t5 36 rfl), rfl⟩
set_option maxRecDepth 20000 in
theorem tb997 : (Jvm.Cond.code ({ cls := "WhoIsThereModel", name := "offer", desc := "(IIIII)I" } : Jvm.MethodName) prog_10_method_12_code (6 : Nat) (Option.some FieldType.int)) ∈ xa_G := List.mem_filter.mpr ⟨List.mem_append_right _ (xa_t5 37 rfl), rfl⟩
set_option maxRecDepth 20000 in
theorem tb998 : (Jvm.Cond.methodLink "WhoIsThereModel" (180 : Nat) ({ cls := "WhoIsThereModel", name := "mayOffer", desc := "(IIII)Z" } : Jvm.MethodName)) ∈ xa_G := List.mem_filter.mpr ⟨List.mem_append_right _ (xa_t5 38 rfl), rfl⟩
set_option maxRecDepth 20000 in
theorem tb1000 : (Jvm.Cond.instanceMethod ({ cls := "WhoIsThereModel", name := "mayOffer", desc := "(IIII)Z" } : Jvm.MethodName)) ∈ xa_G := List.mem_filter.mpr ⟨List.mem_append_right _ (xa_t5 40 rfl), rfl⟩
set_option maxRecDepth 20000 in
theorem tb1001 : (Jvm.Cond.code ({ cls := "WhoIsThereModel", name := "mayOffer", desc := "(IIII)Z" } : Jvm.MethodName) prog_10_method_10_code (5 : Nat) (Option.some FieldType.boolean)) ∈ xa_G := List.mem_filter.mpr ⟨List.mem_append_right _ (xa_t5 41 rfl), rfl⟩
set_option maxRecDepth 20000 in
theorem tb1002 : (Jvm.Cond.methodLink "WhoIsThereModel" (173 : Nat) ({ cls := "WhoIsThereModel", name := "isUp", desc := "(I)Z" } : Jvm.MethodName)) ∈ xa_G := List.mem_filter.mpr ⟨List.mem_append_right _ (xa_t5 42 rfl), rfl⟩
set_option maxRecDepth 20000 in
theorem tb1004 : (Jvm.Cond.instanceMethod ({ cls := "WhoIsThereModel", name := "isUp", desc := "(I)Z" } : Jvm.MethodName)) ∈ xa_G := List.mem_filter.mpr ⟨List.mem_append_right _ (xa_t5 44 rfl), rfl⟩
set_option maxRecDepth 20000 in
theorem tb1005 : (Jvm.Cond.code ({ cls := "WhoIsThereModel", name := "isUp", desc := "(I)Z" } : Jvm.MethodName) prog_10_method_5_code (2 : Nat) (Option.some FieldType.boolean)) ∈ xa_G := List.mem_filter.mpr ⟨List.mem_append_right _ (xa_t5 45 rfl), rfl⟩
set_option maxRecDepth 20000 in
theorem tb1006 : (Jvm.Cond.methodLink "WhoIsThereModel" (167 : Nat) ({ cls := "WhoIsThereModel", name := "isAwake", desc := "(I)Z" } : Jvm.MethodName)) ∈ xa_G := List.mem_filter.mpr ⟨List.mem_append_right _ (xa_t5 46 rfl), rfl⟩
set_option maxRecDepth 20000 in
theorem tb1008 : (Jvm.Cond.instanceMethod ({ cls := "WhoIsThereModel", name := "isAwake", desc := "(I)Z" } : Jvm.MethodName)) ∈ xa_G := List.mem_filter.mpr ⟨List.mem_append_right _ (xa_t5 48 rfl), rfl⟩
set_option maxRecDepth 20000 in
theorem tb1009 : (Jvm.Cond.code ({ cls := "WhoIsThereModel", name := "isAwake", desc := "(I)Z" } : Jvm.MethodName) prog_10_method_4_code (2 : Nat) (Option.some FieldType.boolean)) ∈ xa_G := List.mem_filter.mpr ⟨List.mem_append_right _ (xa_t5 49 rfl), rfl⟩
set_option maxRecDepth 20000 in
theorem tb1010 : (Jvm.Cond.methodLink "WhoIsThereModel" (163 : Nat) ({ cls := "WhoIsThereModel", name := "isHost", desc := "(I)Z" } : Jvm.MethodName)) ∈ xa_G := List.mem_filter.mpr ⟨List.mem_append_right _ (xa_t5 50 rfl), rfl⟩
set_option maxRecDepth 20000 in
theorem tb1012 : (Jvm.Cond.instanceMethod ({ cls := "WhoIsThereModel", name := "isHost", desc := "(I)Z" } : Jvm.MethodName)) ∈ xa_G := List.mem_filter.mpr ⟨List.mem_append_right _ (xa_t5 52 rfl), rfl⟩
set_option maxRecDepth 20000 in
theorem tb1013 : (Jvm.Cond.code ({ cls := "WhoIsThereModel", name := "isHost", desc := "(I)Z" } : Jvm.MethodName) prog_10_method_3_code (2 : Nat) (Option.some FieldType.boolean)) ∈ xa_G := List.mem_filter.mpr ⟨List.mem_append_right _ (xa_t5 53 rfl), rfl⟩
set_option maxRecDepth 20000 in
theorem tb1014 : (Jvm.Cond.methodLink "WhoIsThereModel" (176 : Nat) ({ cls := "WhoIsThereModel", name := "many", desc := "(I)I" } : Jvm.MethodName)) ∈ xa_G := List.mem_filter.mpr ⟨List.mem_append_right _ (xa_t5 54 rfl), rfl⟩
set_option maxRecDepth 20000 in
theorem tb1016 : (Jvm.Cond.instanceMethod ({ cls := "WhoIsThereModel", name := "many", desc := "(I)I" } : Jvm.MethodName)) ∈ xa_G := List.mem_filter.mpr ⟨List.mem_append_right _ (xa_t5 56 rfl), rfl⟩
set_option maxRecDepth 20000 in
theorem tb1017 : (Jvm.Cond.code ({ cls := "WhoIsThereModel", name := "many", desc := "(I)I" } : Jvm.MethodName) prog_10_method_8_code (4 : Nat) (Option.some FieldType.int)) ∈ xa_G := List.mem_filter.mpr ⟨List.mem_append_right _ (xa_t5 57 rfl), rfl⟩
set_option maxRecDepth 20000 in
theorem tb1018 : (Jvm.Cond.methodLink "WhoIsThereModel" (184 : Nat) ({ cls := "WhoIsThereModel", name := "isNamed", desc := "(III)Z" } : Jvm.MethodName)) ∈ xa_G := List.mem_filter.mpr ⟨List.mem_append_right _ (xa_t5 58 rfl), rfl⟩
set_option maxRecDepth 20000 in
theorem tb1020 : (Jvm.Cond.instanceMethod ({ cls := "WhoIsThereModel", name := "isNamed", desc := "(III)Z" } : Jvm.MethodName)) ∈ xa_G := List.mem_filter.mpr ⟨List.mem_append_right _ (xa_t5 60 rfl), rfl⟩
set_option maxRecDepth 20000 in
theorem tb1021 : (Jvm.Cond.code ({ cls := "WhoIsThereModel", name := "isNamed", desc := "(III)Z" } : Jvm.MethodName) prog_10_method_9_code (5 : Nat) (Option.some FieldType.boolean)) ∈ xa_G := List.mem_filter.mpr ⟨List.mem_append_right _ (xa_t5 61 rfl), rfl⟩
set_option maxRecDepth 20000 in
theorem tb1022 : (Jvm.Cond.methodLink "WhoIsThereModel" (187 : Nat) ({ cls := "WhoIsThereModel", name := "comes", desc := "(IIIII)I" } : Jvm.MethodName)) ∈ xa_G := List.mem_filter.mpr ⟨List.mem_append_right _ (xa_t5 62 rfl), rfl⟩
set_option maxRecDepth 20000 in
theorem tb1024 : (Jvm.Cond.instanceMethod ({ cls := "WhoIsThereModel", name := "comes", desc := "(IIIII)I" } : Jvm.MethodName)) ∈ xa_G := List.mem_filter.mpr ⟨List.mem_append_right _ (xa_t5 64 rfl), rfl⟩
set_option maxRecDepth 20000 in
theorem tb1025 : (Jvm.Cond.code ({ cls := "WhoIsThereModel", name := "comes", desc := "(IIIII)I" } : Jvm.MethodName) prog_10_method_11_code (7 : Nat) (Option.some FieldType.int)) ∈ xa_G := List.mem_filter.mpr ⟨List.mem_append_right _ (xa_t5 65 rfl), rfl⟩
set_option maxRecDepth 20000 in
theorem tb1026 : (Jvm.Cond.methodLink "WhoIsThereLaw" (26 : Nat) ({ cls := "WhoIsThereModel", name := "lie", desc := "(IIIII)I" } : Jvm.MethodName)) ∈ xa_G := List.mem_filter.mpr ⟨List.mem_append_right _ (xa_t5 66 rfl), rfl⟩
set_option maxRecDepth 20000 in
theorem tb1027 : (Jvm.Cond.instanceMethod ({ cls := "WhoIsThereModel", name := "lie", desc := "(IIIII)I" } : Jvm.MethodName)) ∈ xa_G := List.mem_filter.mpr ⟨List.mem_append_right _ (xa_t5 67 rfl), rfl⟩
set_option maxRecDepth 20000 in
theorem tb1028 : (Jvm.Cond.selects "WhoIsThereModel" ({ cls := "WhoIsThereModel", name := "lie", desc := "(IIIII)I" } : Jvm.MethodName) ({ cls := "WhoIsThereModel", name := "lie", desc := "(IIIII)I" } : Jvm.MethodName)) ∈ xa_G := List.mem_filter.mpr ⟨List.mem_append_right _ (xa_t5 68 rfl), rfl⟩
set_option maxRecDepth 20000 in
theorem tb1029 : (Jvm.Cond.code ({ cls := "WhoIsThereModel", name := "lie", desc := "(IIIII)I" } : Jvm.MethodName) prog_10_method_13_code (7 : Nat) (Option.some FieldType.int)) ∈ xa_G := List.mem_filter.mpr ⟨List.mem_append_right _ (xa_t5 69 rfl), rfl⟩
set_option maxRecDepth 20000 in
theorem tb1030 : (Jvm.Cond.methodLink "WhoIsThereLaw" (31 : Nat) ({ cls := "WhoIsThereModel", name := "drop", desc := "(I)Z" } : Jvm.MethodName)) ∈ xa_G := List.mem_filter.mpr ⟨List.mem_append_right _ (xa_t5 70 rfl), rfl⟩
set_option maxRecDepth 20000 in
theorem tb1031 : (Jvm.Cond.instanceMethod ({ cls := "WhoIsThereModel", name := "drop", desc := "(I)Z" } : Jvm.MethodName)) ∈ xa_G := List.mem_filter.mpr ⟨List.mem_append_right _ (xa_t5 71 rfl), rfl⟩
set_option maxRecDepth 20000 in
theorem tb1032 : (Jvm.Cond.selects "WhoIsThereModel" ({ cls := "WhoIsThereModel", name := "drop", desc := "(I)Z" } : Jvm.MethodName) ({ cls := "WhoIsThereModel", name := "drop", desc := "(I)Z" } : Jvm.MethodName)) ∈ xa_G := List.mem_filter.mpr ⟨List.mem_append_right _ (xa_t5 72 rfl), rfl⟩
set_option maxRecDepth 20000 in
theorem tb1033 : (Jvm.Cond.code ({ cls := "WhoIsThereModel", name := "drop", desc := "(I)Z" } : Jvm.MethodName) prog_10_method_16_code (2 : Nat) (Option.some FieldType.boolean)) ∈ xa_G := List.mem_filter.mpr ⟨List.mem_append_right _ (xa_t5 73 rfl), rfl⟩
set_option maxRecDepth 20000 in
theorem tb1034 : (Jvm.Cond.methodLink "WhoIsThereModel" (197 : Nat) ({ cls := "WhoIsThereModel", name := "isOpen", desc := "(I)Z" } : Jvm.MethodName)) ∈ xa_G := List.mem_filter.mpr ⟨List.mem_append_right _ (xa_t5 74 rfl), rfl⟩
set_option maxRecDepth 20000 in
theorem tb1036 : (Jvm.Cond.instanceMethod ({ cls := "WhoIsThereModel", name := "isOpen", desc := "(I)Z" } : Jvm.MethodName)) ∈ xa_G := List.mem_filter.mpr ⟨List.mem_append_right _ (xa_t5 76 rfl), rfl⟩
set_option maxRecDepth 20000 in
theorem tb1037 : (Jvm.Cond.code ({ cls := "WhoIsThereModel", name := "isOpen", desc := "(I)Z" } : Jvm.MethodName) prog_10_method_15_code (2 : Nat) (Option.some FieldType.boolean)) ∈ xa_G := List.mem_filter.mpr ⟨List.mem_append_right _ (xa_t5 77 rfl), rfl⟩
set_option maxRecDepth 20000 in
theorem tb1038 : (Jvm.Cond.methodLink "WhoIsThereModel" (194 : Nat) ({ cls := "WhoIsThereModel", name := "isService", desc := "(I)Z" } : Jvm.MethodName)) ∈ xa_G := List.mem_filter.mpr ⟨List.mem_append_right _ (xa_t5 78 rfl), rfl⟩
set_option maxRecDepth 20000 in
theorem tb1040 : (Jvm.Cond.instanceMethod ({ cls := "WhoIsThereModel", name := "isService", desc := "(I)Z" } : Jvm.MethodName)) ∈ xa_G := List.mem_filter.mpr ⟨List.mem_append_right _ (xa_t5 80 rfl), rfl⟩
set_option maxRecDepth 20000 in
theorem tb1041 : (Jvm.Cond.code ({ cls := "WhoIsThereModel", name := "isService", desc := "(I)Z" } : Jvm.MethodName) prog_10_method_6_code (2 : Nat) (Option.some FieldType.boolean)) ∈ xa_G := List.mem_filter.mpr ⟨List.mem_append_right _ (xa_t5 81 rfl), rfl⟩
set_option maxRecDepth 20000 in
theorem tb1042 : (Jvm.Cond.methodLink "WhoIsThereModel" (200 : Nat) ({ cls := "WhoIsThereModel", name := "goes", desc := "(IZ)V" } : Jvm.MethodName)) ∈ xa_G := List.mem_filter.mpr ⟨List.mem_append_right _ (xa_t5 82 rfl), rfl⟩
set_option maxRecDepth 20000 in
theorem tb1044 : (Jvm.Cond.instanceMethod ({ cls := "WhoIsThereModel", name := "goes", desc := "(IZ)V" } : Jvm.MethodName)) ∈ xa_G := List.mem_filter.mpr ⟨List.mem_append_right _ (xa_t5 84 rfl), rfl⟩
set_option maxRecDepth 20000 in
theorem tb1045 : (Jvm.Cond.code ({ cls := "WhoIsThereModel", name := "goes", desc := "(IZ)V" } : Jvm.MethodName) prog_10_method_14_code (3 : Nat) (Option.none : Option FieldType)) ∈ xa_G := List.mem_filter.mpr ⟨List.mem_append_right _ (xa_t5 85 rfl), rfl⟩
set_option maxRecDepth 20000 in
theorem tb1046 : (Jvm.Cond.methodLink "WhoIsThereLaw" (36 : Nat) ({ cls := "WhoIsThereModel", name := "change", desc := "(II)Z" } : Jvm.MethodName)) ∈ xa_G := List.mem_filter.mpr ⟨List.mem_append_right _ (xa_t5 86 rfl), rfl⟩
set_option maxRecDepth 20000 in
theorem tb1047 : (Jvm.Cond.instanceMethod ({ cls := "WhoIsThereModel", name := "change", desc := "(II)Z" } : Jvm.MethodName)) ∈ xa_G := List.mem_filter.mpr ⟨List.mem_append_right _ (xa_t5 87 rfl), rfl⟩
set_option maxRecDepth 20000 in
theorem tb1048 : (Jvm.Cond.selects "WhoIsThereModel" ({ cls := "WhoIsThereModel", name := "change", desc := "(II)Z" } : Jvm.MethodName) ({ cls := "WhoIsThereModel", name := "change", desc := "(II)Z" } : Jvm.MethodName)) ∈ xa_G := List.mem_filter.mpr ⟨List.mem_append_right _ (xa_t5 88 rfl), rfl⟩
set_option maxRecDepth 20000 in
theorem tb1049 : (Jvm.Cond.code ({ cls := "WhoIsThereModel", name := "change", desc := "(II)Z" } : Jvm.MethodName) prog_10_method_17_code (3 : Nat) (Option.some FieldType.boolean)) ∈ xa_G := List.mem_filter.mpr ⟨List.mem_append_right _ (xa_t5 89 rfl), rfl⟩
set_option maxRecDepth 20000 in
theorem tb1050 : (Jvm.Cond.methodLink "WhoIsThereLaw" (41 : Nat) ({ cls := "WhoIsThereModel", name := "ask", desc := "(III)Z" } : Jvm.MethodName)) ∈ xa_G := List.mem_filter.mpr ⟨List.mem_append_right _ (xa_t5 90 rfl), rfl⟩
set_option maxRecDepth 20000 in
theorem tb1051 : (Jvm.Cond.instanceMethod ({ cls := "WhoIsThereModel", name := "ask", desc := "(III)Z" } : Jvm.MethodName)) ∈ xa_G := List.mem_filter.mpr ⟨List.mem_append_right _ (xa_t5 91 rfl), rfl⟩
set_option maxRecDepth 20000 in
theorem tb1052 : (Jvm.Cond.selects "WhoIsThereModel" ({ cls := "WhoIsThereModel", name := "ask", desc := "(III)Z" } : Jvm.MethodName) ({ cls := "WhoIsThereModel", name := "ask", desc := "(III)Z" } : Jvm.MethodName)) ∈ xa_G := List.mem_filter.mpr ⟨List.mem_append_right _ (xa_t5 92 rfl), rfl⟩
set_option maxRecDepth 20000 in
theorem tb1053 : (Jvm.Cond.code ({ cls := "WhoIsThereModel", name := "ask", desc := "(III)Z" } : Jvm.MethodName) prog_10_method_19_code (4 : Nat) (Option.some FieldType.boolean)) ∈ xa_G := List.mem_filter.mpr ⟨List.mem_append_right _ (xa_t5 93 rfl), rfl⟩
set_option maxRecDepth 20000 in
theorem tb1054 : (Jvm.Cond.methodLink "WhoIsThereModel" (204 : Nat) ({ cls := "WhoIsThereModel", name := "lot", desc := "(II)I" } : Jvm.MethodName)) ∈ xa_G := List.mem_filter.mpr ⟨List.mem_append_right _ (xa_t5 94 rfl), rfl⟩
set_option maxRecDepth 20000 in
theorem tb1055 : (Jvm.Cond.static ({ cls := "WhoIsThereModel", name := "lot", desc := "(II)I" } : Jvm.MethodName)) ∈ xa_G := List.mem_filter.mpr ⟨List.mem_append_right _ (xa_t5 95 rfl), rfl⟩
set_option maxRecDepth 20000 in
theorem tb1056 : (Jvm.Cond.code ({ cls := "WhoIsThereModel", name := "lot", desc := "(II)I" } : Jvm.MethodName) prog_10_method_18_code (2 : Nat) (Option.some FieldType.int)) ∈ xa_G := List.mem_filter.mpr ⟨List.mem_append_right _ (xa_t5 96 rfl), rfl⟩
set_option maxRecDepth 20000 in
theorem tb1057 : (Jvm.Cond.methodLink "WhoIsThereLaw" (45 : Nat) ({ cls := "WhoIsThereModel", name := "sleep", desc := "(II)Z" } : Jvm.MethodName)) ∈ xa_G := List.mem_filter.mpr ⟨List.mem_append_right _ (xa_t5 97 rfl), rfl⟩
set_option maxRecDepth 20000 in
theorem tb1058 : (Jvm.Cond.instanceMethod ({ cls := "WhoIsThereModel", name := "sleep", desc := "(II)Z" } : Jvm.MethodName)) ∈ xa_G := List.mem_filter.mpr ⟨List.mem_append_right _ (xa_t5 98 rfl), rfl⟩
set_option maxRecDepth 20000 in
theorem tb1059 : (Jvm.Cond.selects "WhoIsThereModel" ({ cls := "WhoIsThereModel", name := "sleep", desc := "(II)Z" } : Jvm.MethodName) ({ cls := "WhoIsThereModel", name := "sleep", desc := "(II)Z" } : Jvm.MethodName)) ∈ xa_G := List.mem_filter.mpr ⟨List.mem_append_right _ (xa_t5 99 rfl), rfl⟩
set_option maxRecDepth 20000 in
theorem tb1060 : (Jvm.Cond.code ({ cls := "WhoIsThereModel", name := "sleep", desc := "(II)Z" } : Jvm.MethodName) prog_10_method_20_code (3 : Nat) (Option.some FieldType.boolean)) ∈ xa_G := List.mem_filter.mpr ⟨List.mem_append_right _ (xa_t5 100 rfl), rfl⟩
set_option maxRecDepth 20000 in
theorem tb1061 : (Jvm.Cond.methodLink "WhoIsThereLaw" (49 : Nat) ({ cls := "WhoIsThereModel", name := "wake", desc := "(I)Z" } : Jvm.MethodName)) ∈ xa_G := List.mem_filter.mpr ⟨List.mem_append_right _ (xa_t5 101 rfl), rfl⟩
set_option maxRecDepth 20000 in
theorem tb1062 : (Jvm.Cond.instanceMethod ({ cls := "WhoIsThereModel", name := "wake", desc := "(I)Z" } : Jvm.MethodName)) ∈ xa_G := List.mem_filter.mpr ⟨List.mem_append_right _ (xa_t5 102 rfl), rfl⟩
set_option maxRecDepth 20000 in
theorem tb1063 : (Jvm.Cond.selects "WhoIsThereModel" ({ cls := "WhoIsThereModel", name := "wake", desc := "(I)Z" } : Jvm.MethodName) ({ cls := "WhoIsThereModel", name := "wake", desc := "(I)Z" } : Jvm.MethodName)) ∈ xa_G := List.mem_filter.mpr ⟨List.mem_append_right _ (xa_t5 103 rfl), rfl⟩
set_option maxRecDepth 20000 in
theorem tb1064 : (Jvm.Cond.code ({ cls := "WhoIsThereModel", name := "wake", desc := "(I)Z" } : Jvm.MethodName) prog_10_method_22_code (2 : Nat) (Option.some FieldType.boolean)) ∈ xa_G := List.mem_filter.mpr ⟨List.mem_append_right _ (xa_t5 104 rfl), rfl⟩
set_option maxRecDepth 20000 in
theorem tb1065 : (Jvm.Cond.methodLink "WhoIsThereModel" (208 : Nat) ({ cls := "WhoIsThereModel", name := "wakes", desc := "(I)V" } : Jvm.MethodName)) ∈ xa_G := List.mem_filter.mpr ⟨List.mem_append_right _ (xa_t5 105 rfl), rfl⟩
set_option maxRecDepth 20000 in
theorem tb1067 : (Jvm.Cond.instanceMethod ({ cls := "WhoIsThereModel", name := "wakes", desc := "(I)V" } : Jvm.MethodName)) ∈ xa_G := List.mem_filter.mpr ⟨List.mem_append_right _ (xa_t5 107 rfl), rfl⟩
set_option maxRecDepth 20000 in
theorem tb1068 : (Jvm.Cond.code ({ cls := "WhoIsThereModel", name := "wakes", desc := "(I)V" } : Jvm.MethodName) prog_10_method_21_code (2 : Nat) (Option.none : Option FieldType)) ∈ xa_G := List.mem_filter.mpr ⟨List.mem_append_right _ (xa_t5 108 rfl), rfl⟩
set_option maxRecDepth 20000 in
theorem tb1069 : (Jvm.Cond.methodLink "WhoIsThereLaw" (53 : Nat) ({ cls := "WhoIsThereModel", name := "fall", desc := "(I)Z" } : Jvm.MethodName)) ∈ xa_G := List.mem_filter.mpr ⟨List.mem_append_right _ (xa_t5 109 rfl), rfl⟩
set_option maxRecDepth 20000 in
theorem tb1070 : (Jvm.Cond.instanceMethod ({ cls := "WhoIsThereModel", name := "fall", desc := "(I)Z" } : Jvm.MethodName)) ∈ xa_G := List.mem_filter.mpr ⟨List.mem_append_right _ (xa_t5 110 rfl), rfl⟩
set_option maxRecDepth 20000 in
theorem tb1071 : (Jvm.Cond.selects "WhoIsThereModel" ({ cls := "WhoIsThereModel", name := "fall", desc := "(I)Z" } : Jvm.MethodName) ({ cls := "WhoIsThereModel", name := "fall", desc := "(I)Z" } : Jvm.MethodName)) ∈ xa_G := List.mem_filter.mpr ⟨List.mem_append_right _ (xa_t5 111 rfl), rfl⟩
set_option maxRecDepth 20000 in
theorem tb1072 : (Jvm.Cond.code ({ cls := "WhoIsThereModel", name := "fall", desc := "(I)Z" } : Jvm.MethodName) prog_10_method_25_code (3 : Nat) (Option.some FieldType.boolean)) ∈ xa_G := List.mem_filter.mpr ⟨List.mem_append_right _ (xa_t5 112 rfl), rfl⟩
set_option maxRecDepth 20000 in
theorem tb1073 : (Jvm.Cond.methodLink "WhoIsThereModel" (218 : Nat) ({ cls := "WhoIsThereModel", name := "isGone", desc := "(I)V" } : Jvm.MethodName)) ∈ xa_G := List.mem_filter.mpr ⟨List.mem_append_right _ (xa_t5 113 rfl), rfl⟩
set_option maxRecDepth 20000 in
theorem tb1075 : (Jvm.Cond.instanceMethod ({ cls := "WhoIsThereModel", name := "isGone", desc := "(I)V" } : Jvm.MethodName)) ∈ xa_G := List.mem_filter.mpr ⟨List.mem_append_right _ (xa_t5 115 rfl), rfl⟩
set_option maxRecDepth 20000 in
theorem tb1076 : (Jvm.Cond.code ({ cls := "WhoIsThereModel", name := "isGone", desc := "(I)V" } : Jvm.MethodName) prog_10_method_24_code (3 : Nat) (Option.none : Option FieldType)) ∈ xa_G := List.mem_filter.mpr ⟨List.mem_append_right _ (xa_t5 116 rfl), rfl⟩
set_option maxRecDepth 20000 in
theorem tb1077 : (Jvm.Cond.methodLink "WhoIsThereModel" (212 : Nat) ({ cls := "WhoIsThereModel", name := "empties", desc := "(I)V" } : Jvm.MethodName)) ∈ xa_G := List.mem_filter.mpr ⟨List.mem_append_right _ (xa_t5 117 rfl), rfl⟩
set_option maxRecDepth 20000 in
theorem tb1079 : (Jvm.Cond.instanceMethod ({ cls := "WhoIsThereModel", name := "empties", desc := "(I)V" } : Jvm.MethodName)) ∈ xa_G := List.mem_filter.mpr ⟨List.mem_append_right _ (xa_t5 119 rfl), rfl⟩
set_option maxRecDepth 20000 in
theorem tb1080 : (Jvm.Cond.code ({ cls := "WhoIsThereModel", name := "empties", desc := "(I)V" } : Jvm.MethodName) prog_10_method_23_code (3 : Nat) (Option.none : Option FieldType)) ∈ xa_G := List.mem_filter.mpr ⟨List.mem_append_right _ (xa_t5 120 rfl), rfl⟩
set_option maxRecDepth 20000 in
theorem tb1081 : (Jvm.Cond.methodLink "WhoIsThereModel" (215 : Nat) ({ cls := "WhoIsThereModel", name := "clears", desc := "(I)V" } : Jvm.MethodName)) ∈ xa_G := List.mem_filter.mpr ⟨List.mem_append_right _ (xa_t5 121 rfl), rfl⟩
set_option maxRecDepth 20000 in
theorem tb1083 : (Jvm.Cond.instanceMethod ({ cls := "WhoIsThereModel", name := "clears", desc := "(I)V" } : Jvm.MethodName)) ∈ xa_G := List.mem_filter.mpr ⟨List.mem_append_right _ (xa_t5 123 rfl), rfl⟩
set_option maxRecDepth 20000 in
theorem tb1084 : (Jvm.Cond.code ({ cls := "WhoIsThereModel", name := "clears", desc := "(I)V" } : Jvm.MethodName) prog_10_method_32_code (3 : Nat) (Option.none : Option FieldType)) ∈ xa_G := List.mem_filter.mpr ⟨List.mem_append_right _ (xa_t5 124 rfl), rfl⟩
set_option maxRecDepth 20000 in
theorem tb1085 : (Jvm.Cond.methodLink "WhoIsThereLaw" (57 : Nat) ({ cls := "WhoIsThereModel", name := "leave", desc := "(I)Z" } : Jvm.MethodName)) ∈ xa_G := List.mem_filter.mpr ⟨List.mem_append_right _ (xa_t5 125 rfl), rfl⟩
set_option maxRecDepth 20000 in
theorem tb1086 : (Jvm.Cond.instanceMethod ({ cls := "WhoIsThereModel", name := "leave", desc := "(I)Z" } : Jvm.MethodName)) ∈ xa_G := List.mem_filter.mpr ⟨List.mem_append_right _ (xa_t5 126 rfl), rfl⟩
set_option maxRecDepth 20000 in
theorem tb1087 : (Jvm.Cond.selects "WhoIsThereModel" ({ cls := "WhoIsThereModel", name := "leave", desc := "(I)Z" } : Jvm.MethodName) ({ cls := "WhoIsThereModel", name := "leave", desc := "(I)Z" } : Jvm.MethodName)) ∈ xa_G := List.mem_filter.mpr ⟨List.mem_append_right _ (xa_t5 127 rfl), rfl⟩
set_option maxRecDepth 20000 in
theorem tb1088 : (Jvm.Cond.code ({ cls := "WhoIsThereModel", name := "leave", desc := "(I)Z" } : Jvm.MethodName) prog_10_method_26_code (3 : Nat) (Option.some FieldType.boolean)) ∈ xa_G := List.mem_filter.mpr ⟨List.mem_append_right _ (xa_t5 128 rfl), rfl⟩
set_option maxRecDepth 20000 in
theorem tb1089 : (Jvm.Cond.methodLink "WhoIsThereLaw" (62 : Nat) ({ cls := "WhoIsThereModel", name := "keeper", desc := "(IZ)Z" } : Jvm.MethodName)) ∈ xa_G := List.mem_filter.mpr ⟨List.mem_append_right _ (xa_t5 129 rfl), rfl⟩
set_option maxRecDepth 20000 in
theorem tb1090 : (Jvm.Cond.instanceMethod ({ cls := "WhoIsThereModel", name := "keeper", desc := "(IZ)Z" } : Jvm.MethodName)) ∈ xa_G := List.mem_filter.mpr ⟨List.mem_append_right _ (xa_t5 130 rfl), rfl⟩
set_option maxRecDepth 20000 in
theorem tb1091 : (Jvm.Cond.selects "WhoIsThereModel" ({ cls := "WhoIsThereModel", name := "keeper", desc := "(IZ)Z" } : Jvm.MethodName) ({ cls := "WhoIsThereModel", name := "keeper", desc := "(IZ)Z" } : Jvm.MethodName)) ∈ xa_G := List.mem_filter.mpr ⟨List.mem_append_right _ (xa_t5 131 rfl), rfl⟩
set_option maxRecDepth 20000 in
theorem tb1092 : (Jvm.Cond.code ({ cls := "WhoIsThereModel", name := "keeper", desc := "(IZ)Z" } : Jvm.MethodName) prog_10_method_27_code (3 : Nat) (Option.some FieldType.boolean)) ∈ xa_G := List.mem_filter.mpr ⟨List.mem_append_right _ (xa_t5 132 rfl), rfl⟩
set_option maxRecDepth 20000 in
theorem tb1093 : (Jvm.Cond.methodLink "WhoIsThereLaw" (66 : Nat) ({ cls := "WhoIsThereModel", name := "bridge", desc := "(III)Z" } : Jvm.MethodName)) ∈ xa_G := List.mem_filter.mpr ⟨List.mem_append_right _ (xa_t5 133 rfl), rfl⟩
set_option maxRecDepth 20000 in
theorem tb1094 : (Jvm.Cond.instanceMethod ({ cls := "WhoIsThereModel", name := "bridge", desc := "(III)Z" } : Jvm.MethodName)) ∈ xa_G := List.mem_filter.mpr ⟨List.mem_append_right _ (xa_t5 134 rfl), rfl⟩
set_option maxRecDepth 20000 in
theorem tb1095 : (Jvm.Cond.selects "WhoIsThereModel" ({ cls := "WhoIsThereModel", name := "bridge", desc := "(III)Z" } : Jvm.MethodName) ({ cls := "WhoIsThereModel", name := "bridge", desc := "(III)Z" } : Jvm.MethodName)) ∈ xa_G := List.mem_filter.mpr ⟨List.mem_append_right _ (xa_t5 135 rfl), rfl⟩
set_option maxRecDepth 20000 in
theorem tb1096 : (Jvm.Cond.code ({ cls := "WhoIsThereModel", name := "bridge", desc := "(III)Z" } : Jvm.MethodName) prog_10_method_28_code (5 : Nat) (Option.some FieldType.boolean)) ∈ xa_G := List.mem_filter.mpr ⟨List.mem_append_right _ (xa_t5 136 rfl), rfl⟩
set_option maxRecDepth 20000 in
theorem tb1097 : (Jvm.Cond.constant "WhoIsThereModel" (224 : Nat) (65535 : Int32)) ∈ xa_G := List.mem_filter.mpr ⟨List.mem_append_right _ (xa_t5 137 rfl), rfl⟩
set_option maxRecDepth 20000 in
theorem tb1098 : (Jvm.Cond.methodLink "WhoIsThereLaw" (70 : Nat) ({ cls := "WhoIsThereModel", name := "lose", desc := "(II)Z" } : Jvm.MethodName)) ∈ xa_G := List.mem_filter.mpr ⟨List.mem_append_right _ (xa_t5 138 rfl), rfl⟩
set_option maxRecDepth 20000 in
theorem tb1099 : (Jvm.Cond.instanceMethod ({ cls := "WhoIsThereModel", name := "lose", desc := "(II)Z" } : Jvm.MethodName)) ∈ xa_G := List.mem_filter.mpr ⟨List.mem_append_right _ (xa_t5 139 rfl), rfl⟩
set_option maxRecDepth 20000 in
theorem tb1100 : (Jvm.Cond.selects "WhoIsThereModel" ({ cls := "WhoIsThereModel", name := "lose", desc := "(II)Z" } : Jvm.MethodName) ({ cls := "WhoIsThereModel", name := "lose", desc := "(II)Z" } : Jvm.MethodName)) ∈ xa_G := List.mem_filter.mpr ⟨List.mem_append_right _ (xa_t5 140 rfl), rfl⟩
set_option maxRecDepth 20000 in
theorem tb1101 : (Jvm.Cond.code ({ cls := "WhoIsThereModel", name := "lose", desc := "(II)Z" } : Jvm.MethodName) prog_10_method_29_code (3 : Nat) (Option.some FieldType.boolean)) ∈ xa_G := List.mem_filter.mpr ⟨List.mem_append_right _ (xa_t5 141 rfl), rfl⟩
set_option maxRecDepth 20000 in
theorem tb1102 : (Jvm.Cond.methodLink "WhoIsThereLaw" (74 : Nat) ({ cls := "WhoIsThereModel", name := "deaf", desc := "(II)Z" } : Jvm.MethodName)) ∈ xa_G := List.mem_filter.mpr ⟨List.mem_append_right _ (xa_t5 142 rfl), rfl⟩
set_option maxRecDepth 20000 in
theorem tb1103 : (Jvm.Cond.instanceMethod ({ cls := "WhoIsThereModel", name := "deaf", desc := "(II)Z" } : Jvm.MethodName)) ∈ xa_G := List.mem_filter.mpr ⟨List.mem_append_right _ (xa_t5 143 rfl), rfl⟩
set_option maxRecDepth 20000 in
theorem tb1104 : (Jvm.Cond.selects "WhoIsThereModel" ({ cls := "WhoIsThereModel", name := "deaf", desc := "(II)Z" } : Jvm.MethodName) ({ cls := "WhoIsThereModel", name := "deaf", desc := "(II)Z" } : Jvm.MethodName)) ∈ xa_G := List.mem_filter.mpr ⟨List.mem_append_right _ (xa_t5 144 rfl), rfl⟩
set_option maxRecDepth 20000 in
theorem tb1105 : (Jvm.Cond.code ({ cls := "WhoIsThereModel", name := "deaf", desc := "(II)Z" } : Jvm.MethodName) prog_10_method_30_code (3 : Nat) (Option.some FieldType.boolean)) ∈ xa_G := List.mem_filter.mpr ⟨List.mem_append_right _ (xa_t5 145 rfl), rfl⟩
set_option maxRecDepth 20000 in
theorem tb1106 : (Jvm.Cond.methodLink "WhoIsThereLaw" (78 : Nat) ({ cls := "WhoIsThereModel", name := "join", desc := "(II)Z" } : Jvm.MethodName)) ∈ xa_G := List.mem_filter.mpr ⟨List.mem_append_right _ (xa_t5 146 rfl), rfl⟩
set_option maxRecDepth 20000 in
theorem tb1107 : (Jvm.Cond.instanceMethod ({ cls := "WhoIsThereModel", name := "join", desc := "(II)Z" } : Jvm.MethodName)) ∈ xa_G := List.mem_filter.mpr ⟨List.mem_append_right _ (xa_t5 147 rfl), rfl⟩
set_option maxRecDepth 20000 in
theorem tb1108 : (Jvm.Cond.selects "WhoIsThereModel" ({ cls := "WhoIsThereModel", name := "join", desc := "(II)Z" } : Jvm.MethodName) ({ cls := "WhoIsThereModel", name := "join", desc := "(II)Z" } : Jvm.MethodName)) ∈ xa_G := List.mem_filter.mpr ⟨List.mem_append_right _ (xa_t5 148 rfl), rfl⟩
set_option maxRecDepth 20000 in
theorem tb1109 : (Jvm.Cond.code ({ cls := "WhoIsThereModel", name := "join", desc := "(II)Z" } : Jvm.MethodName) prog_10_method_31_code (4 : Nat) (Option.some FieldType.boolean)) ∈ xa_G := List.mem_filter.mpr ⟨List.mem_append_right _ (xa_t5 149 rfl), rfl⟩
set_option maxRecDepth 20000 in
theorem tb1110 : (Jvm.Cond.methodLink "WhoIsThereLaw" (83 : Nat) ({ cls := "WhoIsThereModel", name := "tick", desc := "(I)I" } : Jvm.MethodName)) ∈ xa_G := List.mem_filter.mpr ⟨List.mem_append_right _ (xa_t5 150 rfl), rfl⟩
set_option maxRecDepth 20000 in
theorem tb1111 : (Jvm.Cond.instanceMethod ({ cls := "WhoIsThereModel", name := "tick", desc := "(I)I" } : Jvm.MethodName)) ∈ xa_G := List.mem_filter.mpr ⟨List.mem_append_right _ (xa_t5 151 rfl), rfl⟩
set_option maxRecDepth 20000 in
theorem tb1112 : (Jvm.Cond.selects "WhoIsThereModel" ({ cls := "WhoIsThereModel", name := "tick", desc := "(I)I" } : Jvm.MethodName) ({ cls := "WhoIsThereModel", name := "tick", desc := "(I)I" } : Jvm.MethodName)) ∈ xa_G := List.mem_filter.mpr ⟨List.mem_append_right _ (xa_t5 152 rfl), rfl⟩
set_option maxRecDepth 20000 in
theorem tb1113 : (Jvm.Cond.code ({ cls := "WhoIsThereModel", name := "tick", desc := "(I)I" } : Jvm.MethodName) prog_10_method_40_code (3 : Nat) (Option.some FieldType.int)) ∈ xa_G := List.mem_filter.mpr ⟨List.mem_append_right _ (xa_t5 153 rfl), rfl⟩
set_option maxRecDepth 20000 in
theorem tb1114 : (Jvm.Cond.methodLink "WhoIsThereModel" (240 : Nat) ({ cls := "WhoIsThereModel", name := "oneTick", desc := "(I)V" } : Jvm.MethodName)) ∈ xa_G := List.mem_filter.mpr ⟨List.mem_append_right _ (xa_t5 154 rfl), rfl⟩
set_option maxRecDepth 20000 in
theorem tb1116 : (Jvm.Cond.instanceMethod ({ cls := "WhoIsThereModel", name := "oneTick", desc := "(I)V" } : Jvm.MethodName)) ∈ xa_G := List.mem_filter.mpr ⟨List.mem_append_right _ (xa_t5 156 rfl), rfl⟩
set_option maxRecDepth 20000 in
theorem tb1117 : (Jvm.Cond.code ({ cls := "WhoIsThereModel", name := "oneTick", desc := "(I)V" } : Jvm.MethodName) prog_10_method_41_code (4 : Nat) (Option.none : Option FieldType)) ∈ xa_G := List.mem_filter.mpr ⟨List.mem_append_right _ (xa_t5 157 rfl), rfl⟩
set_option maxRecDepth 20000 in
theorem tb1118 : (Jvm.Cond.methodLink "WhoIsThereModel" (243 : Nat) ({ cls := "WhoIsThereModel", name := "writesAll", desc := "(II)V" } : Jvm.MethodName)) ∈ xa_G := List.mem_filter.mpr ⟨List.mem_append_right _ (xa_t5 158 rfl), rfl⟩
set_option maxRecDepth 20000 in
theorem tb1120 : (Jvm.Cond.instanceMethod ({ cls := "WhoIsThereModel", name := "writesAll", desc := "(II)V" } : Jvm.MethodName)) ∈ xa_G := List.mem_filter.mpr ⟨List.mem_append_right _ (xa_t5 160 rfl), rfl⟩
set_option maxRecDepth 20000 in
theorem tb1121 : (Jvm.Cond.code ({ cls := "WhoIsThereModel", name := "writesAll", desc := "(II)V" } : Jvm.MethodName) prog_10_method_42_code (4 : Nat) (Option.none : Option FieldType)) ∈ xa_G := List.mem_filter.mpr ⟨List.mem_append_right _ (xa_t5 161 rfl), rfl⟩
set_option maxRecDepth 20000 in
theorem tb1122 : (Jvm.Cond.methodLink "WhoIsThereModel" (250 : Nat) ({ cls := "WhoIsThereModel", name := "byes", desc := "(I)V" } : Jvm.MethodName)) ∈ xa_G := List.mem_filter.mpr ⟨List.mem_append_right _ (xa_t5 162 rfl), rfl⟩
set_option maxRecDepth 20000 in
theorem tb1124 : (Jvm.Cond.instanceMethod ({ cls := "WhoIsThereModel", name := "byes", desc := "(I)V" } : Jvm.MethodName)) ∈ xa_G := List.mem_filter.mpr ⟨List.mem_append_right _ (xa_t5 164 rfl), rfl⟩
set_option maxRecDepth 20000 in
theorem tb1125 : (Jvm.Cond.code ({ cls := "WhoIsThereModel", name := "byes", desc := "(I)V" } : Jvm.MethodName) prog_10_method_44_code (3 : Nat) (Option.none : Option FieldType)) ∈ xa_G := List.mem_filter.mpr ⟨List.mem_append_right _ (xa_t5 165 rfl), rfl⟩
set_option maxRecDepth 20000 in
theorem tb1126 : (Jvm.Cond.methodLink "WhoIsThereModel" (253 : Nat) ({ cls := "WhoIsThereModel", name := "writes", desc := "(II)V" } : Jvm.MethodName)) ∈ xa_G := List.mem_filter.mpr ⟨List.mem_append_right _ (xa_t5 166 rfl), rfl⟩
set_option maxRecDepth 20000 in
theorem tb1128 : (Jvm.Cond.instanceMethod ({ cls := "WhoIsThereModel", name := "writes", desc := "(II)V" } : Jvm.MethodName)) ∈ xa_G := List.mem_filter.mpr ⟨List.mem_append_right _ (xa_t5 168 rfl), rfl⟩
set_option maxRecDepth 20000 in
theorem tb1129 : (Jvm.Cond.code ({ cls := "WhoIsThereModel", name := "writes", desc := "(II)V" } : Jvm.MethodName) prog_10_method_34_code (3 : Nat) (Option.none : Option FieldType)) ∈ xa_G := List.mem_filter.mpr ⟨List.mem_append_right _ (xa_t5 169 rfl), rfl⟩
set_option maxRecDepth 20000 in
theorem tb1130 : (Jvm.Cond.methodLink "WhoIsThereModel" (228 : Nat) ({ cls := "WhoIsThereModel", name := "isBare", desc := "(I)Z" } : Jvm.MethodName)) ∈ xa_G := List.mem_filter.mpr ⟨List.mem_append_right _ (xa_t5 170 rfl), rfl⟩
set_option maxRecDepth 20000 in
theorem tb1132 : (Jvm.Cond.instanceMethod ({ cls := "WhoIsThereModel", name := "isBare", desc := "(I)Z" } : Jvm.MethodName)) ∈ xa_G := List.mem_filter.mpr ⟨List.mem_append_right _ (xa_t5 172 rfl), rfl⟩
set_option maxRecDepth 20000 in
theorem tb1133 : (Jvm.Cond.code ({ cls := "WhoIsThereModel", name := "isBare", desc := "(I)Z" } : Jvm.MethodName) prog_10_method_33_code (3 : Nat) (Option.some FieldType.boolean)) ∈ xa_G := List.mem_filter.mpr ⟨List.mem_append_right _ (xa_t5 173 rfl), rfl⟩
set_option maxRecDepth 20000 in
theorem tb1134 : (Jvm.Cond.methodLink "WhoIsThereModel" (256 : Nat) ({ cls := "WhoIsThereModel", name := "takesUp", desc := "(III)V" } : Jvm.MethodName)) ∈ xa_G := List.mem_filter.mpr ⟨List.mem_append_right _ (xa_t5 174 rfl), rfl⟩
set_option maxRecDepth 20000 in
theorem tb1136 : (Jvm.Cond.instanceMethod ({ cls := "WhoIsThereModel", name := "takesUp", desc := "(III)V" } : Jvm.MethodName)) ∈ xa_G := List.mem_filter.mpr ⟨List.mem_append_right _ (xa_t5 176 rfl), rfl⟩
set_option maxRecDepth 20000 in
theorem tb1137 : (Jvm.Cond.code ({ cls := "WhoIsThereModel", name := "takesUp", desc := "(III)V" } : Jvm.MethodName) prog_10_method_46_code (8 : Nat) (Option.none : Option FieldType)) ∈ xa_G := List.mem_filter.mpr ⟨List.mem_append_right _ (xa_t5 177 rfl), rfl⟩
set_option maxRecDepth 20000 in
theorem tb1138 : (Jvm.Cond.methodLink "WhoIsThereModel" (260 : Nat) ({ cls := "WhoIsThereModel", name := "asks", desc := "(II)V" } : Jvm.MethodName)) ∈ xa_G := List.mem_filter.mpr ⟨List.mem_append_right _ (xa_t5 178 rfl), rfl⟩
set_option maxRecDepth 20000 in
theorem tb1140 : (Jvm.Cond.instanceMethod ({ cls := "WhoIsThereModel", name := "asks", desc := "(II)V" } : Jvm.MethodName)) ∈ xa_G := List.mem_filter.mpr ⟨List.mem_append_right _ (xa_t5 180 rfl), rfl⟩
set_option maxRecDepth 20000 in
theorem tb1141 : (Jvm.Cond.code ({ cls := "WhoIsThereModel", name := "asks", desc := "(II)V" } : Jvm.MethodName) prog_10_method_43_code (5 : Nat) (Option.none : Option FieldType)) ∈ xa_G := List.mem_filter.mpr ⟨List.mem_append_right _ (xa_t5 181 rfl), rfl⟩
set_option maxRecDepth 20000 in
theorem tb1142 : (Jvm.Cond.methodLink "WhoIsThereModel" (266 : Nat) ({ cls := "WhoIsThereModel", name := "knownTo", desc := "(III)I" } : Jvm.MethodName)) ∈ xa_G := List.mem_filter.mpr ⟨List.mem_append_right _ (xa_t5 182 rfl), rfl⟩
set_option maxRecDepth 20000 in
theorem tb1144 : (Jvm.Cond.instanceMethod ({ cls := "WhoIsThereModel", name := "knownTo", desc := "(III)I" } : Jvm.MethodName)) ∈ xa_G := List.mem_filter.mpr ⟨List.mem_append_right _ (xa_t5 184 rfl), rfl⟩
set_option maxRecDepth 20000 in
theorem tb1145 : (Jvm.Cond.code ({ cls := "WhoIsThereModel", name := "knownTo", desc := "(III)I" } : Jvm.MethodName) prog_10_method_37_code (7 : Nat) (Option.some FieldType.int)) ∈ xa_G := List.mem_filter.mpr ⟨List.mem_append_right _ (xa_t5 185 rfl), rfl⟩
set_option maxRecDepth 20000 in
theorem tb1146 : (Jvm.Cond.methodLink "WhoIsThereModel" (263 : Nat) ({ cls := "WhoIsThereModel", name := "tells", desc := "(II)V" } : Jvm.MethodName)) ∈ xa_G := List.mem_filter.mpr ⟨List.mem_append_right _ (xa_t5 186 rfl), rfl⟩
set_option maxRecDepth 20000 in
theorem tb1148 : (Jvm.Cond.instanceMethod ({ cls := "WhoIsThereModel", name := "tells", desc := "(II)V" } : Jvm.MethodName)) ∈ xa_G := List.mem_filter.mpr ⟨List.mem_append_right _ (xa_t5 188 rfl), rfl⟩
set_option maxRecDepth 20000 in
theorem tb1149 : (Jvm.Cond.code ({ cls := "WhoIsThereModel", name := "tells", desc := "(II)V" } : Jvm.MethodName) prog_10_method_45_code (7 : Nat) (Option.none : Option FieldType)) ∈ xa_G := List.mem_filter.mpr ⟨List.mem_append_right _ (xa_t5 189 rfl), rfl⟩
set_option maxRecDepth 20000 in
theorem tb1150 : (Jvm.Cond.methodLink "WhoIsThereModel" (270 : Nat) ({ cls := "WhoIsThereModel", name := "speaksFor", desc := "(II)Z" } : Jvm.MethodName)) ∈ xa_G := List.mem_filter.mpr ⟨List.mem_append_right _ (xa_t5 190 rfl), rfl⟩
set_option maxRecDepth 20000 in
theorem tb1152 : (Jvm.Cond.instanceMethod ({ cls := "WhoIsThereModel", name := "speaksFor", desc := "(II)Z" } : Jvm.MethodName)) ∈ xa_G := List.mem_filter.mpr ⟨List.mem_append_right _ (xa_t5 192 rfl), rfl⟩
set_option maxRecDepth 20000 in
theorem tb1153 : (Jvm.Cond.code ({ cls := "WhoIsThereModel", name := "speaksFor", desc := "(II)Z" } : Jvm.MethodName) prog_10_method_35_code (4 : Nat) (Option.some FieldType.boolean)) ∈ xa_G := List.mem_filter.mpr ⟨List.mem_append_right _ (xa_t5 193 rfl), rfl⟩
set_option maxRecDepth 20000 in
theorem tb1154 : (Jvm.Cond.methodLink "WhoIsThereModel" (247 : Nat) ({ cls := "WhoIsThereModel", name := "isHeard", desc := "(II)V" } : Jvm.MethodName)) ∈ xa_G := List.mem_filter.mpr ⟨List.mem_append_right _ (xa_t5 194 rfl), rfl⟩
set_option maxRecDepth 20000 in
theorem tb1156 : (Jvm.Cond.instanceMethod ({ cls := "WhoIsThereModel", name := "isHeard", desc := "(II)V" } : Jvm.MethodName)) ∈ xa_G := List.mem_filter.mpr ⟨List.mem_append_right _ (xa_t5 196 rfl), rfl⟩
set_option maxRecDepth 20000 in
theorem tb1157 : (Jvm.Cond.code ({ cls := "WhoIsThereModel", name := "isHeard", desc := "(II)V" } : Jvm.MethodName) prog_10_method_47_code (5 : Nat) (Option.none : Option FieldType)) ∈ xa_G := List.mem_filter.mpr ⟨List.mem_append_right _ (xa_t5 197 rfl), rfl⟩
set_option maxRecDepth 20000 in
theorem tb1158 : (Jvm.Cond.methodLink "WhoIsThereModel" (277 : Nat) ({ cls := "WhoIsThereModel", name := "carries", desc := "(II)V" } : Jvm.MethodName)) ∈ xa_G := List.mem_filter.mpr ⟨List.mem_append_right _ (xa_t5 198 rfl), rfl⟩
set_option maxRecDepth 20000 in
theorem tb1160 : (Jvm.Cond.instanceMethod ({ cls := "WhoIsThereModel", name := "carries", desc := "(II)V" } : Jvm.MethodName)) ∈ xa_G := List.mem_filter.mpr ⟨List.mem_append_right _ (xa_t5 200 rfl), rfl⟩
set_option maxRecDepth 20000 in
theorem tb1161 : (Jvm.Cond.code ({ cls := "WhoIsThereModel", name := "carries", desc := "(II)V" } : Jvm.MethodName) prog_10_method_49_code (9 : Nat) (Option.none : Option FieldType)) ∈ xa_G := List.mem_filter.mpr ⟨List.mem_append_right _ (xa_t5 201 rfl), rfl⟩
set_option maxRecDepth 20000 in
theorem tb1162 : (Jvm.Cond.methodLink "WhoIsThereModel" (283 : Nat) ({ cls := "WhoIsThereModel", name := "isCarried", desc := "(IIII)Z" } : Jvm.MethodName)) ∈ xa_G := List.mem_filter.mpr ⟨List.mem_append_right _ (xa_t5 202 rfl), rfl⟩
set_option maxRecDepth 20000 in
theorem tb1164 : (Jvm.Cond.instanceMethod ({ cls := "WhoIsThereModel", name := "isCarried", desc := "(IIII)Z" } : Jvm.MethodName)) ∈ xa_G := List.mem_filter.mpr ⟨List.mem_append_right _ (xa_t5 204 rfl), rfl⟩
set_option maxRecDepth 20000 in
theorem tb1165 : (Jvm.Cond.code ({ cls := "WhoIsThereModel", name := "isCarried", desc := "(IIII)Z" } : Jvm.MethodName) prog_10_method_48_code (5 : Nat) (Option.some FieldType.boolean)) ∈ xa_G := List.mem_filter.mpr ⟨List.mem_append_right _ (xa_t5 205 rfl), rfl⟩
set_option maxRecDepth 20000 in
theorem tb1166 : (Jvm.Cond.methodLink "WhoIsThereModel" (280 : Nat) ({ cls := "WhoIsThereModel", name := "hears", desc := "(III)V" } : Jvm.MethodName)) ∈ xa_G := List.mem_filter.mpr ⟨List.mem_append_right _ (xa_t5 206 rfl), rfl⟩
set_option maxRecDepth 20000 in
theorem tb1168 : (Jvm.Cond.instanceMethod ({ cls := "WhoIsThereModel", name := "hears", desc := "(III)V" } : Jvm.MethodName)) ∈ xa_G := List.mem_filter.mpr ⟨List.mem_append_right _ (xa_t5 208 rfl), rfl⟩
set_option maxRecDepth 20000 in
theorem tb1169 : (Jvm.Cond.code ({ cls := "WhoIsThereModel", name := "hears", desc := "(III)V" } : Jvm.MethodName) prog_10_method_50_code (5 : Nat) (Option.none : Option FieldType)) ∈ xa_G := List.mem_filter.mpr ⟨List.mem_append_right _ (xa_t5 209 rfl), rfl⟩
set_option maxRecDepth 20000 in
theorem tb1170 : (Jvm.Cond.methodLink "WhoIsThereModel" (289 : Nat) ({ cls := "WhoIsThereModel", name := "hearsAsk", desc := "(IIII)V" } : Jvm.MethodName)) ∈ xa_G := List.mem_filter.mpr ⟨List.mem_append_right _ (xa_t5 210 rfl), rfl⟩
set_option maxRecDepth 20000 in
theorem tb1172 : (Jvm.Cond.instanceMethod ({ cls := "WhoIsThereModel", name := "hearsAsk", desc := "(IIII)V" } : Jvm.MethodName)) ∈ xa_G := List.mem_filter.mpr ⟨List.mem_append_right _ (xa_t5 212 rfl), rfl⟩
set_option maxRecDepth 20000 in
theorem tb1173 : (Jvm.Cond.code ({ cls := "WhoIsThereModel", name := "hearsAsk", desc := "(IIII)V" } : Jvm.MethodName) prog_10_method_52_code (12 : Nat) (Option.none : Option FieldType)) ∈ xa_G := List.mem_filter.mpr ⟨List.mem_append_right _ (xa_t5 213 rfl), rfl⟩
set_option maxRecDepth 20000 in
theorem tb1174 : (Jvm.Cond.methodLink "WhoIsThereModel" (299 : Nat) ({ cls := "WhoIsThereModel", name := "keeperOn", desc := "(II)I" } : Jvm.MethodName)) ∈ xa_G := List.mem_filter.mpr ⟨List.mem_append_right _ (xa_t5 214 rfl), rfl⟩
set_option maxRecDepth 20000 in
theorem tb1176 : (Jvm.Cond.instanceMethod ({ cls := "WhoIsThereModel", name := "keeperOn", desc := "(II)I" } : Jvm.MethodName)) ∈ xa_G := List.mem_filter.mpr ⟨List.mem_append_right _ (xa_t5 216 rfl), rfl⟩
set_option maxRecDepth 20000 in
theorem tb1177 : (Jvm.Cond.code ({ cls := "WhoIsThereModel", name := "keeperOn", desc := "(II)I" } : Jvm.MethodName) prog_10_method_51_code (4 : Nat) (Option.some FieldType.int)) ∈ xa_G := List.mem_filter.mpr ⟨List.mem_append_right _ (xa_t5 217 rfl), rfl⟩
set_option maxRecDepth 20000 in
theorem tb1178 : (Jvm.Cond.methodLink "WhoIsThereModel" (302 : Nat) ({ cls := "WhoIsThereModel", name := "isDue", desc := "(III)V" } : Jvm.MethodName)) ∈ xa_G := List.mem_filter.mpr ⟨List.mem_append_right _ (xa_t5 218 rfl), rfl⟩
set_option maxRecDepth 20000 in
theorem tb1180 : (Jvm.Cond.instanceMethod ({ cls := "WhoIsThereModel", name := "isDue", desc := "(III)V" } : Jvm.MethodName)) ∈ xa_G := List.mem_filter.mpr ⟨List.mem_append_right _ (xa_t5 220 rfl), rfl⟩
set_option maxRecDepth 20000 in
theorem tb1181 : (Jvm.Cond.code ({ cls := "WhoIsThereModel", name := "isDue", desc := "(III)V" } : Jvm.MethodName) prog_10_method_38_code (5 : Nat) (Option.none : Option FieldType)) ∈ xa_G := List.mem_filter.mpr ⟨List.mem_append_right _ (xa_t5 221 rfl), rfl⟩
set_option maxRecDepth 20000 in
theorem tb1182 : (Jvm.Cond.methodLink "WhoIsThereModel" (293 : Nat) ({ cls := "WhoIsThereModel", name := "hearsClaim", desc := "(IIII)V" } : Jvm.MethodName)) ∈ xa_G := List.mem_filter.mpr ⟨List.mem_append_right _ (xa_t5 222 rfl), rfl⟩
set_option maxRecDepth 20000 in
theorem tb1184 : (Jvm.Cond.instanceMethod ({ cls := "WhoIsThereModel", name := "hearsClaim", desc := "(IIII)V" } : Jvm.MethodName)) ∈ xa_G := List.mem_filter.mpr ⟨List.mem_append_right _ (xa_t5 224 rfl), rfl⟩
set_option maxRecDepth 20000 in
theorem tb1185 : (Jvm.Cond.code ({ cls := "WhoIsThereModel", name := "hearsClaim", desc := "(IIII)V" } : Jvm.MethodName) prog_10_method_53_code (6 : Nat) (Option.none : Option FieldType)) ∈ xa_G := List.mem_filter.mpr ⟨List.mem_append_right _ (xa_t5 225 rfl), rfl⟩
set_option maxRecDepth 20000 in
theorem tb1186 : (Jvm.Cond.methodLink "WhoIsThereModel" (305 : Nat) ({ cls := "WhoIsThereModel", name := "isStronger", desc := "(II)Z" } : Jvm.MethodName)) ∈ xa_G := List.mem_filter.mpr ⟨List.mem_append_right _ (xa_t5 226 rfl), rfl⟩
set_option maxRecDepth 20000 in
theorem tb1188 : (Jvm.Cond.instanceMethod ({ cls := "WhoIsThereModel", name := "isStronger", desc := "(II)Z" } : Jvm.MethodName)) ∈ xa_G := List.mem_filter.mpr ⟨List.mem_append_right _ (xa_t5 228 rfl), rfl⟩
set_option maxRecDepth 20000 in
theorem tb1189 : (Jvm.Cond.code ({ cls := "WhoIsThereModel", name := "isStronger", desc := "(II)Z" } : Jvm.MethodName) prog_10_method_36_code (5 : Nat) (Option.some FieldType.boolean)) ∈ xa_G := List.mem_filter.mpr ⟨List.mem_append_right _ (xa_t5 229 rfl), rfl⟩
set_option maxRecDepth 20000 in
theorem tb1190 : (Jvm.Cond.methodLink "WhoIsThereModel" (308 : Nat) ({ cls := "WhoIsThereModel", name := "yieldsName", desc := "(I)V" } : Jvm.MethodName)) ∈ xa_G := List.mem_filter.mpr ⟨List.mem_append_right _ (xa_t5 230 rfl), rfl⟩
set_option maxRecDepth 20000 in
theorem tb1192 : (Jvm.Cond.instanceMethod ({ cls := "WhoIsThereModel", name := "yieldsName", desc := "(I)V" } : Jvm.MethodName)) ∈ xa_G := List.mem_filter.mpr ⟨List.mem_append_right _ (xa_t5 232 rfl), rfl⟩
set_option maxRecDepth 20000 in
theorem tb1193 : (Jvm.Cond.code ({ cls := "WhoIsThereModel", name := "yieldsName", desc := "(I)V" } : Jvm.MethodName) prog_10_method_39_code (6 : Nat) (Option.none : Option FieldType)) ∈ xa_G := List.mem_filter.mpr ⟨List.mem_append_right _ (xa_t5 233 rfl), rfl⟩
set_option maxRecDepth 20000 in
theorem tb1194 : (Jvm.Cond.methodLink "WhoIsThereModel" (296 : Nat) ({ cls := "WhoIsThereModel", name := "hearsTelling", desc := "(IIII)V" } : Jvm.MethodName)) ∈ xa_G := List.mem_filter.mpr ⟨List.mem_append_right _ (xa_t5 234 rfl), rfl⟩
set_option maxRecDepth 20000 in
theorem tb1196 : (Jvm.Cond.instanceMethod ({ cls := "WhoIsThereModel", name := "hearsTelling", desc := "(IIII)V" } : Jvm.MethodName)) ∈ xa_G := List.mem_filter.mpr ⟨List.mem_append_right _ (xa_t5 236 rfl), rfl⟩
set_option maxRecDepth 20000 in
theorem tb1197 : (Jvm.Cond.code ({ cls := "WhoIsThereModel", name := "hearsTelling", desc := "(IIII)V" } : Jvm.MethodName) prog_10_method_54_code (10 : Nat) (Option.none : Option FieldType)) ∈ xa_G := List.mem_filter.mpr ⟨List.mem_append_right _ (xa_t5 237 rfl), rfl⟩
set_option maxRecDepth 20000 in
theorem tb1198 : (Jvm.Cond.methodLink "WhoIsThereLaw" (87 : Nat) ({ cls := "WhoIsThereModel", name := "find", desc := "(IIII)I" } : Jvm.MethodName)) ∈ xa_G := List.mem_filter.mpr ⟨List.mem_append_right _ (xa_t5 238 rfl), rfl⟩
set_option maxRecDepth 20000 in
theorem tb1199 : (Jvm.Cond.instanceMethod ({ cls := "WhoIsThereModel", name := "find", desc := "(IIII)I" } : Jvm.MethodName)) ∈ xa_G := List.mem_filter.mpr ⟨List.mem_append_right _ (xa_t5 239 rfl), rfl⟩
set_option maxRecDepth 20000 in
theorem tb1200 : (Jvm.Cond.selects "WhoIsThereModel" ({ cls := "WhoIsThereModel", name := "find", desc := "(IIII)I" } : Jvm.MethodName) ({ cls := "WhoIsThereModel", name := "find", desc := "(IIII)I" } : Jvm.MethodName)) ∈ xa_G := List.mem_filter.mpr ⟨List.mem_append_right _ (xa_t6 0 rfl), rfl⟩
set_option maxRecDepth 20000 in
theorem tb1201 : (Jvm.Cond.code ({ cls := "WhoIsThereModel", name := "find", desc := "(IIII)I" } : Jvm.MethodName) prog_10_method_55_code (9 : Nat) (Option.some FieldType.int)) ∈ xa_G := List.mem_filter.mpr ⟨List.mem_append_right _ (xa_t6 1 rfl), rfl⟩
set_option maxRecDepth 20000 in
theorem tb1202 : (Jvm.Cond.methodLink "WhoIsThereLaw" (92 : Nat) ({ cls := "WhoIsThereModel", name := "record", desc := "(III)I" } : Jvm.MethodName)) ∈ xa_G := List.mem_filter.mpr ⟨List.mem_append_right _ (xa_t6 2 rfl), rfl⟩
set_option maxRecDepth 20000 in
theorem tb1203 : (Jvm.Cond.instanceMethod ({ cls := "WhoIsThereModel", name := "record", desc := "(III)I" } : Jvm.MethodName)) ∈ xa_G := List.mem_filter.mpr ⟨List.mem_append_right _ (xa_t6 3 rfl), rfl⟩
set_option maxRecDepth 20000 in
theorem tb1204 : (Jvm.Cond.selects "WhoIsThereModel" ({ cls := "WhoIsThereModel", name := "record", desc := "(III)I" } : Jvm.MethodName) ({ cls := "WhoIsThereModel", name := "record", desc := "(III)I" } : Jvm.MethodName)) ∈ xa_G := List.mem_filter.mpr ⟨List.mem_append_right _ (xa_t6 4 rfl), rfl⟩
set_option maxRecDepth 20000 in
theorem tb1205 : (Jvm.Cond.code ({ cls := "WhoIsThereModel", name := "record", desc := "(III)I" } : Jvm.MethodName) prog_10_method_56_code (5 : Nat) (Option.some FieldType.int)) ∈ xa_G := List.mem_filter.mpr ⟨List.mem_append_right _ (xa_t6 5 rfl), rfl⟩
set_option maxRecDepth 20000 in
theorem tb1206 : (Jvm.Cond.methodLink "WhoIsThereLaw" (97 : Nat) ({ cls := "WhoIsThereModel", name := "service", desc := "(II)I" } : Jvm.MethodName)) ∈ xa_G := List.mem_filter.mpr ⟨List.mem_append_right _ (xa_t6 6 rfl), rfl⟩
set_option maxRecDepth 20000 in
theorem tb1207 : (Jvm.Cond.instanceMethod ({ cls := "WhoIsThereModel", name := "service", desc := "(II)I" } : Jvm.MethodName)) ∈ xa_G := List.mem_filter.mpr ⟨List.mem_append_right _ (xa_t6 7 rfl), rfl⟩
set_option maxRecDepth 20000 in
theorem tb1208 : (Jvm.Cond.selects "WhoIsThereModel" ({ cls := "WhoIsThereModel", name := "service", desc := "(II)I" } : Jvm.MethodName) ({ cls := "WhoIsThereModel", name := "service", desc := "(II)I" } : Jvm.MethodName)) ∈ xa_G := List.mem_filter.mpr ⟨List.mem_append_right _ (xa_t6 8 rfl), rfl⟩
set_option maxRecDepth 20000 in
theorem tb1209 : (Jvm.Cond.code ({ cls := "WhoIsThereModel", name := "service", desc := "(II)I" } : Jvm.MethodName) prog_10_method_57_code (3 : Nat) (Option.some FieldType.int)) ∈ xa_G := List.mem_filter.mpr ⟨List.mem_append_right _ (xa_t6 9 rfl), rfl⟩
set_option maxRecDepth 20000 in
theorem tb1210 : (Jvm.Cond.methodLink "WhoIsThereLaw" (101 : Nat) ({ cls := "WhoIsThereModel", name := "look", desc := "(II)I" } : Jvm.MethodName)) ∈ xa_G := List.mem_filter.mpr ⟨List.mem_append_right _ (xa_t6 10 rfl), rfl⟩
set_option maxRecDepth 20000 in
theorem tb1211 : (Jvm.Cond.instanceMethod ({ cls := "WhoIsThereModel", name := "look", desc := "(II)I" } : Jvm.MethodName)) ∈ xa_G := List.mem_filter.mpr ⟨List.mem_append_right _ (xa_t6 11 rfl), rfl⟩
set_option maxRecDepth 20000 in
theorem tb1212 : (Jvm.Cond.selects "WhoIsThereModel" ({ cls := "WhoIsThereModel", name := "look", desc := "(II)I" } : Jvm.MethodName) ({ cls := "WhoIsThereModel", name := "look", desc := "(II)I" } : Jvm.MethodName)) ∈ xa_G := List.mem_filter.mpr ⟨List.mem_append_right _ (xa_t6 12 rfl), rfl⟩
set_option maxRecDepth 20000 in
theorem tb1213 : (Jvm.Cond.code ({ cls := "WhoIsThereModel", name := "look", desc := "(II)I" } : Jvm.MethodName) prog_10_method_58_code (5 : Nat) (Option.some FieldType.int)) ∈ xa_G := List.mem_filter.mpr ⟨List.mem_append_right _ (xa_t6 13 rfl), rfl⟩
set_option maxRecDepth 20000 in
theorem tb1214 : (Jvm.Cond.methodLink "WhoIsThereLaw" (105 : Nat) ({ cls := "WhoIsThereModel", name := "reach", desc := "(II)I" } : Jvm.MethodName)) ∈ xa_G := List.mem_filter.mpr ⟨List.mem_append_right _ (xa_t6 14 rfl), rfl⟩
set_option maxRecDepth 20000 in
theorem tb1215 : (Jvm.Cond.instanceMethod ({ cls := "WhoIsThereModel", name := "reach", desc := "(II)I" } : Jvm.MethodName)) ∈ xa_G := List.mem_filter.mpr ⟨List.mem_append_right _ (xa_t6 15 rfl), rfl⟩
set_option maxRecDepth 20000 in
theorem tb1216 : (Jvm.Cond.selects "WhoIsThereModel" ({ cls := "WhoIsThereModel", name := "reach", desc := "(II)I" } : Jvm.MethodName) ({ cls := "WhoIsThereModel", name := "reach", desc := "(II)I" } : Jvm.MethodName)) ∈ xa_G := List.mem_filter.mpr ⟨List.mem_append_right _ (xa_t6 16 rfl), rfl⟩
set_option maxRecDepth 20000 in
theorem tb1217 : (Jvm.Cond.code ({ cls := "WhoIsThereModel", name := "reach", desc := "(II)I" } : Jvm.MethodName) prog_10_method_59_code (4 : Nat) (Option.some FieldType.int)) ∈ xa_G := List.mem_filter.mpr ⟨List.mem_append_right _ (xa_t6 17 rfl), rfl⟩
set_option maxRecDepth 20000 in
theorem tb1218 : (Jvm.Cond.methodLink "WhoIsThereLaw" (109 : Nat) ({ cls := "WhoIsThereModel", name := "twice", desc := "(I)I" } : Jvm.MethodName)) ∈ xa_G := List.mem_filter.mpr ⟨List.mem_append_right _ (xa_t6 18 rfl), rfl⟩
set_option maxRecDepth 20000 in
theorem tb1219 : (Jvm.Cond.instanceMethod ({ cls := "WhoIsThereModel", name := "twice", desc := "(I)I" } : Jvm.MethodName)) ∈ xa_G := List.mem_filter.mpr ⟨List.mem_append_right _ (xa_t6 19 rfl), rfl⟩
set_option maxRecDepth 20000 in
theorem tb1220 : (Jvm.Cond.selects "WhoIsThereModel" ({ cls := "WhoIsThereModel", name := "twice", desc := "(I)I" } : Jvm.MethodName) ({ cls := "WhoIsThereModel", name := "twice", desc := "(I)I" } : Jvm.MethodName)) ∈ xa_G := List.mem_filter.mpr ⟨List.mem_append_right _ (xa_t6 20 rfl), rfl⟩
set_option maxRecDepth 20000 in
theorem tb1221 : (Jvm.Cond.code ({ cls := "WhoIsThereModel", name := "twice", desc := "(I)I" } : Jvm.MethodName) prog_10_method_61_code (5 : Nat) (Option.some FieldType.int)) ∈ xa_G := List.mem_filter.mpr ⟨List.mem_append_right _ (xa_t6 21 rfl), rfl⟩
set_option maxRecDepth 20000 in
theorem tb1222 : (Jvm.Cond.methodLink "WhoIsThereModel" (317 : Nat) ({ cls := "WhoIsThereModel", name := "isSpoken", desc := "(II)Z" } : Jvm.MethodName)) ∈ xa_G := List.mem_filter.mpr ⟨List.mem_append_right _ (xa_t6 22 rfl), rfl⟩
set_option maxRecDepth 20000 in
theorem tb1224 : (Jvm.Cond.instanceMethod ({ cls := "WhoIsThereModel", name := "isSpoken", desc := "(II)Z" } : Jvm.MethodName)) ∈ xa_G := List.mem_filter.mpr ⟨List.mem_append_right _ (xa_t6 24 rfl), rfl⟩
set_option maxRecDepth 20000 in
theorem tb1225 : (Jvm.Cond.code ({ cls := "WhoIsThereModel", name := "isSpoken", desc := "(II)Z" } : Jvm.MethodName) prog_10_method_60_code (4 : Nat) (Option.some FieldType.boolean)) ∈ xa_G := List.mem_filter.mpr ⟨List.mem_append_right _ (xa_t6 25 rfl), rfl⟩
set_option maxRecDepth 20000 in
theorem tb1226 : (Jvm.Cond.methodLink "WhoIsThereLaw" (113 : Nat) ({ cls := "WhoIsThereModel", name := "count", desc := "(I)I" } : Jvm.MethodName)) ∈ xa_G := List.mem_filter.mpr ⟨List.mem_append_right _ (xa_t6 26 rfl), rfl⟩
set_option maxRecDepth 20000 in
theorem tb1227 : (Jvm.Cond.instanceMethod ({ cls := "WhoIsThereModel", name := "count", desc := "(I)I" } : Jvm.MethodName)) ∈ xa_G := List.mem_filter.mpr ⟨List.mem_append_right _ (xa_t6 27 rfl), rfl⟩
set_option maxRecDepth 20000 in
theorem tb1228 : (Jvm.Cond.selects "WhoIsThereModel" ({ cls := "WhoIsThereModel", name := "count", desc := "(I)I" } : Jvm.MethodName) ({ cls := "WhoIsThereModel", name := "count", desc := "(I)I" } : Jvm.MethodName)) ∈ xa_G := List.mem_filter.mpr ⟨List.mem_append_right _ (xa_t6 28 rfl), rfl⟩
set_option maxRecDepth 20000 in
theorem tb1229 : (Jvm.Cond.code ({ cls := "WhoIsThereModel", name := "count", desc := "(I)I" } : Jvm.MethodName) prog_10_method_62_code (2 : Nat) (Option.some FieldType.int)) ∈ xa_G := List.mem_filter.mpr ⟨List.mem_append_right _ (xa_t6 29 rfl), rfl⟩
set_option maxRecDepth 20000 in
theorem lfX7_11 : xa_FL RX7 11 7 0 := ⟨_, _, _, rfl, rfl, inX7, by decide, tb23⟩
set_option maxRecDepth 20000 in
theorem lpX7_11 : xa_FF RX7 11 7 0 (.array (.object "WhoIsThere$Host")) := ⟨_, _, _, tyX7, rfl, rfl, inX7, by decide, tb23, tyX7_ok, nmX7, rfl, rfl, by decide +kernel⟩
set_option maxRecDepth 20000 in
theorem lfX7_17 : xa_FL RX7 17 7 1 := ⟨_, _, _, rfl, rfl, inX7, by decide, tb24⟩
set_option maxRecDepth 20000 in
theorem lpX7_17 : xa_FF RX7 17 7 1 (.array (.object "WhoIsThere$Service")) := ⟨_, _, _, tyX7, rfl, rfl, inX7, by decide, tb24, tyX7_ok, nmX7, rfl, rfl, by decide +kernel⟩
set_option maxRecDepth 20000 in
theorem lfX7_25 : xa_FL RX7 25 7 2 := ⟨_, _, _, rfl, rfl, inX7, by decide, tb25⟩
set_option maxRecDepth 20000 in
theorem lpX7_25 : xa_FP RX7 25 7 2 .int := ⟨_, _, _, tyX7, rfl, rfl, inX7, by decide, tb25, tyX7_ok, nmX7, rfl, by decide +kernel⟩
set_option maxRecDepth 20000 in
theorem lfX7_32 : xa_FL RX7 32 3 0 := ⟨_, _, _, rfl, rfl, inX3, by decide, tb195⟩
set_option maxRecDepth 20000 in
theorem lfX7_56 : xa_FL RX7 56 5 6 := ⟨_, _, _, rfl, rfl, inX5, by decide, tb311⟩
set_option maxRecDepth 20000 in
theorem lpX7_56 : xa_FP RX7 56 5 6 .int := ⟨_, _, _, tyX5, rfl, rfl, inX5, by decide, tb311, tyX5_ok, nmX5, rfl, by decide +kernel⟩
set_option maxRecDepth 20000 in
theorem lfX7_59 : xa_FL RX7 59 5 7 := ⟨_, _, _, rfl, rfl, inX5, by decide, tb313⟩
set_option maxRecDepth 20000 in
theorem lpX7_59 : xa_FP RX7 59 5 7 .int := ⟨_, _, _, tyX5, rfl, rfl, inX5, by decide, tb313, tyX5_ok, nmX5, rfl, by decide +kernel⟩
set_option maxRecDepth 20000 in
theorem lfX7_62 : xa_FL RX7 62 7 4 := ⟨_, _, _, rfl, rfl, inX7, by decide, tb27⟩
set_option maxRecDepth 20000 in
theorem lpX7_62 : xa_FP RX7 62 7 4 .int := ⟨_, _, _, tyX7, rfl, rfl, inX7, by decide, tb27, tyX7_ok, nmX7, rfl, by decide +kernel⟩
set_option maxRecDepth 20000 in
theorem lfX7_65 : xa_FL RX7 65 5 9 := ⟨_, _, _, rfl, rfl, inX5, by decide, tb317⟩
set_option maxRecDepth 20000 in
theorem lpX7_65 : xa_FP RX7 65 5 9 .int := ⟨_, _, _, tyX5, rfl, rfl, inX5, by decide, tb317, tyX5_ok, nmX5, rfl, by decide +kernel⟩
set_option maxRecDepth 20000 in
theorem lfX7_71 : xa_FL RX7 71 3 5 := ⟨_, _, _, rfl, rfl, inX3, by decide, tb205⟩
set_option maxRecDepth 20000 in
theorem lfX7_88 : xa_FL RX7 88 3 7 := ⟨_, _, _, rfl, rfl, inX3, by decide, tb209⟩
set_option maxRecDepth 20000 in
theorem lpX7_88 : xa_FP RX7 88 3 7 .int := ⟨_, _, _, tyX3, rfl, rfl, inX3, by decide, tb209, tyX3_ok, nmX3, rfl, by decide +kernel⟩
set_option maxRecDepth 20000 in
theorem lfX7_91 : xa_FL RX7 91 3 9 := ⟨_, _, _, rfl, rfl, inX3, by decide, tb213⟩
set_option maxRecDepth 20000 in
theorem lpX7_91 : xa_FP RX7 91 3 9 .boolean := ⟨_, _, _, tyX3, rfl, rfl, inX3, by decide, tb213, tyX3_ok, nmX3, rfl, by decide +kernel⟩
set_option maxRecDepth 20000 in
theorem lfX7_95 : xa_FL RX7 95 3 8 := ⟨_, _, _, rfl, rfl, inX3, by decide, tb211⟩
set_option maxRecDepth 20000 in
theorem lpX7_95 : xa_FP RX7 95 3 8 .int := ⟨_, _, _, tyX3, rfl, rfl, inX3, by decide, tb211, tyX3_ok, nmX3, rfl, by decide +kernel⟩
set_option maxRecDepth 20000 in
theorem lfX7_96 : xa_FL RX7 96 3 10 := ⟨_, _, _, rfl, rfl, inX3, by decide, tb214⟩
set_option maxRecDepth 20000 in
theorem lpX7_96 : xa_FP RX7 96 3 10 (.object "WhoIsThere$Host") := ⟨_, _, _, tyX3, rfl, rfl, inX3, by decide, tb214, tyX3_ok, nmX3, rfl, by decide +kernel⟩
set_option maxRecDepth 20000 in
theorem lfX7_103 : xa_FL RX7 103 7 3 := ⟨_, _, _, rfl, rfl, inX7, by decide, tb26⟩
set_option maxRecDepth 20000 in
theorem lpX7_103 : xa_FP RX7 103 7 3 .int := ⟨_, _, _, tyX7, rfl, rfl, inX7, by decide, tb26, tyX7_ok, nmX7, rfl, by decide +kernel⟩
set_option maxRecDepth 20000 in
theorem lfX7_106 : xa_FL RX7 106 5 1 := ⟨_, _, _, rfl, rfl, inX5, by decide, tb301⟩
set_option maxRecDepth 20000 in
theorem lfX7_109 : xa_FL RX7 109 5 10 := ⟨_, _, _, rfl, rfl, inX5, by decide, tb319⟩
set_option maxRecDepth 20000 in
theorem lpX7_109 : xa_FP RX7 109 5 10 .boolean := ⟨_, _, _, tyX5, rfl, rfl, inX5, by decide, tb319, tyX5_ok, nmX5, rfl, by decide +kernel⟩
set_option maxRecDepth 20000 in
theorem lfX7_134 : xa_FL RX7 134 3 4 := ⟨_, _, _, rfl, rfl, inX3, by decide, tb203⟩
set_option maxRecDepth 20000 in
theorem lfX7_143 : xa_FL RX7 143 3 6 := ⟨_, _, _, rfl, rfl, inX3, by decide, tb207⟩
set_option maxRecDepth 20000 in
theorem lfX7_155 : xa_FL RX7 155 3 11 := ⟨_, _, _, rfl, rfl, inX3, by decide, tb216⟩
set_option maxRecDepth 20000 in
theorem lpX7_155 : xa_FP RX7 155 3 11 (.object "WhoIsThere$Bridge") := ⟨_, _, _, tyX3, rfl, rfl, inX3, by decide, tb216, tyX3_ok, nmX3, rfl, by decide +kernel⟩
set_option maxRecDepth 20000 in
theorem lfX7_159 : xa_FL RX7 159 3 12 := ⟨_, _, _, rfl, rfl, inX3, by decide, tb217⟩
set_option maxRecDepth 20000 in
theorem lpX7_159 : xa_FP RX7 159 3 12 .int := ⟨_, _, _, tyX3, rfl, rfl, inX3, by decide, tb217, tyX3_ok, nmX3, rfl, by decide +kernel⟩
set_option maxRecDepth 20000 in
theorem lfX7_162 : xa_FL RX7 162 3 13 := ⟨_, _, _, rfl, rfl, inX3, by decide, tb218⟩
set_option maxRecDepth 20000 in
theorem lpX7_162 : xa_FP RX7 162 3 13 .int := ⟨_, _, _, tyX3, rfl, rfl, inX3, by decide, tb218, tyX3_ok, nmX3, rfl, by decide +kernel⟩
set_option maxRecDepth 20000 in
theorem lfX7_184 : xa_FL RX7 184 6 0 := ⟨_, _, _, rfl, rfl, inX6, by decide, tb82⟩
set_option maxRecDepth 20000 in
theorem lfX7_192 : xa_FL RX7 192 6 1 := ⟨_, _, _, rfl, rfl, inX6, by decide, tb84⟩
set_option maxRecDepth 20000 in
theorem lfX7_198 : xa_FL RX7 198 6 2 := ⟨_, _, _, rfl, rfl, inX6, by decide, tb86⟩
set_option maxRecDepth 20000 in
theorem lfX7_201 : xa_FL RX7 201 5 5 := ⟨_, _, _, rfl, rfl, inX5, by decide, tb309⟩
set_option maxRecDepth 20000 in
theorem lpX7_201 : xa_FP RX7 201 5 5 .int := ⟨_, _, _, tyX5, rfl, rfl, inX5, by decide, tb309, tyX5_ok, nmX5, rfl, by decide +kernel⟩
set_option maxRecDepth 20000 in
theorem lfX7_203 : xa_FL RX7 203 5 8 := ⟨_, _, _, rfl, rfl, inX5, by decide, tb315⟩
set_option maxRecDepth 20000 in
theorem lpX7_203 : xa_FP RX7 203 5 8 .int := ⟨_, _, _, tyX5, rfl, rfl, inX5, by decide, tb315, tyX5_ok, nmX5, rfl, by decide +kernel⟩
set_option maxRecDepth 20000 in
theorem lfX7_206 : xa_FL RX7 206 5 11 := ⟨_, _, _, rfl, rfl, inX5, by decide, tb321⟩
set_option maxRecDepth 20000 in
theorem lpX7_206 : xa_FP RX7 206 5 11 .int := ⟨_, _, _, tyX5, rfl, rfl, inX5, by decide, tb321, tyX5_ok, nmX5, rfl, by decide +kernel⟩
set_option maxRecDepth 20000 in
theorem lfX7_209 : xa_FL RX7 209 2 1 := ⟨_, _, _, rfl, rfl, inX2, by decide, tb464⟩
set_option maxRecDepth 20000 in
theorem lpX7_209 : xa_FP RX7 209 2 1 .int := ⟨_, _, _, tyX2, rfl, rfl, inX2, by decide, tb464, tyX2_ok, nmX2, rfl, by decide +kernel⟩
set_option maxRecDepth 20000 in
theorem lfX7_213 : xa_FL RX7 213 3 14 := ⟨_, _, _, rfl, rfl, inX3, by decide, tb219⟩
set_option maxRecDepth 20000 in
theorem lpX7_213 : xa_FP RX7 213 3 14 .int := ⟨_, _, _, tyX3, rfl, rfl, inX3, by decide, tb219, tyX3_ok, nmX3, rfl, by decide +kernel⟩
set_option maxRecDepth 20000 in
theorem lfX7_226 : xa_FL RX7 226 7 5 := ⟨_, _, _, rfl, rfl, inX7, by decide, tb28⟩
set_option maxRecDepth 20000 in
theorem lpX7_226 : xa_FP RX7 226 7 5 .int := ⟨_, _, _, tyX7, rfl, rfl, inX7, by decide, tb28, tyX7_ok, nmX7, rfl, by decide +kernel⟩
set_option maxRecDepth 20000 in
theorem lfX7_229 : xa_FL RX7 229 7 7 := ⟨_, _, _, rfl, rfl, inX7, by decide, tb30⟩
set_option maxRecDepth 20000 in
theorem lpX7_229 : xa_FP RX7 229 7 7 .int := ⟨_, _, _, tyX7, rfl, rfl, inX7, by decide, tb30, tyX7_ok, nmX7, rfl, by decide +kernel⟩
set_option maxRecDepth 20000 in
theorem lfX7_232 : xa_FL RX7 232 7 8 := ⟨_, _, _, rfl, rfl, inX7, by decide, tb31⟩
set_option maxRecDepth 20000 in
theorem lpX7_232 : xa_FP RX7 232 7 8 .int := ⟨_, _, _, tyX7, rfl, rfl, inX7, by decide, tb31, tyX7_ok, nmX7, rfl, by decide +kernel⟩
set_option maxRecDepth 20000 in
theorem lfX7_235 : xa_FL RX7 235 7 9 := ⟨_, _, _, rfl, rfl, inX7, by decide, tb32⟩
set_option maxRecDepth 20000 in
theorem lpX7_235 : xa_FP RX7 235 7 9 .int := ⟨_, _, _, tyX7, rfl, rfl, inX7, by decide, tb32, tyX7_ok, nmX7, rfl, by decide +kernel⟩
set_option maxRecDepth 20000 in
theorem lfX7_238 : xa_FL RX7 238 7 10 := ⟨_, _, _, rfl, rfl, inX7, by decide, tb33⟩
set_option maxRecDepth 20000 in
theorem lpX7_238 : xa_FP RX7 238 7 10 .int := ⟨_, _, _, tyX7, rfl, rfl, inX7, by decide, tb33, tyX7_ok, nmX7, rfl, by decide +kernel⟩
set_option maxRecDepth 20000 in
theorem lfX7_241 : xa_FL RX7 241 7 11 := ⟨_, _, _, rfl, rfl, inX7, by decide, tb34⟩
set_option maxRecDepth 20000 in
theorem lpX7_241 : xa_FP RX7 241 7 11 .int := ⟨_, _, _, tyX7, rfl, rfl, inX7, by decide, tb34, tyX7_ok, nmX7, rfl, by decide +kernel⟩
set_option maxRecDepth 20000 in
theorem lfX7_244 : xa_FL RX7 244 7 6 := ⟨_, _, _, rfl, rfl, inX7, by decide, tb29⟩
set_option maxRecDepth 20000 in
theorem lpX7_244 : xa_FP RX7 244 7 6 .int := ⟨_, _, _, tyX7, rfl, rfl, inX7, by decide, tb29, tyX7_ok, nmX7, rfl, by decide +kernel⟩
set_option maxRecDepth 20000 in
theorem lfX7_247 : xa_FL RX7 247 7 12 := ⟨_, _, _, rfl, rfl, inX7, by decide, tb35⟩
set_option maxRecDepth 20000 in
theorem lpX7_247 : xa_FP RX7 247 7 12 .int := ⟨_, _, _, tyX7, rfl, rfl, inX7, by decide, tb35, tyX7_ok, nmX7, rfl, by decide +kernel⟩
set_option maxRecDepth 20000 in
theorem lfX7_264 : xa_FL RX7 264 5 0 := ⟨_, _, _, rfl, rfl, inX5, by decide, tb299⟩
set_option maxRecDepth 20000 in
theorem lfX7_265 : xa_FL RX7 265 5 4 := ⟨_, _, _, rfl, rfl, inX5, by decide, tb307⟩
set_option maxRecDepth 20000 in
theorem lfX7_268 : xa_FL RX7 268 5 2 := ⟨_, _, _, rfl, rfl, inX5, by decide, tb303⟩
set_option maxRecDepth 20000 in
theorem lfX7_271 : xa_FL RX7 271 3 3 := ⟨_, _, _, rfl, rfl, inX3, by decide, tb201⟩
set_option maxRecDepth 20000 in
theorem lfX7_280 : xa_FL RX7 280 3 15 := ⟨_, _, _, rfl, rfl, inX3, by decide, tb221⟩
set_option maxRecDepth 20000 in
theorem lpX7_280 : xa_FP RX7 280 3 15 (.object "WhoIsThere$Letter") := ⟨_, _, _, tyX3, rfl, rfl, inX3, by decide, tb221, tyX3_ok, nmX3, rfl, by decide +kernel⟩
set_option maxRecDepth 20000 in
theorem lfX7_305 : xa_FL RX7 305 1 0 := ⟨_, _, _, rfl, rfl, inX1, by decide, tb108⟩
set_option maxRecDepth 20000 in
theorem lfX7_335 : xa_FL RX7 335 5 3 := ⟨_, _, _, rfl, rfl, inX5, by decide, tb305⟩
set_option maxRecDepth 20000 in
theorem lfX7_340 : xa_FL RX7 340 2 3 := ⟨_, _, _, rfl, rfl, inX2, by decide, tb469⟩
set_option maxRecDepth 20000 in
theorem lpX7_340 : xa_FP RX7 340 2 3 (.object "WhoIsThere$Letter") := ⟨_, _, _, tyX2, rfl, rfl, inX2, by decide, tb469, tyX2_ok, nmX2, rfl, by decide +kernel⟩
set_option maxRecDepth 20000 in
theorem lfX7_343 : xa_FL RX7 343 2 2 := ⟨_, _, _, rfl, rfl, inX2, by decide, tb467⟩
set_option maxRecDepth 20000 in
theorem lpX7_343 : xa_FP RX7 343 2 2 (.object "WhoIsThere$Letter") := ⟨_, _, _, tyX2, rfl, rfl, inX2, by decide, tb467, tyX2_ok, nmX2, rfl, by decide +kernel⟩
set_option maxRecDepth 20000 in
theorem lfX7_344 : xa_FL RX7 344 2 4 := ⟨_, _, _, rfl, rfl, inX2, by decide, tb471⟩
set_option maxRecDepth 20000 in
theorem lpX7_344 : xa_FP RX7 344 2 4 (.object "WhoIsThere$Letter") := ⟨_, _, _, tyX2, rfl, rfl, inX2, by decide, tb471, tyX2_ok, nmX2, rfl, by decide +kernel⟩
set_option maxRecDepth 20000 in
theorem lfX7_348 : xa_FL RX7 348 4 0 := ⟨_, _, _, rfl, rfl, inX4, by decide, tb138⟩
set_option maxRecDepth 20000 in
theorem lpX7_348 : xa_FP RX7 348 4 0 .int := ⟨_, _, _, tyX4, rfl, rfl, inX4, by decide, tb138, tyX4_ok, nmX4, rfl, by decide +kernel⟩
set_option maxRecDepth 20000 in
theorem lfX7_365 : xa_FL RX7 365 4 5 := ⟨_, _, _, rfl, rfl, inX4, by decide, tb147⟩
set_option maxRecDepth 20000 in
theorem lpX7_365 : xa_FP RX7 365 4 5 .int := ⟨_, _, _, tyX4, rfl, rfl, inX4, by decide, tb147, tyX4_ok, nmX4, rfl, by decide +kernel⟩
set_option maxRecDepth 20000 in
theorem lfX7_366 : xa_FL RX7 366 4 8 := ⟨_, _, _, rfl, rfl, inX4, by decide, tb152⟩
set_option maxRecDepth 20000 in
theorem lpX7_366 : xa_FP RX7 366 4 8 .int := ⟨_, _, _, tyX4, rfl, rfl, inX4, by decide, tb152, tyX4_ok, nmX4, rfl, by decide +kernel⟩
set_option maxRecDepth 20000 in
theorem lfX7_369 : xa_FL RX7 369 4 10 := ⟨_, _, _, rfl, rfl, inX4, by decide, tb155⟩
set_option maxRecDepth 20000 in
theorem lpX7_369 : xa_FP RX7 369 4 10 .int := ⟨_, _, _, tyX4, rfl, rfl, inX4, by decide, tb155, tyX4_ok, nmX4, rfl, by decide +kernel⟩
set_option maxRecDepth 20000 in
theorem lfX7_372 : xa_FL RX7 372 4 1 := ⟨_, _, _, rfl, rfl, inX4, by decide, tb140⟩
set_option maxRecDepth 20000 in
theorem lpX7_372 : xa_FP RX7 372 4 1 .int := ⟨_, _, _, tyX4, rfl, rfl, inX4, by decide, tb140, tyX4_ok, nmX4, rfl, by decide +kernel⟩
set_option maxRecDepth 20000 in
theorem lfX7_403 : xa_FL RX7 403 4 6 := ⟨_, _, _, rfl, rfl, inX4, by decide, tb149⟩
set_option maxRecDepth 20000 in
theorem lfX7_420 : xa_FL RX7 420 4 2 := ⟨_, _, _, rfl, rfl, inX4, by decide, tb142⟩
set_option maxRecDepth 20000 in
theorem lfX7_423 : xa_FL RX7 423 4 3 := ⟨_, _, _, rfl, rfl, inX4, by decide, tb144⟩
set_option maxRecDepth 20000 in
theorem lfX7_440 : xa_FL RX7 440 4 11 := ⟨_, _, _, rfl, rfl, inX4, by decide, tb157⟩
set_option maxRecDepth 20000 in
theorem lfX7_443 : xa_FL RX7 443 4 13 := ⟨_, _, _, rfl, rfl, inX4, by decide, tb161⟩
set_option maxRecDepth 20000 in
theorem lfX7_455 : xa_FL RX7 455 4 12 := ⟨_, _, _, rfl, rfl, inX4, by decide, tb159⟩
set_option maxRecDepth 20000 in
theorem lfX7_464 : xa_FL RX7 464 3 1 := ⟨_, _, _, rfl, rfl, inX3, by decide, tb197⟩
set_option maxRecDepth 20000 in
theorem lfX7_467 : xa_FL RX7 467 3 2 := ⟨_, _, _, rfl, rfl, inX3, by decide, tb199⟩
set_option maxRecDepth 20000 in
theorem lfX0_9 : xa_FL RX0 9 0 0 := ⟨_, _, _, rfl, rfl, inX0, by decide, tb124⟩
set_option maxRecDepth 20000 in
theorem lpX0_9 : xa_FF RX0 9 0 0 (.array .int) := ⟨_, _, _, tyX0, rfl, rfl, inX0, by decide, tb124, tyX0_ok, nmX0, rfl, rfl, by decide +kernel⟩
set_option maxRecDepth 20000 in
theorem lfX0_15 : xa_FL RX0 15 0 1 := ⟨_, _, _, rfl, rfl, inX0, by decide, tb125⟩
set_option maxRecDepth 20000 in
theorem lpX0_15 : xa_FP RX0 15 0 1 .int := ⟨_, _, _, tyX0, rfl, rfl, inX0, by decide, tb125, tyX0_ok, nmX0, rfl, by decide +kernel⟩
set_option maxRecDepth 20000 in
theorem lfX1_9 : xa_FL RX1 9 1 0 := ⟨_, _, _, rfl, rfl, inX1, by decide, tb107⟩
set_option maxRecDepth 20000 in
theorem lpX1_9 : xa_FF RX1 9 1 0 (.array .int) := ⟨_, _, _, tyX1, rfl, rfl, inX1, by decide, tb107, tyX1_ok, nmX1, rfl, rfl, by decide +kernel⟩
set_option maxRecDepth 20000 in
theorem lfX1_15 : xa_FL RX1 15 1 1 := ⟨_, _, _, rfl, rfl, inX1, by decide, tb109⟩
set_option maxRecDepth 20000 in
theorem lpX1_15 : xa_FF RX1 15 1 1 (.array .int) := ⟨_, _, _, tyX1, rfl, rfl, inX1, by decide, tb109, tyX1_ok, nmX1, rfl, rfl, by decide +kernel⟩
set_option maxRecDepth 20000 in
theorem lfX1_18 : xa_FL RX1 18 1 2 := ⟨_, _, _, rfl, rfl, inX1, by decide, tb110⟩
set_option maxRecDepth 20000 in
theorem lpX1_18 : xa_FP RX1 18 1 2 .int := ⟨_, _, _, tyX1, rfl, rfl, inX1, by decide, tb110, tyX1_ok, nmX1, rfl, by decide +kernel⟩
set_option maxRecDepth 20000 in
theorem lfX2_10 : xa_FL RX2 10 2 2 := ⟨_, _, _, rfl, rfl, inX2, by decide, tb465⟩
set_option maxRecDepth 20000 in
theorem lpX2_10 : xa_FP RX2 10 2 2 (.object "WhoIsThere$Letter") := ⟨_, _, _, tyX2, rfl, rfl, inX2, by decide, tb465, tyX2_ok, nmX2, rfl, by decide +kernel⟩
set_option maxRecDepth 20000 in
theorem lfX2_16 : xa_FL RX2 16 2 3 := ⟨_, _, _, rfl, rfl, inX2, by decide, tb468⟩
set_option maxRecDepth 20000 in
theorem lpX2_16 : xa_FP RX2 16 2 3 (.object "WhoIsThere$Letter") := ⟨_, _, _, tyX2, rfl, rfl, inX2, by decide, tb468, tyX2_ok, nmX2, rfl, by decide +kernel⟩
set_option maxRecDepth 20000 in
theorem lfX2_19 : xa_FL RX2 19 2 4 := ⟨_, _, _, rfl, rfl, inX2, by decide, tb470⟩
set_option maxRecDepth 20000 in
theorem lpX2_19 : xa_FP RX2 19 2 4 (.object "WhoIsThere$Letter") := ⟨_, _, _, tyX2, rfl, rfl, inX2, by decide, tb470, tyX2_ok, nmX2, rfl, by decide +kernel⟩
set_option maxRecDepth 20000 in
theorem lfX2_22 : xa_FL RX2 22 2 1 := ⟨_, _, _, rfl, rfl, inX2, by decide, tb462⟩
set_option maxRecDepth 20000 in
theorem lpX2_22 : xa_FP RX2 22 2 1 .int := ⟨_, _, _, tyX2, rfl, rfl, inX2, by decide, tb462, tyX2_ok, nmX2, rfl, by decide +kernel⟩
set_option maxRecDepth 20000 in
theorem lfX2_26 : xa_FL RX2 26 2 0 := ⟨_, _, _, rfl, rfl, inX2, by decide, tb461⟩
set_option maxRecDepth 20000 in
theorem lpX2_26 : xa_FF RX2 26 2 0 .int := ⟨_, _, _, tyX2, rfl, rfl, inX2, by decide, tb461, tyX2_ok, nmX2, rfl, rfl, by decide +kernel⟩
set_option maxRecDepth 20000 in
theorem lfX3_12 : xa_FL RX3 12 3 4 := ⟨_, _, _, rfl, rfl, inX3, by decide, tb202⟩
set_option maxRecDepth 20000 in
theorem lpX3_12 : xa_FF RX3 12 3 4 (.object "WhoIsThere$Store") := ⟨_, _, _, tyX3, rfl, rfl, inX3, by decide, tb202, tyX3_ok, nmX3, rfl, rfl, by decide +kernel⟩
set_option maxRecDepth 20000 in
theorem lfX3_21 : xa_FL RX3 21 3 5 := ⟨_, _, _, rfl, rfl, inX3, by decide, tb204⟩
set_option maxRecDepth 20000 in
theorem lpX3_21 : xa_FF RX3 21 3 5 (.object "WhoIsThere$Asks") := ⟨_, _, _, tyX3, rfl, rfl, inX3, by decide, tb204, tyX3_ok, nmX3, rfl, rfl, by decide +kernel⟩
set_option maxRecDepth 20000 in
theorem lfX3_28 : xa_FL RX3 28 3 6 := ⟨_, _, _, rfl, rfl, inX3, by decide, tb206⟩
set_option maxRecDepth 20000 in
theorem lpX3_28 : xa_FF RX3 28 3 6 (.object "WhoIsThere$Answers") := ⟨_, _, _, tyX3, rfl, rfl, inX3, by decide, tb206, tyX3_ok, nmX3, rfl, rfl, by decide +kernel⟩
set_option maxRecDepth 20000 in
theorem lfX3_32 : xa_FL RX3 32 3 8 := ⟨_, _, _, rfl, rfl, inX3, by decide, tb210⟩
set_option maxRecDepth 20000 in
theorem lpX3_32 : xa_FP RX3 32 3 8 .int := ⟨_, _, _, tyX3, rfl, rfl, inX3, by decide, tb210, tyX3_ok, nmX3, rfl, by decide +kernel⟩
set_option maxRecDepth 20000 in
theorem lfX3_39 : xa_FL RX3 39 3 15 := ⟨_, _, _, rfl, rfl, inX3, by decide, tb220⟩
set_option maxRecDepth 20000 in
theorem lpX3_39 : xa_FP RX3 39 3 15 (.object "WhoIsThere$Letter") := ⟨_, _, _, tyX3, rfl, rfl, inX3, by decide, tb220, tyX3_ok, nmX3, rfl, by decide +kernel⟩
set_option maxRecDepth 20000 in
theorem lfX3_43 : xa_FL RX3 43 3 0 := ⟨_, _, _, rfl, rfl, inX3, by decide, tb194⟩
set_option maxRecDepth 20000 in
theorem lpX3_43 : xa_FF RX3 43 3 0 .int := ⟨_, _, _, tyX3, rfl, rfl, inX3, by decide, tb194, tyX3_ok, nmX3, rfl, rfl, by decide +kernel⟩
set_option maxRecDepth 20000 in
theorem lfX3_46 : xa_FL RX3 46 3 7 := ⟨_, _, _, rfl, rfl, inX3, by decide, tb208⟩
set_option maxRecDepth 20000 in
theorem lpX3_46 : xa_FP RX3 46 3 7 .int := ⟨_, _, _, tyX3, rfl, rfl, inX3, by decide, tb208, tyX3_ok, nmX3, rfl, by decide +kernel⟩
set_option maxRecDepth 20000 in
theorem lfX3_49 : xa_FL RX3 49 3 1 := ⟨_, _, _, rfl, rfl, inX3, by decide, tb196⟩
set_option maxRecDepth 20000 in
theorem lpX3_49 : xa_FF RX3 49 3 1 .int := ⟨_, _, _, tyX3, rfl, rfl, inX3, by decide, tb196, tyX3_ok, nmX3, rfl, rfl, by decide +kernel⟩
set_option maxRecDepth 20000 in
theorem lfX3_52 : xa_FL RX3 52 3 2 := ⟨_, _, _, rfl, rfl, inX3, by decide, tb198⟩
set_option maxRecDepth 20000 in
theorem lpX3_52 : xa_FF RX3 52 3 2 .int := ⟨_, _, _, tyX3, rfl, rfl, inX3, by decide, tb198, tyX3_ok, nmX3, rfl, rfl, by decide +kernel⟩
set_option maxRecDepth 20000 in
theorem lfX3_55 : xa_FL RX3 55 3 3 := ⟨_, _, _, rfl, rfl, inX3, by decide, tb200⟩
set_option maxRecDepth 20000 in
theorem lpX3_55 : xa_FF RX3 55 3 3 .int := ⟨_, _, _, tyX3, rfl, rfl, inX3, by decide, tb200, tyX3_ok, nmX3, rfl, rfl, by decide +kernel⟩
set_option maxRecDepth 20000 in
theorem lfX3_58 : xa_FL RX3 58 3 11 := ⟨_, _, _, rfl, rfl, inX3, by decide, tb215⟩
set_option maxRecDepth 20000 in
theorem lpX3_58 : xa_FP RX3 58 3 11 (.object "WhoIsThere$Bridge") := ⟨_, _, _, tyX3, rfl, rfl, inX3, by decide, tb215, tyX3_ok, nmX3, rfl, by decide +kernel⟩
set_option maxRecDepth 20000 in
theorem lfX3_62 : xa_FL RX3 62 2 1 := ⟨_, _, _, rfl, rfl, inX2, by decide, tb463⟩
set_option maxRecDepth 20000 in
theorem lpX3_62 : xa_FP RX3 62 2 1 .int := ⟨_, _, _, tyX2, rfl, rfl, inX2, by decide, tb463, tyX2_ok, nmX2, rfl, by decide +kernel⟩
set_option maxRecDepth 20000 in
theorem lfX3_65 : xa_FL RX3 65 3 9 := ⟨_, _, _, rfl, rfl, inX3, by decide, tb212⟩
set_option maxRecDepth 20000 in
theorem lpX3_65 : xa_FP RX3 65 3 9 .boolean := ⟨_, _, _, tyX3, rfl, rfl, inX3, by decide, tb212, tyX3_ok, nmX3, rfl, by decide +kernel⟩
set_option maxRecDepth 20000 in
theorem lfX3_75 : xa_FL RX3 75 2 2 := ⟨_, _, _, rfl, rfl, inX2, by decide, tb466⟩
set_option maxRecDepth 20000 in
theorem lpX3_75 : xa_FP RX3 75 2 2 (.object "WhoIsThere$Letter") := ⟨_, _, _, tyX2, rfl, rfl, inX2, by decide, tb466, tyX2_ok, nmX2, rfl, by decide +kernel⟩
set_option maxRecDepth 20000 in
theorem lfX4_9 : xa_FL RX4 9 4 2 := ⟨_, _, _, rfl, rfl, inX4, by decide, tb141⟩
set_option maxRecDepth 20000 in
theorem lpX4_9 : xa_FF RX4 9 4 2 (.array .int) := ⟨_, _, _, tyX4, rfl, rfl, inX4, by decide, tb141, tyX4_ok, nmX4, rfl, rfl, by decide +kernel⟩
set_option maxRecDepth 20000 in
theorem lfX4_15 : xa_FL RX4 15 4 3 := ⟨_, _, _, rfl, rfl, inX4, by decide, tb143⟩
set_option maxRecDepth 20000 in
theorem lpX4_15 : xa_FF RX4 15 4 3 (.array .int) := ⟨_, _, _, tyX4, rfl, rfl, inX4, by decide, tb143, tyX4_ok, nmX4, rfl, rfl, by decide +kernel⟩
set_option maxRecDepth 20000 in
theorem lfX4_18 : xa_FL RX4 18 4 4 := ⟨_, _, _, rfl, rfl, inX4, by decide, tb145⟩
set_option maxRecDepth 20000 in
theorem lpX4_18 : xa_FF RX4 18 4 4 (.array .int) := ⟨_, _, _, tyX4, rfl, rfl, inX4, by decide, tb145, tyX4_ok, nmX4, rfl, rfl, by decide +kernel⟩
set_option maxRecDepth 20000 in
theorem lfX4_21 : xa_FL RX4 21 4 6 := ⟨_, _, _, rfl, rfl, inX4, by decide, tb148⟩
set_option maxRecDepth 20000 in
theorem lpX4_21 : xa_FF RX4 21 4 6 (.array .int) := ⟨_, _, _, tyX4, rfl, rfl, inX4, by decide, tb148, tyX4_ok, nmX4, rfl, rfl, by decide +kernel⟩
set_option maxRecDepth 20000 in
theorem lfX4_24 : xa_FL RX4 24 4 7 := ⟨_, _, _, rfl, rfl, inX4, by decide, tb150⟩
set_option maxRecDepth 20000 in
theorem lpX4_24 : xa_FF RX4 24 4 7 (.array .int) := ⟨_, _, _, tyX4, rfl, rfl, inX4, by decide, tb150, tyX4_ok, nmX4, rfl, rfl, by decide +kernel⟩
set_option maxRecDepth 20000 in
theorem lfX4_27 : xa_FL RX4 27 4 9 := ⟨_, _, _, rfl, rfl, inX4, by decide, tb153⟩
set_option maxRecDepth 20000 in
theorem lpX4_27 : xa_FF RX4 27 4 9 (.array .int) := ⟨_, _, _, tyX4, rfl, rfl, inX4, by decide, tb153, tyX4_ok, nmX4, rfl, rfl, by decide +kernel⟩
set_option maxRecDepth 20000 in
theorem lfX4_30 : xa_FL RX4 30 4 11 := ⟨_, _, _, rfl, rfl, inX4, by decide, tb156⟩
set_option maxRecDepth 20000 in
theorem lpX4_30 : xa_FF RX4 30 4 11 (.array .int) := ⟨_, _, _, tyX4, rfl, rfl, inX4, by decide, tb156, tyX4_ok, nmX4, rfl, rfl, by decide +kernel⟩
set_option maxRecDepth 20000 in
theorem lfX4_33 : xa_FL RX4 33 4 12 := ⟨_, _, _, rfl, rfl, inX4, by decide, tb158⟩
set_option maxRecDepth 20000 in
theorem lpX4_33 : xa_FF RX4 33 4 12 (.array .int) := ⟨_, _, _, tyX4, rfl, rfl, inX4, by decide, tb158, tyX4_ok, nmX4, rfl, rfl, by decide +kernel⟩
set_option maxRecDepth 20000 in
theorem lfX4_36 : xa_FL RX4 36 4 13 := ⟨_, _, _, rfl, rfl, inX4, by decide, tb160⟩
set_option maxRecDepth 20000 in
theorem lpX4_36 : xa_FF RX4 36 4 13 (.array .int) := ⟨_, _, _, tyX4, rfl, rfl, inX4, by decide, tb160, tyX4_ok, nmX4, rfl, rfl, by decide +kernel⟩
set_option maxRecDepth 20000 in
theorem lfX4_39 : xa_FL RX4 39 4 14 := ⟨_, _, _, rfl, rfl, inX4, by decide, tb162⟩
set_option maxRecDepth 20000 in
theorem lpX4_39 : xa_FF RX4 39 4 14 (.array .int) := ⟨_, _, _, tyX4, rfl, rfl, inX4, by decide, tb162, tyX4_ok, nmX4, rfl, rfl, by decide +kernel⟩
set_option maxRecDepth 20000 in
theorem lfX4_42 : xa_FL RX4 42 4 1 := ⟨_, _, _, rfl, rfl, inX4, by decide, tb139⟩
set_option maxRecDepth 20000 in
theorem lpX4_42 : xa_FP RX4 42 4 1 .int := ⟨_, _, _, tyX4, rfl, rfl, inX4, by decide, tb139, tyX4_ok, nmX4, rfl, by decide +kernel⟩
set_option maxRecDepth 20000 in
theorem lfX4_46 : xa_FL RX4 46 4 5 := ⟨_, _, _, rfl, rfl, inX4, by decide, tb146⟩
set_option maxRecDepth 20000 in
theorem lpX4_46 : xa_FP RX4 46 4 5 .int := ⟨_, _, _, tyX4, rfl, rfl, inX4, by decide, tb146, tyX4_ok, nmX4, rfl, by decide +kernel⟩
set_option maxRecDepth 20000 in
theorem lfX4_49 : xa_FL RX4 49 4 8 := ⟨_, _, _, rfl, rfl, inX4, by decide, tb151⟩
set_option maxRecDepth 20000 in
theorem lpX4_49 : xa_FP RX4 49 4 8 .int := ⟨_, _, _, tyX4, rfl, rfl, inX4, by decide, tb151, tyX4_ok, nmX4, rfl, by decide +kernel⟩
set_option maxRecDepth 20000 in
theorem lfX4_52 : xa_FL RX4 52 4 10 := ⟨_, _, _, rfl, rfl, inX4, by decide, tb154⟩
set_option maxRecDepth 20000 in
theorem lpX4_52 : xa_FP RX4 52 4 10 .int := ⟨_, _, _, tyX4, rfl, rfl, inX4, by decide, tb154, tyX4_ok, nmX4, rfl, by decide +kernel⟩
set_option maxRecDepth 20000 in
theorem lfX4_65 : xa_FL RX4 65 4 0 := ⟨_, _, _, rfl, rfl, inX4, by decide, tb137⟩
set_option maxRecDepth 20000 in
theorem lpX4_65 : xa_FP RX4 65 4 0 .int := ⟨_, _, _, tyX4, rfl, rfl, inX4, by decide, tb137, tyX4_ok, nmX4, rfl, by decide +kernel⟩
set_option maxRecDepth 20000 in
theorem lfX5_9 : xa_FL RX5 9 5 7 := ⟨_, _, _, rfl, rfl, inX5, by decide, tb312⟩
set_option maxRecDepth 20000 in
theorem lpX5_9 : xa_FP RX5 9 5 7 .int := ⟨_, _, _, tyX5, rfl, rfl, inX5, by decide, tb312, tyX5_ok, nmX5, rfl, by decide +kernel⟩
set_option maxRecDepth 20000 in
theorem lfX5_15 : xa_FL RX5 15 5 8 := ⟨_, _, _, rfl, rfl, inX5, by decide, tb314⟩
set_option maxRecDepth 20000 in
theorem lpX5_15 : xa_FP RX5 15 5 8 .int := ⟨_, _, _, tyX5, rfl, rfl, inX5, by decide, tb314, tyX5_ok, nmX5, rfl, by decide +kernel⟩
set_option maxRecDepth 20000 in
theorem lfX5_18 : xa_FL RX5 18 5 0 := ⟨_, _, _, rfl, rfl, inX5, by decide, tb298⟩
set_option maxRecDepth 20000 in
theorem lpX5_18 : xa_FF RX5 18 5 0 .int := ⟨_, _, _, tyX5, rfl, rfl, inX5, by decide, tb298, tyX5_ok, nmX5, rfl, rfl, by decide +kernel⟩
set_option maxRecDepth 20000 in
theorem lfX5_21 : xa_FL RX5 21 5 1 := ⟨_, _, _, rfl, rfl, inX5, by decide, tb300⟩
set_option maxRecDepth 20000 in
theorem lpX5_21 : xa_FF RX5 21 5 1 (.object "WhoIsThere$Host") := ⟨_, _, _, tyX5, rfl, rfl, inX5, by decide, tb300, tyX5_ok, nmX5, rfl, rfl, by decide +kernel⟩
set_option maxRecDepth 20000 in
theorem lfX5_25 : xa_FL RX5 25 5 2 := ⟨_, _, _, rfl, rfl, inX5, by decide, tb302⟩
set_option maxRecDepth 20000 in
theorem lpX5_25 : xa_FF RX5 25 5 2 .int := ⟨_, _, _, tyX5, rfl, rfl, inX5, by decide, tb302, tyX5_ok, nmX5, rfl, rfl, by decide +kernel⟩
set_option maxRecDepth 20000 in
theorem lfX5_28 : xa_FL RX5 28 5 5 := ⟨_, _, _, rfl, rfl, inX5, by decide, tb308⟩
set_option maxRecDepth 20000 in
theorem lpX5_28 : xa_FP RX5 28 5 5 .int := ⟨_, _, _, tyX5, rfl, rfl, inX5, by decide, tb308, tyX5_ok, nmX5, rfl, by decide +kernel⟩
set_option maxRecDepth 20000 in
theorem lfX5_31 : xa_FL RX5 31 5 6 := ⟨_, _, _, rfl, rfl, inX5, by decide, tb310⟩
set_option maxRecDepth 20000 in
theorem lpX5_31 : xa_FP RX5 31 5 6 .int := ⟨_, _, _, tyX5, rfl, rfl, inX5, by decide, tb310, tyX5_ok, nmX5, rfl, by decide +kernel⟩
set_option maxRecDepth 20000 in
theorem lfX5_34 : xa_FL RX5 34 5 3 := ⟨_, _, _, rfl, rfl, inX5, by decide, tb304⟩
set_option maxRecDepth 20000 in
theorem lpX5_34 : xa_FF RX5 34 5 3 .int := ⟨_, _, _, tyX5, rfl, rfl, inX5, by decide, tb304, tyX5_ok, nmX5, rfl, rfl, by decide +kernel⟩
set_option maxRecDepth 20000 in
theorem lfX5_37 : xa_FL RX5 37 5 4 := ⟨_, _, _, rfl, rfl, inX5, by decide, tb306⟩
set_option maxRecDepth 20000 in
theorem lpX5_37 : xa_FF RX5 37 5 4 .boolean := ⟨_, _, _, tyX5, rfl, rfl, inX5, by decide, tb306, tyX5_ok, nmX5, rfl, rfl, by decide +kernel⟩
set_option maxRecDepth 20000 in
theorem lfX5_41 : xa_FL RX5 41 5 9 := ⟨_, _, _, rfl, rfl, inX5, by decide, tb316⟩
set_option maxRecDepth 20000 in
theorem lpX5_41 : xa_FP RX5 41 5 9 .int := ⟨_, _, _, tyX5, rfl, rfl, inX5, by decide, tb316, tyX5_ok, nmX5, rfl, by decide +kernel⟩
set_option maxRecDepth 20000 in
theorem lfX5_44 : xa_FL RX5 44 5 10 := ⟨_, _, _, rfl, rfl, inX5, by decide, tb318⟩
set_option maxRecDepth 20000 in
theorem lpX5_44 : xa_FP RX5 44 5 10 .boolean := ⟨_, _, _, tyX5, rfl, rfl, inX5, by decide, tb318, tyX5_ok, nmX5, rfl, by decide +kernel⟩
set_option maxRecDepth 20000 in
theorem lfX5_47 : xa_FL RX5 47 5 11 := ⟨_, _, _, rfl, rfl, inX5, by decide, tb320⟩
set_option maxRecDepth 20000 in
theorem lpX5_47 : xa_FP RX5 47 5 11 .int := ⟨_, _, _, tyX5, rfl, rfl, inX5, by decide, tb320, tyX5_ok, nmX5, rfl, by decide +kernel⟩
set_option maxRecDepth 20000 in
theorem lfX6_9 : xa_FL RX6 9 6 0 := ⟨_, _, _, rfl, rfl, inX6, by decide, tb81⟩
set_option maxRecDepth 20000 in
theorem lpX6_9 : xa_FF RX6 9 6 0 (.array .int) := ⟨_, _, _, tyX6, rfl, rfl, inX6, by decide, tb81, tyX6_ok, nmX6, rfl, rfl, by decide +kernel⟩
set_option maxRecDepth 20000 in
theorem lfX6_15 : xa_FL RX6 15 6 1 := ⟨_, _, _, rfl, rfl, inX6, by decide, tb83⟩
set_option maxRecDepth 20000 in
theorem lpX6_15 : xa_FF RX6 15 6 1 (.array .int) := ⟨_, _, _, tyX6, rfl, rfl, inX6, by decide, tb83, tyX6_ok, nmX6, rfl, rfl, by decide +kernel⟩
set_option maxRecDepth 20000 in
theorem lfX6_18 : xa_FL RX6 18 6 2 := ⟨_, _, _, rfl, rfl, inX6, by decide, tb85⟩
set_option maxRecDepth 20000 in
theorem lpX6_18 : xa_FF RX6 18 6 2 (.array .int) := ⟨_, _, _, tyX6, rfl, rfl, inX6, by decide, tb85, tyX6_ok, nmX6, rfl, rfl, by decide +kernel⟩
set_option maxRecDepth 20000 in
theorem lfX6_21 : xa_FL RX6 21 6 3 := ⟨_, _, _, rfl, rfl, inX6, by decide, tb87⟩
set_option maxRecDepth 20000 in
theorem lpX6_21 : xa_FF RX6 21 6 3 (.array .int) := ⟨_, _, _, tyX6, rfl, rfl, inX6, by decide, tb87, tyX6_ok, nmX6, rfl, rfl, by decide +kernel⟩
set_option maxRecDepth 20000 in
theorem lfX6_24 : xa_FL RX6 24 6 4 := ⟨_, _, _, rfl, rfl, inX6, by decide, tb88⟩
set_option maxRecDepth 20000 in
theorem lpX6_24 : xa_FP RX6 24 6 4 .int := ⟨_, _, _, tyX6, rfl, rfl, inX6, by decide, tb88, tyX6_ok, nmX6, rfl, by decide +kernel⟩
set_option maxRecDepth 20000 in
theorem lfX8_9 : xa_FL RX8 9 8 0 := ⟨_, _, _, rfl, rfl, inX8, by decide, tb805⟩
set_option maxRecDepth 20000 in
theorem lpX8_9 : xa_FF RX8 9 8 0 (.array .int) := ⟨_, _, _, tyX8, rfl, rfl, inX8, by decide, tb805, tyX8_ok, nmX8, rfl, rfl, by decide +kernel⟩
set_option maxRecDepth 20000 in
theorem lfX8_13 : xa_FL RX8 13 8 1 := ⟨_, _, _, rfl, rfl, inX8, by decide, tb806⟩
set_option maxRecDepth 20000 in
theorem lpX8_13 : xa_FF RX8 13 8 1 (.array .int) := ⟨_, _, _, tyX8, rfl, rfl, inX8, by decide, tb806, tyX8_ok, nmX8, rfl, rfl, by decide +kernel⟩
set_option maxRecDepth 20000 in
theorem lfX8_16 : xa_FL RX8 16 8 2 := ⟨_, _, _, rfl, rfl, inX8, by decide, tb807⟩
set_option maxRecDepth 20000 in
theorem lpX8_16 : xa_FF RX8 16 8 2 (.array .int) := ⟨_, _, _, tyX8, rfl, rfl, inX8, by decide, tb807, tyX8_ok, nmX8, rfl, rfl, by decide +kernel⟩
set_option maxRecDepth 20000 in
theorem lfX8_19 : xa_FL RX8 19 8 3 := ⟨_, _, _, rfl, rfl, inX8, by decide, tb808⟩
set_option maxRecDepth 20000 in
theorem lpX8_19 : xa_FF RX8 19 8 3 (.array .int) := ⟨_, _, _, tyX8, rfl, rfl, inX8, by decide, tb808, tyX8_ok, nmX8, rfl, rfl, by decide +kernel⟩
set_option maxRecDepth 20000 in
theorem lfX8_22 : xa_FL RX8 22 8 4 := ⟨_, _, _, rfl, rfl, inX8, by decide, tb809⟩
set_option maxRecDepth 20000 in
theorem lpX8_22 : xa_FF RX8 22 8 4 (.array .int) := ⟨_, _, _, tyX8, rfl, rfl, inX8, by decide, tb809, tyX8_ok, nmX8, rfl, rfl, by decide +kernel⟩
set_option maxRecDepth 20000 in
theorem lfX8_25 : xa_FL RX8 25 8 5 := ⟨_, _, _, rfl, rfl, inX8, by decide, tb810⟩
set_option maxRecDepth 20000 in
theorem lpX8_25 : xa_FF RX8 25 8 5 (.array .int) := ⟨_, _, _, tyX8, rfl, rfl, inX8, by decide, tb810, tyX8_ok, nmX8, rfl, rfl, by decide +kernel⟩
set_option maxRecDepth 20000 in
theorem lfX8_28 : xa_FL RX8 28 8 6 := ⟨_, _, _, rfl, rfl, inX8, by decide, tb811⟩
set_option maxRecDepth 20000 in
theorem lpX8_28 : xa_FF RX8 28 8 6 (.array .boolean) := ⟨_, _, _, tyX8, rfl, rfl, inX8, by decide, tb811, tyX8_ok, nmX8, rfl, rfl, by decide +kernel⟩
set_option maxRecDepth 20000 in
theorem lfX8_32 : xa_FL RX8 32 8 7 := ⟨_, _, _, rfl, rfl, inX8, by decide, tb812⟩
set_option maxRecDepth 20000 in
theorem lpX8_32 : xa_FF RX8 32 8 7 (.array .boolean) := ⟨_, _, _, tyX8, rfl, rfl, inX8, by decide, tb812, tyX8_ok, nmX8, rfl, rfl, by decide +kernel⟩
set_option maxRecDepth 20000 in
theorem lfX8_35 : xa_FL RX8 35 8 8 := ⟨_, _, _, rfl, rfl, inX8, by decide, tb813⟩
set_option maxRecDepth 20000 in
theorem lpX8_35 : xa_FF RX8 35 8 8 (.array .boolean) := ⟨_, _, _, tyX8, rfl, rfl, inX8, by decide, tb813, tyX8_ok, nmX8, rfl, rfl, by decide +kernel⟩
set_option maxRecDepth 20000 in
theorem lfX8_38 : xa_FL RX8 38 8 9 := ⟨_, _, _, rfl, rfl, inX8, by decide, tb814⟩
set_option maxRecDepth 20000 in
theorem lpX8_38 : xa_FF RX8 38 8 9 (.array .int) := ⟨_, _, _, tyX8, rfl, rfl, inX8, by decide, tb814, tyX8_ok, nmX8, rfl, rfl, by decide +kernel⟩
set_option maxRecDepth 20000 in
theorem lfX8_41 : xa_FL RX8 41 8 10 := ⟨_, _, _, rfl, rfl, inX8, by decide, tb815⟩
set_option maxRecDepth 20000 in
theorem lpX8_41 : xa_FF RX8 41 8 10 (.array .int) := ⟨_, _, _, tyX8, rfl, rfl, inX8, by decide, tb815, tyX8_ok, nmX8, rfl, rfl, by decide +kernel⟩
set_option maxRecDepth 20000 in
theorem lfX8_44 : xa_FL RX8 44 8 11 := ⟨_, _, _, rfl, rfl, inX8, by decide, tb816⟩
set_option maxRecDepth 20000 in
theorem lpX8_44 : xa_FF RX8 44 8 11 (.array .int) := ⟨_, _, _, tyX8, rfl, rfl, inX8, by decide, tb816, tyX8_ok, nmX8, rfl, rfl, by decide +kernel⟩
set_option maxRecDepth 20000 in
theorem lfX8_47 : xa_FL RX8 47 8 12 := ⟨_, _, _, rfl, rfl, inX8, by decide, tb817⟩
set_option maxRecDepth 20000 in
theorem lpX8_47 : xa_FF RX8 47 8 12 (.array .int) := ⟨_, _, _, tyX8, rfl, rfl, inX8, by decide, tb817, tyX8_ok, nmX8, rfl, rfl, by decide +kernel⟩
set_option maxRecDepth 20000 in
theorem lfX8_50 : xa_FL RX8 50 8 13 := ⟨_, _, _, rfl, rfl, inX8, by decide, tb818⟩
set_option maxRecDepth 20000 in
theorem lpX8_50 : xa_FF RX8 50 8 13 (.array .int) := ⟨_, _, _, tyX8, rfl, rfl, inX8, by decide, tb818, tyX8_ok, nmX8, rfl, rfl, by decide +kernel⟩
set_option maxRecDepth 20000 in
theorem lfX8_53 : xa_FL RX8 53 8 15 := ⟨_, _, _, rfl, rfl, inX8, by decide, tb820⟩
set_option maxRecDepth 20000 in
theorem lpX8_53 : xa_FF RX8 53 8 15 (.array .int) := ⟨_, _, _, tyX8, rfl, rfl, inX8, by decide, tb820, tyX8_ok, nmX8, rfl, rfl, by decide +kernel⟩
set_option maxRecDepth 20000 in
theorem lfX8_56 : xa_FL RX8 56 8 16 := ⟨_, _, _, rfl, rfl, inX8, by decide, tb821⟩
set_option maxRecDepth 20000 in
theorem lpX8_56 : xa_FF RX8 56 8 16 (.array .int) := ⟨_, _, _, tyX8, rfl, rfl, inX8, by decide, tb821, tyX8_ok, nmX8, rfl, rfl, by decide +kernel⟩
set_option maxRecDepth 20000 in
theorem lfX8_59 : xa_FL RX8 59 8 17 := ⟨_, _, _, rfl, rfl, inX8, by decide, tb822⟩
set_option maxRecDepth 20000 in
theorem lpX8_59 : xa_FF RX8 59 8 17 (.array .int) := ⟨_, _, _, tyX8, rfl, rfl, inX8, by decide, tb822, tyX8_ok, nmX8, rfl, rfl, by decide +kernel⟩
set_option maxRecDepth 20000 in
theorem lfX8_62 : xa_FL RX8 62 8 18 := ⟨_, _, _, rfl, rfl, inX8, by decide, tb823⟩
set_option maxRecDepth 20000 in
theorem lpX8_62 : xa_FF RX8 62 8 18 (.array .int) := ⟨_, _, _, tyX8, rfl, rfl, inX8, by decide, tb823, tyX8_ok, nmX8, rfl, rfl, by decide +kernel⟩
set_option maxRecDepth 20000 in
theorem lfX8_65 : xa_FL RX8 65 8 19 := ⟨_, _, _, rfl, rfl, inX8, by decide, tb824⟩
set_option maxRecDepth 20000 in
theorem lpX8_65 : xa_FF RX8 65 8 19 (.array .int) := ⟨_, _, _, tyX8, rfl, rfl, inX8, by decide, tb824, tyX8_ok, nmX8, rfl, rfl, by decide +kernel⟩
set_option maxRecDepth 20000 in
theorem lfX8_68 : xa_FL RX8 68 8 20 := ⟨_, _, _, rfl, rfl, inX8, by decide, tb825⟩
set_option maxRecDepth 20000 in
theorem lpX8_68 : xa_FF RX8 68 8 20 (.array .int) := ⟨_, _, _, tyX8, rfl, rfl, inX8, by decide, tb825, tyX8_ok, nmX8, rfl, rfl, by decide +kernel⟩
set_option maxRecDepth 20000 in
theorem lfX8_71 : xa_FL RX8 71 8 21 := ⟨_, _, _, rfl, rfl, inX8, by decide, tb826⟩
set_option maxRecDepth 20000 in
theorem lpX8_71 : xa_FF RX8 71 8 21 (.array .int) := ⟨_, _, _, tyX8, rfl, rfl, inX8, by decide, tb826, tyX8_ok, nmX8, rfl, rfl, by decide +kernel⟩
set_option maxRecDepth 20000 in
theorem lfX8_74 : xa_FL RX8 74 8 22 := ⟨_, _, _, rfl, rfl, inX8, by decide, tb827⟩
set_option maxRecDepth 20000 in
theorem lpX8_74 : xa_FF RX8 74 8 22 (.array .int) := ⟨_, _, _, tyX8, rfl, rfl, inX8, by decide, tb827, tyX8_ok, nmX8, rfl, rfl, by decide +kernel⟩
set_option maxRecDepth 20000 in
theorem lfX8_77 : xa_FL RX8 77 8 23 := ⟨_, _, _, rfl, rfl, inX8, by decide, tb828⟩
set_option maxRecDepth 20000 in
theorem lpX8_77 : xa_FF RX8 77 8 23 (.array .int) := ⟨_, _, _, tyX8, rfl, rfl, inX8, by decide, tb828, tyX8_ok, nmX8, rfl, rfl, by decide +kernel⟩
set_option maxRecDepth 20000 in
theorem lfX8_80 : xa_FL RX8 80 8 24 := ⟨_, _, _, rfl, rfl, inX8, by decide, tb829⟩
set_option maxRecDepth 20000 in
theorem lpX8_80 : xa_FF RX8 80 8 24 (.array .boolean) := ⟨_, _, _, tyX8, rfl, rfl, inX8, by decide, tb829, tyX8_ok, nmX8, rfl, rfl, by decide +kernel⟩
set_option maxRecDepth 20000 in
theorem lfX8_83 : xa_FL RX8 83 8 25 := ⟨_, _, _, rfl, rfl, inX8, by decide, tb830⟩
set_option maxRecDepth 20000 in
theorem lpX8_83 : xa_FF RX8 83 8 25 (.array .boolean) := ⟨_, _, _, tyX8, rfl, rfl, inX8, by decide, tb830, tyX8_ok, nmX8, rfl, rfl, by decide +kernel⟩
set_option maxRecDepth 20000 in
theorem lfX8_86 : xa_FL RX8 86 8 27 := ⟨_, _, _, rfl, rfl, inX8, by decide, tb832⟩
set_option maxRecDepth 20000 in
theorem lpX8_86 : xa_FF RX8 86 8 27 (.array .boolean) := ⟨_, _, _, tyX8, rfl, rfl, inX8, by decide, tb832, tyX8_ok, nmX8, rfl, rfl, by decide +kernel⟩
set_option maxRecDepth 20000 in
theorem lfX8_89 : xa_FL RX8 89 8 28 := ⟨_, _, _, rfl, rfl, inX8, by decide, tb833⟩
set_option maxRecDepth 20000 in
theorem lpX8_89 : xa_FF RX8 89 8 28 (.array .int) := ⟨_, _, _, tyX8, rfl, rfl, inX8, by decide, tb833, tyX8_ok, nmX8, rfl, rfl, by decide +kernel⟩
set_option maxRecDepth 20000 in
theorem lfX8_92 : xa_FL RX8 92 8 29 := ⟨_, _, _, rfl, rfl, inX8, by decide, tb834⟩
set_option maxRecDepth 20000 in
theorem lpX8_92 : xa_FF RX8 92 8 29 (.array .int) := ⟨_, _, _, tyX8, rfl, rfl, inX8, by decide, tb834, tyX8_ok, nmX8, rfl, rfl, by decide +kernel⟩
set_option maxRecDepth 20000 in
theorem lfX8_95 : xa_FL RX8 95 8 30 := ⟨_, _, _, rfl, rfl, inX8, by decide, tb835⟩
set_option maxRecDepth 20000 in
theorem lpX8_95 : xa_FF RX8 95 8 30 (.array .int) := ⟨_, _, _, tyX8, rfl, rfl, inX8, by decide, tb835, tyX8_ok, nmX8, rfl, rfl, by decide +kernel⟩
set_option maxRecDepth 20000 in
theorem lfX8_98 : xa_FL RX8 98 8 31 := ⟨_, _, _, rfl, rfl, inX8, by decide, tb836⟩
set_option maxRecDepth 20000 in
theorem lpX8_98 : xa_FF RX8 98 8 31 (.array .int) := ⟨_, _, _, tyX8, rfl, rfl, inX8, by decide, tb836, tyX8_ok, nmX8, rfl, rfl, by decide +kernel⟩
set_option maxRecDepth 20000 in
theorem lfX8_101 : xa_FL RX8 101 8 32 := ⟨_, _, _, rfl, rfl, inX8, by decide, tb837⟩
set_option maxRecDepth 20000 in
theorem lpX8_101 : xa_FF RX8 101 8 32 (.array .int) := ⟨_, _, _, tyX8, rfl, rfl, inX8, by decide, tb837, tyX8_ok, nmX8, rfl, rfl, by decide +kernel⟩
set_option maxRecDepth 20000 in
theorem lfX8_104 : xa_FL RX8 104 8 33 := ⟨_, _, _, rfl, rfl, inX8, by decide, tb838⟩
set_option maxRecDepth 20000 in
theorem lpX8_104 : xa_FF RX8 104 8 33 (.array .boolean) := ⟨_, _, _, tyX8, rfl, rfl, inX8, by decide, tb838, tyX8_ok, nmX8, rfl, rfl, by decide +kernel⟩
set_option maxRecDepth 20000 in
theorem lfX8_107 : xa_FL RX8 107 8 34 := ⟨_, _, _, rfl, rfl, inX8, by decide, tb839⟩
set_option maxRecDepth 20000 in
theorem lpX8_107 : xa_FF RX8 107 8 34 (.array .int) := ⟨_, _, _, tyX8, rfl, rfl, inX8, by decide, tb839, tyX8_ok, nmX8, rfl, rfl, by decide +kernel⟩
set_option maxRecDepth 20000 in
theorem lfX8_110 : xa_FL RX8 110 8 35 := ⟨_, _, _, rfl, rfl, inX8, by decide, tb840⟩
set_option maxRecDepth 20000 in
theorem lpX8_110 : xa_FF RX8 110 8 35 (.array .int) := ⟨_, _, _, tyX8, rfl, rfl, inX8, by decide, tb840, tyX8_ok, nmX8, rfl, rfl, by decide +kernel⟩
set_option maxRecDepth 20000 in
theorem lfX8_113 : xa_FL RX8 113 8 45 := ⟨_, _, _, rfl, rfl, inX8, by decide, tb850⟩
set_option maxRecDepth 20000 in
theorem lpX8_113 : xa_FF RX8 113 8 45 (.array .int) := ⟨_, _, _, tyX8, rfl, rfl, inX8, by decide, tb850, tyX8_ok, nmX8, rfl, rfl, by decide +kernel⟩
set_option maxRecDepth 20000 in
theorem lfX8_116 : xa_FL RX8 116 8 46 := ⟨_, _, _, rfl, rfl, inX8, by decide, tb851⟩
set_option maxRecDepth 20000 in
theorem lpX8_116 : xa_FF RX8 116 8 46 (.array .int) := ⟨_, _, _, tyX8, rfl, rfl, inX8, by decide, tb851, tyX8_ok, nmX8, rfl, rfl, by decide +kernel⟩
set_option maxRecDepth 20000 in
theorem lfX8_119 : xa_FL RX8 119 8 48 := ⟨_, _, _, rfl, rfl, inX8, by decide, tb853⟩
set_option maxRecDepth 20000 in
theorem lpX8_119 : xa_FF RX8 119 8 48 (.array .boolean) := ⟨_, _, _, tyX8, rfl, rfl, inX8, by decide, tb853, tyX8_ok, nmX8, rfl, rfl, by decide +kernel⟩
set_option maxRecDepth 20000 in
theorem lfX8_122 : xa_FL RX8 122 8 49 := ⟨_, _, _, rfl, rfl, inX8, by decide, tb854⟩
set_option maxRecDepth 20000 in
theorem lpX8_122 : xa_FF RX8 122 8 49 (.array .int) := ⟨_, _, _, tyX8, rfl, rfl, inX8, by decide, tb854, tyX8_ok, nmX8, rfl, rfl, by decide +kernel⟩
set_option maxRecDepth 20000 in
theorem lfX8_125 : xa_FL RX8 125 8 50 := ⟨_, _, _, rfl, rfl, inX8, by decide, tb855⟩
set_option maxRecDepth 20000 in
theorem lpX8_125 : xa_FF RX8 125 8 50 (.array .int) := ⟨_, _, _, tyX8, rfl, rfl, inX8, by decide, tb855, tyX8_ok, nmX8, rfl, rfl, by decide +kernel⟩
set_option maxRecDepth 20000 in
theorem lfX8_128 : xa_FL RX8 128 8 51 := ⟨_, _, _, rfl, rfl, inX8, by decide, tb856⟩
set_option maxRecDepth 20000 in
theorem lpX8_128 : xa_FF RX8 128 8 51 (.array .int) := ⟨_, _, _, tyX8, rfl, rfl, inX8, by decide, tb856, tyX8_ok, nmX8, rfl, rfl, by decide +kernel⟩
set_option maxRecDepth 20000 in
theorem lfX8_131 : xa_FL RX8 131 8 52 := ⟨_, _, _, rfl, rfl, inX8, by decide, tb857⟩
set_option maxRecDepth 20000 in
theorem lpX8_131 : xa_FF RX8 131 8 52 (.array .int) := ⟨_, _, _, tyX8, rfl, rfl, inX8, by decide, tb857, tyX8_ok, nmX8, rfl, rfl, by decide +kernel⟩
set_option maxRecDepth 20000 in
theorem lfX8_134 : xa_FL RX8 134 8 53 := ⟨_, _, _, rfl, rfl, inX8, by decide, tb858⟩
set_option maxRecDepth 20000 in
theorem lpX8_134 : xa_FF RX8 134 8 53 (.array .int) := ⟨_, _, _, tyX8, rfl, rfl, inX8, by decide, tb858, tyX8_ok, nmX8, rfl, rfl, by decide +kernel⟩
set_option maxRecDepth 20000 in
theorem lfX8_137 : xa_FL RX8 137 8 54 := ⟨_, _, _, rfl, rfl, inX8, by decide, tb859⟩
set_option maxRecDepth 20000 in
theorem lpX8_137 : xa_FF RX8 137 8 54 (.array .boolean) := ⟨_, _, _, tyX8, rfl, rfl, inX8, by decide, tb859, tyX8_ok, nmX8, rfl, rfl, by decide +kernel⟩
set_option maxRecDepth 20000 in
theorem lfX8_140 : xa_FL RX8 140 8 55 := ⟨_, _, _, rfl, rfl, inX8, by decide, tb860⟩
set_option maxRecDepth 20000 in
theorem lpX8_140 : xa_FF RX8 140 8 55 (.array .int) := ⟨_, _, _, tyX8, rfl, rfl, inX8, by decide, tb860, tyX8_ok, nmX8, rfl, rfl, by decide +kernel⟩
set_option maxRecDepth 20000 in
theorem lfX8_143 : xa_FL RX8 143 8 56 := ⟨_, _, _, rfl, rfl, inX8, by decide, tb861⟩
set_option maxRecDepth 20000 in
theorem lpX8_143 : xa_FF RX8 143 8 56 (.array .int) := ⟨_, _, _, tyX8, rfl, rfl, inX8, by decide, tb861, tyX8_ok, nmX8, rfl, rfl, by decide +kernel⟩
set_option maxRecDepth 20000 in
theorem lfX8_146 : xa_FL RX8 146 8 57 := ⟨_, _, _, rfl, rfl, inX8, by decide, tb862⟩
set_option maxRecDepth 20000 in
theorem lpX8_146 : xa_FF RX8 146 8 57 (.array .int) := ⟨_, _, _, tyX8, rfl, rfl, inX8, by decide, tb862, tyX8_ok, nmX8, rfl, rfl, by decide +kernel⟩
set_option maxRecDepth 20000 in
theorem lfX8_149 : xa_FL RX8 149 8 58 := ⟨_, _, _, rfl, rfl, inX8, by decide, tb863⟩
set_option maxRecDepth 20000 in
theorem lpX8_149 : xa_FF RX8 149 8 58 (.array .int) := ⟨_, _, _, tyX8, rfl, rfl, inX8, by decide, tb863, tyX8_ok, nmX8, rfl, rfl, by decide +kernel⟩
set_option maxRecDepth 20000 in
theorem lfX8_152 : xa_FL RX8 152 8 59 := ⟨_, _, _, rfl, rfl, inX8, by decide, tb864⟩
set_option maxRecDepth 20000 in
theorem lpX8_152 : xa_FF RX8 152 8 59 (.array .int) := ⟨_, _, _, tyX8, rfl, rfl, inX8, by decide, tb864, tyX8_ok, nmX8, rfl, rfl, by decide +kernel⟩
set_option maxRecDepth 20000 in
theorem lfX8_155 : xa_FL RX8 155 8 14 := ⟨_, _, _, rfl, rfl, inX8, by decide, tb819⟩
set_option maxRecDepth 20000 in
theorem lpX8_155 : xa_FP RX8 155 8 14 .int := ⟨_, _, _, tyX8, rfl, rfl, inX8, by decide, tb819, tyX8_ok, nmX8, rfl, by decide +kernel⟩
set_option maxRecDepth 20000 in
theorem lfX8_170 : xa_FL RX8 170 8 26 := ⟨_, _, _, rfl, rfl, inX8, by decide, tb831⟩
set_option maxRecDepth 20000 in
theorem lpX8_170 : xa_FP RX8 170 8 26 .int := ⟨_, _, _, tyX8, rfl, rfl, inX8, by decide, tb831, tyX8_ok, nmX8, rfl, by decide +kernel⟩
set_option maxRecDepth 20000 in
theorem lfX8_191 : xa_FL RX8 191 8 36 := ⟨_, _, _, rfl, rfl, inX8, by decide, tb841⟩
set_option maxRecDepth 20000 in
theorem lpX8_191 : xa_FP RX8 191 8 36 .int := ⟨_, _, _, tyX8, rfl, rfl, inX8, by decide, tb841, tyX8_ok, nmX8, rfl, by decide +kernel⟩
set_option maxRecDepth 20000 in
theorem lfX8_221 : xa_FL RX8 221 8 42 := ⟨_, _, _, rfl, rfl, inX8, by decide, tb847⟩
set_option maxRecDepth 20000 in
theorem lpX8_221 : xa_FP RX8 221 8 42 .int := ⟨_, _, _, tyX8, rfl, rfl, inX8, by decide, tb847, tyX8_ok, nmX8, rfl, by decide +kernel⟩
set_option maxRecDepth 20000 in
theorem lfX8_225 : xa_FL RX8 225 8 47 := ⟨_, _, _, rfl, rfl, inX8, by decide, tb852⟩
set_option maxRecDepth 20000 in
theorem lpX8_225 : xa_FP RX8 225 8 47 .int := ⟨_, _, _, tyX8, rfl, rfl, inX8, by decide, tb852, tyX8_ok, nmX8, rfl, by decide +kernel⟩
set_option maxRecDepth 20000 in
theorem lfX8_231 : xa_FL RX8 231 8 37 := ⟨_, _, _, rfl, rfl, inX8, by decide, tb842⟩
set_option maxRecDepth 20000 in
theorem lpX8_231 : xa_FP RX8 231 8 37 .int := ⟨_, _, _, tyX8, rfl, rfl, inX8, by decide, tb842, tyX8_ok, nmX8, rfl, by decide +kernel⟩
set_option maxRecDepth 20000 in
theorem lfX8_234 : xa_FL RX8 234 8 43 := ⟨_, _, _, rfl, rfl, inX8, by decide, tb848⟩
set_option maxRecDepth 20000 in
theorem lpX8_234 : xa_FP RX8 234 8 43 .int := ⟨_, _, _, tyX8, rfl, rfl, inX8, by decide, tb848, tyX8_ok, nmX8, rfl, by decide +kernel⟩
set_option maxRecDepth 20000 in
theorem lfX8_237 : xa_FL RX8 237 8 39 := ⟨_, _, _, rfl, rfl, inX8, by decide, tb844⟩
set_option maxRecDepth 20000 in
theorem lpX8_237 : xa_FP RX8 237 8 39 .int := ⟨_, _, _, tyX8, rfl, rfl, inX8, by decide, tb844, tyX8_ok, nmX8, rfl, by decide +kernel⟩
set_option maxRecDepth 20000 in
theorem lfX8_274 : xa_FL RX8 274 8 38 := ⟨_, _, _, rfl, rfl, inX8, by decide, tb843⟩
set_option maxRecDepth 20000 in
theorem lpX8_274 : xa_FP RX8 274 8 38 .int := ⟨_, _, _, tyX8, rfl, rfl, inX8, by decide, tb843, tyX8_ok, nmX8, rfl, by decide +kernel⟩
set_option maxRecDepth 20000 in
theorem lfX8_286 : xa_FL RX8 286 8 44 := ⟨_, _, _, rfl, rfl, inX8, by decide, tb849⟩
set_option maxRecDepth 20000 in
theorem lpX8_286 : xa_FP RX8 286 8 44 .int := ⟨_, _, _, tyX8, rfl, rfl, inX8, by decide, tb849, tyX8_ok, nmX8, rfl, by decide +kernel⟩
set_option maxRecDepth 20000 in
theorem lfX8_311 : xa_FL RX8 311 8 40 := ⟨_, _, _, rfl, rfl, inX8, by decide, tb845⟩
set_option maxRecDepth 20000 in
theorem lpX8_311 : xa_FP RX8 311 8 40 .int := ⟨_, _, _, tyX8, rfl, rfl, inX8, by decide, tb845, tyX8_ok, nmX8, rfl, by decide +kernel⟩
set_option maxRecDepth 20000 in
theorem lfX8_314 : xa_FL RX8 314 8 41 := ⟨_, _, _, rfl, rfl, inX8, by decide, tb846⟩
set_option maxRecDepth 20000 in
theorem lpX8_314 : xa_FP RX8 314 8 41 .int := ⟨_, _, _, tyX8, rfl, rfl, inX8, by decide, tb846, tyX8_ok, nmX8, rfl, by decide +kernel⟩
set_option maxRecDepth 20000 in
theorem loX7_1 : Cond.methodLink RX7 1 objectInit ∈ xa_G := tb16
set_option maxRecDepth 20000 in
theorem cbX7_isNet : xa_CB mX7_isNet 1 := ⟨tb1, tb69, by decide +kernel, by decide +kernel, by decide +kernel⟩
set_option maxRecDepth 20000 in
theorem lcX7_21 : xa_CS RX7 21 mX7_isNet 1 := ⟨cbX7_isNet, tb67, tb68⟩
set_option maxRecDepth 20000 in
theorem cbX3_init : xa_CB mX3_init 5 := ⟨tb3, tb73, by decide +kernel, by decide +kernel, by decide +kernel⟩
set_option maxRecDepth 20000 in
theorem lcX7_29 : xa_CI RX7 29 mX3_init 5 := ⟨cbX3_init, tb71, rfl, tb72, rfl⟩
set_option maxRecDepth 20000 in
theorem cbX7_stayingHelper : xa_CB mX7_stayingHelper 1 := ⟨tb1, tb262, by decide +kernel, by decide +kernel, by decide +kernel⟩
set_option maxRecDepth 20000 in
theorem lcX7_35 : xa_CV RX7 35 mX7_stayingHelper 1 := ⟨cbX7_stayingHelper, tb259, tb261, (xa_gs 0 rfl rfl)⟩
set_option maxRecDepth 20000 in
theorem cbX3_hasForName : xa_CB mX3_hasForName 1 := ⟨tb3, tb274, by decide +kernel, by decide +kernel, by decide +kernel⟩
set_option maxRecDepth 20000 in
theorem lcX7_39 : xa_CV RX7 39 mX3_hasForName 1 := ⟨cbX3_hasForName, tb271, tb272, tb273⟩
set_option maxRecDepth 20000 in
theorem cbX7_addService : xa_CB mX7_addService 6 := ⟨tb1, tb278, by decide +kernel, by decide +kernel, by decide +kernel⟩
set_option maxRecDepth 20000 in
theorem lcX7_42 : xa_CV RX7 42 mX7_addService 6 := ⟨cbX7_addService, tb275, tb277, (xa_gs 3 rfl rfl)⟩
set_option maxRecDepth 20000 in
theorem cbX7_serviceInCare : xa_CB mX7_serviceInCare 1 := ⟨tb1, tb362, by decide +kernel, by decide +kernel, by decide +kernel⟩
set_option maxRecDepth 20000 in
theorem lcX7_46 : xa_CV RX7 46 mX7_serviceInCare 1 := ⟨cbX7_serviceInCare, tb359, tb361, (xa_gs 6 rfl rfl)⟩
set_option maxRecDepth 20000 in
theorem cbX5_end : xa_CB mX5_end 0 := ⟨tb8, tb370, by decide +kernel, by decide +kernel, by decide +kernel⟩
set_option maxRecDepth 20000 in
theorem lcX7_50 : xa_CV RX7 50 mX5_end 0 := ⟨cbX5_end, tb367, tb368, tb369⟩
set_option maxRecDepth 20000 in
theorem cbX7_areMarks : xa_CB mX7_areMarks 1 := ⟨tb1, tb284, by decide +kernel, by decide +kernel, by decide +kernel⟩
set_option maxRecDepth 20000 in
theorem lcX7_53 : xa_CS RX7 53 mX7_areMarks 1 := ⟨cbX7_areMarks, tb282, tb283⟩
set_option maxRecDepth 20000 in
theorem cbX7_isKind : xa_CB mX7_isKind 1 := ⟨tb1, tb281, by decide +kernel, by decide +kernel, by decide +kernel⟩
set_option maxRecDepth 20000 in
theorem lcX7_68 : xa_CS RX7 68 mX7_isKind 1 := ⟨cbX7_isKind, tb279, tb280⟩
set_option maxRecDepth 20000 in
theorem cbX1_has : xa_CB mX1_has 1 := ⟨tb5, tb382, by decide +kernel, by decide +kernel, by decide +kernel⟩
set_option maxRecDepth 20000 in
theorem lcX7_75 : xa_CV RX7 75 mX1_has 1 := ⟨cbX1_has, tb379, tb380, tb381⟩
set_option maxRecDepth 20000 in
theorem cbX7_lotOf : xa_CB mX7_lotOf 1 := ⟨tb1, tb389, by decide +kernel, by decide +kernel, by decide +kernel⟩
set_option maxRecDepth 20000 in
theorem lcX7_80 : xa_CV RX7 80 mX7_lotOf 1 := ⟨cbX7_lotOf, tb386, tb388, (xa_gs 8 rfl rfl)⟩
set_option maxRecDepth 20000 in
theorem cbX1_put : xa_CB mX1_put 3 := ⟨tb5, tb393, by decide +kernel, by decide +kernel, by decide +kernel⟩
set_option maxRecDepth 20000 in
theorem lcX7_84 : xa_CV RX7 84 mX1_put 3 := ⟨cbX1_put, tb390, tb391, tb392⟩
set_option maxRecDepth 20000 in
theorem cbX7_hostAt : xa_CB mX7_hostAt 1 := ⟨tb1, tb270, by decide +kernel, by decide +kernel, by decide +kernel⟩
set_option maxRecDepth 20000 in
theorem lcX7_100 : xa_CV RX7 100 mX7_hostAt 1 := ⟨cbX7_hostAt, tb267, tb269, (xa_gs 2 rfl rfl)⟩
set_option maxRecDepth 20000 in
theorem cbX3_goAway : xa_CB mX3_goAway 0 := ⟨tb3, tb409, by decide +kernel, by decide +kernel, by decide +kernel⟩
set_option maxRecDepth 20000 in
theorem lcX7_112 : xa_CV RX7 112 mX3_goAway 0 := ⟨cbX3_goAway, tb406, tb407, tb408⟩
set_option maxRecDepth 20000 in
theorem cbX7_stayingHost : xa_CB mX7_stayingHost 1 := ⟨tb1, tb266, by decide +kernel, by decide +kernel, by decide +kernel⟩
set_option maxRecDepth 20000 in
theorem lcX7_115 : xa_CV RX7 115 mX7_stayingHost 1 := ⟨cbX7_stayingHost, tb263, tb265, (xa_gs 1 rfl rfl)⟩
set_option maxRecDepth 20000 in
theorem cbX7_rouse : xa_CB mX7_rouse 1 := ⟨tb1, tb429, by decide +kernel, by decide +kernel, by decide +kernel⟩
set_option maxRecDepth 20000 in
theorem lcX7_118 : xa_CV RX7 118 mX7_rouse 1 := ⟨cbX7_rouse, tb426, tb428, (xa_gs 9 rfl rfl)⟩
set_option maxRecDepth 20000 in
theorem cbX1_isEmpty : xa_CB mX1_isEmpty 0 := ⟨tb5, tb442, by decide +kernel, by decide +kernel, by decide +kernel⟩
set_option maxRecDepth 20000 in
theorem lcX7_123 : xa_CV RX7 123 mX1_isEmpty 0 := ⟨cbX1_isEmpty, tb439, tb440, tb441⟩
set_option maxRecDepth 20000 in
theorem cbX7_hasHadServices : xa_CB mX7_hasHadServices 1 := ⟨tb1, tb446, by decide +kernel, by decide +kernel, by decide +kernel⟩
set_option maxRecDepth 20000 in
theorem lcX7_127 : xa_CV RX7 127 mX7_hasHadServices 1 := ⟨cbX7_hasHadServices, tb443, tb445, (xa_gs 10 rfl rfl)⟩
set_option maxRecDepth 20000 in
theorem cbX7_isProxyOfASleeper : xa_CB mX7_isProxyOfASleeper 1 := ⟨tb1, tb450, by decide +kernel, by decide +kernel, by decide +kernel⟩
set_option maxRecDepth 20000 in
theorem lcX7_131 : xa_CV RX7 131 mX7_isProxyOfASleeper 1 := ⟨cbX7_isProxyOfASleeper, tb447, tb449, (xa_gs 11 rfl rfl)⟩
set_option maxRecDepth 20000 in
theorem cbX6_clear : xa_CB mX6_clear 0 := ⟨tb4, tb413, by decide +kernel, by decide +kernel, by decide +kernel⟩
set_option maxRecDepth 20000 in
theorem lcX7_138 : xa_CV RX7 138 mX6_clear 0 := ⟨cbX6_clear, tb451, tb411, tb412⟩
set_option maxRecDepth 20000 in
theorem cbX0_clear : xa_CB mX0_clear 0 := ⟨tb6, tb421, by decide +kernel, by decide +kernel, by decide +kernel⟩
set_option maxRecDepth 20000 in
theorem lcX7_147 : xa_CV RX7 147 mX0_clear 0 := ⟨cbX0_clear, tb452, tb419, tb420⟩
set_option maxRecDepth 20000 in
theorem cbX2_init : xa_CB mX2_init 2 := ⟨tb9, tb457, by decide +kernel, by decide +kernel, by decide +kernel⟩
set_option maxRecDepth 20000 in
theorem lcX7_152 : xa_CI RX7 152 mX2_init 2 := ⟨cbX2_init, tb455, rfl, tb456, rfl⟩
set_option maxRecDepth 20000 in
theorem cbX3_move : xa_CB mX3_move 2 := ⟨tb3, tb498, by decide +kernel, by decide +kernel, by decide +kernel⟩
set_option maxRecDepth 20000 in
theorem lcX7_165 : xa_CV RX7 165 mX3_move 2 := ⟨cbX3_move, tb495, tb496, tb497⟩
set_option maxRecDepth 20000 in
theorem cbX7_holdClaimedNames : xa_CB mX7_holdClaimedNames 0 := ⟨tb1, tb506, by decide +kernel, by decide +kernel, by decide +kernel⟩
set_option maxRecDepth 20000 in
theorem lcX7_168 : xa_CV RX7 168 mX7_holdClaimedNames 0 := ⟨cbX7_holdClaimedNames, tb503, tb505, (xa_gs 12 rfl rfl)⟩
set_option maxRecDepth 20000 in
theorem cbX7_writeLetters : xa_CB mX7_writeLetters 0 := ⟨tb1, tb510, by decide +kernel, by decide +kernel, by decide +kernel⟩
set_option maxRecDepth 20000 in
theorem lcX7_171 : xa_CV RX7 171 mX7_writeLetters 0 := ⟨cbX7_writeLetters, tb507, tb509, (xa_gs 13 rfl rfl)⟩
set_option maxRecDepth 20000 in
theorem cbX7_hearLetters : xa_CB mX7_hearLetters 0 := ⟨tb1, tb609, by decide +kernel, by decide +kernel, by decide +kernel⟩
set_option maxRecDepth 20000 in
theorem lcX7_174 : xa_CV RX7 174 mX7_hearLetters 0 := ⟨cbX7_hearLetters, tb606, tb608, (xa_gs 23 rfl rfl)⟩
set_option maxRecDepth 20000 in
theorem cbX7_forgetWhatEnds : xa_CB mX7_forgetWhatEnds 0 := ⟨tb1, tb737, by decide +kernel, by decide +kernel, by decide +kernel⟩
set_option maxRecDepth 20000 in
theorem lcX7_177 : xa_CV RX7 177 mX7_forgetWhatEnds 0 := ⟨cbX7_forgetWhatEnds, tb734, tb736, (xa_gs 35 rfl rfl)⟩
set_option maxRecDepth 20000 in
theorem cbX7_isFound : xa_CB mX7_isFound 4 := ⟨tb1, tb751, by decide +kernel, by decide +kernel, by decide +kernel⟩
set_option maxRecDepth 20000 in
theorem lcX7_180 : xa_CV RX7 180 mX7_isFound 4 := ⟨cbX7_isFound, tb748, tb750, (xa_gs 36 rfl rfl)⟩
set_option maxRecDepth 20000 in
theorem cbX7_serviceAt : xa_CB mX7_serviceAt 1 := ⟨tb1, tb366, by decide +kernel, by decide +kernel, by decide +kernel⟩
set_option maxRecDepth 20000 in
theorem lcX7_188 : xa_CV RX7 188 mX7_serviceAt 1 := ⟨cbX7_serviceAt, tb363, tb365, (xa_gs 7 rfl rfl)⟩
set_option maxRecDepth 20000 in
theorem cbX6_has : xa_CB mX6_has 1 := ⟨tb4, tb597, by decide +kernel, by decide +kernel, by decide +kernel⟩
set_option maxRecDepth 20000 in
theorem lcX7_191 : xa_CV RX7 191 mX6_has 1 := ⟨cbX6_has, tb594, tb595, tb596⟩
set_option maxRecDepth 20000 in
theorem cbX6_left : xa_CB mX6_left 2 := ⟨tb4, tb601, by decide +kernel, by decide +kernel, by decide +kernel⟩
set_option maxRecDepth 20000 in
theorem lcX7_194 : xa_CV RX7 194 mX6_left 2 := ⟨cbX6_left, tb598, tb599, tb600⟩
set_option maxRecDepth 20000 in
theorem cbX7_hasProxyAwake : xa_CB mX7_hasProxyAwake 1 := ⟨tb1, tb767, by decide +kernel, by decide +kernel, by decide +kernel⟩
set_option maxRecDepth 20000 in
theorem lcX7_210 : xa_CV RX7 210 mX7_hasProxyAwake 1 := ⟨cbX7_hasProxyAwake, tb764, tb766, (xa_gs 37 rfl rfl)⟩
set_option maxRecDepth 20000 in
theorem cbX6_size : xa_CB mX6_size 0 := ⟨tb4, tb771, by decide +kernel, by decide +kernel, by decide +kernel⟩
set_option maxRecDepth 20000 in
theorem lcX7_216 : xa_CV RX7 216 mX6_size 0 := ⟨cbX6_size, tb768, tb769, tb770⟩
set_option maxRecDepth 20000 in
theorem cbX1_size : xa_CB mX1_size 0 := ⟨tb5, tb776, by decide +kernel, by decide +kernel, by decide +kernel⟩
set_option maxRecDepth 20000 in
theorem lcX7_220 : xa_CV RX7 220 mX1_size 0 := ⟨cbX1_size, tb773, tb774, tb775⟩
set_option maxRecDepth 20000 in
theorem cbX0_size : xa_CB mX0_size 0 := ⟨tb6, tb781, by decide +kernel, by decide +kernel, by decide +kernel⟩
set_option maxRecDepth 20000 in
theorem lcX7_221 : xa_CV RX7 221 mX0_size 0 := ⟨cbX0_size, tb778, tb779, tb780⟩
set_option maxRecDepth 20000 in
theorem cbX7_isSpokenForOn : xa_CB mX7_isSpokenForOn 2 := ⟨tb1, tb794, by decide +kernel, by decide +kernel, by decide +kernel⟩
set_option maxRecDepth 20000 in
theorem lcX7_222 : xa_CV RX7 222 mX7_isSpokenForOn 2 := ⟨cbX7_isSpokenForOn, tb791, tb793, (xa_gs 38 rfl rfl)⟩
set_option maxRecDepth 20000 in
theorem cbX7_liveServicesOf : xa_CB mX7_liveServicesOf 1 := ⟨tb1, tb288, by decide +kernel, by decide +kernel, by decide +kernel⟩
set_option maxRecDepth 20000 in
theorem lcX7_250 : xa_CV RX7 250 mX7_liveServicesOf 1 := ⟨cbX7_liveServicesOf, tb285, tb287, (xa_gs 4 rfl rfl)⟩
set_option maxRecDepth 20000 in
theorem cbX7_isNameTaken : xa_CB mX7_isNameTaken 2 := ⟨tb1, tb292, by decide +kernel, by decide +kernel, by decide +kernel⟩
set_option maxRecDepth 20000 in
theorem lcX7_253 : xa_CV RX7 253 mX7_isNameTaken 2 := ⟨cbX7_isNameTaken, tb289, tb291, (xa_gs 5 rfl rfl)⟩
set_option maxRecDepth 20000 in
theorem cbX5_init : xa_CB mX5_init 7 := ⟨tb8, tb296, by decide +kernel, by decide +kernel, by decide +kernel⟩
set_option maxRecDepth 20000 in
theorem lcX7_257 : xa_CI RX7 257 mX5_init 7 := ⟨cbX5_init, tb294, rfl, tb295, rfl⟩
set_option maxRecDepth 20000 in
theorem cbX5_hold : xa_CB mX5_hold 1 := ⟨tb8, tb350, by decide +kernel, by decide +kernel, by decide +kernel⟩
set_option maxRecDepth 20000 in
theorem lcX7_260 : xa_CV RX7 260 mX5_hold 1 := ⟨cbX5_hold, tb347, tb348, tb349⟩
set_option maxRecDepth 20000 in
theorem cbX3_clearLetters : xa_CB mX3_clearLetters 0 := ⟨tb3, tb514, by decide +kernel, by decide +kernel, by decide +kernel⟩
set_option maxRecDepth 20000 in
theorem lcX7_274 : xa_CV RX7 274 mX3_clearLetters 0 := ⟨cbX3_clearLetters, tb511, tb512, tb513⟩
set_option maxRecDepth 20000 in
theorem cbX7_writeByes : xa_CB mX7_writeByes 1 := ⟨tb1, tb522, by decide +kernel, by decide +kernel, by decide +kernel⟩
set_option maxRecDepth 20000 in
theorem lcX7_277 : xa_CV RX7 277 mX7_writeByes 1 := ⟨cbX7_writeByes, tb519, tb521, (xa_gs 14 rfl rfl)⟩
set_option maxRecDepth 20000 in
theorem cbX7_post : xa_CB mX7_post 3 := ⟨tb1, tb530, by decide +kernel, by decide +kernel, by decide +kernel⟩
set_option maxRecDepth 20000 in
theorem lcX7_284 : xa_CV RX7 284 mX7_post 3 := ⟨cbX7_post, tb527, tb529, (xa_gs 15 rfl rfl)⟩
set_option maxRecDepth 20000 in
theorem cbX7_writeCarried : xa_CB mX7_writeCarried 2 := ⟨tb1, tb538, by decide +kernel, by decide +kernel, by decide +kernel⟩
set_option maxRecDepth 20000 in
theorem lcX7_288 : xa_CV RX7 288 mX7_writeCarried 2 := ⟨cbX7_writeCarried, tb535, tb537, (xa_gs 16 rfl rfl)⟩
set_option maxRecDepth 20000 in
theorem cbX7_writeAsks : xa_CB mX7_writeAsks 1 := ⟨tb1, tb542, by decide +kernel, by decide +kernel, by decide +kernel⟩
set_option maxRecDepth 20000 in
theorem lcX7_292 : xa_CV RX7 292 mX7_writeAsks 1 := ⟨cbX7_writeAsks, tb539, tb541, (xa_gs 17 rfl rfl)⟩
set_option maxRecDepth 20000 in
theorem cbX7_writeClaims : xa_CB mX7_writeClaims 1 := ⟨tb1, tb568, by decide +kernel, by decide +kernel, by decide +kernel⟩
set_option maxRecDepth 20000 in
theorem lcX7_295 : xa_CV RX7 295 mX7_writeClaims 1 := ⟨cbX7_writeClaims, tb565, tb567, (xa_gs 19 rfl rfl)⟩
set_option maxRecDepth 20000 in
theorem cbX7_writeTellings : xa_CB mX7_writeTellings 1 := ⟨tb1, tb576, by decide +kernel, by decide +kernel, by decide +kernel⟩
set_option maxRecDepth 20000 in
theorem lcX7_298 : xa_CV RX7 298 mX7_writeTellings 1 := ⟨cbX7_writeTellings, tb573, tb575, (xa_gs 20 rfl rfl)⟩
set_option maxRecDepth 20000 in
theorem cbX1_isDue : xa_CB mX1_isDue 2 := ⟨tb5, tb546, by decide +kernel, by decide +kernel, by decide +kernel⟩
set_option maxRecDepth 20000 in
theorem lcX7_301 : xa_CV RX7 301 mX1_isDue 2 := ⟨cbX1_isDue, tb543, tb544, tb545⟩
set_option maxRecDepth 20000 in
theorem cbX7_knownTo : xa_CB mX7_knownTo 2 := ⟨tb1, tb551, by decide +kernel, by decide +kernel, by decide +kernel⟩
set_option maxRecDepth 20000 in
theorem lcX7_306 : xa_CV RX7 306 mX7_knownTo 2 := ⟨cbX7_knownTo, tb548, tb550, (xa_gs 18 rfl rfl)⟩
set_option maxRecDepth 20000 in
theorem cbX4_addAsk : xa_CB mX4_addAsk 4 := ⟨tb7, tb560, by decide +kernel, by decide +kernel, by decide +kernel⟩
set_option maxRecDepth 20000 in
theorem lcX7_310 : xa_CV RX7 310 mX4_addAsk 4 := ⟨cbX4_addAsk, tb557, tb558, tb559⟩
set_option maxRecDepth 20000 in
theorem cbX1_remove : xa_CB mX1_remove 1 := ⟨tb5, tb564, by decide +kernel, by decide +kernel, by decide +kernel⟩
set_option maxRecDepth 20000 in
theorem lcX7_316 : xa_CV RX7 316 mX1_remove 1 := ⟨cbX1_remove, tb561, tb562, tb563⟩
set_option maxRecDepth 20000 in
theorem cbX4_addClaim : xa_CB mX4_addClaim 3 := ⟨tb7, tb572, by decide +kernel, by decide +kernel, by decide +kernel⟩
set_option maxRecDepth 20000 in
theorem lcX7_319 : xa_CV RX7 319 mX4_addClaim 3 := ⟨cbX4_addClaim, tb569, tb570, tb571⟩
set_option maxRecDepth 20000 in
theorem cbX4_addBye : xa_CB mX4_addBye 2 := ⟨tb7, tb526, by decide +kernel, by decide +kernel, by decide +kernel⟩
set_option maxRecDepth 20000 in
theorem lcX7_322 : xa_CV RX7 322 mX4_addBye 2 := ⟨cbX4_addBye, tb523, tb524, tb525⟩
set_option maxRecDepth 20000 in
theorem cbX0_isDue : xa_CB mX0_isDue 2 := ⟨tb6, tb580, by decide +kernel, by decide +kernel, by decide +kernel⟩
set_option maxRecDepth 20000 in
theorem lcX7_325 : xa_CV RX7 325 mX0_isDue 2 := ⟨cbX0_isDue, tb577, tb578, tb579⟩
set_option maxRecDepth 20000 in
theorem cbX7_writeTelling : xa_CB mX7_writeTelling 3 := ⟨tb1, tb585, by decide +kernel, by decide +kernel, by decide +kernel⟩
set_option maxRecDepth 20000 in
theorem lcX7_326 : xa_CV RX7 326 mX7_writeTelling 3 := ⟨cbX7_writeTelling, tb582, tb584, (xa_gs 21 rfl rfl)⟩
set_option maxRecDepth 20000 in
theorem cbX0_remove : xa_CB mX0_remove 1 := ⟨tb6, tb605, by decide +kernel, by decide +kernel, by decide +kernel⟩
set_option maxRecDepth 20000 in
theorem lcX7_330 : xa_CV RX7 330 mX0_remove 1 := ⟨cbX0_remove, tb602, tb603, tb604⟩
set_option maxRecDepth 20000 in
theorem cbX7_speaksFor : xa_CB mX7_speaksFor 2 := ⟨tb1, tb589, by decide +kernel, by decide +kernel, by decide +kernel⟩
set_option maxRecDepth 20000 in
theorem lcX7_331 : xa_CV RX7 331 mX7_speaksFor 2 := ⟨cbX7_speaksFor, tb586, tb588, (xa_gs 22 rfl rfl)⟩
set_option maxRecDepth 20000 in
theorem cbX4_addTelling : xa_CB mX4_addTelling 5 := ⟨tb7, tb593, by decide +kernel, by decide +kernel, by decide +kernel⟩
set_option maxRecDepth 20000 in
theorem lcX7_337 : xa_CV RX7 337 mX4_addTelling 5 := ⟨cbX4_addTelling, tb590, tb591, tb592⟩
set_option maxRecDepth 20000 in
theorem cbX4_isEmpty : xa_CB mX4_isEmpty 0 := ⟨tb7, tb534, by decide +kernel, by decide +kernel, by decide +kernel⟩
set_option maxRecDepth 20000 in
theorem lcX7_347 : xa_CV RX7 347 mX4_isEmpty 0 := ⟨cbX4_isEmpty, tb531, tb532, tb533⟩
set_option maxRecDepth 20000 in
theorem cbX7_sendOut : xa_CB mX7_sendOut 2 := ⟨tb1, tb613, by decide +kernel, by decide +kernel, by decide +kernel⟩
set_option maxRecDepth 20000 in
theorem lcX7_349 : xa_CV RX7 349 mX7_sendOut 2 := ⟨cbX7_sendOut, tb610, tb612, (xa_gs 24 rfl rfl)⟩
set_option maxRecDepth 20000 in
theorem cbX3_isOn : xa_CB mX3_isOn 1 := ⟨tb3, tb617, by decide +kernel, by decide +kernel, by decide +kernel⟩
set_option maxRecDepth 20000 in
theorem lcX7_353 : xa_CV RX7 353 mX3_isOn 1 := ⟨cbX3_isOn, tb614, tb615, tb616⟩
set_option maxRecDepth 20000 in
theorem cbX7_takeUp : xa_CB mX7_takeUp 3 := ⟨tb1, tb621, by decide +kernel, by decide +kernel, by decide +kernel⟩
set_option maxRecDepth 20000 in
theorem lcX7_356 : xa_CV RX7 356 mX7_takeUp 3 := ⟨cbX7_takeUp, tb618, tb620, (xa_gs 25 rfl rfl)⟩
set_option maxRecDepth 20000 in
theorem cbX7_hearLetter : xa_CB mX7_hearLetter 3 := ⟨tb1, tb678, by decide +kernel, by decide +kernel, by decide +kernel⟩
set_option maxRecDepth 20000 in
theorem lcX7_360 : xa_CV RX7 360 mX7_hearLetter 3 := ⟨cbX7_hearLetter, tb675, tb677, (xa_gs 26 rfl rfl)⟩
set_option maxRecDepth 20000 in
theorem cbX4_size : xa_CB mX4_size 0 := ⟨tb7, tb625, by decide +kernel, by decide +kernel, by decide +kernel⟩
set_option maxRecDepth 20000 in
theorem lcX7_364 : xa_CV RX7 364 mX4_size 0 := ⟨cbX4_size, tb622, tb623, tb624⟩
set_option maxRecDepth 20000 in
theorem cbX2_carries : xa_CB mX2_carries 1 := ⟨tb9, tb635, by decide +kernel, by decide +kernel, by decide +kernel⟩
set_option maxRecDepth 20000 in
theorem lcX7_374 : xa_CV RX7 374 mX2_carries 1 := ⟨cbX2_carries, tb632, tb633, tb634⟩
set_option maxRecDepth 20000 in
theorem cbX4_takeAsk : xa_CB mX4_takeAsk 3 := ⟨tb7, tb640, by decide +kernel, by decide +kernel, by decide +kernel⟩
set_option maxRecDepth 20000 in
theorem lcX7_377 : xa_CV RX7 377 mX4_takeAsk 3 := ⟨cbX4_takeAsk, tb637, tb638, tb639⟩
set_option maxRecDepth 20000 in
theorem cbX7_isIn : xa_CB mX7_isIn 2 := ⟨tb1, tb385, by decide +kernel, by decide +kernel, by decide +kernel⟩
set_option maxRecDepth 20000 in
theorem lcX7_381 : xa_CS RX7 381 mX7_isIn 2 := ⟨cbX7_isIn, tb647, tb384⟩
set_option maxRecDepth 20000 in
theorem cbX4_takeClaim : xa_CB mX4_takeClaim 3 := ⟨tb7, tb651, by decide +kernel, by decide +kernel, by decide +kernel⟩
set_option maxRecDepth 20000 in
theorem lcX7_384 : xa_CV RX7 384 mX4_takeClaim 3 := ⟨cbX4_takeClaim, tb648, tb649, tb650⟩
set_option maxRecDepth 20000 in
theorem cbX4_takeBye : xa_CB mX4_takeBye 3 := ⟨tb7, tb660, by decide +kernel, by decide +kernel, by decide +kernel⟩
set_option maxRecDepth 20000 in
theorem lcX7_387 : xa_CV RX7 387 mX4_takeBye 3 := ⟨cbX4_takeBye, tb657, tb658, tb659⟩
set_option maxRecDepth 20000 in
theorem cbX4_takeTelling : xa_CB mX4_takeTelling 3 := ⟨tb7, tb669, by decide +kernel, by decide +kernel, by decide +kernel⟩
set_option maxRecDepth 20000 in
theorem lcX7_390 : xa_CV RX7 390 mX4_takeTelling 3 := ⟨cbX4_takeTelling, tb666, tb667, tb668⟩
set_option maxRecDepth 20000 in
theorem cbX4_hasAsk : xa_CB mX4_hasAsk 1 := ⟨tb7, tb644, by decide +kernel, by decide +kernel, by decide +kernel⟩
set_option maxRecDepth 20000 in
theorem lcX7_393 : xa_CV RX7 393 mX4_hasAsk 1 := ⟨cbX4_hasAsk, tb679, tb642, tb643⟩
set_option maxRecDepth 20000 in
theorem cbX7_hearAsk : xa_CB mX7_hearAsk 4 := ⟨tb1, tb683, by decide +kernel, by decide +kernel, by decide +kernel⟩
set_option maxRecDepth 20000 in
theorem lcX7_396 : xa_CV RX7 396 mX7_hearAsk 4 := ⟨cbX7_hearAsk, tb680, tb682, (xa_gs 27 rfl rfl)⟩
set_option maxRecDepth 20000 in
theorem cbX4_hasClaim : xa_CB mX4_hasClaim 1 := ⟨tb7, tb655, by decide +kernel, by decide +kernel, by decide +kernel⟩
set_option maxRecDepth 20000 in
theorem lcX7_400 : xa_CV RX7 400 mX4_hasClaim 1 := ⟨cbX4_hasClaim, tb696, tb653, tb654⟩
set_option maxRecDepth 20000 in
theorem cbX7_contend : xa_CB mX7_contend 4 := ⟨tb1, tb700, by decide +kernel, by decide +kernel, by decide +kernel⟩
set_option maxRecDepth 20000 in
theorem lcX7_406 : xa_CV RX7 406 mX7_contend 4 := ⟨cbX7_contend, tb697, tb699, (xa_gs 30 rfl rfl)⟩
set_option maxRecDepth 20000 in
theorem cbX6_removeAll : xa_CB mX6_removeAll 1 := ⟨tb4, tb716, by decide +kernel, by decide +kernel, by decide +kernel⟩
set_option maxRecDepth 20000 in
theorem lcX7_410 : xa_CV RX7 410 mX6_removeAll 1 := ⟨cbX6_removeAll, tb713, tb714, tb715⟩
set_option maxRecDepth 20000 in
theorem cbX4_hasTelling : xa_CB mX4_hasTelling 1 := ⟨tb7, tb673, by decide +kernel, by decide +kernel, by decide +kernel⟩
set_option maxRecDepth 20000 in
theorem lcX7_413 : xa_CV RX7 413 mX4_hasTelling 1 := ⟨cbX4_hasTelling, tb717, tb671, tb672⟩
set_option maxRecDepth 20000 in
theorem cbX7_hearTelling : xa_CB mX7_hearTelling 3 := ⟨tb1, tb721, by decide +kernel, by decide +kernel, by decide +kernel⟩
set_option maxRecDepth 20000 in
theorem lcX7_416 : xa_CV RX7 416 mX7_hearTelling 3 := ⟨cbX7_hearTelling, tb718, tb720, (xa_gs 33 rfl rfl)⟩
set_option maxRecDepth 20000 in
theorem cbX7_leastKeeperOn : xa_CB mX7_leastKeeperOn 2 := ⟨tb1, tb687, by decide +kernel, by decide +kernel, by decide +kernel⟩
set_option maxRecDepth 20000 in
theorem lcX7_426 : xa_CV RX7 426 mX7_leastKeeperOn 2 := ⟨cbX7_leastKeeperOn, tb684, tb686, (xa_gs 28 rfl rfl)⟩
set_option maxRecDepth 20000 in
theorem cbX7_canAnswer : xa_CB mX7_canAnswer 3 := ⟨tb1, tb691, by decide +kernel, by decide +kernel, by decide +kernel⟩
set_option maxRecDepth 20000 in
theorem lcX7_430 : xa_CV RX7 430 mX7_canAnswer 3 := ⟨cbX7_canAnswer, tb688, tb690, (xa_gs 29 rfl rfl)⟩
set_option maxRecDepth 20000 in
theorem cbX0_comeDue : xa_CB mX0_comeDue 2 := ⟨tb6, tb695, by decide +kernel, by decide +kernel, by decide +kernel⟩
set_option maxRecDepth 20000 in
theorem lcX7_434 : xa_CV RX7 434 mX0_comeDue 2 := ⟨cbX0_comeDue, tb692, tb693, tb694⟩
set_option maxRecDepth 20000 in
theorem cbX6_isFresh : xa_CB mX6_isFresh 2 := ⟨tb4, tb555, by decide +kernel, by decide +kernel, by decide +kernel⟩
set_option maxRecDepth 20000 in
theorem lcX7_437 : xa_CV RX7 437 mX6_isFresh 2 := ⟨cbX6_isFresh, tb552, tb553, tb554⟩
set_option maxRecDepth 20000 in
theorem cbX7_otherRecorded : xa_CB mX7_otherRecorded 3 := ⟨tb1, tb725, by decide +kernel, by decide +kernel, by decide +kernel⟩
set_option maxRecDepth 20000 in
theorem lcX7_446 : xa_CV RX7 446 mX7_otherRecorded 3 := ⟨cbX7_otherRecorded, tb722, tb724, (xa_gs 34 rfl rfl)⟩
set_option maxRecDepth 20000 in
theorem cbX7_isStronger : xa_CB mX7_isStronger 2 := ⟨tb1, tb704, by decide +kernel, by decide +kernel, by decide +kernel⟩
set_option maxRecDepth 20000 in
theorem lcX7_450 : xa_CV RX7 450 mX7_isStronger 2 := ⟨cbX7_isStronger, tb701, tb703, (xa_gs 31 rfl rfl)⟩
set_option maxRecDepth 20000 in
theorem cbX6_remove : xa_CB mX6_remove 1 := ⟨tb4, tb729, by decide +kernel, by decide +kernel, by decide +kernel⟩
set_option maxRecDepth 20000 in
theorem lcX7_454 : xa_CV RX7 454 mX6_remove 1 := ⟨cbX6_remove, tb726, tb727, tb728⟩
set_option maxRecDepth 20000 in
theorem cbX6_put : xa_CB mX6_put 5 := ⟨tb4, tb733, by decide +kernel, by decide +kernel, by decide +kernel⟩
set_option maxRecDepth 20000 in
theorem lcX7_458 : xa_CV RX7 458 mX6_put 5 := ⟨cbX6_put, tb730, tb731, tb732⟩
set_option maxRecDepth 20000 in
theorem cbX7_giveWay : xa_CB mX7_giveWay 1 := ⟨tb1, tb708, by decide +kernel, by decide +kernel, by decide +kernel⟩
set_option maxRecDepth 20000 in
theorem lcX7_460 : xa_CV RX7 460 mX7_giveWay 1 := ⟨cbX7_giveWay, tb705, tb707, (xa_gs 32 rfl rfl)⟩
set_option maxRecDepth 20000 in
theorem cbX5_claimAnew : xa_CB mX5_claimAnew 1 := ⟨tb8, tb712, by decide +kernel, by decide +kernel, by decide +kernel⟩
set_option maxRecDepth 20000 in
theorem lcX7_470 : xa_CV RX7 470 mX5_claimAnew 1 := ⟨cbX5_claimAnew, tb709, tb710, tb711⟩
set_option maxRecDepth 20000 in
theorem cbX6_removeEnding : xa_CB mX6_removeEnding 1 := ⟨tb4, tb741, by decide +kernel, by decide +kernel, by decide +kernel⟩
set_option maxRecDepth 20000 in
theorem lcX7_473 : xa_CV RX7 473 mX6_removeEnding 1 := ⟨cbX6_removeEnding, tb738, tb739, tb740⟩
set_option maxRecDepth 20000 in
theorem loX0_3 : Cond.methodLink RX0 3 objectInit ∈ xa_G := tb123
set_option maxRecDepth 20000 in
theorem lcX0_19 : xa_CSN RX0 19 mX7_isIn 2 := ⟨cbX7_isIn, ⟨"WhoIsThere", List.mem_filter.mpr ⟨xa_t3 101 rfl, rfl⟩⟩, tb384⟩
set_option maxRecDepth 20000 in
theorem cbJ6_bitCount_0f7a4 : xa_CB mJ6_bitCount_0f7a4 1 := ⟨tb10, tb628, by decide +kernel, by decide +kernel, by decide +kernel⟩
set_option maxRecDepth 20000 in
theorem lcX0_23 : xa_CS RX0 23 mJ6_bitCount_0f7a4 1 := ⟨cbJ6_bitCount_0f7a4, tb782, tb627⟩
set_option maxRecDepth 20000 in
theorem loX1_3 : Cond.methodLink RX1 3 objectInit ∈ xa_G := tb106
set_option maxRecDepth 20000 in
theorem lcX1_22 : xa_CSN RX1 22 mX7_isIn 2 := ⟨cbX7_isIn, ⟨"WhoIsThere", List.mem_filter.mpr ⟨xa_t2 143 rfl, rfl⟩⟩, tb384⟩
set_option maxRecDepth 20000 in
theorem lcX1_26 : xa_CV RX1 26 mX1_has 1 := ⟨cbX1_has, tb547, tb380, tb381⟩
set_option maxRecDepth 20000 in
theorem lcX1_30 : xa_CS RX1 30 mJ6_bitCount_0f7a4 1 := ⟨cbJ6_bitCount_0f7a4, tb777, tb627⟩
set_option maxRecDepth 20000 in
theorem loX2_1 : Cond.methodLink RX2 1 objectInit ∈ xa_G := tb458
set_option maxRecDepth 20000 in
theorem cbX4_init : xa_CB mX4_init 0 := ⟨tb7, tb135, by decide +kernel, by decide +kernel, by decide +kernel⟩
set_option maxRecDepth 20000 in
theorem lcX2_9 : xa_CIN RX2 9 mX4_init 0 := ⟨cbX4_init, ⟨"WhoIsThere", List.mem_filter.mpr ⟨xa_t2 220 rfl, rfl⟩⟩, rfl, tb134, rfl⟩
set_option maxRecDepth 20000 in
theorem lcX2_29 : xa_CSN RX2 29 mX7_isIn 2 := ⟨cbX7_isIn, ⟨"WhoIsThere", List.mem_filter.mpr ⟨xa_t3 156 rfl, rfl⟩⟩, tb384⟩
set_option maxRecDepth 20000 in
theorem loX3_3 : Cond.methodLink RX3 3 objectInit ∈ xa_G := tb74
set_option maxRecDepth 20000 in
theorem cbX6_init : xa_CB mX6_init 0 := ⟨tb4, tb79, by decide +kernel, by decide +kernel, by decide +kernel⟩
set_option maxRecDepth 20000 in
theorem lcX3_11 : xa_CIN RX3 11 mX6_init 0 := ⟨cbX6_init, ⟨"WhoIsThere", List.mem_filter.mpr ⟨xa_t1 77 rfl, rfl⟩⟩, rfl, tb78, rfl⟩
set_option maxRecDepth 20000 in
theorem cbX1_init : xa_CB mX1_init 0 := ⟨tb5, tb105, by decide +kernel, by decide +kernel, by decide +kernel⟩
set_option maxRecDepth 20000 in
theorem lcX3_20 : xa_CIN RX3 20 mX1_init 0 := ⟨cbX1_init, ⟨"WhoIsThere", List.mem_filter.mpr ⟨xa_t1 103 rfl, rfl⟩⟩, rfl, tb104, rfl⟩
set_option maxRecDepth 20000 in
theorem cbX0_init : xa_CB mX0_init 0 := ⟨tb6, tb122, by decide +kernel, by decide +kernel, by decide +kernel⟩
set_option maxRecDepth 20000 in
theorem lcX3_27 : xa_CIN RX3 27 mX0_init 0 := ⟨cbX0_init, ⟨"WhoIsThere", List.mem_filter.mpr ⟨xa_t1 120 rfl, rfl⟩⟩, rfl, tb121, rfl⟩
set_option maxRecDepth 20000 in
theorem lcX3_38 : xa_CIN RX3 38 mX4_init 0 := ⟨cbX4_init, ⟨"WhoIsThere", List.mem_filter.mpr ⟨xa_t1 133 rfl, rfl⟩⟩, rfl, tb134, rfl⟩
set_option maxRecDepth 20000 in
theorem lcX3_69 : xa_CV RX3 69 mX6_clear 0 := ⟨cbX6_clear, tb410, tb411, tb412⟩
set_option maxRecDepth 20000 in
theorem cbX1_clear : xa_CB mX1_clear 0 := ⟨tb5, tb417, by decide +kernel, by decide +kernel, by decide +kernel⟩
set_option maxRecDepth 20000 in
theorem lcX3_72 : xa_CV RX3 72 mX1_clear 0 := ⟨cbX1_clear, tb414, tb415, tb416⟩
set_option maxRecDepth 20000 in
theorem lcX3_73 : xa_CV RX3 73 mX0_clear 0 := ⟨cbX0_clear, tb418, tb419, tb420⟩
set_option maxRecDepth 20000 in
theorem cbX4_clear : xa_CB mX4_clear 0 := ⟨tb7, tb518, by decide +kernel, by decide +kernel, by decide +kernel⟩
set_option maxRecDepth 20000 in
theorem lcX3_74 : xa_CV RX3 74 mX4_clear 0 := ⟨cbX4_clear, tb515, tb516, tb517⟩
set_option maxRecDepth 20000 in
theorem loX4_3 : Cond.methodLink RX4 3 objectInit ∈ xa_G := tb136
set_option maxRecDepth 20000 in
theorem lcX4_55 : xa_CS RX4 55 mJ6_bitCount_0f7a4 1 := ⟨cbJ6_bitCount_0f7a4, tb626, tb627⟩
set_option maxRecDepth 20000 in
theorem lcX4_61 : xa_CSN RX4 61 mX7_isIn 2 := ⟨cbX7_isIn, ⟨"WhoIsThere", List.mem_filter.mpr ⟨xa_t3 165 rfl, rfl⟩⟩, tb384⟩
set_option maxRecDepth 20000 in
theorem lcX4_68 : xa_CV RX4 68 mX4_hasAsk 1 := ⟨cbX4_hasAsk, tb641, tb642, tb643⟩
set_option maxRecDepth 20000 in
theorem lcX4_72 : xa_CV RX4 72 mX4_addAsk 4 := ⟨cbX4_addAsk, tb646, tb558, tb559⟩
set_option maxRecDepth 20000 in
theorem lcX4_76 : xa_CV RX4 76 mX4_hasClaim 1 := ⟨cbX4_hasClaim, tb652, tb653, tb654⟩
set_option maxRecDepth 20000 in
theorem lcX4_79 : xa_CV RX4 79 mX4_addClaim 3 := ⟨cbX4_addClaim, tb656, tb570, tb571⟩
set_option maxRecDepth 20000 in
theorem cbX4_hasBye : xa_CB mX4_hasBye 1 := ⟨tb7, tb664, by decide +kernel, by decide +kernel, by decide +kernel⟩
set_option maxRecDepth 20000 in
theorem lcX4_83 : xa_CV RX4 83 mX4_hasBye 1 := ⟨cbX4_hasBye, tb661, tb662, tb663⟩
set_option maxRecDepth 20000 in
theorem lcX4_86 : xa_CV RX4 86 mX4_addBye 2 := ⟨cbX4_addBye, tb665, tb524, tb525⟩
set_option maxRecDepth 20000 in
theorem lcX4_90 : xa_CV RX4 90 mX4_hasTelling 1 := ⟨cbX4_hasTelling, tb670, tb671, tb672⟩
set_option maxRecDepth 20000 in
theorem lcX4_93 : xa_CV RX4 93 mX4_addTelling 5 := ⟨cbX4_addTelling, tb674, tb591, tb592⟩
set_option maxRecDepth 20000 in
theorem loX5_3 : Cond.methodLink RX5 3 objectInit ∈ xa_G := tb297
set_option maxRecDepth 20000 in
theorem loX6_3 : Cond.methodLink RX6 3 objectInit ∈ xa_G := tb80
set_option maxRecDepth 20000 in
theorem lcX6_28 : xa_CSN RX6 28 mX7_isIn 2 := ⟨cbX7_isIn, ⟨"WhoIsThere", List.mem_filter.mpr ⟨xa_t3 76 rfl, rfl⟩⟩, tb384⟩
set_option maxRecDepth 20000 in
theorem lcX6_32 : xa_CS RX6 32 mJ6_bitCount_0f7a4 1 := ⟨cbJ6_bitCount_0f7a4, tb772, tb627⟩
set_option maxRecDepth 20000 in
theorem lcX6_38 : xa_CV RX6 38 mX6_has 1 := ⟨cbX6_has, tb742, tb595, tb596⟩
set_option maxRecDepth 20000 in
theorem lcX6_42 : xa_CV RX6 42 mX6_remove 1 := ⟨cbX6_remove, tb743, tb727, tb728⟩
set_option maxRecDepth 20000 in
theorem cbX7_init : xa_CB mX7_init 0 := ⟨tb1, tb15, by decide +kernel, by decide +kernel, by decide +kernel⟩
set_option maxRecDepth 20000 in
theorem lcL_9 : xa_CI RL 9 mX7_init 0 := ⟨cbX7_init, tb13, rfl, tb14, rfl⟩
set_option maxRecDepth 20000 in
theorem cbX8_init : xa_CB mX8_init 0 := ⟨tb2, tb803, by decide +kernel, by decide +kernel, by decide +kernel⟩
set_option maxRecDepth 20000 in
theorem lcL_12 : xa_CI RL 12 mX8_init 0 := ⟨cbX8_init, tb801, rfl, tb802, rfl⟩
set_option maxRecDepth 20000 in
theorem cbX7_host : xa_CB mX7_host 4 := ⟨tb1, tb66, by decide +kernel, by decide +kernel, by decide +kernel⟩
set_option maxRecDepth 20000 in
theorem lcL_13 : xa_CV RL 13 mX7_host 4 := ⟨cbX7_host, tb63, tb64, tb65⟩
set_option maxRecDepth 20000 in
theorem cbX8_host : xa_CB mX8_host 4 := ⟨tb2, tb990, by decide +kernel, by decide +kernel, by decide +kernel⟩
set_option maxRecDepth 20000 in
theorem lcL_17 : xa_CV RL 17 mX8_host 4 := ⟨cbX8_host, tb987, tb988, tb989⟩
set_option maxRecDepth 20000 in
theorem cbX7_offer : xa_CB mX7_offer 5 := ⟨tb1, tb258, by decide +kernel, by decide +kernel, by decide +kernel⟩
set_option maxRecDepth 20000 in
theorem lcL_18 : xa_CV RL 18 mX7_offer 5 := ⟨cbX7_offer, tb255, tb256, tb257⟩
set_option maxRecDepth 20000 in
theorem cbX8_offer : xa_CB mX8_offer 5 := ⟨tb2, tb997, by decide +kernel, by decide +kernel, by decide +kernel⟩
set_option maxRecDepth 20000 in
theorem lcL_22 : xa_CV RL 22 mX8_offer 5 := ⟨cbX8_offer, tb994, tb995, tb996⟩
set_option maxRecDepth 20000 in
theorem cbX7_lie : xa_CB mX7_lie 5 := ⟨tb1, tb354, by decide +kernel, by decide +kernel, by decide +kernel⟩
set_option maxRecDepth 20000 in
theorem lcL_23 : xa_CV RL 23 mX7_lie 5 := ⟨cbX7_lie, tb351, tb352, tb353⟩
set_option maxRecDepth 20000 in
theorem cbX8_lie : xa_CB mX8_lie 5 := ⟨tb2, tb1029, by decide +kernel, by decide +kernel, by decide +kernel⟩
set_option maxRecDepth 20000 in
theorem lcL_26 : xa_CV RL 26 mX8_lie 5 := ⟨cbX8_lie, tb1026, tb1027, tb1028⟩
set_option maxRecDepth 20000 in
theorem cbX7_drop : xa_CB mX7_drop 1 := ⟨tb1, tb358, by decide +kernel, by decide +kernel, by decide +kernel⟩
set_option maxRecDepth 20000 in
theorem lcL_27 : xa_CV RL 27 mX7_drop 1 := ⟨cbX7_drop, tb355, tb356, tb357⟩
set_option maxRecDepth 20000 in
theorem cbX8_drop : xa_CB mX8_drop 1 := ⟨tb2, tb1033, by decide +kernel, by decide +kernel, by decide +kernel⟩
set_option maxRecDepth 20000 in
theorem lcL_31 : xa_CV RL 31 mX8_drop 1 := ⟨cbX8_drop, tb1030, tb1031, tb1032⟩
set_option maxRecDepth 20000 in
theorem cbX7_change : xa_CB mX7_change 2 := ⟨tb1, tb374, by decide +kernel, by decide +kernel, by decide +kernel⟩
set_option maxRecDepth 20000 in
theorem lcL_32 : xa_CV RL 32 mX7_change 2 := ⟨cbX7_change, tb371, tb372, tb373⟩
set_option maxRecDepth 20000 in
theorem cbX8_change : xa_CB mX8_change 2 := ⟨tb2, tb1049, by decide +kernel, by decide +kernel, by decide +kernel⟩
set_option maxRecDepth 20000 in
theorem lcL_36 : xa_CV RL 36 mX8_change 2 := ⟨cbX8_change, tb1046, tb1047, tb1048⟩
set_option maxRecDepth 20000 in
theorem cbX7_ask : xa_CB mX7_ask 3 := ⟨tb1, tb378, by decide +kernel, by decide +kernel, by decide +kernel⟩
set_option maxRecDepth 20000 in
theorem lcL_37 : xa_CV RL 37 mX7_ask 3 := ⟨cbX7_ask, tb375, tb376, tb377⟩
set_option maxRecDepth 20000 in
theorem cbX8_ask : xa_CB mX8_ask 3 := ⟨tb2, tb1053, by decide +kernel, by decide +kernel, by decide +kernel⟩
set_option maxRecDepth 20000 in
theorem lcL_41 : xa_CV RL 41 mX8_ask 3 := ⟨cbX8_ask, tb1050, tb1051, tb1052⟩
set_option maxRecDepth 20000 in
theorem cbX7_sleep : xa_CB mX7_sleep 2 := ⟨tb1, tb397, by decide +kernel, by decide +kernel, by decide +kernel⟩
set_option maxRecDepth 20000 in
theorem lcL_42 : xa_CV RL 42 mX7_sleep 2 := ⟨cbX7_sleep, tb394, tb395, tb396⟩
set_option maxRecDepth 20000 in
theorem cbX8_sleep : xa_CB mX8_sleep 2 := ⟨tb2, tb1060, by decide +kernel, by decide +kernel, by decide +kernel⟩
set_option maxRecDepth 20000 in
theorem lcL_45 : xa_CV RL 45 mX8_sleep 2 := ⟨cbX8_sleep, tb1057, tb1058, tb1059⟩
set_option maxRecDepth 20000 in
theorem cbX7_wake : xa_CB mX7_wake 1 := ⟨tb1, tb401, by decide +kernel, by decide +kernel, by decide +kernel⟩
set_option maxRecDepth 20000 in
theorem lcL_46 : xa_CV RL 46 mX7_wake 1 := ⟨cbX7_wake, tb398, tb399, tb400⟩
set_option maxRecDepth 20000 in
theorem cbX8_wake : xa_CB mX8_wake 1 := ⟨tb2, tb1064, by decide +kernel, by decide +kernel, by decide +kernel⟩
set_option maxRecDepth 20000 in
theorem lcL_49 : xa_CV RL 49 mX8_wake 1 := ⟨cbX8_wake, tb1061, tb1062, tb1063⟩
set_option maxRecDepth 20000 in
theorem cbX7_fall : xa_CB mX7_fall 1 := ⟨tb1, tb405, by decide +kernel, by decide +kernel, by decide +kernel⟩
set_option maxRecDepth 20000 in
theorem lcL_50 : xa_CV RL 50 mX7_fall 1 := ⟨cbX7_fall, tb402, tb403, tb404⟩
set_option maxRecDepth 20000 in
theorem cbX8_fall : xa_CB mX8_fall 1 := ⟨tb2, tb1072, by decide +kernel, by decide +kernel, by decide +kernel⟩
set_option maxRecDepth 20000 in
theorem lcL_53 : xa_CV RL 53 mX8_fall 1 := ⟨cbX8_fall, tb1069, tb1070, tb1071⟩
set_option maxRecDepth 20000 in
theorem cbX7_leave : xa_CB mX7_leave 1 := ⟨tb1, tb425, by decide +kernel, by decide +kernel, by decide +kernel⟩
set_option maxRecDepth 20000 in
theorem lcL_54 : xa_CV RL 54 mX7_leave 1 := ⟨cbX7_leave, tb422, tb423, tb424⟩
set_option maxRecDepth 20000 in
theorem cbX8_leave : xa_CB mX8_leave 1 := ⟨tb2, tb1088, by decide +kernel, by decide +kernel, by decide +kernel⟩
set_option maxRecDepth 20000 in
theorem lcL_57 : xa_CV RL 57 mX8_leave 1 := ⟨cbX8_leave, tb1085, tb1086, tb1087⟩
set_option maxRecDepth 20000 in
theorem cbX7_keeper : xa_CB mX7_keeper 2 := ⟨tb1, tb433, by decide +kernel, by decide +kernel, by decide +kernel⟩
set_option maxRecDepth 20000 in
theorem lcL_58 : xa_CV RL 58 mX7_keeper 2 := ⟨cbX7_keeper, tb430, tb431, tb432⟩
set_option maxRecDepth 20000 in
theorem cbX8_keeper : xa_CB mX8_keeper 2 := ⟨tb2, tb1092, by decide +kernel, by decide +kernel, by decide +kernel⟩
set_option maxRecDepth 20000 in
theorem lcL_62 : xa_CV RL 62 mX8_keeper 2 := ⟨cbX8_keeper, tb1089, tb1090, tb1091⟩
set_option maxRecDepth 20000 in
theorem cbX7_bridge : xa_CB mX7_bridge 3 := ⟨tb1, tb437, by decide +kernel, by decide +kernel, by decide +kernel⟩
set_option maxRecDepth 20000 in
theorem lcL_63 : xa_CV RL 63 mX7_bridge 3 := ⟨cbX7_bridge, tb434, tb435, tb436⟩
set_option maxRecDepth 20000 in
theorem cbX8_bridge : xa_CB mX8_bridge 3 := ⟨tb2, tb1096, by decide +kernel, by decide +kernel, by decide +kernel⟩
set_option maxRecDepth 20000 in
theorem lcL_66 : xa_CV RL 66 mX8_bridge 3 := ⟨cbX8_bridge, tb1093, tb1094, tb1095⟩
set_option maxRecDepth 20000 in
theorem cbX7_lose : xa_CB mX7_lose 2 := ⟨tb1, tb486, by decide +kernel, by decide +kernel, by decide +kernel⟩
set_option maxRecDepth 20000 in
theorem lcL_67 : xa_CV RL 67 mX7_lose 2 := ⟨cbX7_lose, tb483, tb484, tb485⟩
set_option maxRecDepth 20000 in
theorem cbX8_lose : xa_CB mX8_lose 2 := ⟨tb2, tb1101, by decide +kernel, by decide +kernel, by decide +kernel⟩
set_option maxRecDepth 20000 in
theorem lcL_70 : xa_CV RL 70 mX8_lose 2 := ⟨cbX8_lose, tb1098, tb1099, tb1100⟩
set_option maxRecDepth 20000 in
theorem cbX7_deaf : xa_CB mX7_deaf 2 := ⟨tb1, tb490, by decide +kernel, by decide +kernel, by decide +kernel⟩
set_option maxRecDepth 20000 in
theorem lcL_71 : xa_CV RL 71 mX7_deaf 2 := ⟨cbX7_deaf, tb487, tb488, tb489⟩
set_option maxRecDepth 20000 in
theorem cbX8_deaf : xa_CB mX8_deaf 2 := ⟨tb2, tb1105, by decide +kernel, by decide +kernel, by decide +kernel⟩
set_option maxRecDepth 20000 in
theorem lcL_74 : xa_CV RL 74 mX8_deaf 2 := ⟨cbX8_deaf, tb1102, tb1103, tb1104⟩
set_option maxRecDepth 20000 in
theorem cbX7_join : xa_CB mX7_join 2 := ⟨tb1, tb494, by decide +kernel, by decide +kernel, by decide +kernel⟩
set_option maxRecDepth 20000 in
theorem lcL_75 : xa_CV RL 75 mX7_join 2 := ⟨cbX7_join, tb491, tb492, tb493⟩
set_option maxRecDepth 20000 in
theorem cbX8_join : xa_CB mX8_join 2 := ⟨tb2, tb1109, by decide +kernel, by decide +kernel, by decide +kernel⟩
set_option maxRecDepth 20000 in
theorem lcL_78 : xa_CV RL 78 mX8_join 2 := ⟨cbX8_join, tb1106, tb1107, tb1108⟩
set_option maxRecDepth 20000 in
theorem cbX7_tick : xa_CB mX7_tick 1 := ⟨tb1, tb502, by decide +kernel, by decide +kernel, by decide +kernel⟩
set_option maxRecDepth 20000 in
theorem lcL_79 : xa_CV RL 79 mX7_tick 1 := ⟨cbX7_tick, tb499, tb500, tb501⟩
set_option maxRecDepth 20000 in
theorem cbX8_tick : xa_CB mX8_tick 1 := ⟨tb2, tb1113, by decide +kernel, by decide +kernel, by decide +kernel⟩
set_option maxRecDepth 20000 in
theorem lcL_83 : xa_CV RL 83 mX8_tick 1 := ⟨cbX8_tick, tb1110, tb1111, tb1112⟩
set_option maxRecDepth 20000 in
theorem cbX7_find : xa_CB mX7_find 4 := ⟨tb1, tb747, by decide +kernel, by decide +kernel, by decide +kernel⟩
set_option maxRecDepth 20000 in
theorem lcL_84 : xa_CV RL 84 mX7_find 4 := ⟨cbX7_find, tb744, tb745, tb746⟩
set_option maxRecDepth 20000 in
theorem cbX8_find : xa_CB mX8_find 4 := ⟨tb2, tb1201, by decide +kernel, by decide +kernel, by decide +kernel⟩
set_option maxRecDepth 20000 in
theorem lcL_87 : xa_CV RL 87 mX8_find 4 := ⟨cbX8_find, tb1198, tb1199, tb1200⟩
set_option maxRecDepth 20000 in
theorem cbX7_record : xa_CB mX7_record 3 := ⟨tb1, tb755, by decide +kernel, by decide +kernel, by decide +kernel⟩
set_option maxRecDepth 20000 in
theorem lcL_88 : xa_CV RL 88 mX7_record 3 := ⟨cbX7_record, tb752, tb753, tb754⟩
set_option maxRecDepth 20000 in
theorem cbX8_record : xa_CB mX8_record 3 := ⟨tb2, tb1205, by decide +kernel, by decide +kernel, by decide +kernel⟩
set_option maxRecDepth 20000 in
theorem lcL_92 : xa_CV RL 92 mX8_record 3 := ⟨cbX8_record, tb1202, tb1203, tb1204⟩
set_option maxRecDepth 20000 in
theorem cbX7_service : xa_CB mX7_service 2 := ⟨tb1, tb759, by decide +kernel, by decide +kernel, by decide +kernel⟩
set_option maxRecDepth 20000 in
theorem lcL_93 : xa_CV RL 93 mX7_service 2 := ⟨cbX7_service, tb756, tb757, tb758⟩
set_option maxRecDepth 20000 in
theorem cbX8_service : xa_CB mX8_service 2 := ⟨tb2, tb1209, by decide +kernel, by decide +kernel, by decide +kernel⟩
set_option maxRecDepth 20000 in
theorem lcL_97 : xa_CV RL 97 mX8_service 2 := ⟨cbX8_service, tb1206, tb1207, tb1208⟩
set_option maxRecDepth 20000 in
theorem cbX7_look : xa_CB mX7_look 2 := ⟨tb1, tb763, by decide +kernel, by decide +kernel, by decide +kernel⟩
set_option maxRecDepth 20000 in
theorem lcL_98 : xa_CV RL 98 mX7_look 2 := ⟨cbX7_look, tb760, tb761, tb762⟩
set_option maxRecDepth 20000 in
theorem cbX8_look : xa_CB mX8_look 2 := ⟨tb2, tb1213, by decide +kernel, by decide +kernel, by decide +kernel⟩
set_option maxRecDepth 20000 in
theorem lcL_101 : xa_CV RL 101 mX8_look 2 := ⟨cbX8_look, tb1210, tb1211, tb1212⟩
set_option maxRecDepth 20000 in
theorem cbX7_reach : xa_CB mX7_reach 2 := ⟨tb1, tb786, by decide +kernel, by decide +kernel, by decide +kernel⟩
set_option maxRecDepth 20000 in
theorem lcL_102 : xa_CV RL 102 mX7_reach 2 := ⟨cbX7_reach, tb783, tb784, tb785⟩
set_option maxRecDepth 20000 in
theorem cbX8_reach : xa_CB mX8_reach 2 := ⟨tb2, tb1217, by decide +kernel, by decide +kernel, by decide +kernel⟩
set_option maxRecDepth 20000 in
theorem lcL_105 : xa_CV RL 105 mX8_reach 2 := ⟨cbX8_reach, tb1214, tb1215, tb1216⟩
set_option maxRecDepth 20000 in
theorem cbX7_twice : xa_CB mX7_twice 1 := ⟨tb1, tb790, by decide +kernel, by decide +kernel, by decide +kernel⟩
set_option maxRecDepth 20000 in
theorem lcL_106 : xa_CV RL 106 mX7_twice 1 := ⟨cbX7_twice, tb787, tb788, tb789⟩
set_option maxRecDepth 20000 in
theorem cbX8_twice : xa_CB mX8_twice 1 := ⟨tb2, tb1221, by decide +kernel, by decide +kernel, by decide +kernel⟩
set_option maxRecDepth 20000 in
theorem lcL_109 : xa_CV RL 109 mX8_twice 1 := ⟨cbX8_twice, tb1218, tb1219, tb1220⟩
set_option maxRecDepth 20000 in
theorem cbX7_count : xa_CB mX7_count 1 := ⟨tb1, tb798, by decide +kernel, by decide +kernel, by decide +kernel⟩
set_option maxRecDepth 20000 in
theorem lcL_110 : xa_CV RL 110 mX7_count 1 := ⟨cbX7_count, tb795, tb796, tb797⟩
set_option maxRecDepth 20000 in
theorem cbX8_count : xa_CB mX8_count 1 := ⟨tb2, tb1229, by decide +kernel, by decide +kernel, by decide +kernel⟩
set_option maxRecDepth 20000 in
theorem lcL_113 : xa_CV RL 113 mX8_count 1 := ⟨cbX8_count, tb1226, tb1227, tb1228⟩
set_option maxRecDepth 20000 in
theorem loX8_3 : Cond.methodLink RX8 3 objectInit ∈ xa_G := tb804
set_option maxRecDepth 20000 in
theorem cbX8_in : xa_CB mX8_in 3 := ⟨tb2, tb993, by decide +kernel, by decide +kernel, by decide +kernel⟩
set_option maxRecDepth 20000 in
theorem lcX8_159 : xa_CS RX8 159 mX8_in 3 := ⟨cbX8_in, tb991, tb992⟩
set_option maxRecDepth 20000 in
theorem cbX8_isHost : xa_CB mX8_isHost 1 := ⟨tb2, tb1013, by decide +kernel, by decide +kernel, by decide +kernel⟩
set_option maxRecDepth 20000 in
theorem lcX8_163 : xa_CV RX8 163 mX8_isHost 1 := ⟨cbX8_isHost, tb1010, tb1012, (xa_gs 42 rfl rfl)⟩
set_option maxRecDepth 20000 in
theorem cbX8_isAwake : xa_CB mX8_isAwake 1 := ⟨tb2, tb1009, by decide +kernel, by decide +kernel, by decide +kernel⟩
set_option maxRecDepth 20000 in
theorem lcX8_167 : xa_CV RX8 167 mX8_isAwake 1 := ⟨cbX8_isAwake, tb1006, tb1008, (xa_gs 41 rfl rfl)⟩
set_option maxRecDepth 20000 in
theorem cbX8_isUp : xa_CB mX8_isUp 1 := ⟨tb2, tb1005, by decide +kernel, by decide +kernel, by decide +kernel⟩
set_option maxRecDepth 20000 in
theorem lcX8_173 : xa_CV RX8 173 mX8_isUp 1 := ⟨cbX8_isUp, tb1002, tb1004, (xa_gs 40 rfl rfl)⟩
set_option maxRecDepth 20000 in
theorem cbX8_many : xa_CB mX8_many 1 := ⟨tb2, tb1017, by decide +kernel, by decide +kernel, by decide +kernel⟩
set_option maxRecDepth 20000 in
theorem lcX8_176 : xa_CV RX8 176 mX8_many 1 := ⟨cbX8_many, tb1014, tb1016, (xa_gs 43 rfl rfl)⟩
set_option maxRecDepth 20000 in
theorem cbX8_mayOffer : xa_CB mX8_mayOffer 4 := ⟨tb2, tb1001, by decide +kernel, by decide +kernel, by decide +kernel⟩
set_option maxRecDepth 20000 in
theorem lcX8_180 : xa_CV RX8 180 mX8_mayOffer 4 := ⟨cbX8_mayOffer, tb998, tb1000, (xa_gs 39 rfl rfl)⟩
set_option maxRecDepth 20000 in
theorem cbX8_isNamed : xa_CB mX8_isNamed 3 := ⟨tb2, tb1021, by decide +kernel, by decide +kernel, by decide +kernel⟩
set_option maxRecDepth 20000 in
theorem lcX8_184 : xa_CV RX8 184 mX8_isNamed 3 := ⟨cbX8_isNamed, tb1018, tb1020, (xa_gs 44 rfl rfl)⟩
set_option maxRecDepth 20000 in
theorem cbX8_comes : xa_CB mX8_comes 5 := ⟨tb2, tb1025, by decide +kernel, by decide +kernel, by decide +kernel⟩
set_option maxRecDepth 20000 in
theorem lcX8_187 : xa_CV RX8 187 mX8_comes 5 := ⟨cbX8_comes, tb1022, tb1024, (xa_gs 45 rfl rfl)⟩
set_option maxRecDepth 20000 in
theorem cbX8_isService : xa_CB mX8_isService 1 := ⟨tb2, tb1041, by decide +kernel, by decide +kernel, by decide +kernel⟩
set_option maxRecDepth 20000 in
theorem lcX8_194 : xa_CV RX8 194 mX8_isService 1 := ⟨cbX8_isService, tb1038, tb1040, (xa_gs 47 rfl rfl)⟩
set_option maxRecDepth 20000 in
theorem cbX8_isOpen : xa_CB mX8_isOpen 1 := ⟨tb2, tb1037, by decide +kernel, by decide +kernel, by decide +kernel⟩
set_option maxRecDepth 20000 in
theorem lcX8_197 : xa_CV RX8 197 mX8_isOpen 1 := ⟨cbX8_isOpen, tb1034, tb1036, (xa_gs 46 rfl rfl)⟩
set_option maxRecDepth 20000 in
theorem cbX8_goes : xa_CB mX8_goes 2 := ⟨tb2, tb1045, by decide +kernel, by decide +kernel, by decide +kernel⟩
set_option maxRecDepth 20000 in
theorem lcX8_200 : xa_CV RX8 200 mX8_goes 2 := ⟨cbX8_goes, tb1042, tb1044, (xa_gs 48 rfl rfl)⟩
set_option maxRecDepth 20000 in
theorem cbX8_lot : xa_CB mX8_lot 2 := ⟨tb2, tb1056, by decide +kernel, by decide +kernel, by decide +kernel⟩
set_option maxRecDepth 20000 in
theorem lcX8_204 : xa_CS RX8 204 mX8_lot 2 := ⟨cbX8_lot, tb1054, tb1055⟩
set_option maxRecDepth 20000 in
theorem cbX8_wakes : xa_CB mX8_wakes 1 := ⟨tb2, tb1068, by decide +kernel, by decide +kernel, by decide +kernel⟩
set_option maxRecDepth 20000 in
theorem lcX8_208 : xa_CV RX8 208 mX8_wakes 1 := ⟨cbX8_wakes, tb1065, tb1067, (xa_gs 49 rfl rfl)⟩
set_option maxRecDepth 20000 in
theorem cbX8_empties : xa_CB mX8_empties 1 := ⟨tb2, tb1080, by decide +kernel, by decide +kernel, by decide +kernel⟩
set_option maxRecDepth 20000 in
theorem lcX8_212 : xa_CV RX8 212 mX8_empties 1 := ⟨cbX8_empties, tb1077, tb1079, (xa_gs 51 rfl rfl)⟩
set_option maxRecDepth 20000 in
theorem cbX8_clears : xa_CB mX8_clears 1 := ⟨tb2, tb1084, by decide +kernel, by decide +kernel, by decide +kernel⟩
set_option maxRecDepth 20000 in
theorem lcX8_215 : xa_CV RX8 215 mX8_clears 1 := ⟨cbX8_clears, tb1081, tb1083, (xa_gs 52 rfl rfl)⟩
set_option maxRecDepth 20000 in
theorem cbX8_isGone : xa_CB mX8_isGone 1 := ⟨tb2, tb1076, by decide +kernel, by decide +kernel, by decide +kernel⟩
set_option maxRecDepth 20000 in
theorem lcX8_218 : xa_CV RX8 218 mX8_isGone 1 := ⟨cbX8_isGone, tb1073, tb1075, (xa_gs 50 rfl rfl)⟩
set_option maxRecDepth 20000 in
theorem cbX8_isBare : xa_CB mX8_isBare 1 := ⟨tb2, tb1133, by decide +kernel, by decide +kernel, by decide +kernel⟩
set_option maxRecDepth 20000 in
theorem lcX8_228 : xa_CV RX8 228 mX8_isBare 1 := ⟨cbX8_isBare, tb1130, tb1132, (xa_gs 57 rfl rfl)⟩
set_option maxRecDepth 20000 in
theorem cbX8_oneTick : xa_CB mX8_oneTick 1 := ⟨tb2, tb1117, by decide +kernel, by decide +kernel, by decide +kernel⟩
set_option maxRecDepth 20000 in
theorem lcX8_240 : xa_CV RX8 240 mX8_oneTick 1 := ⟨cbX8_oneTick, tb1114, tb1116, (xa_gs 53 rfl rfl)⟩
set_option maxRecDepth 20000 in
theorem cbX8_writesAll : xa_CB mX8_writesAll 2 := ⟨tb2, tb1121, by decide +kernel, by decide +kernel, by decide +kernel⟩
set_option maxRecDepth 20000 in
theorem lcX8_243 : xa_CV RX8 243 mX8_writesAll 2 := ⟨cbX8_writesAll, tb1118, tb1120, (xa_gs 54 rfl rfl)⟩
set_option maxRecDepth 20000 in
theorem cbX8_isHeard : xa_CB mX8_isHeard 2 := ⟨tb2, tb1157, by decide +kernel, by decide +kernel, by decide +kernel⟩
set_option maxRecDepth 20000 in
theorem lcX8_247 : xa_CV RX8 247 mX8_isHeard 2 := ⟨cbX8_isHeard, tb1154, tb1156, (xa_gs 63 rfl rfl)⟩
set_option maxRecDepth 20000 in
theorem cbX8_byes : xa_CB mX8_byes 1 := ⟨tb2, tb1125, by decide +kernel, by decide +kernel, by decide +kernel⟩
set_option maxRecDepth 20000 in
theorem lcX8_250 : xa_CV RX8 250 mX8_byes 1 := ⟨cbX8_byes, tb1122, tb1124, (xa_gs 55 rfl rfl)⟩
set_option maxRecDepth 20000 in
theorem cbX8_writes : xa_CB mX8_writes 2 := ⟨tb2, tb1129, by decide +kernel, by decide +kernel, by decide +kernel⟩
set_option maxRecDepth 20000 in
theorem lcX8_253 : xa_CV RX8 253 mX8_writes 2 := ⟨cbX8_writes, tb1126, tb1128, (xa_gs 56 rfl rfl)⟩
set_option maxRecDepth 20000 in
theorem cbX8_takesUp : xa_CB mX8_takesUp 3 := ⟨tb2, tb1137, by decide +kernel, by decide +kernel, by decide +kernel⟩
set_option maxRecDepth 20000 in
theorem lcX8_256 : xa_CV RX8 256 mX8_takesUp 3 := ⟨cbX8_takesUp, tb1134, tb1136, (xa_gs 58 rfl rfl)⟩
set_option maxRecDepth 20000 in
theorem cbX8_asks : xa_CB mX8_asks 2 := ⟨tb2, tb1141, by decide +kernel, by decide +kernel, by decide +kernel⟩
set_option maxRecDepth 20000 in
theorem lcX8_260 : xa_CV RX8 260 mX8_asks 2 := ⟨cbX8_asks, tb1138, tb1140, (xa_gs 59 rfl rfl)⟩
set_option maxRecDepth 20000 in
theorem cbX8_tells : xa_CB mX8_tells 2 := ⟨tb2, tb1149, by decide +kernel, by decide +kernel, by decide +kernel⟩
set_option maxRecDepth 20000 in
theorem lcX8_263 : xa_CV RX8 263 mX8_tells 2 := ⟨cbX8_tells, tb1146, tb1148, (xa_gs 61 rfl rfl)⟩
set_option maxRecDepth 20000 in
theorem cbX8_knownTo : xa_CB mX8_knownTo 3 := ⟨tb2, tb1145, by decide +kernel, by decide +kernel, by decide +kernel⟩
set_option maxRecDepth 20000 in
theorem lcX8_266 : xa_CV RX8 266 mX8_knownTo 3 := ⟨cbX8_knownTo, tb1142, tb1144, (xa_gs 60 rfl rfl)⟩
set_option maxRecDepth 20000 in
theorem cbX8_speaksFor : xa_CB mX8_speaksFor 2 := ⟨tb2, tb1153, by decide +kernel, by decide +kernel, by decide +kernel⟩
set_option maxRecDepth 20000 in
theorem lcX8_270 : xa_CV RX8 270 mX8_speaksFor 2 := ⟨cbX8_speaksFor, tb1150, tb1152, (xa_gs 62 rfl rfl)⟩
set_option maxRecDepth 20000 in
theorem cbX8_carries : xa_CB mX8_carries 2 := ⟨tb2, tb1161, by decide +kernel, by decide +kernel, by decide +kernel⟩
set_option maxRecDepth 20000 in
theorem lcX8_277 : xa_CV RX8 277 mX8_carries 2 := ⟨cbX8_carries, tb1158, tb1160, (xa_gs 64 rfl rfl)⟩
set_option maxRecDepth 20000 in
theorem cbX8_hears : xa_CB mX8_hears 3 := ⟨tb2, tb1169, by decide +kernel, by decide +kernel, by decide +kernel⟩
set_option maxRecDepth 20000 in
theorem lcX8_280 : xa_CV RX8 280 mX8_hears 3 := ⟨cbX8_hears, tb1166, tb1168, (xa_gs 66 rfl rfl)⟩
set_option maxRecDepth 20000 in
theorem cbX8_isCarried : xa_CB mX8_isCarried 4 := ⟨tb2, tb1165, by decide +kernel, by decide +kernel, by decide +kernel⟩
set_option maxRecDepth 20000 in
theorem lcX8_283 : xa_CV RX8 283 mX8_isCarried 4 := ⟨cbX8_isCarried, tb1162, tb1164, (xa_gs 65 rfl rfl)⟩
set_option maxRecDepth 20000 in
theorem cbX8_hearsAsk : xa_CB mX8_hearsAsk 4 := ⟨tb2, tb1173, by decide +kernel, by decide +kernel, by decide +kernel⟩
set_option maxRecDepth 20000 in
theorem lcX8_289 : xa_CV RX8 289 mX8_hearsAsk 4 := ⟨cbX8_hearsAsk, tb1170, tb1172, (xa_gs 67 rfl rfl)⟩
set_option maxRecDepth 20000 in
theorem cbX8_hearsClaim : xa_CB mX8_hearsClaim 4 := ⟨tb2, tb1185, by decide +kernel, by decide +kernel, by decide +kernel⟩
set_option maxRecDepth 20000 in
theorem lcX8_293 : xa_CV RX8 293 mX8_hearsClaim 4 := ⟨cbX8_hearsClaim, tb1182, tb1184, (xa_gs 70 rfl rfl)⟩
set_option maxRecDepth 20000 in
theorem cbX8_hearsTelling : xa_CB mX8_hearsTelling 4 := ⟨tb2, tb1197, by decide +kernel, by decide +kernel, by decide +kernel⟩
set_option maxRecDepth 20000 in
theorem lcX8_296 : xa_CV RX8 296 mX8_hearsTelling 4 := ⟨cbX8_hearsTelling, tb1194, tb1196, (xa_gs 73 rfl rfl)⟩
set_option maxRecDepth 20000 in
theorem cbX8_keeperOn : xa_CB mX8_keeperOn 2 := ⟨tb2, tb1177, by decide +kernel, by decide +kernel, by decide +kernel⟩
set_option maxRecDepth 20000 in
theorem lcX8_299 : xa_CV RX8 299 mX8_keeperOn 2 := ⟨cbX8_keeperOn, tb1174, tb1176, (xa_gs 68 rfl rfl)⟩
set_option maxRecDepth 20000 in
theorem cbX8_isDue : xa_CB mX8_isDue 3 := ⟨tb2, tb1181, by decide +kernel, by decide +kernel, by decide +kernel⟩
set_option maxRecDepth 20000 in
theorem lcX8_302 : xa_CV RX8 302 mX8_isDue 3 := ⟨cbX8_isDue, tb1178, tb1180, (xa_gs 69 rfl rfl)⟩
set_option maxRecDepth 20000 in
theorem cbX8_isStronger : xa_CB mX8_isStronger 2 := ⟨tb2, tb1189, by decide +kernel, by decide +kernel, by decide +kernel⟩
set_option maxRecDepth 20000 in
theorem lcX8_305 : xa_CV RX8 305 mX8_isStronger 2 := ⟨cbX8_isStronger, tb1186, tb1188, (xa_gs 71 rfl rfl)⟩
set_option maxRecDepth 20000 in
theorem cbX8_yieldsName : xa_CB mX8_yieldsName 1 := ⟨tb2, tb1193, by decide +kernel, by decide +kernel, by decide +kernel⟩
set_option maxRecDepth 20000 in
theorem lcX8_308 : xa_CV RX8 308 mX8_yieldsName 1 := ⟨cbX8_yieldsName, tb1190, tb1192, (xa_gs 72 rfl rfl)⟩
set_option maxRecDepth 20000 in
theorem cbX8_isSpoken : xa_CB mX8_isSpoken 2 := ⟨tb2, tb1225, by decide +kernel, by decide +kernel, by decide +kernel⟩
set_option maxRecDepth 20000 in
theorem lcX8_317 : xa_CV RX8 317 mX8_isSpoken 2 := ⟨cbX8_isSpoken, tb1222, tb1224, (xa_gs 74 rfl rfl)⟩
set_option maxRecDepth 20000 in
theorem llX7_9 : Cond.classLink RX7 9 "WhoIsThere$Host" ∈ xa_G := tb19
set_option maxRecDepth 20000 in
theorem lnX7_9 : xa_NC RX7 9 3 := ⟨_, _, _, tyX3, rfl, rfl, inX3, tyX3_ok, by decide +kernel, tb19, tb70, tb3⟩
set_option maxRecDepth 20000 in
theorem llX7_15 : Cond.classLink RX7 15 "WhoIsThere$Service" ∈ xa_G := tb21
set_option maxRecDepth 20000 in
theorem lnX7_15 : xa_NC RX7 15 5 := ⟨_, _, _, tyX5, rfl, rfl, inX5, tyX5_ok, by decide +kernel, tb21, tb293, tb8⟩
set_option maxRecDepth 20000 in
theorem llX7_150 : Cond.classLink RX7 150 "WhoIsThere$Bridge" ∈ xa_G := tb453
set_option maxRecDepth 20000 in
theorem lnX7_150 : xa_NC RX7 150 2 := ⟨_, _, _, tyX2, rfl, rfl, inX2, tyX2_ok, by decide +kernel, tb453, tb454, tb9⟩
set_option maxRecDepth 20000 in
theorem llX2_7 : Cond.classLink RX2 7 "WhoIsThere$Letter" ∈ xa_G := tb459
set_option maxRecDepth 20000 in
theorem lnX2_7 : xa_NC RX2 7 4 := ⟨_, _, _, tyX4, rfl, rfl, inX4, tyX4_ok, by decide +kernel, tb459, tb132, tb7⟩
set_option maxRecDepth 20000 in
theorem llX3_9 : Cond.classLink RX3 9 "WhoIsThere$Store" ∈ xa_G := tb75
set_option maxRecDepth 20000 in
theorem lnX3_9 : xa_NC RX3 9 6 := ⟨_, _, _, tyX6, rfl, rfl, inX6, tyX6_ok, by decide +kernel, tb75, tb76, tb4⟩
set_option maxRecDepth 20000 in
theorem llX3_18 : Cond.classLink RX3 18 "WhoIsThere$Asks" ∈ xa_G := tb101
set_option maxRecDepth 20000 in
theorem lnX3_18 : xa_NC RX3 18 1 := ⟨_, _, _, tyX1, rfl, rfl, inX1, tyX1_ok, by decide +kernel, tb101, tb102, tb5⟩
set_option maxRecDepth 20000 in
theorem llX3_25 : Cond.classLink RX3 25 "WhoIsThere$Answers" ∈ xa_G := tb118
set_option maxRecDepth 20000 in
theorem lnX3_25 : xa_NC RX3 25 0 := ⟨_, _, _, tyX0, rfl, rfl, inX0, tyX0_ok, by decide +kernel, tb118, tb119, tb6⟩
set_option maxRecDepth 20000 in
theorem llX3_36 : Cond.classLink RX3 36 "WhoIsThere$Letter" ∈ xa_G := tb131
set_option maxRecDepth 20000 in
theorem lnX3_36 : xa_NC RX3 36 4 := ⟨_, _, _, tyX4, rfl, rfl, inX4, tyX4_ok, by decide +kernel, tb131, tb132, tb7⟩
set_option maxRecDepth 20000 in
theorem llL_7 : Cond.classLink RL 7 "WhoIsThere" ∈ xa_G := tb11
set_option maxRecDepth 20000 in
theorem lnL_7 : xa_NC RL 7 7 := ⟨_, _, _, tyX7, rfl, rfl, inX7, tyX7_ok, by decide +kernel, tb11, tb12, tb1⟩
set_option maxRecDepth 20000 in
theorem llL_10 : Cond.classLink RL 10 "WhoIsThereModel" ∈ xa_G := tb799
set_option maxRecDepth 20000 in
theorem lnL_10 : xa_NC RL 10 8 := ⟨_, _, _, tyX8, rfl, rfl, inX8, tyX8_ok, by decide +kernel, tb799, tb800, tb2⟩
set_option maxRecDepth 20000 in
theorem lo_im : Cond.instanceMethod objectInit ∈ xa_G := tb17
set_option maxRecDepth 20000 in
theorem lo_cd : Cond.code objectInit ⟨#[0xb1]⟩ 1 none ∈ xa_G := tb18
set_option maxRecDepth 20000 in
theorem la_int : Cond.arrayClass .int ∈ xa_G := tb100
set_option maxRecDepth 20000 in
theorem la_bool : Cond.arrayClass .boolean ∈ xa_G := tb986
set_option maxRecDepth 20000 in
theorem lkX7_122 : Cond.constant RX7 122 65535 ∈ xa_G := tb438
set_option maxRecDepth 20000 in
theorem lkX8_224 : Cond.constant RX8 224 65535 ∈ xa_G := tb1097
set_option maxRecDepth 20000 in
theorem lkJ6_265 : Cond.constant RJ6 265 1431655765 ∈ xa_G := tb629
set_option maxRecDepth 20000 in
theorem lkJ6_266 : Cond.constant RJ6 266 858993459 ∈ xa_G := tb630
set_option maxRecDepth 20000 in
theorem lkJ6_267 : Cond.constant RJ6 267 252645135 ∈ xa_G := tb631

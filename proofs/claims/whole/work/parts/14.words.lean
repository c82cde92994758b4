/-! the words of the tables that the methods use, by their places -/
theorem tq1 {i : Nat} {w : Cond} (h : tables_1_1[i]? = some w) : w ∈ lw_tbl := List.mem_append_right _ (show w ∈ tables_1_1 ++ (tables_1_2 ++ (tables_1_3 ++ (tables_1_4 ++ (tables_1_5 ++ (tables_1_6 ++ (tables_1_7 ++ (tables_1_8 ++ (tables_1_9 ++ tables_1_10)))))))) from (List.mem_append_left _ (List.mem_of_getElem? h)))
theorem tq2 {i : Nat} {w : Cond} (h : tables_1_2[i]? = some w) : w ∈ lw_tbl := List.mem_append_right _ (show w ∈ tables_1_1 ++ (tables_1_2 ++ (tables_1_3 ++ (tables_1_4 ++ (tables_1_5 ++ (tables_1_6 ++ (tables_1_7 ++ (tables_1_8 ++ (tables_1_9 ++ tables_1_10)))))))) from (List.mem_append_right _ (List.mem_append_left _ (List.mem_of_getElem? h))))
theorem tq3 {i : Nat} {w : Cond} (h : tables_1_3[i]? = some w) : w ∈ lw_tbl := List.mem_append_right _ (show w ∈ tables_1_1 ++ (tables_1_2 ++ (tables_1_3 ++ (tables_1_4 ++ (tables_1_5 ++ (tables_1_6 ++ (tables_1_7 ++ (tables_1_8 ++ (tables_1_9 ++ tables_1_10)))))))) from (List.mem_append_right _ (List.mem_append_right _ (List.mem_append_left _ (List.mem_of_getElem? h)))))
theorem tq4 {i : Nat} {w : Cond} (h : tables_1_4[i]? = some w) : w ∈ lw_tbl := List.mem_append_right _ (show w ∈ tables_1_1 ++ (tables_1_2 ++ (tables_1_3 ++ (tables_1_4 ++ (tables_1_5 ++ (tables_1_6 ++ (tables_1_7 ++ (tables_1_8 ++ (tables_1_9 ++ tables_1_10)))))))) from (List.mem_append_right _ (List.mem_append_right _ (List.mem_append_right _ (List.mem_append_left _ (List.mem_of_getElem? h))))))
theorem tq5 {i : Nat} {w : Cond} (h : tables_1_5[i]? = some w) : w ∈ lw_tbl := List.mem_append_right _ (show w ∈ tables_1_1 ++ (tables_1_2 ++ (tables_1_3 ++ (tables_1_4 ++ (tables_1_5 ++ (tables_1_6 ++ (tables_1_7 ++ (tables_1_8 ++ (tables_1_9 ++ tables_1_10)))))))) from (List.mem_append_right _ (List.mem_append_right _ (List.mem_append_right _ (List.mem_append_right _ (List.mem_append_left _ (List.mem_of_getElem? h)))))))
theorem tq6 {i : Nat} {w : Cond} (h : tables_1_6[i]? = some w) : w ∈ lw_tbl := List.mem_append_right _ (show w ∈ tables_1_1 ++ (tables_1_2 ++ (tables_1_3 ++ (tables_1_4 ++ (tables_1_5 ++ (tables_1_6 ++ (tables_1_7 ++ (tables_1_8 ++ (tables_1_9 ++ tables_1_10)))))))) from (List.mem_append_right _ (List.mem_append_right _ (List.mem_append_right _ (List.mem_append_right _ (List.mem_append_right _ (List.mem_append_left _ (List.mem_of_getElem? h))))))))
theorem tq7 {i : Nat} {w : Cond} (h : tables_1_7[i]? = some w) : w ∈ lw_tbl := List.mem_append_right _ (show w ∈ tables_1_1 ++ (tables_1_2 ++ (tables_1_3 ++ (tables_1_4 ++ (tables_1_5 ++ (tables_1_6 ++ (tables_1_7 ++ (tables_1_8 ++ (tables_1_9 ++ tables_1_10)))))))) from (List.mem_append_right _ (List.mem_append_right _ (List.mem_append_right _ (List.mem_append_right _ (List.mem_append_right _ (List.mem_append_right _ (List.mem_append_left _ (List.mem_of_getElem? h)))))))))
theorem tq8 {i : Nat} {w : Cond} (h : tables_1_8[i]? = some w) : w ∈ lw_tbl := List.mem_append_right _ (show w ∈ tables_1_1 ++ (tables_1_2 ++ (tables_1_3 ++ (tables_1_4 ++ (tables_1_5 ++ (tables_1_6 ++ (tables_1_7 ++ (tables_1_8 ++ (tables_1_9 ++ tables_1_10)))))))) from (List.mem_append_right _ (List.mem_append_right _ (List.mem_append_right _ (List.mem_append_right _ (List.mem_append_right _ (List.mem_append_right _ (List.mem_append_right _ (List.mem_append_left _ (List.mem_of_getElem? h))))))))))
theorem tq9 {i : Nat} {w : Cond} (h : tables_1_9[i]? = some w) : w ∈ lw_tbl := List.mem_append_right _ (show w ∈ tables_1_1 ++ (tables_1_2 ++ (tables_1_3 ++ (tables_1_4 ++ (tables_1_5 ++ (tables_1_6 ++ (tables_1_7 ++ (tables_1_8 ++ (tables_1_9 ++ tables_1_10)))))))) from (List.mem_append_right _ (List.mem_append_right _ (List.mem_append_right _ (List.mem_append_right _ (List.mem_append_right _ (List.mem_append_right _ (List.mem_append_right _ (List.mem_append_right _ (List.mem_append_left _ (List.mem_of_getElem? h)))))))))))
theorem tq10 {i : Nat} {w : Cond} (h : tables_1_10[i]? = some w) : w ∈ lw_tbl := List.mem_append_right _ (show w ∈ tables_1_1 ++ (tables_1_2 ++ (tables_1_3 ++ (tables_1_4 ++ (tables_1_5 ++ (tables_1_6 ++ (tables_1_7 ++ (tables_1_8 ++ (tables_1_9 ++ tables_1_10)))))))) from (List.mem_append_right _ (List.mem_append_right _ (List.mem_append_right _ (List.mem_append_right _ (List.mem_append_right _ (List.mem_append_right _ (List.mem_append_right _ (List.mem_append_right _ (List.mem_append_right _ (List.mem_of_getElem? h)))))))))))
theorem tw0 : Cond.initialized "BrigadePagersLaw" ∈ lw_tbl := tq1 (i := 0) rfl
theorem tw1 : Cond.initialized "BrigadePagers" ∈ lw_tbl := tq1 (i := 1) rfl
theorem tw2 : Cond.initialized "BrigadePagers$Reader" ∈ lw_tbl := tq1 (i := 2) rfl
theorem tw3 : Cond.initialized "BrigadePagers$Plan" ∈ lw_tbl := tq1 (i := 3) rfl
theorem tw4 : Cond.initialized "BrigadePagers$Night" ∈ lw_tbl := tq1 (i := 4) rfl
theorem tw5 : Cond.initialized "BrigadePagers$Person" ∈ lw_tbl := tq1 (i := 5) rfl
theorem tw6 : Cond.initialized "BrigadePagers$Pager" ∈ lw_tbl := tq1 (i := 6) rfl
theorem tw7 : Cond.initialized "BrigadePagers$Engine" ∈ lw_tbl := tq1 (i := 7) rfl
theorem tw8 : Cond.initialized "BrigadePagers$Kind" ∈ lw_tbl := tq1 (i := 8) rfl
theorem tw9 : Cond.initialized "BrigadePagers$State" ∈ lw_tbl := tq1 (i := 9) rfl
theorem tw10 : Cond.initialized "BrigadePagers$CallLog" ∈ lw_tbl := tq1 (i := 10) rfl
theorem tw11 : Cond.initialized "BrigadePagers$Muster" ∈ lw_tbl := tq1 (i := 11) rfl
theorem tw12 : Cond.initialized "BrigadePagers$History" ∈ lw_tbl := tq1 (i := 12) rfl
theorem tw13 : Cond.initialized "BrigadePagersModel" ∈ lw_tbl := tq1 (i := 13) rfl
theorem tw17 : Cond.initialized "java/lang/IllegalStateException" ∈ lw_tbl := tq1 (i := 17) rfl
theorem tw18 : Cond.initialized "java/lang/IndexOutOfBoundsException" ∈ lw_tbl := tq1 (i := 18) rfl
theorem tw19 : Cond.initialized "java/lang/Math" ∈ lw_tbl := tq1 (i := 19) rfl
theorem tw20 : Cond.initialized "java/util/Arrays" ∈ lw_tbl := tq1 (i := 20) rfl
theorem tw21 : Cond.initialized "java/lang/String" ∈ lw_tbl := tq1 (i := 21) rfl
theorem tw25 : Cond.initialized "java/lang/IllegalArgumentException" ∈ lw_tbl := tq1 (i := 25) rfl
theorem tw26 : Cond.initialized "java/lang/System" ∈ lw_tbl := tq1 (i := 26) rfl
theorem tw27 : Cond.initialized "java/util/NoSuchElementException" ∈ lw_tbl := tq1 (i := 27) rfl
theorem tw28 : Cond.initialized "java/lang/Integer" ∈ lw_tbl := tq1 (i := 28) rfl
theorem tw29 : Cond.classLink "BrigadePagersLaw" (8 : Nat) "BrigadePagers" ∈ lw_tbl := tq1 (i := 29) rfl
theorem tw30 : Cond.instantiable "BrigadePagers" (9 : Nat) ∈ lw_tbl := tq1 (i := 30) rfl
theorem tw31 : Cond.methodLink "BrigadePagersLaw" (178 : Nat) ({ cls := "BrigadePagers", name := "<init>", desc := "()V" } : MethodName) ∈ lw_tbl := tq1 (i := 31) rfl
theorem tw32 : Cond.instanceMethod ({ cls := "BrigadePagers", name := "<init>", desc := "()V" } : MethodName) ∈ lw_tbl := tq1 (i := 32) rfl
theorem tw33 : Cond.code ({ cls := "BrigadePagers", name := "<init>", desc := "()V" } : MethodName) prog_1_method_1_code (1 : Nat) (Option.none : Option ClassFile.FieldType) ∈ lw_tbl := tq1 (i := 33) rfl
theorem tw34 : Cond.methodLink "BrigadePagers" (3 : Nat) ({ cls := "java/lang/Object", name := "<init>", desc := "()V" } : MethodName) ∈ lw_tbl := tq1 (i := 34) rfl
theorem tw35 : Cond.instanceMethod ({ cls := "java/lang/Object", name := "<init>", desc := "()V" } : MethodName) ∈ lw_tbl := tq1 (i := 35) rfl
theorem tw36 : Cond.code ({ cls := "java/lang/Object", name := "<init>", desc := "()V" } : MethodName) object_method_1_code (1 : Nat) (Option.none : Option ClassFile.FieldType) ∈ lw_tbl := tq1 (i := 36) rfl
theorem tw37 : Cond.classLink "BrigadePagers" (13 : Nat) "BrigadePagers$Reader" ∈ lw_tbl := tq1 (i := 37) rfl
theorem tw38 : Cond.instantiable "BrigadePagers$Reader" (11 : Nat) ∈ lw_tbl := tq1 (i := 38) rfl
theorem tw39 : Cond.methodLinkNest "BrigadePagers" (15 : Nat) ({ cls := "BrigadePagers$Reader", name := "<init>", desc := "([B)V" } : MethodName) "BrigadePagers" ∈ lw_tbl := tq1 (i := 39) rfl
theorem tw40 : Cond.instanceMethod ({ cls := "BrigadePagers$Reader", name := "<init>", desc := "([B)V" } : MethodName) ∈ lw_tbl := tq1 (i := 40) rfl
theorem tw41 : Cond.code ({ cls := "BrigadePagers$Reader", name := "<init>", desc := "([B)V" } : MethodName) prog_11_method_1_code (2 : Nat) (Option.none : Option ClassFile.FieldType) ∈ lw_tbl := tq1 (i := 41) rfl
theorem tw42 : Cond.methodLink "BrigadePagers$Reader" (3 : Nat) ({ cls := "java/lang/Object", name := "<init>", desc := "()V" } : MethodName) ∈ lw_tbl := tq1 (i := 42) rfl
theorem tw43 : Cond.fieldLink "BrigadePagers$Reader" (15 : Nat) "BrigadePagers$Reader" "text" "[B" ∈ lw_tbl := tq1 (i := 43) rfl
theorem tw44 : Cond.fieldLink "BrigadePagers$Reader" (25 : Nat) "BrigadePagers$Reader" "length" "I" ∈ lw_tbl := tq1 (i := 44) rfl
theorem tw45 : Cond.fieldLink "BrigadePagers$Reader" (28 : Nat) "BrigadePagers$Reader" "plan" "LBrigadePagers$Plan;" ∈ lw_tbl := tq1 (i := 45) rfl
theorem tw46 : Cond.fieldLink "BrigadePagers$Reader" (50 : Nat) "BrigadePagers$Reader" "token" "I" ∈ lw_tbl := tq1 (i := 46) rfl
theorem tw47 : Cond.fieldLink "BrigadePagers$Reader" (88 : Nat) "BrigadePagers$Reader" "start" "I" ∈ lw_tbl := tq1 (i := 47) rfl
theorem tw48 : Cond.fieldLink "BrigadePagers$Reader" (32 : Nat) "BrigadePagers$Reader" "next" "I" ∈ lw_tbl := tq1 (i := 48) rfl
theorem tw49 : Cond.fieldLink "BrigadePagers$Reader" (91 : Nat) "BrigadePagers$Reader" "takenStart" "I" ∈ lw_tbl := tq1 (i := 49) rfl
theorem tw50 : Cond.fieldLink "BrigadePagers$Reader" (109 : Nat) "BrigadePagers$Reader" "takenNumber" "I" ∈ lw_tbl := tq1 (i := 50) rfl
theorem tw51 : Cond.fieldLink "BrigadePagers$Reader" (112 : Nat) "BrigadePagers$Reader" "takenName" "J" ∈ lw_tbl := tq1 (i := 51) rfl
theorem tw52 : Cond.fieldLink "BrigadePagers$Reader" (35 : Nat) "BrigadePagers$Reader" "error" "I" ∈ lw_tbl := tq1 (i := 52) rfl
theorem tw53 : Cond.fieldLinkNest "BrigadePagers" (108 : Nat) "BrigadePagers$Reader" "error" "I" "BrigadePagers" ∈ lw_tbl := tq1 (i := 53) rfl
theorem tw54 : Cond.fieldLink "BrigadePagers$Reader" (9 : Nat) "BrigadePagers$Reader" "errorAt" "I" ∈ lw_tbl := tq1 (i := 54) rfl
theorem tw55 : Cond.fieldLinkNest "BrigadePagers" (111 : Nat) "BrigadePagers$Reader" "errorAt" "I" "BrigadePagers" ∈ lw_tbl := tq1 (i := 55) rfl
theorem tw79 : Cond.arrayClass .byte ∈ lw_tbl := tq1 (i := 79) rfl
theorem tw80 : Cond.classLink "BrigadePagers" (22 : Nat) "BrigadePagers$Plan" ∈ lw_tbl := tq1 (i := 80) rfl
theorem tw81 : Cond.instantiable "BrigadePagers$Plan" (12 : Nat) ∈ lw_tbl := tq1 (i := 81) rfl
theorem tw82 : Cond.methodLinkNest "BrigadePagers" (24 : Nat) ({ cls := "BrigadePagers$Plan", name := "<init>", desc := "()V" } : MethodName) "BrigadePagers" ∈ lw_tbl := tq1 (i := 82) rfl
theorem tw83 : Cond.instanceMethod ({ cls := "BrigadePagers$Plan", name := "<init>", desc := "()V" } : MethodName) ∈ lw_tbl := tq1 (i := 83) rfl
theorem tw84 : Cond.code ({ cls := "BrigadePagers$Plan", name := "<init>", desc := "()V" } : MethodName) prog_10_method_1_code (2 : Nat) (Option.none : Option ClassFile.FieldType) ∈ lw_tbl := tq1 (i := 84) rfl
theorem tw85 : Cond.methodLink "BrigadePagers$Plan" (3 : Nat) ({ cls := "java/lang/Object", name := "<init>", desc := "()V" } : MethodName) ∈ lw_tbl := tq1 (i := 85) rfl
theorem tw86 : Cond.classLink "BrigadePagers$Plan" (9 : Nat) "BrigadePagers$Night" ∈ lw_tbl := tq1 (i := 86) rfl
theorem tw87 : Cond.instantiable "BrigadePagers$Night" (4 : Nat) ∈ lw_tbl := tq1 (i := 87) rfl
theorem tw88 : Cond.methodLinkNest "BrigadePagers$Plan" (11 : Nat) ({ cls := "BrigadePagers$Night", name := "<init>", desc := "()V" } : MethodName) "BrigadePagers" ∈ lw_tbl := tq1 (i := 88) rfl
theorem tw89 : Cond.instanceMethod ({ cls := "BrigadePagers$Night", name := "<init>", desc := "()V" } : MethodName) ∈ lw_tbl := tq1 (i := 89) rfl
theorem tw90 : Cond.code ({ cls := "BrigadePagers$Night", name := "<init>", desc := "()V" } : MethodName) prog_7_method_1_code (1 : Nat) (Option.none : Option ClassFile.FieldType) ∈ lw_tbl := tq1 (i := 90) rfl
theorem tw91 : Cond.methodLink "BrigadePagers$Night" (3 : Nat) ({ cls := "java/lang/Object", name := "<init>", desc := "()V" } : MethodName) ∈ lw_tbl := tq1 (i := 91) rfl
theorem tw92 : Cond.fieldLink "BrigadePagers$Night" (9 : Nat) "BrigadePagers$Night" "begin" "I" ∈ lw_tbl := tq1 (i := 92) rfl
theorem tw93 : Cond.fieldLink "BrigadePagers$Night" (15 : Nat) "BrigadePagers$Night" "end" "I" ∈ lw_tbl := tq1 (i := 93) rfl
theorem tw94 : Cond.fieldLink "BrigadePagers$Night" (18 : Nat) "BrigadePagers$Night" "wake" "I" ∈ lw_tbl := tq1 (i := 94) rfl
theorem tw95 : Cond.fieldLinkNest "BrigadePagers$State" (145 : Nat) "BrigadePagers$Night" "wake" "I" "BrigadePagers" ∈ lw_tbl := tq1 (i := 95) rfl
theorem tw96 : Cond.fieldLink "BrigadePagers$Night" (21 : Nat) "BrigadePagers$Night" "sleepLimit" "I" ∈ lw_tbl := tq1 (i := 96) rfl
theorem tw97 : Cond.fieldLinkNest "BrigadePagers$State" (115 : Nat) "BrigadePagers$Night" "sleepLimit" "I" "BrigadePagers" ∈ lw_tbl := tq1 (i := 97) rfl
theorem tw107 : Cond.classLink "BrigadePagers$Plan" (18 : Nat) "BrigadePagers$Person" ∈ lw_tbl := tq1 (i := 107) rfl
theorem tw109 : Cond.classLink "BrigadePagers$Plan" (28 : Nat) "BrigadePagers$Pager" ∈ lw_tbl := tq1 (i := 109) rfl
theorem tw111 : Cond.classLink "BrigadePagers$Plan" (34 : Nat) "BrigadePagers$Engine" ∈ lw_tbl := tq1 (i := 111) rfl
theorem tw113 : Cond.classLink "BrigadePagers$Plan" (40 : Nat) "BrigadePagers$Kind" ∈ lw_tbl := tq1 (i := 113) rfl
theorem tw115 : Cond.instantiable "BrigadePagers$Person" (3 : Nat) ∈ lw_tbl := tq1 (i := 115) rfl
theorem tw116 : Cond.methodLinkNest "BrigadePagers$Plan" (49 : Nat) ({ cls := "BrigadePagers$Person", name := "<init>", desc := "()V" } : MethodName) "BrigadePagers" ∈ lw_tbl := tq1 (i := 116) rfl
theorem tw117 : Cond.instanceMethod ({ cls := "BrigadePagers$Person", name := "<init>", desc := "()V" } : MethodName) ∈ lw_tbl := tq1 (i := 117) rfl
theorem tw118 : Cond.code ({ cls := "BrigadePagers$Person", name := "<init>", desc := "()V" } : MethodName) prog_9_method_1_code (1 : Nat) (Option.none : Option ClassFile.FieldType) ∈ lw_tbl := tq1 (i := 118) rfl
theorem tw119 : Cond.methodLink "BrigadePagers$Person" (1 : Nat) ({ cls := "java/lang/Object", name := "<init>", desc := "()V" } : MethodName) ∈ lw_tbl := tq1 (i := 119) rfl
theorem tw120 : Cond.fieldLinkNest "BrigadePagers$Plan" (75 : Nat) "BrigadePagers$Person" "name" "J" "BrigadePagers" ∈ lw_tbl := tq1 (i := 120) rfl
theorem tw121 : Cond.fieldLinkNest "BrigadePagers$Reader" (165 : Nat) "BrigadePagers$Person" "name" "J" "BrigadePagers" ∈ lw_tbl := tq1 (i := 121) rfl
theorem tw122 : Cond.fieldLinkNest "BrigadePagers$State" (137 : Nat) "BrigadePagers$Person" "travel" "I" "BrigadePagers" ∈ lw_tbl := tq1 (i := 122) rfl
theorem tw123 : Cond.fieldLinkNest "BrigadePagers$Muster" (193 : Nat) "BrigadePagers$Person" "travel" "I" "BrigadePagers" ∈ lw_tbl := tq1 (i := 123) rfl
theorem tw124 : Cond.fieldLinkNest "BrigadePagers$Reader" (170 : Nat) "BrigadePagers$Person" "travel" "I" "BrigadePagers" ∈ lw_tbl := tq1 (i := 124) rfl
theorem tw125 : Cond.fieldLinkNest "BrigadePagers$Plan" (90 : Nat) "BrigadePagers$Person" "skills" "I" "BrigadePagers" ∈ lw_tbl := tq1 (i := 125) rfl
theorem tw126 : Cond.fieldLinkNest "BrigadePagers$Reader" (173 : Nat) "BrigadePagers$Person" "skills" "I" "BrigadePagers" ∈ lw_tbl := tq1 (i := 126) rfl
theorem tw134 : Cond.arrayClass .int ∈ lw_tbl := tq1 (i := 134) rfl
theorem tw135 : Cond.instantiable "BrigadePagers$Pager" (5 : Nat) ∈ lw_tbl := tq1 (i := 135) rfl
theorem tw136 : Cond.methodLinkNest "BrigadePagers$Plan" (50 : Nat) ({ cls := "BrigadePagers$Pager", name := "<init>", desc := "()V" } : MethodName) "BrigadePagers" ∈ lw_tbl := tq1 (i := 136) rfl
theorem tw137 : Cond.instanceMethod ({ cls := "BrigadePagers$Pager", name := "<init>", desc := "()V" } : MethodName) ∈ lw_tbl := tq1 (i := 137) rfl
theorem tw138 : Cond.code ({ cls := "BrigadePagers$Pager", name := "<init>", desc := "()V" } : MethodName) prog_8_method_1_code (1 : Nat) (Option.none : Option ClassFile.FieldType) ∈ lw_tbl := tq1 (i := 138) rfl
theorem tw139 : Cond.methodLink "BrigadePagers$Pager" (3 : Nat) ({ cls := "java/lang/Object", name := "<init>", desc := "()V" } : MethodName) ∈ lw_tbl := tq1 (i := 139) rfl
theorem tw140 : Cond.fieldLinkNest "BrigadePagers$Plan" (79 : Nat) "BrigadePagers$Pager" "name" "J" "BrigadePagers" ∈ lw_tbl := tq1 (i := 140) rfl
theorem tw141 : Cond.fieldLinkNest "BrigadePagers$Reader" (209 : Nat) "BrigadePagers$Pager" "name" "J" "BrigadePagers" ∈ lw_tbl := tq1 (i := 141) rfl
theorem tw142 : Cond.fieldLinkNest "BrigadePagers$State" (169 : Nat) "BrigadePagers$Pager" "demand" "I" "BrigadePagers" ∈ lw_tbl := tq1 (i := 142) rfl
theorem tw143 : Cond.fieldLinkNest "BrigadePagers$Reader" (212 : Nat) "BrigadePagers$Pager" "demand" "I" "BrigadePagers" ∈ lw_tbl := tq1 (i := 143) rfl
theorem tw144 : Cond.fieldLinkNest "BrigadePagers$State" (154 : Nat) "BrigadePagers$Pager" "turnMinutes" "I" "BrigadePagers" ∈ lw_tbl := tq1 (i := 144) rfl
theorem tw145 : Cond.fieldLinkNest "BrigadePagers$Reader" (215 : Nat) "BrigadePagers$Pager" "turnMinutes" "I" "BrigadePagers" ∈ lw_tbl := tq1 (i := 145) rfl
theorem tw146 : Cond.fieldLinkNest "BrigadePagers$State" (157 : Nat) "BrigadePagers$Pager" "places" "I" "BrigadePagers" ∈ lw_tbl := tq1 (i := 146) rfl
theorem tw147 : Cond.fieldLinkNest "BrigadePagers$Reader" (218 : Nat) "BrigadePagers$Pager" "places" "I" "BrigadePagers" ∈ lw_tbl := tq1 (i := 147) rfl
theorem tw148 : Cond.fieldLinkNest "BrigadePagers" (422 : Nat) "BrigadePagers$Pager" "places" "I" "BrigadePagers" ∈ lw_tbl := tq1 (i := 148) rfl
theorem tw149 : Cond.fieldLink "BrigadePagers$Pager" (9 : Nat) "BrigadePagers$Pager" "rotation" "[I" ∈ lw_tbl := tq1 (i := 149) rfl
theorem tw150 : Cond.fieldLinkNest "BrigadePagers$State" (85 : Nat) "BrigadePagers$Pager" "rotation" "[I" "BrigadePagers" ∈ lw_tbl := tq1 (i := 150) rfl
theorem tw151 : Cond.fieldLinkNest "BrigadePagers$Reader" (221 : Nat) "BrigadePagers$Pager" "rotation" "[I" "BrigadePagers" ∈ lw_tbl := tq1 (i := 151) rfl
theorem tw163 : Cond.instantiable "BrigadePagers$Engine" (5 : Nat) ∈ lw_tbl := tq1 (i := 163) rfl
theorem tw164 : Cond.methodLinkNest "BrigadePagers$Plan" (51 : Nat) ({ cls := "BrigadePagers$Engine", name := "<init>", desc := "()V" } : MethodName) "BrigadePagers" ∈ lw_tbl := tq1 (i := 164) rfl
theorem tw165 : Cond.instanceMethod ({ cls := "BrigadePagers$Engine", name := "<init>", desc := "()V" } : MethodName) ∈ lw_tbl := tq1 (i := 165) rfl
theorem tw166 : Cond.code ({ cls := "BrigadePagers$Engine", name := "<init>", desc := "()V" } : MethodName) prog_3_method_1_code (1 : Nat) (Option.none : Option ClassFile.FieldType) ∈ lw_tbl := tq1 (i := 166) rfl
theorem tw167 : Cond.methodLink "BrigadePagers$Engine" (3 : Nat) ({ cls := "java/lang/Object", name := "<init>", desc := "()V" } : MethodName) ∈ lw_tbl := tq1 (i := 167) rfl
theorem tw168 : Cond.fieldLinkNest "BrigadePagers$Plan" (80 : Nat) "BrigadePagers$Engine" "name" "J" "BrigadePagers" ∈ lw_tbl := tq1 (i := 168) rfl
theorem tw169 : Cond.fieldLinkNest "BrigadePagers$Reader" (231 : Nat) "BrigadePagers$Engine" "name" "J" "BrigadePagers" ∈ lw_tbl := tq1 (i := 169) rfl
theorem tw170 : Cond.fieldLinkNest "BrigadePagers$Muster" (215 : Nat) "BrigadePagers$Engine" "drive" "I" "BrigadePagers" ∈ lw_tbl := tq1 (i := 170) rfl
theorem tw171 : Cond.fieldLinkNest "BrigadePagers$Reader" (234 : Nat) "BrigadePagers$Engine" "drive" "I" "BrigadePagers" ∈ lw_tbl := tq1 (i := 171) rfl
theorem tw172 : Cond.fieldLink "BrigadePagers$Engine" (18 : Nat) "BrigadePagers$Engine" "posts" "I" ∈ lw_tbl := tq1 (i := 172) rfl
theorem tw173 : Cond.fieldLinkNest "BrigadePagers$Muster" (130 : Nat) "BrigadePagers$Engine" "posts" "I" "BrigadePagers" ∈ lw_tbl := tq1 (i := 173) rfl
theorem tw174 : Cond.fieldLinkNest "BrigadePagers$Reader" (237 : Nat) "BrigadePagers$Engine" "posts" "I" "BrigadePagers" ∈ lw_tbl := tq1 (i := 174) rfl
theorem tw175 : Cond.fieldLinkNest "BrigadePagers" (311 : Nat) "BrigadePagers$Engine" "posts" "I" "BrigadePagers" ∈ lw_tbl := tq1 (i := 175) rfl
theorem tw176 : Cond.fieldLink "BrigadePagers$Engine" (9 : Nat) "BrigadePagers$Engine" "skillAt" "[I" ∈ lw_tbl := tq1 (i := 176) rfl
theorem tw177 : Cond.fieldLinkNest "BrigadePagers$Muster" (148 : Nat) "BrigadePagers$Engine" "skillAt" "[I" "BrigadePagers" ∈ lw_tbl := tq1 (i := 177) rfl
theorem tw178 : Cond.fieldLink "BrigadePagers$Engine" (15 : Nat) "BrigadePagers$Engine" "demand" "[I" ∈ lw_tbl := tq1 (i := 178) rfl
theorem tw179 : Cond.fieldLinkNest "BrigadePagers$Muster" (115 : Nat) "BrigadePagers$Engine" "demand" "[I" "BrigadePagers" ∈ lw_tbl := tq1 (i := 179) rfl
theorem tw180 : Cond.fieldLinkNest "BrigadePagers$Reader" (240 : Nat) "BrigadePagers$Engine" "demand" "[I" "BrigadePagers" ∈ lw_tbl := tq1 (i := 180) rfl
theorem tw192 : Cond.instantiable "BrigadePagers$Kind" (8 : Nat) ∈ lw_tbl := tq1 (i := 192) rfl
theorem tw193 : Cond.methodLinkNest "BrigadePagers$Plan" (52 : Nat) ({ cls := "BrigadePagers$Kind", name := "<init>", desc := "()V" } : MethodName) "BrigadePagers" ∈ lw_tbl := tq1 (i := 193) rfl
theorem tw194 : Cond.instanceMethod ({ cls := "BrigadePagers$Kind", name := "<init>", desc := "()V" } : MethodName) ∈ lw_tbl := tq1 (i := 194) rfl
theorem tw195 : Cond.code ({ cls := "BrigadePagers$Kind", name := "<init>", desc := "()V" } : MethodName) prog_5_method_1_code (1 : Nat) (Option.none : Option ClassFile.FieldType) ∈ lw_tbl := tq1 (i := 195) rfl
theorem tw196 : Cond.methodLink "BrigadePagers$Kind" (3 : Nat) ({ cls := "java/lang/Object", name := "<init>", desc := "()V" } : MethodName) ∈ lw_tbl := tq1 (i := 196) rfl
theorem tw197 : Cond.fieldLinkNest "BrigadePagers$Plan" (81 : Nat) "BrigadePagers$Kind" "name" "J" "BrigadePagers" ∈ lw_tbl := tq1 (i := 197) rfl
theorem tw198 : Cond.fieldLinkNest "BrigadePagers$Reader" (261 : Nat) "BrigadePagers$Kind" "name" "J" "BrigadePagers" ∈ lw_tbl := tq1 (i := 198) rfl
theorem tw199 : Cond.fieldLinkNest "BrigadePagers$Muster" (218 : Nat) "BrigadePagers$Kind" "duration" "I" "BrigadePagers" ∈ lw_tbl := tq1 (i := 199) rfl
theorem tw200 : Cond.fieldLinkNest "BrigadePagers$Reader" (264 : Nat) "BrigadePagers$Kind" "duration" "I" "BrigadePagers" ∈ lw_tbl := tq1 (i := 200) rfl
theorem tw201 : Cond.fieldLinkNest "BrigadePagers$Muster" (96 : Nat) "BrigadePagers$Kind" "patience" "I" "BrigadePagers" ∈ lw_tbl := tq1 (i := 201) rfl
theorem tw202 : Cond.fieldLinkNest "BrigadePagers$Reader" (267 : Nat) "BrigadePagers$Kind" "patience" "I" "BrigadePagers" ∈ lw_tbl := tq1 (i := 202) rfl
theorem tw203 : Cond.fieldLinkNest "BrigadePagers$Muster" (67 : Nat) "BrigadePagers$Kind" "need" "I" "BrigadePagers" ∈ lw_tbl := tq1 (i := 203) rfl
theorem tw204 : Cond.fieldLinkNest "BrigadePagers$Reader" (270 : Nat) "BrigadePagers$Kind" "need" "I" "BrigadePagers" ∈ lw_tbl := tq1 (i := 204) rfl
theorem tw205 : Cond.fieldLinkNest "BrigadePagers$Muster" (70 : Nat) "BrigadePagers$Kind" "pagers" "I" "BrigadePagers" ∈ lw_tbl := tq1 (i := 205) rfl
theorem tw206 : Cond.fieldLinkNest "BrigadePagers$Reader" (280 : Nat) "BrigadePagers$Kind" "pagers" "I" "BrigadePagers" ∈ lw_tbl := tq1 (i := 206) rfl
theorem tw207 : Cond.fieldLink "BrigadePagers$Kind" (9 : Nat) "BrigadePagers$Kind" "pagerAt" "[I" ∈ lw_tbl := tq1 (i := 207) rfl
theorem tw208 : Cond.fieldLinkNest "BrigadePagers$Muster" (73 : Nat) "BrigadePagers$Kind" "pagerAt" "[I" "BrigadePagers" ∈ lw_tbl := tq1 (i := 208) rfl
theorem tw209 : Cond.fieldLinkNest "BrigadePagers$Reader" (273 : Nat) "BrigadePagers$Kind" "pagerAt" "[I" "BrigadePagers" ∈ lw_tbl := tq1 (i := 209) rfl
theorem tw210 : Cond.fieldLinkNest "BrigadePagers$Muster" (55 : Nat) "BrigadePagers$Kind" "engines" "I" "BrigadePagers" ∈ lw_tbl := tq1 (i := 210) rfl
theorem tw211 : Cond.fieldLinkNest "BrigadePagers$Reader" (285 : Nat) "BrigadePagers$Kind" "engines" "I" "BrigadePagers" ∈ lw_tbl := tq1 (i := 211) rfl
theorem tw212 : Cond.fieldLinkNest "BrigadePagers" (439 : Nat) "BrigadePagers$Kind" "engines" "I" "BrigadePagers" ∈ lw_tbl := tq1 (i := 212) rfl
theorem tw213 : Cond.fieldLink "BrigadePagers$Kind" (15 : Nat) "BrigadePagers$Kind" "engineAt" "[I" ∈ lw_tbl := tq1 (i := 213) rfl
theorem tw214 : Cond.fieldLinkNest "BrigadePagers$Muster" (60 : Nat) "BrigadePagers$Kind" "engineAt" "[I" "BrigadePagers" ∈ lw_tbl := tq1 (i := 214) rfl
theorem tw215 : Cond.fieldLinkNest "BrigadePagers$Reader" (282 : Nat) "BrigadePagers$Kind" "engineAt" "[I" "BrigadePagers" ∈ lw_tbl := tq1 (i := 215) rfl
theorem tw216 : Cond.fieldLinkNest "BrigadePagers" (306 : Nat) "BrigadePagers$Kind" "engineAt" "[I" "BrigadePagers" ∈ lw_tbl := tq1 (i := 216) rfl
theorem tw234 : Cond.fieldLink "BrigadePagers$Plan" (12 : Nat) "BrigadePagers$Plan" "night" "LBrigadePagers$Night;" ∈ lw_tbl := tq1 (i := 234) rfl
theorem tw235 : Cond.fieldLinkNest "BrigadePagers" (60 : Nat) "BrigadePagers$Plan" "night" "LBrigadePagers$Night;" "BrigadePagers" ∈ lw_tbl := tq1 (i := 235) rfl
theorem tw236 : Cond.fieldLinkNest "BrigadePagers$State" (111 : Nat) "BrigadePagers$Plan" "night" "LBrigadePagers$Night;" "BrigadePagers" ∈ lw_tbl := tq1 (i := 236) rfl
theorem tw237 : Cond.fieldLinkNest "BrigadePagers$Reader" (132 : Nat) "BrigadePagers$Plan" "night" "LBrigadePagers$Night;" "BrigadePagers" ∈ lw_tbl := tq1 (i := 237) rfl
theorem tw238 : Cond.fieldLink "BrigadePagers$Plan" (53 : Nat) "BrigadePagers$Plan" "personCount" "I" ∈ lw_tbl := tq1 (i := 238) rfl
theorem tw239 : Cond.fieldLinkNest "BrigadePagers$Muster" (83 : Nat) "BrigadePagers$Plan" "personCount" "I" "BrigadePagers" ∈ lw_tbl := tq1 (i := 239) rfl
theorem tw240 : Cond.fieldLinkNest "BrigadePagers" (105 : Nat) "BrigadePagers$Plan" "personCount" "I" "BrigadePagers" ∈ lw_tbl := tq2 (i := 0) rfl
theorem tw241 : Cond.fieldLinkNest "BrigadePagers$State" (148 : Nat) "BrigadePagers$Plan" "personCount" "I" "BrigadePagers" ∈ lw_tbl := tq2 (i := 1) rfl
theorem tw242 : Cond.fieldLinkNest "BrigadePagers$Reader" (155 : Nat) "BrigadePagers$Plan" "personCount" "I" "BrigadePagers" ∈ lw_tbl := tq2 (i := 2) rfl
theorem tw243 : Cond.fieldLink "BrigadePagers$Plan" (20 : Nat) "BrigadePagers$Plan" "persons" "[LBrigadePagers$Person;" ∈ lw_tbl := tq2 (i := 3) rfl
theorem tw244 : Cond.fieldLinkNest "BrigadePagers$State" (133 : Nat) "BrigadePagers$Plan" "persons" "[LBrigadePagers$Person;" "BrigadePagers" ∈ lw_tbl := tq2 (i := 4) rfl
theorem tw245 : Cond.fieldLinkNest "BrigadePagers$Muster" (189 : Nat) "BrigadePagers$Plan" "persons" "[LBrigadePagers$Person;" "BrigadePagers" ∈ lw_tbl := tq2 (i := 5) rfl
theorem tw246 : Cond.fieldLinkNest "BrigadePagers$Reader" (158 : Nat) "BrigadePagers$Plan" "persons" "[LBrigadePagers$Person;" "BrigadePagers" ∈ lw_tbl := tq2 (i := 6) rfl
theorem tw247 : Cond.fieldLink "BrigadePagers$Plan" (57 : Nat) "BrigadePagers$Plan" "trustCount" "I" ∈ lw_tbl := tq2 (i := 7) rfl
theorem tw248 : Cond.fieldLinkNest "BrigadePagers$Reader" (190 : Nat) "BrigadePagers$Plan" "trustCount" "I" "BrigadePagers" ∈ lw_tbl := tq2 (i := 8) rfl
theorem tw249 : Cond.fieldLink "BrigadePagers$Plan" (24 : Nat) "BrigadePagers$Plan" "trust" "[I" ∈ lw_tbl := tq2 (i := 9) rfl
theorem tw250 : Cond.fieldLinkNest "BrigadePagers$State" (69 : Nat) "BrigadePagers$Plan" "trust" "[I" "BrigadePagers" ∈ lw_tbl := tq2 (i := 10) rfl
theorem tw251 : Cond.fieldLinkNest "BrigadePagers$Reader" (196 : Nat) "BrigadePagers$Plan" "trust" "[I" "BrigadePagers" ∈ lw_tbl := tq2 (i := 11) rfl
theorem tw252 : Cond.fieldLink "BrigadePagers$Plan" (66 : Nat) "BrigadePagers$Plan" "pagerCount" "I" ∈ lw_tbl := tq2 (i := 12) rfl
theorem tw253 : Cond.fieldLinkNest "BrigadePagers$State" (78 : Nat) "BrigadePagers$Plan" "pagerCount" "I" "BrigadePagers" ∈ lw_tbl := tq2 (i := 13) rfl
theorem tw254 : Cond.fieldLinkNest "BrigadePagers$Reader" (202 : Nat) "BrigadePagers$Plan" "pagerCount" "I" "BrigadePagers" ∈ lw_tbl := tq2 (i := 14) rfl
theorem tw255 : Cond.fieldLinkNest "BrigadePagers" (343 : Nat) "BrigadePagers$Plan" "pagerCount" "I" "BrigadePagers" ∈ lw_tbl := tq2 (i := 15) rfl
theorem tw256 : Cond.fieldLink "BrigadePagers$Plan" (30 : Nat) "BrigadePagers$Plan" "pagers" "[LBrigadePagers$Pager;" ∈ lw_tbl := tq2 (i := 16) rfl
theorem tw257 : Cond.fieldLinkNest "BrigadePagers$State" (81 : Nat) "BrigadePagers$Plan" "pagers" "[LBrigadePagers$Pager;" "BrigadePagers" ∈ lw_tbl := tq2 (i := 17) rfl
theorem tw258 : Cond.fieldLinkNest "BrigadePagers$Reader" (205 : Nat) "BrigadePagers$Plan" "pagers" "[LBrigadePagers$Pager;" "BrigadePagers" ∈ lw_tbl := tq2 (i := 18) rfl
theorem tw259 : Cond.fieldLinkNest "BrigadePagers" (418 : Nat) "BrigadePagers$Plan" "pagers" "[LBrigadePagers$Pager;" "BrigadePagers" ∈ lw_tbl := tq2 (i := 19) rfl
theorem tw260 : Cond.fieldLink "BrigadePagers$Plan" (69 : Nat) "BrigadePagers$Plan" "engineCount" "I" ∈ lw_tbl := tq2 (i := 20) rfl
theorem tw261 : Cond.fieldLinkNest "BrigadePagers$State" (94 : Nat) "BrigadePagers$Plan" "engineCount" "I" "BrigadePagers" ∈ lw_tbl := tq2 (i := 21) rfl
theorem tw262 : Cond.fieldLinkNest "BrigadePagers$Reader" (224 : Nat) "BrigadePagers$Plan" "engineCount" "I" "BrigadePagers" ∈ lw_tbl := tq2 (i := 22) rfl
theorem tw263 : Cond.fieldLinkNest "BrigadePagers" (429 : Nat) "BrigadePagers$Plan" "engineCount" "I" "BrigadePagers" ∈ lw_tbl := tq2 (i := 23) rfl
theorem tw264 : Cond.fieldLink "BrigadePagers$Plan" (36 : Nat) "BrigadePagers$Plan" "engines" "[LBrigadePagers$Engine;" ∈ lw_tbl := tq2 (i := 24) rfl
theorem tw265 : Cond.fieldLinkNest "BrigadePagers$Muster" (112 : Nat) "BrigadePagers$Plan" "engines" "[LBrigadePagers$Engine;" "BrigadePagers" ∈ lw_tbl := tq2 (i := 25) rfl
theorem tw266 : Cond.fieldLinkNest "BrigadePagers$Reader" (227 : Nat) "BrigadePagers$Plan" "engines" "[LBrigadePagers$Engine;" "BrigadePagers" ∈ lw_tbl := tq2 (i := 26) rfl
theorem tw267 : Cond.fieldLinkNest "BrigadePagers" (303 : Nat) "BrigadePagers$Plan" "engines" "[LBrigadePagers$Engine;" "BrigadePagers" ∈ lw_tbl := tq2 (i := 27) rfl
theorem tw268 : Cond.fieldLink "BrigadePagers$Plan" (72 : Nat) "BrigadePagers$Plan" "kindCount" "I" ∈ lw_tbl := tq2 (i := 28) rfl
theorem tw269 : Cond.fieldLinkNest "BrigadePagers$Reader" (254 : Nat) "BrigadePagers$Plan" "kindCount" "I" "BrigadePagers" ∈ lw_tbl := tq2 (i := 29) rfl
theorem tw270 : Cond.fieldLinkNest "BrigadePagers" (434 : Nat) "BrigadePagers$Plan" "kindCount" "I" "BrigadePagers" ∈ lw_tbl := tq2 (i := 30) rfl
theorem tw271 : Cond.fieldLink "BrigadePagers$Plan" (42 : Nat) "BrigadePagers$Plan" "kinds" "[LBrigadePagers$Kind;" ∈ lw_tbl := tq2 (i := 31) rfl
theorem tw272 : Cond.fieldLinkNest "BrigadePagers$Reader" (257 : Nat) "BrigadePagers$Plan" "kinds" "[LBrigadePagers$Kind;" "BrigadePagers" ∈ lw_tbl := tq2 (i := 32) rfl
theorem tw273 : Cond.fieldLinkNest "BrigadePagers" (280 : Nat) "BrigadePagers$Plan" "kinds" "[LBrigadePagers$Kind;" "BrigadePagers" ∈ lw_tbl := tq2 (i := 33) rfl
theorem tw274 : Cond.fieldLink "BrigadePagers$Plan" (46 : Nat) "BrigadePagers$Plan" "able" "[I" ∈ lw_tbl := tq2 (i := 34) rfl
theorem tw275 : Cond.fieldLinkNest "BrigadePagers$Muster" (154 : Nat) "BrigadePagers$Plan" "able" "[I" "BrigadePagers" ∈ lw_tbl := tq2 (i := 35) rfl
theorem tw301 : Cond.classLink "BrigadePagers" (32 : Nat) "BrigadePagers$State" ∈ lw_tbl := tq2 (i := 61) rfl
theorem tw302 : Cond.instantiable "BrigadePagers$State" (16 : Nat) ∈ lw_tbl := tq2 (i := 62) rfl
theorem tw303 : Cond.methodLinkNest "BrigadePagers" (34 : Nat) ({ cls := "BrigadePagers$State", name := "<init>", desc := "(LBrigadePagers$Plan;)V" } : MethodName) "BrigadePagers" ∈ lw_tbl := tq2 (i := 63) rfl
theorem tw304 : Cond.instanceMethod ({ cls := "BrigadePagers$State", name := "<init>", desc := "(LBrigadePagers$Plan;)V" } : MethodName) ∈ lw_tbl := tq2 (i := 64) rfl
theorem tw305 : Cond.code ({ cls := "BrigadePagers$State", name := "<init>", desc := "(LBrigadePagers$Plan;)V" } : MethodName) prog_12_method_1_code (2 : Nat) (Option.none : Option ClassFile.FieldType) ∈ lw_tbl := tq2 (i := 65) rfl
theorem tw306 : Cond.methodLink "BrigadePagers$State" (3 : Nat) ({ cls := "java/lang/Object", name := "<init>", desc := "()V" } : MethodName) ∈ lw_tbl := tq2 (i := 66) rfl
theorem tw307 : Cond.classLink "BrigadePagers$State" (42 : Nat) "BrigadePagers$CallLog" ∈ lw_tbl := tq2 (i := 67) rfl
theorem tw308 : Cond.instantiable "BrigadePagers$CallLog" (8 : Nat) ∈ lw_tbl := tq2 (i := 68) rfl
theorem tw309 : Cond.methodLinkNest "BrigadePagers$State" (44 : Nat) ({ cls := "BrigadePagers$CallLog", name := "<init>", desc := "()V" } : MethodName) "BrigadePagers" ∈ lw_tbl := tq2 (i := 69) rfl
theorem tw310 : Cond.instanceMethod ({ cls := "BrigadePagers$CallLog", name := "<init>", desc := "()V" } : MethodName) ∈ lw_tbl := tq2 (i := 70) rfl
theorem tw311 : Cond.code ({ cls := "BrigadePagers$CallLog", name := "<init>", desc := "()V" } : MethodName) prog_2_method_1_code (1 : Nat) (Option.none : Option ClassFile.FieldType) ∈ lw_tbl := tq2 (i := 71) rfl
theorem tw312 : Cond.methodLink "BrigadePagers$CallLog" (3 : Nat) ({ cls := "java/lang/Object", name := "<init>", desc := "()V" } : MethodName) ∈ lw_tbl := tq2 (i := 72) rfl
theorem tw313 : Cond.fieldLink "BrigadePagers$CallLog" (30 : Nat) "BrigadePagers$CallLog" "size" "I" ∈ lw_tbl := tq2 (i := 73) rfl
theorem tw314 : Cond.fieldLinkNest "BrigadePagers$State" (100 : Nat) "BrigadePagers$CallLog" "size" "I" "BrigadePagers" ∈ lw_tbl := tq2 (i := 74) rfl
theorem tw315 : Cond.fieldLinkNest "BrigadePagers" (135 : Nat) "BrigadePagers$CallLog" "size" "I" "BrigadePagers" ∈ lw_tbl := tq2 (i := 75) rfl
theorem tw316 : Cond.fieldLink "BrigadePagers$CallLog" (9 : Nat) "BrigadePagers$CallLog" "costs" "[I" ∈ lw_tbl := tq2 (i := 76) rfl
theorem tw317 : Cond.fieldLinkNest "BrigadePagers" (244 : Nat) "BrigadePagers$CallLog" "costs" "[I" "BrigadePagers" ∈ lw_tbl := tq2 (i := 77) rfl
theorem tw318 : Cond.fieldLink "BrigadePagers$CallLog" (38 : Nat) "BrigadePagers$CallLog" "answered" "I" ∈ lw_tbl := tq2 (i := 78) rfl
theorem tw319 : Cond.fieldLinkNest "BrigadePagers" (247 : Nat) "BrigadePagers$CallLog" "answered" "I" "BrigadePagers" ∈ lw_tbl := tq2 (i := 79) rfl
theorem tw320 : Cond.fieldLink "BrigadePagers$CallLog" (15 : Nat) "BrigadePagers$CallLog" "comers" "[I" ∈ lw_tbl := tq2 (i := 80) rfl
theorem tw321 : Cond.fieldLinkNest "BrigadePagers" (254 : Nat) "BrigadePagers$CallLog" "comers" "[I" "BrigadePagers" ∈ lw_tbl := tq2 (i := 81) rfl
theorem tw322 : Cond.fieldLink "BrigadePagers$CallLog" (18 : Nat) "BrigadePagers$CallLog" "leavers" "[I" ∈ lw_tbl := tq2 (i := 82) rfl
theorem tw323 : Cond.fieldLinkNest "BrigadePagers" (257 : Nat) "BrigadePagers$CallLog" "leavers" "[I" "BrigadePagers" ∈ lw_tbl := tq2 (i := 83) rfl
theorem tw324 : Cond.fieldLink "BrigadePagers$CallLog" (21 : Nat) "BrigadePagers$CallLog" "engines" "[I" ∈ lw_tbl := tq2 (i := 84) rfl
theorem tw325 : Cond.fieldLinkNest "BrigadePagers" (263 : Nat) "BrigadePagers$CallLog" "engines" "[I" "BrigadePagers" ∈ lw_tbl := tq2 (i := 85) rfl
theorem tw326 : Cond.fieldLink "BrigadePagers$CallLog" (24 : Nat) "BrigadePagers$CallLog" "leaveTimes" "[I" ∈ lw_tbl := tq2 (i := 86) rfl
theorem tw327 : Cond.fieldLinkNest "BrigadePagers" (266 : Nat) "BrigadePagers$CallLog" "leaveTimes" "[I" "BrigadePagers" ∈ lw_tbl := tq2 (i := 87) rfl
theorem tw328 : Cond.fieldLink "BrigadePagers$CallLog" (27 : Nat) "BrigadePagers$CallLog" "crews" "[I" ∈ lw_tbl := tq2 (i := 88) rfl
theorem tw329 : Cond.fieldLinkNest "BrigadePagers" (269 : Nat) "BrigadePagers$CallLog" "crews" "[I" "BrigadePagers" ∈ lw_tbl := tq2 (i := 89) rfl
theorem tw347 : Cond.fieldLinkNest "BrigadePagers$Muster" (37 : Nat) "BrigadePagers$State" "plan" "LBrigadePagers$Plan;" "BrigadePagers" ∈ lw_tbl := tq2 (i := 107) rfl
theorem tw348 : Cond.fieldLink "BrigadePagers$State" (52 : Nat) "BrigadePagers$State" "plan" "LBrigadePagers$Plan;" ∈ lw_tbl := tq2 (i := 108) rfl
theorem tw349 : Cond.fieldLink "BrigadePagers$State" (56 : Nat) "BrigadePagers$State" "time" "I" ∈ lw_tbl := tq2 (i := 109) rfl
theorem tw350 : Cond.fieldLinkNest "BrigadePagers$Muster" (76 : Nat) "BrigadePagers$State" "time" "I" "BrigadePagers" ∈ lw_tbl := tq2 (i := 110) rfl
theorem tw351 : Cond.fieldLinkNest "BrigadePagers" (144 : Nat) "BrigadePagers$State" "time" "I" "BrigadePagers" ∈ lw_tbl := tq2 (i := 111) rfl
theorem tw352 : Cond.fieldLink "BrigadePagers$State" (9 : Nat) "BrigadePagers$State" "lost" "[I" ∈ lw_tbl := tq2 (i := 112) rfl
theorem tw353 : Cond.fieldLinkNest "BrigadePagers" (164 : Nat) "BrigadePagers$State" "lost" "[I" "BrigadePagers" ∈ lw_tbl := tq2 (i := 113) rfl
theorem tw354 : Cond.fieldLink "BrigadePagers$State" (15 : Nat) "BrigadePagers$State" "outUntil" "[I" ∈ lw_tbl := tq2 (i := 114) rfl
theorem tw355 : Cond.fieldLinkNest "BrigadePagers" (160 : Nat) "BrigadePagers$State" "outUntil" "[I" "BrigadePagers" ∈ lw_tbl := tq2 (i := 115) rfl
theorem tw356 : Cond.fieldLink "BrigadePagers$State" (18 : Nat) "BrigadePagers$State" "paid" "[I" ∈ lw_tbl := tq2 (i := 116) rfl
theorem tw357 : Cond.fieldLinkNest "BrigadePagers" (180 : Nat) "BrigadePagers$State" "paid" "[I" "BrigadePagers" ∈ lw_tbl := tq2 (i := 117) rfl
theorem tw358 : Cond.fieldLink "BrigadePagers$State" (66 : Nat) "BrigadePagers$State" "excused" "I" ∈ lw_tbl := tq2 (i := 118) rfl
theorem tw359 : Cond.fieldLinkNest "BrigadePagers$Muster" (102 : Nat) "BrigadePagers$State" "excused" "I" "BrigadePagers" ∈ lw_tbl := tq2 (i := 119) rfl
theorem tw360 : Cond.fieldLinkNest "BrigadePagers" (376 : Nat) "BrigadePagers$State" "excused" "I" "BrigadePagers" ∈ lw_tbl := tq2 (i := 120) rfl
theorem tw361 : Cond.fieldLink "BrigadePagers$State" (21 : Nat) "BrigadePagers$State" "trust" "[I" ∈ lw_tbl := tq2 (i := 121) rfl
theorem tw362 : Cond.fieldLinkNest "BrigadePagers" (187 : Nat) "BrigadePagers$State" "trust" "[I" "BrigadePagers" ∈ lw_tbl := tq2 (i := 122) rfl
theorem tw363 : Cond.fieldLink "BrigadePagers$State" (24 : Nat) "BrigadePagers$State" "rotation" "[I" ∈ lw_tbl := tq2 (i := 123) rfl
theorem tw364 : Cond.fieldLinkNest "BrigadePagers" (213 : Nat) "BrigadePagers$State" "rotation" "[I" "BrigadePagers" ∈ lw_tbl := tq2 (i := 124) rfl
theorem tw365 : Cond.fieldLink "BrigadePagers$State" (27 : Nat) "BrigadePagers$State" "handOns" "[I" ∈ lw_tbl := tq2 (i := 125) rfl
theorem tw366 : Cond.fieldLinkNest "BrigadePagers$Muster" (205 : Nat) "BrigadePagers$State" "handOns" "[I" "BrigadePagers" ∈ lw_tbl := tq2 (i := 126) rfl
theorem tw367 : Cond.fieldLinkNest "BrigadePagers" (199 : Nat) "BrigadePagers$State" "handOns" "[I" "BrigadePagers" ∈ lw_tbl := tq2 (i := 127) rfl
theorem tw368 : Cond.fieldLink "BrigadePagers$State" (30 : Nat) "BrigadePagers$State" "handedTo" "[I" ∈ lw_tbl := tq2 (i := 128) rfl
theorem tw369 : Cond.fieldLink "BrigadePagers$State" (33 : Nat) "BrigadePagers$State" "handOnEnds" "[I" ∈ lw_tbl := tq2 (i := 129) rfl
theorem tw370 : Cond.fieldLink "BrigadePagers$State" (36 : Nat) "BrigadePagers$State" "returns" "[I" ∈ lw_tbl := tq2 (i := 130) rfl
theorem tw371 : Cond.fieldLinkNest "BrigadePagers$Muster" (221 : Nat) "BrigadePagers$State" "returns" "[I" "BrigadePagers" ∈ lw_tbl := tq2 (i := 131) rfl
theorem tw372 : Cond.fieldLinkNest "BrigadePagers" (238 : Nat) "BrigadePagers$State" "returns" "[I" "BrigadePagers" ∈ lw_tbl := tq2 (i := 132) rfl
theorem tw373 : Cond.fieldLink "BrigadePagers$State" (39 : Nat) "BrigadePagers$State" "crews" "[I" ∈ lw_tbl := tq2 (i := 133) rfl
theorem tw374 : Cond.fieldLinkNest "BrigadePagers$Muster" (224 : Nat) "BrigadePagers$State" "crews" "[I" "BrigadePagers" ∈ lw_tbl := tq2 (i := 134) rfl
theorem tw375 : Cond.fieldLink "BrigadePagers$State" (97 : Nat) "BrigadePagers$State" "service" "I" ∈ lw_tbl := tq2 (i := 135) rfl
theorem tw376 : Cond.fieldLinkNest "BrigadePagers$Muster" (124 : Nat) "BrigadePagers$State" "service" "I" "BrigadePagers" ∈ lw_tbl := tq2 (i := 136) rfl
theorem tw377 : Cond.fieldLinkNest "BrigadePagers" (386 : Nat) "BrigadePagers$State" "service" "I" "BrigadePagers" ∈ lw_tbl := tq2 (i := 137) rfl
theorem tw378 : Cond.fieldLink "BrigadePagers$State" (45 : Nat) "BrigadePagers$State" "log" "LBrigadePagers$CallLog;" ∈ lw_tbl := tq2 (i := 138) rfl
theorem tw379 : Cond.fieldLinkNest "BrigadePagers" (131 : Nat) "BrigadePagers$State" "log" "LBrigadePagers$CallLog;" "BrigadePagers" ∈ lw_tbl := tq2 (i := 139) rfl
theorem tw380 : Cond.fieldLinkNest "BrigadePagers$Muster" (175 : Nat) "BrigadePagers$State" "log" "LBrigadePagers$CallLog;" "BrigadePagers" ∈ lw_tbl := tq2 (i := 140) rfl
theorem tw381 : Cond.fieldLink "BrigadePagers$State" (49 : Nat) "BrigadePagers$State" "best" "[I" ∈ lw_tbl := tq2 (i := 141) rfl
theorem tw415 : Cond.classLink "BrigadePagers" (44 : Nat) "BrigadePagers$Muster" ∈ lw_tbl := tq2 (i := 175) rfl
theorem tw416 : Cond.instantiable "BrigadePagers$Muster" (11 : Nat) ∈ lw_tbl := tq2 (i := 176) rfl
theorem tw417 : Cond.methodLinkNest "BrigadePagers" (46 : Nat) ({ cls := "BrigadePagers$Muster", name := "<init>", desc := "(LBrigadePagers$State;)V" } : MethodName) "BrigadePagers" ∈ lw_tbl := tq2 (i := 177) rfl
theorem tw418 : Cond.instanceMethod ({ cls := "BrigadePagers$Muster", name := "<init>", desc := "(LBrigadePagers$State;)V" } : MethodName) ∈ lw_tbl := tq2 (i := 178) rfl
theorem tw419 : Cond.code ({ cls := "BrigadePagers$Muster", name := "<init>", desc := "(LBrigadePagers$State;)V" } : MethodName) prog_6_method_1_code (2 : Nat) (Option.none : Option ClassFile.FieldType) ∈ lw_tbl := tq2 (i := 179) rfl
theorem tw420 : Cond.methodLink "BrigadePagers$Muster" (3 : Nat) ({ cls := "java/lang/Object", name := "<init>", desc := "()V" } : MethodName) ∈ lw_tbl := tq2 (i := 180) rfl
theorem tw421 : Cond.fieldLink "BrigadePagers$Muster" (33 : Nat) "BrigadePagers$Muster" "state" "LBrigadePagers$State;" ∈ lw_tbl := tq2 (i := 181) rfl
theorem tw422 : Cond.fieldLink "BrigadePagers$Muster" (43 : Nat) "BrigadePagers$Muster" "plan" "LBrigadePagers$Plan;" ∈ lw_tbl := tq2 (i := 182) rfl
theorem tw423 : Cond.fieldLink "BrigadePagers$Muster" (9 : Nat) "BrigadePagers$Muster" "absence" "[I" ∈ lw_tbl := tq2 (i := 183) rfl
theorem tw424 : Cond.fieldLinkNest "BrigadePagers" (288 : Nat) "BrigadePagers$Muster" "absence" "[I" "BrigadePagers" ∈ lw_tbl := tq2 (i := 184) rfl
theorem tw425 : Cond.fieldLink "BrigadePagers$Muster" (15 : Nat) "BrigadePagers$Muster" "arrivals" "[I" ∈ lw_tbl := tq2 (i := 185) rfl
theorem tw426 : Cond.fieldLink "BrigadePagers$Muster" (48 : Nat) "BrigadePagers$Muster" "comers" "I" ∈ lw_tbl := tq2 (i := 186) rfl
theorem tw427 : Cond.fieldLink "BrigadePagers$Muster" (52 : Nat) "BrigadePagers$Muster" "free" "I" ∈ lw_tbl := tq2 (i := 187) rfl
theorem tw428 : Cond.fieldLink "BrigadePagers$Muster" (18 : Nat) "BrigadePagers$Muster" "stay" "[I" ∈ lw_tbl := tq2 (i := 188) rfl
theorem tw429 : Cond.fieldLinkNest "BrigadePagers" (294 : Nat) "BrigadePagers$Muster" "stay" "[I" "BrigadePagers" ∈ lw_tbl := tq2 (i := 189) rfl
theorem tw430 : Cond.fieldLink "BrigadePagers$Muster" (21 : Nat) "BrigadePagers$Muster" "mannable" "[I" ∈ lw_tbl := tq2 (i := 190) rfl
theorem tw431 : Cond.fieldLinkNest "BrigadePagers" (323 : Nat) "BrigadePagers$Muster" "mannable" "[I" "BrigadePagers" ∈ lw_tbl := tq2 (i := 191) rfl
theorem tw432 : Cond.fieldLink "BrigadePagers$Muster" (24 : Nat) "BrigadePagers$Muster" "crews" "[I" ∈ lw_tbl := tq2 (i := 192) rfl
theorem tw433 : Cond.fieldLinkNest "BrigadePagers" (318 : Nat) "BrigadePagers$Muster" "crews" "[I" "BrigadePagers" ∈ lw_tbl := tq2 (i := 193) rfl
theorem tw434 : Cond.fieldLink "BrigadePagers$Muster" (27 : Nat) "BrigadePagers$Muster" "departs" "[I" ∈ lw_tbl := tq2 (i := 194) rfl
theorem tw435 : Cond.fieldLinkNest "BrigadePagers" (300 : Nat) "BrigadePagers$Muster" "departs" "[I" "BrigadePagers" ∈ lw_tbl := tq2 (i := 195) rfl
theorem tw436 : Cond.fieldLink "BrigadePagers$Muster" (30 : Nat) "BrigadePagers$Muster" "demandLeft" "[I" ∈ lw_tbl := tq2 (i := 196) rfl
theorem tw460 : Cond.classLink "BrigadePagers" (53 : Nat) "BrigadePagers$History" ∈ lw_tbl := tq2 (i := 220) rfl
theorem tw461 : Cond.instantiable "BrigadePagers$History" (4 : Nat) ∈ lw_tbl := tq2 (i := 221) rfl
theorem tw462 : Cond.methodLinkNest "BrigadePagers" (55 : Nat) ({ cls := "BrigadePagers$History", name := "<init>", desc := "(LBrigadePagers$Plan;)V" } : MethodName) "BrigadePagers" ∈ lw_tbl := tq2 (i := 222) rfl
theorem tw463 : Cond.instanceMethod ({ cls := "BrigadePagers$History", name := "<init>", desc := "(LBrigadePagers$Plan;)V" } : MethodName) ∈ lw_tbl := tq2 (i := 223) rfl
theorem tw464 : Cond.code ({ cls := "BrigadePagers$History", name := "<init>", desc := "(LBrigadePagers$Plan;)V" } : MethodName) prog_4_method_1_code (3 : Nat) (Option.none : Option ClassFile.FieldType) ∈ lw_tbl := tq2 (i := 224) rfl
theorem tw465 : Cond.methodLink "BrigadePagers$History" (3 : Nat) ({ cls := "java/lang/Object", name := "<init>", desc := "()V" } : MethodName) ∈ lw_tbl := tq2 (i := 225) rfl
theorem tw466 : Cond.classLink "BrigadePagers$History" (9 : Nat) "BrigadePagers$State" ∈ lw_tbl := tq2 (i := 226) rfl
theorem tw468 : Cond.methodLinkNest "BrigadePagers$History" (24 : Nat) ({ cls := "BrigadePagers$State", name := "<init>", desc := "(LBrigadePagers$Plan;)V" } : MethodName) "BrigadePagers" ∈ lw_tbl := tq2 (i := 228) rfl
theorem tw469 : Cond.fieldLink "BrigadePagers$History" (27 : Nat) "BrigadePagers$History" "keptCount" "I" ∈ lw_tbl := tq2 (i := 229) rfl
theorem tw470 : Cond.fieldLinkNest "BrigadePagers" (391 : Nat) "BrigadePagers$History" "keptCount" "I" "BrigadePagers" ∈ lw_tbl := tq2 (i := 230) rfl
theorem tw471 : Cond.fieldLink "BrigadePagers$History" (11 : Nat) "BrigadePagers$History" "kept" "[LBrigadePagers$State;" ∈ lw_tbl := tq2 (i := 231) rfl
theorem tw472 : Cond.fieldLink "BrigadePagers$History" (17 : Nat) "BrigadePagers$History" "slots" "[LBrigadePagers$State;" ∈ lw_tbl := tq2 (i := 232) rfl
theorem tw473 : Cond.fieldLinkNest "BrigadePagers" (402 : Nat) "BrigadePagers$History" "slots" "[LBrigadePagers$State;" "BrigadePagers" ∈ lw_tbl := tq2 (i := 233) rfl
theorem tw474 : Cond.fieldLink "BrigadePagers$History" (20 : Nat) "BrigadePagers$History" "isSlotFilled" "[Z" ∈ lw_tbl := tq2 (i := 234) rfl
theorem tw475 : Cond.fieldLinkNest "BrigadePagers" (406 : Nat) "BrigadePagers$History" "isSlotFilled" "[Z" "BrigadePagers" ∈ lw_tbl := tq2 (i := 235) rfl
theorem tw485 : Cond.arrayClass .boolean ∈ lw_tbl := tq3 (i := 5) rfl
theorem tw486 : Cond.methodLinkNest "BrigadePagers" (64 : Nat) ({ cls := "BrigadePagers$Night", name := "set", desc := "(IIII)V" } : MethodName) "BrigadePagers" ∈ lw_tbl := tq3 (i := 6) rfl
theorem tw488 : Cond.instanceMethod ({ cls := "BrigadePagers$Night", name := "set", desc := "(IIII)V" } : MethodName) ∈ lw_tbl := tq3 (i := 8) rfl
theorem tw489 : Cond.code ({ cls := "BrigadePagers$Night", name := "set", desc := "(IIII)V" } : MethodName) prog_7_method_2_code (5 : Nat) (Option.none : Option ClassFile.FieldType) ∈ lw_tbl := tq3 (i := 9) rfl
theorem tw490 : Cond.fieldLink "BrigadePagers" (9 : Nat) "BrigadePagers" "text" "[B" ∈ lw_tbl := tq3 (i := 10) rfl
theorem tw491 : Cond.fieldLink "BrigadePagers" (70 : Nat) "BrigadePagers" "textLength" "I" ∈ lw_tbl := tq3 (i := 11) rfl
theorem tw492 : Cond.fieldLink "BrigadePagers" (18 : Nat) "BrigadePagers" "reader" "LBrigadePagers$Reader;" ∈ lw_tbl := tq3 (i := 12) rfl
theorem tw493 : Cond.fieldLink "BrigadePagers" (25 : Nat) "BrigadePagers" "plan" "LBrigadePagers$Plan;" ∈ lw_tbl := tq3 (i := 13) rfl
theorem tw494 : Cond.fieldLink "BrigadePagers" (29 : Nat) "BrigadePagers" "sparePlan" "LBrigadePagers$Plan;" ∈ lw_tbl := tq3 (i := 14) rfl
theorem tw495 : Cond.fieldLink "BrigadePagers" (37 : Nat) "BrigadePagers" "state" "LBrigadePagers$State;" ∈ lw_tbl := tq3 (i := 15) rfl
theorem tw496 : Cond.fieldLink "BrigadePagers" (41 : Nat) "BrigadePagers" "draft" "LBrigadePagers$State;" ∈ lw_tbl := tq3 (i := 16) rfl
theorem tw497 : Cond.fieldLink "BrigadePagers" (49 : Nat) "BrigadePagers" "muster" "LBrigadePagers$Muster;" ∈ lw_tbl := tq3 (i := 17) rfl
theorem tw498 : Cond.fieldLink "BrigadePagers" (56 : Nat) "BrigadePagers" "history" "LBrigadePagers$History;" ∈ lw_tbl := tq3 (i := 18) rfl
theorem tw518 : Cond.methodLink "BrigadePagersLaw" (199 : Nat) ({ cls := "BrigadePagers", name := "errorCode", desc := "()I" } : MethodName) ∈ lw_tbl := tq3 (i := 38) rfl
theorem tw519 : Cond.instanceMethod ({ cls := "BrigadePagers", name := "errorCode", desc := "()I" } : MethodName) ∈ lw_tbl := tq3 (i := 39) rfl
theorem tw520 : Cond.selects "BrigadePagers" ({ cls := "BrigadePagers", name := "errorCode", desc := "()I" } : MethodName) ({ cls := "BrigadePagers", name := "errorCode", desc := "()I" } : MethodName) ∈ lw_tbl := tq3 (i := 40) rfl
theorem tw521 : Cond.code ({ cls := "BrigadePagers", name := "errorCode", desc := "()I" } : MethodName) prog_1_method_6_code (1 : Nat) (Option.some .int) ∈ lw_tbl := tq3 (i := 41) rfl
theorem tw522 : Cond.methodLink "BrigadePagersLaw" (203 : Nat) ({ cls := "BrigadePagers", name := "errorPosition", desc := "()I" } : MethodName) ∈ lw_tbl := tq3 (i := 42) rfl
theorem tw523 : Cond.instanceMethod ({ cls := "BrigadePagers", name := "errorPosition", desc := "()I" } : MethodName) ∈ lw_tbl := tq3 (i := 43) rfl
theorem tw524 : Cond.selects "BrigadePagers" ({ cls := "BrigadePagers", name := "errorPosition", desc := "()I" } : MethodName) ({ cls := "BrigadePagers", name := "errorPosition", desc := "()I" } : MethodName) ∈ lw_tbl := tq3 (i := 44) rfl
theorem tw525 : Cond.code ({ cls := "BrigadePagers", name := "errorPosition", desc := "()I" } : MethodName) prog_1_method_7_code (1 : Nat) (Option.some .int) ∈ lw_tbl := tq3 (i := 45) rfl
theorem tw526 : Cond.methodLink "BrigadePagersLaw" (213 : Nat) ({ cls := "BrigadePagers", name := "time", desc := "()I" } : MethodName) ∈ lw_tbl := tq3 (i := 46) rfl
theorem tw527 : Cond.instanceMethod ({ cls := "BrigadePagers", name := "time", desc := "()I" } : MethodName) ∈ lw_tbl := tq3 (i := 47) rfl
theorem tw528 : Cond.selects "BrigadePagers" ({ cls := "BrigadePagers", name := "time", desc := "()I" } : MethodName) ({ cls := "BrigadePagers", name := "time", desc := "()I" } : MethodName) ∈ lw_tbl := tq3 (i := 48) rfl
theorem tw529 : Cond.code ({ cls := "BrigadePagers", name := "time", desc := "()I" } : MethodName) prog_1_method_10_code (1 : Nat) (Option.some .int) ∈ lw_tbl := tq3 (i := 49) rfl
theorem tw530 : Cond.methodLink "BrigadePagersLaw" (294 : Nat) ({ cls := "BrigadePagers", name := "totalCost", desc := "()I" } : MethodName) ∈ lw_tbl := tq3 (i := 50) rfl
theorem tw531 : Cond.instanceMethod ({ cls := "BrigadePagers", name := "totalCost", desc := "()I" } : MethodName) ∈ lw_tbl := tq3 (i := 51) rfl
theorem tw532 : Cond.selects "BrigadePagers" ({ cls := "BrigadePagers", name := "totalCost", desc := "()I" } : MethodName) ({ cls := "BrigadePagers", name := "totalCost", desc := "()I" } : MethodName) ∈ lw_tbl := tq3 (i := 52) rfl
theorem tw533 : Cond.code ({ cls := "BrigadePagers", name := "totalCost", desc := "()I" } : MethodName) prog_1_method_36_code (3 : Nat) (Option.some .int) ∈ lw_tbl := tq3 (i := 53) rfl
theorem tw534 : Cond.methodLink "BrigadePagersLaw" (182 : Nat) ({ cls := "BrigadePagersLaw", name := "append", desc := "(LBrigadePagers;IIIII[J)I" } : MethodName) ∈ lw_tbl := tq3 (i := 54) rfl
theorem tw535 : Cond.static ({ cls := "BrigadePagersLaw", name := "append", desc := "(LBrigadePagers;IIIII[J)I" } : MethodName) ∈ lw_tbl := tq3 (i := 55) rfl
theorem tw536 : Cond.codeWith ({ cls := "BrigadePagersLaw", name := "append", desc := "(LBrigadePagers;IIIII[J)I" } : MethodName) method_3_code (8 : Nat) (Option.some .int) [((0 : Nat), (16 : Nat), (19 : Nat), (13 : Nat))] ∈ lw_tbl := tq3 (i := 56) rfl
theorem tw537 : Cond.classLink "BrigadePagersLaw" (13 : Nat) "java/lang/IllegalStateException" ∈ lw_tbl := tq3 (i := 57) rfl
theorem tw538 : Cond.methodLink "BrigadePagersLaw" (7 : Nat) ({ cls := "BrigadePagers", name := "append", desc := "(IIIII)I" } : MethodName) ∈ lw_tbl := tq3 (i := 58) rfl
theorem tw539 : Cond.instanceMethod ({ cls := "BrigadePagers", name := "append", desc := "(IIIII)I" } : MethodName) ∈ lw_tbl := tq3 (i := 59) rfl
theorem tw540 : Cond.selects "BrigadePagers" ({ cls := "BrigadePagers", name := "append", desc := "(IIIII)I" } : MethodName) ({ cls := "BrigadePagers", name := "append", desc := "(IIIII)I" } : MethodName) ∈ lw_tbl := tq3 (i := 60) rfl
theorem tw541 : Cond.code ({ cls := "BrigadePagers", name := "append", desc := "(IIIII)I" } : MethodName) prog_1_method_2_code (6 : Nat) (Option.some .int) ∈ lw_tbl := tq3 (i := 61) rfl
theorem tw542 : Cond.classLink "BrigadePagers" (74 : Nat) "java/lang/IllegalStateException" ∈ lw_tbl := tq3 (i := 62) rfl
theorem tw544 : Cond.castable "java/lang/IllegalStateException" "java/lang/IllegalStateException" ∈ lw_tbl := tq3 (i := 64) rfl
theorem tw585 : Cond.methodLink "BrigadePagers" (78 : Nat) ({ cls := "java/lang/IllegalStateException", name := "<init>", desc := "(Ljava/lang/String;)V" } : MethodName) ∈ lw_tbl := tq3 (i := 105) rfl
theorem tw610 : Cond.methodLink "BrigadePagers" (81 : Nat) ({ cls := "BrigadePagers", name := "putFourBytes", desc := "(I)V" } : MethodName) ∈ lw_tbl := tq3 (i := 130) rfl
theorem tw612 : Cond.instanceMethod ({ cls := "BrigadePagers", name := "putFourBytes", desc := "(I)V" } : MethodName) ∈ lw_tbl := tq3 (i := 132) rfl
theorem tw613 : Cond.code ({ cls := "BrigadePagers", name := "putFourBytes", desc := "(I)V" } : MethodName) prog_1_method_3_code (3 : Nat) (Option.none : Option ClassFile.FieldType) ∈ lw_tbl := tq3 (i := 133) rfl
theorem tw614 : Cond.methodLink "BrigadePagersLaw" (191 : Nat) ({ cls := "BrigadePagersLaw", name := "truncate", desc := "(LBrigadePagers;I[J)I" } : MethodName) ∈ lw_tbl := tq3 (i := 134) rfl
theorem tw615 : Cond.static ({ cls := "BrigadePagersLaw", name := "truncate", desc := "(LBrigadePagers;I[J)I" } : MethodName) ∈ lw_tbl := tq3 (i := 135) rfl
theorem tw616 : Cond.codeWith ({ cls := "BrigadePagersLaw", name := "truncate", desc := "(LBrigadePagers;I[J)I" } : MethodName) method_4_code (4 : Nat) (Option.some .int) [((0 : Nat), (9 : Nat), (12 : Nat), (19 : Nat))] ∈ lw_tbl := tq3 (i := 136) rfl
theorem tw617 : Cond.classLink "BrigadePagersLaw" (19 : Nat) "java/lang/IndexOutOfBoundsException" ∈ lw_tbl := tq3 (i := 137) rfl
theorem tw618 : Cond.methodLink "BrigadePagersLaw" (15 : Nat) ({ cls := "BrigadePagers", name := "truncate", desc := "(I)I" } : MethodName) ∈ lw_tbl := tq3 (i := 138) rfl
theorem tw619 : Cond.instanceMethod ({ cls := "BrigadePagers", name := "truncate", desc := "(I)I" } : MethodName) ∈ lw_tbl := tq3 (i := 139) rfl
theorem tw620 : Cond.selects "BrigadePagers" ({ cls := "BrigadePagers", name := "truncate", desc := "(I)I" } : MethodName) ({ cls := "BrigadePagers", name := "truncate", desc := "(I)I" } : MethodName) ∈ lw_tbl := tq3 (i := 140) rfl
theorem tw621 : Cond.code ({ cls := "BrigadePagers", name := "truncate", desc := "(I)I" } : MethodName) prog_1_method_4_code (2 : Nat) (Option.some .int) ∈ lw_tbl := tq3 (i := 141) rfl
theorem tw622 : Cond.classLink "BrigadePagers" (85 : Nat) "java/lang/IndexOutOfBoundsException" ∈ lw_tbl := tq3 (i := 142) rfl
theorem tw624 : Cond.castable "java/lang/IndexOutOfBoundsException" "java/lang/IndexOutOfBoundsException" ∈ lw_tbl := tq3 (i := 144) rfl
theorem tw632 : Cond.methodLink "BrigadePagers" (89 : Nat) ({ cls := "java/lang/IndexOutOfBoundsException", name := "<init>", desc := "(Ljava/lang/String;)V" } : MethodName) ∈ lw_tbl := tq3 (i := 152) rfl
theorem tw638 : Cond.methodLink "BrigadePagersLaw" (195 : Nat) ({ cls := "BrigadePagersLaw", name := "load", desc := "(LBrigadePagers;[J)I" } : MethodName) ∈ lw_tbl := tq3 (i := 158) rfl
theorem tw639 : Cond.static ({ cls := "BrigadePagersLaw", name := "load", desc := "(LBrigadePagers;[J)I" } : MethodName) ∈ lw_tbl := tq3 (i := 159) rfl
theorem tw640 : Cond.codeWith ({ cls := "BrigadePagersLaw", name := "load", desc := "(LBrigadePagers;[J)I" } : MethodName) method_5_code (3 : Nat) (Option.some .int) [((0 : Nat), (8 : Nat), (11 : Nat), (25 : Nat))] ∈ lw_tbl := tq3 (i := 160) rfl
theorem tw641 : Cond.classLink "BrigadePagersLaw" (25 : Nat) "java/lang/IllegalArgumentException" ∈ lw_tbl := tq3 (i := 161) rfl
theorem tw642 : Cond.methodLink "BrigadePagersLaw" (21 : Nat) ({ cls := "BrigadePagers", name := "load", desc := "()I" } : MethodName) ∈ lw_tbl := tq3 (i := 162) rfl
theorem tw643 : Cond.instanceMethod ({ cls := "BrigadePagers", name := "load", desc := "()I" } : MethodName) ∈ lw_tbl := tq3 (i := 163) rfl
theorem tw644 : Cond.selects "BrigadePagers" ({ cls := "BrigadePagers", name := "load", desc := "()I" } : MethodName) ({ cls := "BrigadePagers", name := "load", desc := "()I" } : MethodName) ∈ lw_tbl := tq3 (i := 164) rfl
theorem tw645 : Cond.code ({ cls := "BrigadePagers", name := "load", desc := "()I" } : MethodName) prog_1_method_5_code (3 : Nat) (Option.some .int) ∈ lw_tbl := tq3 (i := 165) rfl
theorem tw646 : Cond.methodLinkNest "BrigadePagers" (90 : Nat) ({ cls := "BrigadePagers$Reader", name := "reads", desc := "(ILBrigadePagers$Plan;)Z" } : MethodName) "BrigadePagers" ∈ lw_tbl := tq3 (i := 166) rfl
theorem tw648 : Cond.instanceMethod ({ cls := "BrigadePagers$Reader", name := "reads", desc := "(ILBrigadePagers$Plan;)Z" } : MethodName) ∈ lw_tbl := tq3 (i := 168) rfl
theorem tw649 : Cond.code ({ cls := "BrigadePagers$Reader", name := "reads", desc := "(ILBrigadePagers$Plan;)Z" } : MethodName) prog_11_method_2_code (7 : Nat) (Option.some .boolean) ∈ lw_tbl := tq3 (i := 169) rfl
theorem tw650 : Cond.methodLink "BrigadePagers$Reader" (19 : Nat) ({ cls := "java/lang/Math", name := "min", desc := "(II)I" } : MethodName) ∈ lw_tbl := tq3 (i := 170) rfl
theorem tw651 : Cond.static ({ cls := "java/lang/Math", name := "min", desc := "(II)I" } : MethodName) ∈ lw_tbl := tq3 (i := 171) rfl
theorem tw652 : Cond.code ({ cls := "java/lang/Math", name := "min", desc := "(II)I" } : MethodName) prog_23_method_69_code (2 : Nat) (Option.some .int) ∈ lw_tbl := tq3 (i := 172) rfl
theorem tw653 : Cond.methodLinkNest "BrigadePagers$Reader" (38 : Nat) ({ cls := "BrigadePagers$Plan", name := "clear", desc := "()V" } : MethodName) "BrigadePagers" ∈ lw_tbl := tq3 (i := 173) rfl
theorem tw655 : Cond.instanceMethod ({ cls := "BrigadePagers$Plan", name := "clear", desc := "()V" } : MethodName) ∈ lw_tbl := tq3 (i := 175) rfl
theorem tw656 : Cond.code ({ cls := "BrigadePagers$Plan", name := "clear", desc := "()V" } : MethodName) prog_10_method_2_code (1 : Nat) (Option.none : Option ClassFile.FieldType) ∈ lw_tbl := tq3 (i := 176) rfl
theorem tw657 : Cond.methodLink "BrigadePagers$Plan" (60 : Nat) ({ cls := "java/util/Arrays", name := "fill", desc := "([II)V" } : MethodName) ∈ lw_tbl := tq3 (i := 177) rfl
theorem tw658 : Cond.static ({ cls := "java/util/Arrays", name := "fill", desc := "([II)V" } : MethodName) ∈ lw_tbl := tq3 (i := 178) rfl
theorem tw659 : Cond.code ({ cls := "java/util/Arrays", name := "fill", desc := "([II)V" } : MethodName) prog_32_method_103_code (4 : Nat) (Option.none : Option ClassFile.FieldType) ∈ lw_tbl := tq3 (i := 179) rfl
theorem tw660 : Cond.methodLink "BrigadePagers$Reader" (43 : Nat) ({ cls := "BrigadePagers$Reader", name := "take", desc := "()V" } : MethodName) ∈ lw_tbl := tq3 (i := 180) rfl
theorem tw662 : Cond.instanceMethod ({ cls := "BrigadePagers$Reader", name := "take", desc := "()V" } : MethodName) ∈ lw_tbl := tq3 (i := 182) rfl
theorem tw663 : Cond.code ({ cls := "BrigadePagers$Reader", name := "take", desc := "()V" } : MethodName) prog_11_method_4_code (1 : Nat) (Option.none : Option ClassFile.FieldType) ∈ lw_tbl := tq3 (i := 183) rfl
theorem tw664 : Cond.methodLink "BrigadePagers$Reader" (79 : Nat) ({ cls := "BrigadePagers$Reader", name := "isLetter", desc := "(I)Z" } : MethodName) ∈ lw_tbl := tq3 (i := 184) rfl
theorem tw665 : Cond.static ({ cls := "BrigadePagers$Reader", name := "isLetter", desc := "(I)Z" } : MethodName) ∈ lw_tbl := tq3 (i := 185) rfl
theorem tw666 : Cond.code ({ cls := "BrigadePagers$Reader", name := "isLetter", desc := "(I)Z" } : MethodName) prog_11_method_5_code (1 : Nat) (Option.some .boolean) ∈ lw_tbl := tq3 (i := 186) rfl
theorem tw667 : Cond.methodLink "BrigadePagers$Reader" (94 : Nat) ({ cls := "BrigadePagers$Reader", name := "isDigit", desc := "(I)Z" } : MethodName) ∈ lw_tbl := tq3 (i := 187) rfl
theorem tw668 : Cond.static ({ cls := "BrigadePagers$Reader", name := "isDigit", desc := "(I)Z" } : MethodName) ∈ lw_tbl := tq3 (i := 188) rfl
theorem tw669 : Cond.code ({ cls := "BrigadePagers$Reader", name := "isDigit", desc := "(I)Z" } : MethodName) prog_11_method_6_code (1 : Nat) (Option.some .boolean) ∈ lw_tbl := tq3 (i := 189) rfl
theorem tw670 : Cond.methodLink "BrigadePagers$Reader" (46 : Nat) ({ cls := "BrigadePagers$Reader", name := "readsNight", desc := "()Z" } : MethodName) ∈ lw_tbl := tq3 (i := 190) rfl
theorem tw672 : Cond.instanceMethod ({ cls := "BrigadePagers$Reader", name := "readsNight", desc := "()Z" } : MethodName) ∈ lw_tbl := tq3 (i := 192) rfl
theorem tw673 : Cond.code ({ cls := "BrigadePagers$Reader", name := "readsNight", desc := "()Z" } : MethodName) prog_11_method_16_code (4 : Nat) (Option.some .boolean) ∈ lw_tbl := tq3 (i := 193) rfl
theorem tw675 : Cond.methodLink "BrigadePagers$Reader" (125 : Nat) ({ cls := "BrigadePagers$Reader", name := "isWord", desc := "(Ljava/lang/String;)Z" } : MethodName) ∈ lw_tbl := tq3 (i := 195) rfl
theorem tw677 : Cond.instanceMethod ({ cls := "BrigadePagers$Reader", name := "isWord", desc := "(Ljava/lang/String;)Z" } : MethodName) ∈ lw_tbl := tq3 (i := 197) rfl
theorem tw678 : Cond.code ({ cls := "BrigadePagers$Reader", name := "isWord", desc := "(Ljava/lang/String;)Z" } : MethodName) prog_11_method_8_code (3 : Nat) (Option.some .boolean) ∈ lw_tbl := tq3 (i := 198) rfl
theorem tw679 : Cond.methodLink "BrigadePagers$Reader" (97 : Nat) ({ cls := "java/lang/String", name := "length", desc := "()I" } : MethodName) ∈ lw_tbl := tq3 (i := 199) rfl
theorem tw680 : Cond.instanceMethod ({ cls := "java/lang/String", name := "length", desc := "()I" } : MethodName) ∈ lw_tbl := tq3 (i := 200) rfl
theorem tw681 : Cond.selects "java/lang/String" ({ cls := "java/lang/String", name := "length", desc := "()I" } : MethodName) ({ cls := "java/lang/String", name := "length", desc := "()I" } : MethodName) ∈ lw_tbl := tq3 (i := 201) rfl
theorem tw682 : Cond.code ({ cls := "java/lang/String", name := "length", desc := "()I" } : MethodName) prog_25_method_54_code (1 : Nat) (Option.some .int) ∈ lw_tbl := tq3 (i := 202) rfl
theorem tw689 : Cond.methodLink "BrigadePagers$Reader" (101 : Nat) ({ cls := "java/lang/String", name := "charAt", desc := "(I)C" } : MethodName) ∈ lw_tbl := tq3 (i := 209) rfl
theorem tw690 : Cond.instanceMethod ({ cls := "java/lang/String", name := "charAt", desc := "(I)C" } : MethodName) ∈ lw_tbl := tq3 (i := 210) rfl
theorem tw691 : Cond.selects "java/lang/String" ({ cls := "java/lang/String", name := "charAt", desc := "(I)C" } : MethodName) ({ cls := "java/lang/String", name := "charAt", desc := "(I)C" } : MethodName) ∈ lw_tbl := tq3 (i := 211) rfl
theorem tw692 : Cond.code ({ cls := "java/lang/String", name := "charAt", desc := "(I)C" } : MethodName) prog_25_method_56_code (2 : Nat) (Option.some .char) ∈ lw_tbl := tq3 (i := 212) rfl
theorem tw727 : Cond.methodLink "BrigadePagers$Reader" (57 : Nat) ({ cls := "BrigadePagers$Reader", name := "fails", desc := "(I)Z" } : MethodName) ∈ lw_tbl := tq4 (i := 7) rfl
theorem tw729 : Cond.instanceMethod ({ cls := "BrigadePagers$Reader", name := "fails", desc := "(I)Z" } : MethodName) ∈ lw_tbl := tq4 (i := 9) rfl
theorem tw730 : Cond.code ({ cls := "BrigadePagers$Reader", name := "fails", desc := "(I)Z" } : MethodName) prog_11_method_9_code (2 : Nat) (Option.some .boolean) ∈ lw_tbl := tq4 (i := 10) rfl
theorem tw731 : Cond.methodLink "BrigadePagers$Reader" (105 : Nat) ({ cls := "BrigadePagers$Reader", name := "failsAt", desc := "(II)Z" } : MethodName) ∈ lw_tbl := tq4 (i := 11) rfl
theorem tw733 : Cond.instanceMethod ({ cls := "BrigadePagers$Reader", name := "failsAt", desc := "(II)Z" } : MethodName) ∈ lw_tbl := tq4 (i := 13) rfl
theorem tw734 : Cond.code ({ cls := "BrigadePagers$Reader", name := "failsAt", desc := "(II)Z" } : MethodName) prog_11_method_10_code (3 : Nat) (Option.some .boolean) ∈ lw_tbl := tq4 (i := 14) rfl
theorem tw735 : Cond.methodLink "BrigadePagers$Reader" (129 : Nat) ({ cls := "BrigadePagers$Reader", name := "takesNumber", desc := "(II)Z" } : MethodName) ∈ lw_tbl := tq4 (i := 15) rfl
theorem tw737 : Cond.instanceMethod ({ cls := "BrigadePagers$Reader", name := "takesNumber", desc := "(II)Z" } : MethodName) ∈ lw_tbl := tq4 (i := 17) rfl
theorem tw738 : Cond.code ({ cls := "BrigadePagers$Reader", name := "takesNumber", desc := "(II)Z" } : MethodName) prog_11_method_12_code (5 : Nat) (Option.some .boolean) ∈ lw_tbl := tq4 (i := 18) rfl
theorem tw739 : Cond.methodLinkNest "BrigadePagers$Reader" (135 : Nat) ({ cls := "BrigadePagers$Night", name := "set", desc := "(IIII)V" } : MethodName) "BrigadePagers" ∈ lw_tbl := tq4 (i := 19) rfl
theorem tw740 : Cond.methodLink "BrigadePagers$Reader" (76 : Nat) ({ cls := "BrigadePagers$Reader", name := "takesSymbol", desc := "(I)Z" } : MethodName) ∈ lw_tbl := tq4 (i := 20) rfl
theorem tw742 : Cond.instanceMethod ({ cls := "BrigadePagers$Reader", name := "takesSymbol", desc := "(I)Z" } : MethodName) ∈ lw_tbl := tq4 (i := 22) rfl
theorem tw743 : Cond.code ({ cls := "BrigadePagers$Reader", name := "takesSymbol", desc := "(I)Z" } : MethodName) prog_11_method_11_code (2 : Nat) (Option.some .boolean) ∈ lw_tbl := tq4 (i := 23) rfl
theorem tw744 : Cond.methodLink "BrigadePagers$Reader" (53 : Nat) ({ cls := "BrigadePagers$Reader", name := "sectionOfWord", desc := "()I" } : MethodName) ∈ lw_tbl := tq4 (i := 24) rfl
theorem tw746 : Cond.instanceMethod ({ cls := "BrigadePagers$Reader", name := "sectionOfWord", desc := "()I" } : MethodName) ∈ lw_tbl := tq4 (i := 26) rfl
theorem tw747 : Cond.code ({ cls := "BrigadePagers$Reader", name := "sectionOfWord", desc := "()I" } : MethodName) prog_11_method_17_code (2 : Nat) (Option.some .int) ∈ lw_tbl := tq4 (i := 27) rfl
theorem tw748 : Cond.methodLink "BrigadePagers$Reader" (141 : Nat) ({ cls := "BrigadePagers$Reader", name := "sectionWord", desc := "(I)Ljava/lang/String;" } : MethodName) ∈ lw_tbl := tq4 (i := 28) rfl
theorem tw749 : Cond.static ({ cls := "BrigadePagers$Reader", name := "sectionWord", desc := "(I)Ljava/lang/String;" } : MethodName) ∈ lw_tbl := tq4 (i := 29) rfl
theorem tw750 : Cond.code ({ cls := "BrigadePagers$Reader", name := "sectionWord", desc := "(I)Ljava/lang/String;" } : MethodName) prog_11_method_18_code (1 : Nat) (Option.some (.object "java/lang/String")) ∈ lw_tbl := tq4 (i := 30) rfl
theorem tw756 : Cond.methodLink "BrigadePagers$Reader" (61 : Nat) ({ cls := "BrigadePagers$Reader", name := "readsPerson", desc := "()Z" } : MethodName) ∈ lw_tbl := tq4 (i := 36) rfl
theorem tw758 : Cond.instanceMethod ({ cls := "BrigadePagers$Reader", name := "readsPerson", desc := "()Z" } : MethodName) ∈ lw_tbl := tq4 (i := 38) rfl
theorem tw759 : Cond.code ({ cls := "BrigadePagers$Reader", name := "readsPerson", desc := "()Z" } : MethodName) prog_11_method_19_code (4 : Nat) (Option.some .boolean) ∈ lw_tbl := tq4 (i := 39) rfl
theorem tw760 : Cond.methodLink "BrigadePagers$Reader" (162 : Nat) ({ cls := "BrigadePagers$Reader", name := "takesNewName", desc := "(I)Z" } : MethodName) ∈ lw_tbl := tq4 (i := 40) rfl
theorem tw762 : Cond.instanceMethod ({ cls := "BrigadePagers$Reader", name := "takesNewName", desc := "(I)Z" } : MethodName) ∈ lw_tbl := tq4 (i := 42) rfl
theorem tw763 : Cond.code ({ cls := "BrigadePagers$Reader", name := "takesNewName", desc := "(I)Z" } : MethodName) prog_11_method_14_code (2 : Nat) (Option.some .boolean) ∈ lw_tbl := tq4 (i := 43) rfl
theorem tw764 : Cond.methodLink "BrigadePagers$Reader" (116 : Nat) ({ cls := "BrigadePagers$Reader", name := "takesName", desc := "()Z" } : MethodName) ∈ lw_tbl := tq4 (i := 44) rfl
theorem tw766 : Cond.instanceMethod ({ cls := "BrigadePagers$Reader", name := "takesName", desc := "()Z" } : MethodName) ∈ lw_tbl := tq4 (i := 46) rfl
theorem tw767 : Cond.code ({ cls := "BrigadePagers$Reader", name := "takesName", desc := "()Z" } : MethodName) prog_11_method_13_code (3 : Nat) (Option.some .boolean) ∈ lw_tbl := tq4 (i := 47) rfl
theorem tw768 : Cond.methodLink "BrigadePagers$Reader" (84 : Nat) ({ cls := "BrigadePagers$Reader", name := "nameIn", desc := "(II)J" } : MethodName) ∈ lw_tbl := tq4 (i := 48) rfl
theorem tw770 : Cond.instanceMethod ({ cls := "BrigadePagers$Reader", name := "nameIn", desc := "(II)J" } : MethodName) ∈ lw_tbl := tq4 (i := 50) rfl
theorem tw771 : Cond.code ({ cls := "BrigadePagers$Reader", name := "nameIn", desc := "(II)J" } : MethodName) prog_11_method_7_code (6 : Nat) (Option.some .long) ∈ lw_tbl := tq4 (i := 51) rfl
theorem tw772 : Cond.constantLong "BrigadePagers$Reader" (82 : Nat) (-1 : Int64) ∈ lw_tbl := tq4 (i := 52) rfl
theorem tw773 : Cond.methodLinkNest "BrigadePagers$Reader" (119 : Nat) ({ cls := "BrigadePagers$Plan", name := "numberOf", desc := "(IJ)I" } : MethodName) "BrigadePagers" ∈ lw_tbl := tq4 (i := 53) rfl
theorem tw775 : Cond.instanceMethod ({ cls := "BrigadePagers$Plan", name := "numberOf", desc := "(IJ)I" } : MethodName) ∈ lw_tbl := tq4 (i := 55) rfl
theorem tw776 : Cond.code ({ cls := "BrigadePagers$Plan", name := "numberOf", desc := "(IJ)I" } : MethodName) prog_10_method_5_code (5 : Nat) (Option.some .int) ∈ lw_tbl := tq4 (i := 56) rfl
theorem tw777 : Cond.methodLink "BrigadePagers$Plan" (82 : Nat) ({ cls := "BrigadePagers$Plan", name := "sizeOf", desc := "(I)I" } : MethodName) ∈ lw_tbl := tq4 (i := 57) rfl
theorem tw779 : Cond.instanceMethod ({ cls := "BrigadePagers$Plan", name := "sizeOf", desc := "(I)I" } : MethodName) ∈ lw_tbl := tq4 (i := 59) rfl
theorem tw780 : Cond.code ({ cls := "BrigadePagers$Plan", name := "sizeOf", desc := "(I)I" } : MethodName) prog_10_method_3_code (2 : Nat) (Option.some .int) ∈ lw_tbl := tq4 (i := 60) rfl
theorem tw781 : Cond.methodLink "BrigadePagers$Plan" (86 : Nat) ({ cls := "BrigadePagers$Plan", name := "nameOf", desc := "(II)J" } : MethodName) ∈ lw_tbl := tq4 (i := 61) rfl
theorem tw783 : Cond.instanceMethod ({ cls := "BrigadePagers$Plan", name := "nameOf", desc := "(II)J" } : MethodName) ∈ lw_tbl := tq4 (i := 63) rfl
theorem tw784 : Cond.code ({ cls := "BrigadePagers$Plan", name := "nameOf", desc := "(II)J" } : MethodName) prog_10_method_4_code (3 : Nat) (Option.some .long) ∈ lw_tbl := tq4 (i := 64) rfl
theorem tw785 : Cond.methodLink "BrigadePagers$Reader" (176 : Nat) ({ cls := "BrigadePagers$Reader", name := "skillOfWord", desc := "()I" } : MethodName) ∈ lw_tbl := tq4 (i := 65) rfl
theorem tw787 : Cond.instanceMethod ({ cls := "BrigadePagers$Reader", name := "skillOfWord", desc := "()I" } : MethodName) ∈ lw_tbl := tq4 (i := 67) rfl
theorem tw788 : Cond.code ({ cls := "BrigadePagers$Reader", name := "skillOfWord", desc := "()I" } : MethodName) prog_11_method_20_code (1 : Nat) (Option.some .int) ∈ lw_tbl := tq4 (i := 68) rfl
theorem tw793 : Cond.methodLinkNest "BrigadePagers$Reader" (179 : Nat) ({ cls := "BrigadePagers$Plan", name := "addPerson", desc := "()V" } : MethodName) "BrigadePagers" ∈ lw_tbl := tq4 (i := 73) rfl
theorem tw795 : Cond.instanceMethod ({ cls := "BrigadePagers$Plan", name := "addPerson", desc := "()V" } : MethodName) ∈ lw_tbl := tq4 (i := 75) rfl
theorem tw796 : Cond.code ({ cls := "BrigadePagers$Plan", name := "addPerson", desc := "()V" } : MethodName) prog_10_method_6_code (2 : Nat) (Option.none : Option ClassFile.FieldType) ∈ lw_tbl := tq4 (i := 76) rfl
theorem tw797 : Cond.methodLink "BrigadePagers$Reader" (64 : Nat) ({ cls := "BrigadePagers$Reader", name := "readsTrust", desc := "()Z" } : MethodName) ∈ lw_tbl := tq4 (i := 77) rfl
theorem tw799 : Cond.instanceMethod ({ cls := "BrigadePagers$Reader", name := "readsTrust", desc := "()Z" } : MethodName) ∈ lw_tbl := tq4 (i := 79) rfl
theorem tw800 : Cond.code ({ cls := "BrigadePagers$Reader", name := "readsTrust", desc := "()Z" } : MethodName) prog_11_method_21_code (3 : Nat) (Option.some .boolean) ∈ lw_tbl := tq4 (i := 80) rfl
theorem tw801 : Cond.methodLink "BrigadePagers$Reader" (193 : Nat) ({ cls := "BrigadePagers$Reader", name := "takesNameOf", desc := "(I)Z" } : MethodName) ∈ lw_tbl := tq4 (i := 81) rfl
theorem tw803 : Cond.instanceMethod ({ cls := "BrigadePagers$Reader", name := "takesNameOf", desc := "(I)Z" } : MethodName) ∈ lw_tbl := tq4 (i := 83) rfl
theorem tw804 : Cond.code ({ cls := "BrigadePagers$Reader", name := "takesNameOf", desc := "(I)Z" } : MethodName) prog_11_method_15_code (2 : Nat) (Option.some .boolean) ∈ lw_tbl := tq4 (i := 84) rfl
theorem tw805 : Cond.methodLinkNest "BrigadePagers$Reader" (199 : Nat) ({ cls := "BrigadePagers", name := "pair", desc := "(II)I" } : MethodName) "BrigadePagers" ∈ lw_tbl := tq4 (i := 85) rfl
theorem tw806 : Cond.static ({ cls := "BrigadePagers", name := "pair", desc := "(II)I" } : MethodName) ∈ lw_tbl := tq4 (i := 86) rfl
theorem tw807 : Cond.code ({ cls := "BrigadePagers", name := "pair", desc := "(II)I" } : MethodName) prog_1_method_72_code (2 : Nat) (Option.some .int) ∈ lw_tbl := tq4 (i := 87) rfl
theorem tw808 : Cond.methodLink "BrigadePagers$Reader" (67 : Nat) ({ cls := "BrigadePagers$Reader", name := "readsPager", desc := "()Z" } : MethodName) ∈ lw_tbl := tq4 (i := 88) rfl
theorem tw810 : Cond.instanceMethod ({ cls := "BrigadePagers$Reader", name := "readsPager", desc := "()Z" } : MethodName) ∈ lw_tbl := tq4 (i := 90) rfl
theorem tw811 : Cond.code ({ cls := "BrigadePagers$Reader", name := "readsPager", desc := "()Z" } : MethodName) prog_11_method_22_code (3 : Nat) (Option.some .boolean) ∈ lw_tbl := tq4 (i := 91) rfl
theorem tw812 : Cond.methodLink "BrigadePagers$Reader" (70 : Nat) ({ cls := "BrigadePagers$Reader", name := "readsEngine", desc := "()Z" } : MethodName) ∈ lw_tbl := tq4 (i := 92) rfl
theorem tw814 : Cond.instanceMethod ({ cls := "BrigadePagers$Reader", name := "readsEngine", desc := "()Z" } : MethodName) ∈ lw_tbl := tq4 (i := 94) rfl
theorem tw815 : Cond.code ({ cls := "BrigadePagers$Reader", name := "readsEngine", desc := "()Z" } : MethodName) prog_11_method_23_code (4 : Nat) (Option.some .boolean) ∈ lw_tbl := tq4 (i := 95) rfl
theorem tw816 : Cond.methodLink "BrigadePagers$Reader" (242 : Nat) ({ cls := "java/util/Arrays", name := "fill", desc := "([II)V" } : MethodName) ∈ lw_tbl := tq4 (i := 96) rfl
theorem tw818 : Cond.methodLinkNest "BrigadePagers$Reader" (250 : Nat) ({ cls := "BrigadePagers$Engine", name := "addPost", desc := "(I)V" } : MethodName) "BrigadePagers" ∈ lw_tbl := tq4 (i := 98) rfl
theorem tw820 : Cond.instanceMethod ({ cls := "BrigadePagers$Engine", name := "addPost", desc := "(I)V" } : MethodName) ∈ lw_tbl := tq4 (i := 100) rfl
theorem tw821 : Cond.code ({ cls := "BrigadePagers$Engine", name := "addPost", desc := "(I)V" } : MethodName) prog_3_method_2_code (3 : Nat) (Option.none : Option ClassFile.FieldType) ∈ lw_tbl := tq4 (i := 101) rfl
theorem tw822 : Cond.methodLink "BrigadePagers$Reader" (73 : Nat) ({ cls := "BrigadePagers$Reader", name := "readsKind", desc := "()Z" } : MethodName) ∈ lw_tbl := tq4 (i := 102) rfl
theorem tw824 : Cond.instanceMethod ({ cls := "BrigadePagers$Reader", name := "readsKind", desc := "()Z" } : MethodName) ∈ lw_tbl := tq4 (i := 104) rfl
theorem tw825 : Cond.code ({ cls := "BrigadePagers$Reader", name := "readsKind", desc := "()Z" } : MethodName) prog_11_method_24_code (2 : Nat) (Option.some .boolean) ∈ lw_tbl := tq4 (i := 105) rfl
theorem tw826 : Cond.methodLink "BrigadePagers$Reader" (276 : Nat) ({ cls := "BrigadePagers$Reader", name := "readDifferent", desc := "(I[I)I" } : MethodName) ∈ lw_tbl := tq4 (i := 106) rfl
theorem tw828 : Cond.instanceMethod ({ cls := "BrigadePagers$Reader", name := "readDifferent", desc := "(I[I)I" } : MethodName) ∈ lw_tbl := tq4 (i := 108) rfl
theorem tw829 : Cond.code ({ cls := "BrigadePagers$Reader", name := "readDifferent", desc := "(I[I)I" } : MethodName) prog_11_method_25_code (6 : Nat) (Option.some .int) ∈ lw_tbl := tq4 (i := 109) rfl
theorem tw830 : Cond.classLink "BrigadePagers" (94 : Nat) "java/lang/IllegalArgumentException" ∈ lw_tbl := tq4 (i := 110) rfl
theorem tw832 : Cond.castable "java/lang/IllegalArgumentException" "java/lang/IllegalArgumentException" ∈ lw_tbl := tq4 (i := 112) rfl
theorem tw840 : Cond.methodLink "BrigadePagers" (98 : Nat) ({ cls := "java/lang/IllegalArgumentException", name := "<init>", desc := "(Ljava/lang/String;)V" } : MethodName) ∈ lw_tbl := tq4 (i := 120) rfl
theorem tw846 : Cond.methodLinkNest "BrigadePagers" (99 : Nat) ({ cls := "BrigadePagers$State", name := "begin", desc := "(LBrigadePagers$Plan;)V" } : MethodName) "BrigadePagers" ∈ lw_tbl := tq4 (i := 126) rfl
theorem tw848 : Cond.instanceMethod ({ cls := "BrigadePagers$State", name := "begin", desc := "(LBrigadePagers$Plan;)V" } : MethodName) ∈ lw_tbl := tq4 (i := 128) rfl
theorem tw849 : Cond.code ({ cls := "BrigadePagers$State", name := "begin", desc := "(LBrigadePagers$Plan;)V" } : MethodName) prog_12_method_2_code (3 : Nat) (Option.none : Option ClassFile.FieldType) ∈ lw_tbl := tq4 (i := 129) rfl
theorem tw850 : Cond.methodLink "BrigadePagers$State" (60 : Nat) ({ cls := "java/util/Arrays", name := "fill", desc := "([II)V" } : MethodName) ∈ lw_tbl := tq4 (i := 130) rfl
theorem tw851 : Cond.methodLink "BrigadePagers$State" (72 : Nat) ({ cls := "java/lang/Math", name := "max", desc := "(II)I" } : MethodName) ∈ lw_tbl := tq4 (i := 131) rfl
theorem tw852 : Cond.static ({ cls := "java/lang/Math", name := "max", desc := "(II)I" } : MethodName) ∈ lw_tbl := tq4 (i := 132) rfl
theorem tw853 : Cond.code ({ cls := "java/lang/Math", name := "max", desc := "(II)I" } : MethodName) prog_23_method_65_code (2 : Nat) (Option.some .int) ∈ lw_tbl := tq4 (i := 133) rfl
theorem tw854 : Cond.methodLink "BrigadePagers$State" (88 : Nat) ({ cls := "java/lang/System", name := "arraycopy", desc := "(Ljava/lang/Object;ILjava/lang/Object;II)V" } : MethodName) ∈ lw_tbl := tq4 (i := 134) rfl
theorem tw855 : Cond.static ({ cls := "java/lang/System", name := "arraycopy", desc := "(Ljava/lang/Object;ILjava/lang/Object;II)V" } : MethodName) ∈ lw_tbl := tq4 (i := 135) rfl
theorem tw856 : Cond.native ({ cls := "java/lang/System", name := "arraycopy", desc := "(Ljava/lang/Object;ILjava/lang/Object;II)V" } : MethodName) ∈ lw_tbl := tq4 (i := 136) rfl
theorem tw857 : Cond.methodLinkNest "BrigadePagers" (102 : Nat) ({ cls := "BrigadePagers$History", name := "clear", desc := "()V" } : MethodName) "BrigadePagers" ∈ lw_tbl := tq4 (i := 137) rfl
theorem tw859 : Cond.instanceMethod ({ cls := "BrigadePagers$History", name := "clear", desc := "()V" } : MethodName) ∈ lw_tbl := tq4 (i := 139) rfl
theorem tw860 : Cond.code ({ cls := "BrigadePagers$History", name := "clear", desc := "()V" } : MethodName) prog_4_method_2_code (2 : Nat) (Option.none : Option ClassFile.FieldType) ∈ lw_tbl := tq4 (i := 140) rfl
theorem tw861 : Cond.methodLink "BrigadePagersLaw" (207 : Nat) ({ cls := "BrigadePagersLaw", name := "find", desc := "(LBrigadePagers;I[J)I" } : MethodName) ∈ lw_tbl := tq4 (i := 141) rfl
theorem tw862 : Cond.static ({ cls := "BrigadePagersLaw", name := "find", desc := "(LBrigadePagers;I[J)I" } : MethodName) ∈ lw_tbl := tq4 (i := 142) rfl
theorem tw863 : Cond.codeWith ({ cls := "BrigadePagersLaw", name := "find", desc := "(LBrigadePagers;I[J)I" } : MethodName) method_6_code (4 : Nat) (Option.some .int) [((0 : Nat), (9 : Nat), (12 : Nat), (25 : Nat)), ((0 : Nat), (9 : Nat), (15 : Nat), (30 : Nat))] ∈ lw_tbl := tq4 (i := 143) rfl
theorem tw864 : Cond.classLink "BrigadePagersLaw" (30 : Nat) "java/util/NoSuchElementException" ∈ lw_tbl := tq4 (i := 144) rfl
theorem tw865 : Cond.methodLink "BrigadePagersLaw" (27 : Nat) ({ cls := "BrigadePagers", name := "find", desc := "(I)I" } : MethodName) ∈ lw_tbl := tq4 (i := 145) rfl
theorem tw866 : Cond.instanceMethod ({ cls := "BrigadePagers", name := "find", desc := "(I)I" } : MethodName) ∈ lw_tbl := tq4 (i := 146) rfl
theorem tw867 : Cond.selects "BrigadePagers" ({ cls := "BrigadePagers", name := "find", desc := "(I)I" } : MethodName) ({ cls := "BrigadePagers", name := "find", desc := "(I)I" } : MethodName) ∈ lw_tbl := tq4 (i := 147) rfl
theorem tw868 : Cond.code ({ cls := "BrigadePagers", name := "find", desc := "(I)I" } : MethodName) prog_1_method_8_code (5 : Nat) (Option.some .int) ∈ lw_tbl := tq4 (i := 148) rfl
theorem tw869 : Cond.methodLinkNest "BrigadePagers" (114 : Nat) ({ cls := "BrigadePagers$Reader", name := "wholeAsName", desc := "(I)J" } : MethodName) "BrigadePagers" ∈ lw_tbl := tq4 (i := 149) rfl
theorem tw871 : Cond.instanceMethod ({ cls := "BrigadePagers$Reader", name := "wholeAsName", desc := "(I)J" } : MethodName) ∈ lw_tbl := tq4 (i := 151) rfl
theorem tw872 : Cond.code ({ cls := "BrigadePagers$Reader", name := "wholeAsName", desc := "(I)J" } : MethodName) prog_11_method_3_code (3 : Nat) (Option.some .long) ∈ lw_tbl := tq4 (i := 152) rfl
theorem tw874 : Cond.constantLong "BrigadePagers" (120 : Nat) (-1 : Int64) ∈ lw_tbl := tq4 (i := 154) rfl
theorem tw875 : Cond.methodLinkNest "BrigadePagers" (122 : Nat) ({ cls := "BrigadePagers$Plan", name := "numberOf", desc := "(IJ)I" } : MethodName) "BrigadePagers" ∈ lw_tbl := tq4 (i := 155) rfl
theorem tw876 : Cond.classLink "BrigadePagers" (126 : Nat) "java/util/NoSuchElementException" ∈ lw_tbl := tq4 (i := 156) rfl
theorem tw878 : Cond.castable "java/util/NoSuchElementException" "java/util/NoSuchElementException" ∈ lw_tbl := tq4 (i := 158) rfl
theorem tw886 : Cond.methodLink "BrigadePagers" (130 : Nat) ({ cls := "java/util/NoSuchElementException", name := "<init>", desc := "(Ljava/lang/String;)V" } : MethodName) ∈ lw_tbl := tq4 (i := 166) rfl
theorem tw892 : Cond.methodLink "BrigadePagersLaw" (210 : Nat) ({ cls := "BrigadePagersLaw", name := "count", desc := "(LBrigadePagers;I[J)I" } : MethodName) ∈ lw_tbl := tq4 (i := 172) rfl
theorem tw893 : Cond.static ({ cls := "BrigadePagersLaw", name := "count", desc := "(LBrigadePagers;I[J)I" } : MethodName) ∈ lw_tbl := tq4 (i := 173) rfl
theorem tw894 : Cond.codeWith ({ cls := "BrigadePagersLaw", name := "count", desc := "(LBrigadePagers;I[J)I" } : MethodName) method_7_code (4 : Nat) (Option.some .int) [((0 : Nat), (9 : Nat), (12 : Nat), (25 : Nat))] ∈ lw_tbl := tq4 (i := 174) rfl
theorem tw895 : Cond.methodLink "BrigadePagersLaw" (32 : Nat) ({ cls := "BrigadePagers", name := "count", desc := "(I)I" } : MethodName) ∈ lw_tbl := tq4 (i := 175) rfl
theorem tw896 : Cond.instanceMethod ({ cls := "BrigadePagers", name := "count", desc := "(I)I" } : MethodName) ∈ lw_tbl := tq4 (i := 176) rfl
theorem tw897 : Cond.selects "BrigadePagers" ({ cls := "BrigadePagers", name := "count", desc := "(I)I" } : MethodName) ({ cls := "BrigadePagers", name := "count", desc := "(I)I" } : MethodName) ∈ lw_tbl := tq4 (i := 177) rfl
theorem tw898 : Cond.code ({ cls := "BrigadePagers", name := "count", desc := "(I)I" } : MethodName) prog_1_method_9_code (2 : Nat) (Option.some .int) ∈ lw_tbl := tq4 (i := 178) rfl
theorem tw899 : Cond.methodLinkNest "BrigadePagers" (140 : Nat) ({ cls := "BrigadePagers$Plan", name := "sizeOf", desc := "(I)I" } : MethodName) "BrigadePagers" ∈ lw_tbl := tq4 (i := 179) rfl
theorem tw900 : Cond.methodLink "BrigadePagersLaw" (217 : Nat) ({ cls := "BrigadePagersLaw", name := "nightMinutes", desc := "(LBrigadePagers;II[J)I" } : MethodName) ∈ lw_tbl := tq4 (i := 180) rfl
theorem tw901 : Cond.static ({ cls := "BrigadePagersLaw", name := "nightMinutes", desc := "(LBrigadePagers;II[J)I" } : MethodName) ∈ lw_tbl := tq4 (i := 181) rfl
theorem tw902 : Cond.codeWith ({ cls := "BrigadePagersLaw", name := "nightMinutes", desc := "(LBrigadePagers;II[J)I" } : MethodName) method_8_code (5 : Nat) (Option.some .int) [((0 : Nat), (10 : Nat), (13 : Nat), (25 : Nat))] ∈ lw_tbl := tq4 (i := 182) rfl
theorem tw903 : Cond.methodLink "BrigadePagersLaw" (35 : Nat) ({ cls := "BrigadePagers", name := "nightMinutes", desc := "(II)I" } : MethodName) ∈ lw_tbl := tq4 (i := 183) rfl
theorem tw904 : Cond.instanceMethod ({ cls := "BrigadePagers", name := "nightMinutes", desc := "(II)I" } : MethodName) ∈ lw_tbl := tq4 (i := 184) rfl
theorem tw905 : Cond.selects "BrigadePagers" ({ cls := "BrigadePagers", name := "nightMinutes", desc := "(II)I" } : MethodName) ({ cls := "BrigadePagers", name := "nightMinutes", desc := "(II)I" } : MethodName) ∈ lw_tbl := tq4 (i := 185) rfl
theorem tw906 : Cond.code ({ cls := "BrigadePagers", name := "nightMinutes", desc := "(II)I" } : MethodName) prog_1_method_11_code (3 : Nat) (Option.some .int) ∈ lw_tbl := tq4 (i := 186) rfl
theorem tw908 : Cond.methodLinkNest "BrigadePagers" (149 : Nat) ({ cls := "BrigadePagers$Night", name := "minutesIn", desc := "(II)I" } : MethodName) "BrigadePagers" ∈ lw_tbl := tq4 (i := 188) rfl
theorem tw910 : Cond.instanceMethod ({ cls := "BrigadePagers$Night", name := "minutesIn", desc := "(II)I" } : MethodName) ∈ lw_tbl := tq4 (i := 190) rfl
theorem tw911 : Cond.code ({ cls := "BrigadePagers$Night", name := "minutesIn", desc := "(II)I" } : MethodName) prog_7_method_4_code (3 : Nat) (Option.some .int) ∈ lw_tbl := tq4 (i := 191) rfl
theorem tw912 : Cond.methodLink "BrigadePagers$Night" (24 : Nat) ({ cls := "BrigadePagers$Night", name := "minutesBefore", desc := "(I)I" } : MethodName) ∈ lw_tbl := tq4 (i := 192) rfl
theorem tw914 : Cond.instanceMethod ({ cls := "BrigadePagers$Night", name := "minutesBefore", desc := "(I)I" } : MethodName) ∈ lw_tbl := tq4 (i := 194) rfl
theorem tw915 : Cond.code ({ cls := "BrigadePagers$Night", name := "minutesBefore", desc := "(I)I" } : MethodName) prog_7_method_5_code (5 : Nat) (Option.some .int) ∈ lw_tbl := tq4 (i := 195) rfl
theorem tw916 : Cond.methodLink "BrigadePagers$Night" (28 : Nat) ({ cls := "java/lang/Math", name := "max", desc := "(II)I" } : MethodName) ∈ lw_tbl := tq4 (i := 196) rfl
theorem tw917 : Cond.methodLink "BrigadePagers$Night" (34 : Nat) ({ cls := "java/lang/Math", name := "min", desc := "(II)I" } : MethodName) ∈ lw_tbl := tq4 (i := 197) rfl
theorem tw918 : Cond.methodLink "BrigadePagersLaw" (221 : Nat) ({ cls := "BrigadePagersLaw", name := "outUntil", desc := "(LBrigadePagers;I[J)I" } : MethodName) ∈ lw_tbl := tq4 (i := 198) rfl
theorem tw919 : Cond.static ({ cls := "BrigadePagersLaw", name := "outUntil", desc := "(LBrigadePagers;I[J)I" } : MethodName) ∈ lw_tbl := tq4 (i := 199) rfl
theorem tw920 : Cond.codeWith ({ cls := "BrigadePagersLaw", name := "outUntil", desc := "(LBrigadePagers;I[J)I" } : MethodName) method_9_code (4 : Nat) (Option.some .int) [((0 : Nat), (9 : Nat), (12 : Nat), (19 : Nat))] ∈ lw_tbl := tq4 (i := 200) rfl
theorem tw921 : Cond.methodLink "BrigadePagersLaw" (39 : Nat) ({ cls := "BrigadePagers", name := "outUntil", desc := "(I)I" } : MethodName) ∈ lw_tbl := tq4 (i := 201) rfl
theorem tw922 : Cond.instanceMethod ({ cls := "BrigadePagers", name := "outUntil", desc := "(I)I" } : MethodName) ∈ lw_tbl := tq4 (i := 202) rfl
theorem tw923 : Cond.selects "BrigadePagers" ({ cls := "BrigadePagers", name := "outUntil", desc := "(I)I" } : MethodName) ({ cls := "BrigadePagers", name := "outUntil", desc := "(I)I" } : MethodName) ∈ lw_tbl := tq4 (i := 203) rfl
theorem tw924 : Cond.code ({ cls := "BrigadePagers", name := "outUntil", desc := "(I)I" } : MethodName) prog_1_method_12_code (2 : Nat) (Option.some .int) ∈ lw_tbl := tq4 (i := 204) rfl
theorem tw925 : Cond.methodLink "BrigadePagers" (153 : Nat) ({ cls := "BrigadePagers", name := "needPerson", desc := "(I)V" } : MethodName) ∈ lw_tbl := tq4 (i := 205) rfl
theorem tw927 : Cond.instanceMethod ({ cls := "BrigadePagers", name := "needPerson", desc := "(I)V" } : MethodName) ∈ lw_tbl := tq4 (i := 207) rfl
theorem tw928 : Cond.code ({ cls := "BrigadePagers", name := "needPerson", desc := "(I)V" } : MethodName) prog_1_method_59_code (2 : Nat) (Option.none : Option ClassFile.FieldType) ∈ lw_tbl := tq4 (i := 208) rfl
theorem tw930 : Cond.methodLinkNest "BrigadePagers" (156 : Nat) ({ cls := "BrigadePagers$State", name := "isOut", desc := "(I)Z" } : MethodName) "BrigadePagers" ∈ lw_tbl := tq4 (i := 210) rfl
theorem tw932 : Cond.instanceMethod ({ cls := "BrigadePagers$State", name := "isOut", desc := "(I)Z" } : MethodName) ∈ lw_tbl := tq4 (i := 212) rfl
theorem tw933 : Cond.code ({ cls := "BrigadePagers$State", name := "isOut", desc := "(I)Z" } : MethodName) prog_12_method_4_code (2 : Nat) (Option.some .boolean) ∈ lw_tbl := tq4 (i := 213) rfl
theorem tw934 : Cond.methodLink "BrigadePagersLaw" (224 : Nat) ({ cls := "BrigadePagersLaw", name := "lostSleep", desc := "(LBrigadePagers;I[J)I" } : MethodName) ∈ lw_tbl := tq4 (i := 214) rfl
theorem tw935 : Cond.static ({ cls := "BrigadePagersLaw", name := "lostSleep", desc := "(LBrigadePagers;I[J)I" } : MethodName) ∈ lw_tbl := tq4 (i := 215) rfl
theorem tw936 : Cond.codeWith ({ cls := "BrigadePagersLaw", name := "lostSleep", desc := "(LBrigadePagers;I[J)I" } : MethodName) method_10_code (4 : Nat) (Option.some .int) [((0 : Nat), (9 : Nat), (12 : Nat), (19 : Nat))] ∈ lw_tbl := tq4 (i := 216) rfl
theorem tw937 : Cond.methodLink "BrigadePagersLaw" (42 : Nat) ({ cls := "BrigadePagers", name := "lostSleep", desc := "(I)I" } : MethodName) ∈ lw_tbl := tq4 (i := 217) rfl
theorem tw938 : Cond.instanceMethod ({ cls := "BrigadePagers", name := "lostSleep", desc := "(I)I" } : MethodName) ∈ lw_tbl := tq4 (i := 218) rfl
theorem tw939 : Cond.selects "BrigadePagers" ({ cls := "BrigadePagers", name := "lostSleep", desc := "(I)I" } : MethodName) ({ cls := "BrigadePagers", name := "lostSleep", desc := "(I)I" } : MethodName) ∈ lw_tbl := tq4 (i := 219) rfl
theorem tw940 : Cond.code ({ cls := "BrigadePagers", name := "lostSleep", desc := "(I)I" } : MethodName) prog_1_method_13_code (2 : Nat) (Option.some .int) ∈ lw_tbl := tq4 (i := 220) rfl
theorem tw941 : Cond.methodLink "BrigadePagersLaw" (227 : Nat) ({ cls := "BrigadePagersLaw", name := "lostSleepAfter", desc := "(LBrigadePagers;II[J)I" } : MethodName) ∈ lw_tbl := tq4 (i := 221) rfl
theorem tw942 : Cond.static ({ cls := "BrigadePagersLaw", name := "lostSleepAfter", desc := "(LBrigadePagers;II[J)I" } : MethodName) ∈ lw_tbl := tq4 (i := 222) rfl
theorem tw943 : Cond.codeWith ({ cls := "BrigadePagersLaw", name := "lostSleepAfter", desc := "(LBrigadePagers;II[J)I" } : MethodName) method_11_code (5 : Nat) (Option.some .int) [((0 : Nat), (10 : Nat), (13 : Nat), (19 : Nat)), ((0 : Nat), (10 : Nat), (17 : Nat), (25 : Nat))] ∈ lw_tbl := tq4 (i := 223) rfl
theorem tw944 : Cond.methodLink "BrigadePagersLaw" (45 : Nat) ({ cls := "BrigadePagers", name := "lostSleepAfter", desc := "(II)I" } : MethodName) ∈ lw_tbl := tq4 (i := 224) rfl
theorem tw945 : Cond.instanceMethod ({ cls := "BrigadePagers", name := "lostSleepAfter", desc := "(II)I" } : MethodName) ∈ lw_tbl := tq4 (i := 225) rfl
theorem tw946 : Cond.selects "BrigadePagers" ({ cls := "BrigadePagers", name := "lostSleepAfter", desc := "(II)I" } : MethodName) ({ cls := "BrigadePagers", name := "lostSleepAfter", desc := "(II)I" } : MethodName) ∈ lw_tbl := tq4 (i := 226) rfl
theorem tw947 : Cond.code ({ cls := "BrigadePagers", name := "lostSleepAfter", desc := "(II)I" } : MethodName) prog_1_method_14_code (3 : Nat) (Option.some .int) ∈ lw_tbl := tq4 (i := 227) rfl
theorem tw949 : Cond.methodLinkNest "BrigadePagers" (169 : Nat) ({ cls := "BrigadePagers$State", name := "lostAt", desc := "(II)I" } : MethodName) "BrigadePagers" ∈ lw_tbl := tq4 (i := 229) rfl
theorem tw951 : Cond.instanceMethod ({ cls := "BrigadePagers$State", name := "lostAt", desc := "(II)I" } : MethodName) ∈ lw_tbl := tq4 (i := 231) rfl
theorem tw952 : Cond.code ({ cls := "BrigadePagers$State", name := "lostAt", desc := "(II)I" } : MethodName) prog_12_method_6_code (6 : Nat) (Option.some .int) ∈ lw_tbl := tq4 (i := 232) rfl
theorem tw953 : Cond.methodLink "BrigadePagers$State" (120 : Nat) ({ cls := "java/lang/Math", name := "min", desc := "(II)I" } : MethodName) ∈ lw_tbl := tq4 (i := 233) rfl
theorem tw954 : Cond.methodLinkNest "BrigadePagers$State" (123 : Nat) ({ cls := "BrigadePagers$Night", name := "minutesIn", desc := "(II)I" } : MethodName) "BrigadePagers" ∈ lw_tbl := tq4 (i := 234) rfl
theorem tw955 : Cond.methodLink "BrigadePagersLaw" (230 : Nat) ({ cls := "BrigadePagersLaw", name := "restedAt", desc := "(LBrigadePagers;I[J)I" } : MethodName) ∈ lw_tbl := tq4 (i := 235) rfl
theorem tw956 : Cond.static ({ cls := "BrigadePagersLaw", name := "restedAt", desc := "(LBrigadePagers;I[J)I" } : MethodName) ∈ lw_tbl := tq4 (i := 236) rfl
theorem tw957 : Cond.codeWith ({ cls := "BrigadePagersLaw", name := "restedAt", desc := "(LBrigadePagers;I[J)I" } : MethodName) method_12_code (4 : Nat) (Option.some .int) [((0 : Nat), (9 : Nat), (12 : Nat), (19 : Nat)), ((0 : Nat), (9 : Nat), (15 : Nat), (30 : Nat))] ∈ lw_tbl := tq4 (i := 237) rfl
theorem tw958 : Cond.methodLink "BrigadePagersLaw" (48 : Nat) ({ cls := "BrigadePagers", name := "restedAt", desc := "(I)I" } : MethodName) ∈ lw_tbl := tq4 (i := 238) rfl
theorem tw959 : Cond.instanceMethod ({ cls := "BrigadePagers", name := "restedAt", desc := "(I)I" } : MethodName) ∈ lw_tbl := tq4 (i := 239) rfl
theorem tw960 : Cond.selects "BrigadePagers" ({ cls := "BrigadePagers", name := "restedAt", desc := "(I)I" } : MethodName) ({ cls := "BrigadePagers", name := "restedAt", desc := "(I)I" } : MethodName) ∈ lw_tbl := tq5 (i := 0) rfl
theorem tw961 : Cond.code ({ cls := "BrigadePagers", name := "restedAt", desc := "(I)I" } : MethodName) prog_1_method_15_code (3 : Nat) (Option.some .int) ∈ lw_tbl := tq5 (i := 1) rfl
theorem tw962 : Cond.methodLinkNest "BrigadePagers" (172 : Nat) ({ cls := "BrigadePagers$State", name := "firstRested", desc := "(I)I" } : MethodName) "BrigadePagers" ∈ lw_tbl := tq5 (i := 2) rfl
theorem tw964 : Cond.instanceMethod ({ cls := "BrigadePagers$State", name := "firstRested", desc := "(I)I" } : MethodName) ∈ lw_tbl := tq5 (i := 4) rfl
theorem tw965 : Cond.code ({ cls := "BrigadePagers$State", name := "firstRested", desc := "(I)I" } : MethodName) prog_12_method_7_code (5 : Nat) (Option.some .int) ∈ lw_tbl := tq5 (i := 5) rfl
theorem tw966 : Cond.methodLink "BrigadePagers$State" (126 : Nat) ({ cls := "BrigadePagers$State", name := "isTired", desc := "(I)Z" } : MethodName) ∈ lw_tbl := tq5 (i := 6) rfl
theorem tw968 : Cond.instanceMethod ({ cls := "BrigadePagers$State", name := "isTired", desc := "(I)Z" } : MethodName) ∈ lw_tbl := tq5 (i := 8) rfl
theorem tw969 : Cond.code ({ cls := "BrigadePagers$State", name := "isTired", desc := "(I)Z" } : MethodName) prog_12_method_5_code (2 : Nat) (Option.some .boolean) ∈ lw_tbl := tq5 (i := 9) rfl
theorem tw970 : Cond.methodLink "BrigadePagers$State" (130 : Nat) ({ cls := "BrigadePagers$State", name := "lostAt", desc := "(II)I" } : MethodName) ∈ lw_tbl := tq5 (i := 10) rfl
theorem tw972 : Cond.methodLink "BrigadePagersLaw" (233 : Nat) ({ cls := "BrigadePagersLaw", name := "arrival", desc := "(LBrigadePagers;I[J)I" } : MethodName) ∈ lw_tbl := tq5 (i := 12) rfl
theorem tw973 : Cond.static ({ cls := "BrigadePagersLaw", name := "arrival", desc := "(LBrigadePagers;I[J)I" } : MethodName) ∈ lw_tbl := tq5 (i := 13) rfl
theorem tw974 : Cond.codeWith ({ cls := "BrigadePagersLaw", name := "arrival", desc := "(LBrigadePagers;I[J)I" } : MethodName) method_13_code (4 : Nat) (Option.some .int) [((0 : Nat), (9 : Nat), (12 : Nat), (19 : Nat))] ∈ lw_tbl := tq5 (i := 14) rfl
theorem tw975 : Cond.methodLink "BrigadePagersLaw" (51 : Nat) ({ cls := "BrigadePagers", name := "arrival", desc := "(I)I" } : MethodName) ∈ lw_tbl := tq5 (i := 15) rfl
theorem tw976 : Cond.instanceMethod ({ cls := "BrigadePagers", name := "arrival", desc := "(I)I" } : MethodName) ∈ lw_tbl := tq5 (i := 16) rfl
theorem tw977 : Cond.selects "BrigadePagers" ({ cls := "BrigadePagers", name := "arrival", desc := "(I)I" } : MethodName) ({ cls := "BrigadePagers", name := "arrival", desc := "(I)I" } : MethodName) ∈ lw_tbl := tq5 (i := 17) rfl
theorem tw978 : Cond.code ({ cls := "BrigadePagers", name := "arrival", desc := "(I)I" } : MethodName) prog_1_method_16_code (2 : Nat) (Option.some .int) ∈ lw_tbl := tq5 (i := 18) rfl
theorem tw979 : Cond.methodLinkNest "BrigadePagers" (177 : Nat) ({ cls := "BrigadePagers$State", name := "arrivalOf", desc := "(I)I" } : MethodName) "BrigadePagers" ∈ lw_tbl := tq5 (i := 19) rfl
theorem tw981 : Cond.instanceMethod ({ cls := "BrigadePagers$State", name := "arrivalOf", desc := "(I)I" } : MethodName) ∈ lw_tbl := tq5 (i := 21) rfl
theorem tw982 : Cond.code ({ cls := "BrigadePagers$State", name := "arrivalOf", desc := "(I)I" } : MethodName) prog_12_method_8_code (2 : Nat) (Option.some .int) ∈ lw_tbl := tq5 (i := 22) rfl
theorem tw983 : Cond.methodLinkNest "BrigadePagers$State" (142 : Nat) ({ cls := "BrigadePagers$Night", name := "covers", desc := "(I)Z" } : MethodName) "BrigadePagers" ∈ lw_tbl := tq5 (i := 23) rfl
theorem tw985 : Cond.instanceMethod ({ cls := "BrigadePagers$Night", name := "covers", desc := "(I)Z" } : MethodName) ∈ lw_tbl := tq5 (i := 25) rfl
theorem tw986 : Cond.code ({ cls := "BrigadePagers$Night", name := "covers", desc := "(I)Z" } : MethodName) prog_7_method_3_code (3 : Nat) (Option.some .boolean) ∈ lw_tbl := tq5 (i := 26) rfl
theorem tw987 : Cond.methodLink "BrigadePagersLaw" (236 : Nat) ({ cls := "BrigadePagersLaw", name := "pay", desc := "(LBrigadePagers;I[J)I" } : MethodName) ∈ lw_tbl := tq5 (i := 27) rfl
theorem tw988 : Cond.static ({ cls := "BrigadePagersLaw", name := "pay", desc := "(LBrigadePagers;I[J)I" } : MethodName) ∈ lw_tbl := tq5 (i := 28) rfl
theorem tw989 : Cond.codeWith ({ cls := "BrigadePagersLaw", name := "pay", desc := "(LBrigadePagers;I[J)I" } : MethodName) method_14_code (4 : Nat) (Option.some .int) [((0 : Nat), (9 : Nat), (12 : Nat), (19 : Nat))] ∈ lw_tbl := tq5 (i := 29) rfl
theorem tw990 : Cond.methodLink "BrigadePagersLaw" (54 : Nat) ({ cls := "BrigadePagers", name := "pay", desc := "(I)I" } : MethodName) ∈ lw_tbl := tq5 (i := 30) rfl
theorem tw991 : Cond.instanceMethod ({ cls := "BrigadePagers", name := "pay", desc := "(I)I" } : MethodName) ∈ lw_tbl := tq5 (i := 31) rfl
theorem tw992 : Cond.selects "BrigadePagers" ({ cls := "BrigadePagers", name := "pay", desc := "(I)I" } : MethodName) ({ cls := "BrigadePagers", name := "pay", desc := "(I)I" } : MethodName) ∈ lw_tbl := tq5 (i := 32) rfl
theorem tw993 : Cond.code ({ cls := "BrigadePagers", name := "pay", desc := "(I)I" } : MethodName) prog_1_method_17_code (2 : Nat) (Option.some .int) ∈ lw_tbl := tq5 (i := 33) rfl
theorem tw994 : Cond.methodLink "BrigadePagersLaw" (239 : Nat) ({ cls := "BrigadePagersLaw", name := "trust", desc := "(LBrigadePagers;II[J)I" } : MethodName) ∈ lw_tbl := tq5 (i := 34) rfl
theorem tw995 : Cond.static ({ cls := "BrigadePagersLaw", name := "trust", desc := "(LBrigadePagers;II[J)I" } : MethodName) ∈ lw_tbl := tq5 (i := 35) rfl
theorem tw996 : Cond.codeWith ({ cls := "BrigadePagersLaw", name := "trust", desc := "(LBrigadePagers;II[J)I" } : MethodName) method_15_code (5 : Nat) (Option.some .int) [((0 : Nat), (10 : Nat), (13 : Nat), (19 : Nat)), ((0 : Nat), (10 : Nat), (17 : Nat), (25 : Nat))] ∈ lw_tbl := tq5 (i := 36) rfl
theorem tw997 : Cond.methodLink "BrigadePagersLaw" (57 : Nat) ({ cls := "BrigadePagers", name := "trust", desc := "(II)I" } : MethodName) ∈ lw_tbl := tq5 (i := 37) rfl
theorem tw998 : Cond.instanceMethod ({ cls := "BrigadePagers", name := "trust", desc := "(II)I" } : MethodName) ∈ lw_tbl := tq5 (i := 38) rfl
theorem tw999 : Cond.selects "BrigadePagers" ({ cls := "BrigadePagers", name := "trust", desc := "(II)I" } : MethodName) ({ cls := "BrigadePagers", name := "trust", desc := "(II)I" } : MethodName) ∈ lw_tbl := tq5 (i := 39) rfl
theorem tw1000 : Cond.code ({ cls := "BrigadePagers", name := "trust", desc := "(II)I" } : MethodName) prog_1_method_18_code (3 : Nat) (Option.some .int) ∈ lw_tbl := tq5 (i := 40) rfl
theorem tw1001 : Cond.methodLink "BrigadePagers" (183 : Nat) ({ cls := "BrigadePagers", name := "needTwoPersons", desc := "(II)V" } : MethodName) ∈ lw_tbl := tq5 (i := 41) rfl
theorem tw1003 : Cond.instanceMethod ({ cls := "BrigadePagers", name := "needTwoPersons", desc := "(II)V" } : MethodName) ∈ lw_tbl := tq5 (i := 43) rfl
theorem tw1004 : Cond.code ({ cls := "BrigadePagers", name := "needTwoPersons", desc := "(II)V" } : MethodName) prog_1_method_60_code (3 : Nat) (Option.none : Option ClassFile.FieldType) ∈ lw_tbl := tq5 (i := 44) rfl
theorem tw1006 : Cond.methodLink "BrigadePagers" (190 : Nat) ({ cls := "BrigadePagers", name := "pair", desc := "(II)I" } : MethodName) ∈ lw_tbl := tq5 (i := 46) rfl
theorem tw1007 : Cond.methodLink "BrigadePagersLaw" (242 : Nat) ({ cls := "BrigadePagersLaw", name := "trustPath", desc := "(LBrigadePagers;II[J)I" } : MethodName) ∈ lw_tbl := tq5 (i := 47) rfl
theorem tw1008 : Cond.static ({ cls := "BrigadePagersLaw", name := "trustPath", desc := "(LBrigadePagers;II[J)I" } : MethodName) ∈ lw_tbl := tq5 (i := 48) rfl
theorem tw1009 : Cond.codeWith ({ cls := "BrigadePagersLaw", name := "trustPath", desc := "(LBrigadePagers;II[J)I" } : MethodName) method_16_code (5 : Nat) (Option.some .int) [((0 : Nat), (10 : Nat), (13 : Nat), (19 : Nat)), ((0 : Nat), (10 : Nat), (17 : Nat), (25 : Nat))] ∈ lw_tbl := tq5 (i := 49) rfl
theorem tw1010 : Cond.methodLink "BrigadePagersLaw" (60 : Nat) ({ cls := "BrigadePagers", name := "trustPath", desc := "(II)I" } : MethodName) ∈ lw_tbl := tq5 (i := 50) rfl
theorem tw1011 : Cond.instanceMethod ({ cls := "BrigadePagers", name := "trustPath", desc := "(II)I" } : MethodName) ∈ lw_tbl := tq5 (i := 51) rfl
theorem tw1012 : Cond.selects "BrigadePagers" ({ cls := "BrigadePagers", name := "trustPath", desc := "(II)I" } : MethodName) ({ cls := "BrigadePagers", name := "trustPath", desc := "(II)I" } : MethodName) ∈ lw_tbl := tq5 (i := 52) rfl
theorem tw1013 : Cond.code ({ cls := "BrigadePagers", name := "trustPath", desc := "(II)I" } : MethodName) prog_1_method_19_code (3 : Nat) (Option.some .int) ∈ lw_tbl := tq5 (i := 53) rfl
theorem tw1014 : Cond.methodLinkNest "BrigadePagers" (193 : Nat) ({ cls := "BrigadePagers$State", name := "bestRow", desc := "(II)I" } : MethodName) "BrigadePagers" ∈ lw_tbl := tq5 (i := 54) rfl
theorem tw1016 : Cond.instanceMethod ({ cls := "BrigadePagers$State", name := "bestRow", desc := "(II)I" } : MethodName) ∈ lw_tbl := tq5 (i := 56) rfl
theorem tw1017 : Cond.code ({ cls := "BrigadePagers$State", name := "bestRow", desc := "(II)I" } : MethodName) prog_12_method_9_code (7 : Nat) (Option.some .int) ∈ lw_tbl := tq5 (i := 57) rfl
theorem tw1018 : Cond.methodLinkNest "BrigadePagers$State" (151 : Nat) ({ cls := "BrigadePagers", name := "pair", desc := "(II)I" } : MethodName) "BrigadePagers" ∈ lw_tbl := tq5 (i := 58) rfl
theorem tw1019 : Cond.methodLink "BrigadePagersLaw" (245 : Nat) ({ cls := "BrigadePagersLaw", name := "chain", desc := "(LBrigadePagers;II[J)I" } : MethodName) ∈ lw_tbl := tq5 (i := 59) rfl
theorem tw1020 : Cond.static ({ cls := "BrigadePagersLaw", name := "chain", desc := "(LBrigadePagers;II[J)I" } : MethodName) ∈ lw_tbl := tq5 (i := 60) rfl
theorem tw1021 : Cond.codeWith ({ cls := "BrigadePagersLaw", name := "chain", desc := "(LBrigadePagers;II[J)I" } : MethodName) method_17_code (5 : Nat) (Option.some .int) [((0 : Nat), (10 : Nat), (13 : Nat), (19 : Nat))] ∈ lw_tbl := tq5 (i := 61) rfl
theorem tw1022 : Cond.methodLink "BrigadePagersLaw" (63 : Nat) ({ cls := "BrigadePagers", name := "chain", desc := "(II)I" } : MethodName) ∈ lw_tbl := tq5 (i := 62) rfl
theorem tw1023 : Cond.instanceMethod ({ cls := "BrigadePagers", name := "chain", desc := "(II)I" } : MethodName) ∈ lw_tbl := tq5 (i := 63) rfl
theorem tw1024 : Cond.selects "BrigadePagers" ({ cls := "BrigadePagers", name := "chain", desc := "(II)I" } : MethodName) ({ cls := "BrigadePagers", name := "chain", desc := "(II)I" } : MethodName) ∈ lw_tbl := tq5 (i := 64) rfl
theorem tw1025 : Cond.code ({ cls := "BrigadePagers", name := "chain", desc := "(II)I" } : MethodName) prog_1_method_20_code (3 : Nat) (Option.some .int) ∈ lw_tbl := tq5 (i := 65) rfl
theorem tw1026 : Cond.methodLink "BrigadePagers" (196 : Nat) ({ cls := "BrigadePagers", name := "needPager", desc := "(I)V" } : MethodName) ∈ lw_tbl := tq5 (i := 66) rfl
theorem tw1028 : Cond.instanceMethod ({ cls := "BrigadePagers", name := "needPager", desc := "(I)V" } : MethodName) ∈ lw_tbl := tq5 (i := 68) rfl
theorem tw1029 : Cond.code ({ cls := "BrigadePagers", name := "needPager", desc := "(I)V" } : MethodName) prog_1_method_61_code (2 : Nat) (Option.none : Option ClassFile.FieldType) ∈ lw_tbl := tq5 (i := 69) rfl
theorem tw1032 : Cond.methodLinkNest "BrigadePagers" (204 : Nat) ({ cls := "BrigadePagers$State", name := "chainPerson", desc := "(II)I" } : MethodName) "BrigadePagers" ∈ lw_tbl := tq5 (i := 72) rfl
theorem tw1034 : Cond.instanceMethod ({ cls := "BrigadePagers$State", name := "chainPerson", desc := "(II)I" } : MethodName) ∈ lw_tbl := tq5 (i := 74) rfl
theorem tw1035 : Cond.code ({ cls := "BrigadePagers$State", name := "chainPerson", desc := "(II)I" } : MethodName) prog_12_method_16_code (3 : Nat) (Option.some .int) ∈ lw_tbl := tq5 (i := 75) rfl
theorem tw1036 : Cond.methodLink "BrigadePagers$State" (163 : Nat) ({ cls := "BrigadePagers$State", name := "placeAt", desc := "(II)I" } : MethodName) ∈ lw_tbl := tq5 (i := 76) rfl
theorem tw1038 : Cond.instanceMethod ({ cls := "BrigadePagers$State", name := "placeAt", desc := "(II)I" } : MethodName) ∈ lw_tbl := tq5 (i := 78) rfl
theorem tw1039 : Cond.code ({ cls := "BrigadePagers$State", name := "placeAt", desc := "(II)I" } : MethodName) prog_12_method_12_code (4 : Nat) (Option.some .int) ∈ lw_tbl := tq5 (i := 79) rfl
theorem tw1040 : Cond.methodLink "BrigadePagersLaw" (248 : Nat) ({ cls := "BrigadePagersLaw", name := "handOns", desc := "(LBrigadePagers;I[J)I" } : MethodName) ∈ lw_tbl := tq5 (i := 80) rfl
theorem tw1041 : Cond.static ({ cls := "BrigadePagersLaw", name := "handOns", desc := "(LBrigadePagers;I[J)I" } : MethodName) ∈ lw_tbl := tq5 (i := 81) rfl
theorem tw1042 : Cond.codeWith ({ cls := "BrigadePagersLaw", name := "handOns", desc := "(LBrigadePagers;I[J)I" } : MethodName) method_18_code (4 : Nat) (Option.some .int) [((0 : Nat), (9 : Nat), (12 : Nat), (19 : Nat))] ∈ lw_tbl := tq5 (i := 82) rfl
theorem tw1043 : Cond.methodLink "BrigadePagersLaw" (66 : Nat) ({ cls := "BrigadePagers", name := "handOns", desc := "(I)I" } : MethodName) ∈ lw_tbl := tq5 (i := 83) rfl
theorem tw1044 : Cond.instanceMethod ({ cls := "BrigadePagers", name := "handOns", desc := "(I)I" } : MethodName) ∈ lw_tbl := tq5 (i := 84) rfl
theorem tw1045 : Cond.selects "BrigadePagers" ({ cls := "BrigadePagers", name := "handOns", desc := "(I)I" } : MethodName) ({ cls := "BrigadePagers", name := "handOns", desc := "(I)I" } : MethodName) ∈ lw_tbl := tq5 (i := 85) rfl
theorem tw1046 : Cond.code ({ cls := "BrigadePagers", name := "handOns", desc := "(I)I" } : MethodName) prog_1_method_21_code (2 : Nat) (Option.some .int) ∈ lw_tbl := tq5 (i := 86) rfl
theorem tw1047 : Cond.methodLink "BrigadePagersLaw" (251 : Nat) ({ cls := "BrigadePagersLaw", name := "holdingEnd", desc := "(LBrigadePagers;I[J)I" } : MethodName) ∈ lw_tbl := tq5 (i := 87) rfl
theorem tw1048 : Cond.static ({ cls := "BrigadePagersLaw", name := "holdingEnd", desc := "(LBrigadePagers;I[J)I" } : MethodName) ∈ lw_tbl := tq5 (i := 88) rfl
theorem tw1049 : Cond.codeWith ({ cls := "BrigadePagersLaw", name := "holdingEnd", desc := "(LBrigadePagers;I[J)I" } : MethodName) method_19_code (4 : Nat) (Option.some .int) [((0 : Nat), (9 : Nat), (12 : Nat), (19 : Nat))] ∈ lw_tbl := tq5 (i := 89) rfl
theorem tw1050 : Cond.methodLink "BrigadePagersLaw" (69 : Nat) ({ cls := "BrigadePagers", name := "holdingEnd", desc := "(I)I" } : MethodName) ∈ lw_tbl := tq5 (i := 90) rfl
theorem tw1051 : Cond.instanceMethod ({ cls := "BrigadePagers", name := "holdingEnd", desc := "(I)I" } : MethodName) ∈ lw_tbl := tq5 (i := 91) rfl
theorem tw1052 : Cond.selects "BrigadePagers" ({ cls := "BrigadePagers", name := "holdingEnd", desc := "(I)I" } : MethodName) ({ cls := "BrigadePagers", name := "holdingEnd", desc := "(I)I" } : MethodName) ∈ lw_tbl := tq5 (i := 92) rfl
theorem tw1053 : Cond.code ({ cls := "BrigadePagers", name := "holdingEnd", desc := "(I)I" } : MethodName) prog_1_method_22_code (2 : Nat) (Option.some .int) ∈ lw_tbl := tq5 (i := 93) rfl
theorem tw1054 : Cond.methodLinkNest "BrigadePagers" (207 : Nat) ({ cls := "BrigadePagers$State", name := "endAt", desc := "(II)I" } : MethodName) "BrigadePagers" ∈ lw_tbl := tq5 (i := 94) rfl
theorem tw1056 : Cond.instanceMethod ({ cls := "BrigadePagers$State", name := "endAt", desc := "(II)I" } : MethodName) ∈ lw_tbl := tq5 (i := 96) rfl
theorem tw1057 : Cond.code ({ cls := "BrigadePagers$State", name := "endAt", desc := "(II)I" } : MethodName) prog_12_method_15_code (5 : Nat) (Option.some .int) ∈ lw_tbl := tq5 (i := 97) rfl
theorem tw1058 : Cond.methodLink "BrigadePagers$State" (160 : Nat) ({ cls := "BrigadePagers$State", name := "handOnsAt", desc := "(II)I" } : MethodName) ∈ lw_tbl := tq5 (i := 98) rfl
theorem tw1060 : Cond.instanceMethod ({ cls := "BrigadePagers$State", name := "handOnsAt", desc := "(II)I" } : MethodName) ∈ lw_tbl := tq5 (i := 100) rfl
theorem tw1061 : Cond.code ({ cls := "BrigadePagers$State", name := "handOnsAt", desc := "(II)I" } : MethodName) prog_12_method_13_code (5 : Nat) (Option.some .int) ∈ lw_tbl := tq5 (i := 101) rfl
theorem tw1062 : Cond.methodLink "BrigadePagersLaw" (254 : Nat) ({ cls := "BrigadePagersLaw", name := "rotation", desc := "(LBrigadePagers;II[J)I" } : MethodName) ∈ lw_tbl := tq5 (i := 102) rfl
theorem tw1063 : Cond.static ({ cls := "BrigadePagersLaw", name := "rotation", desc := "(LBrigadePagers;II[J)I" } : MethodName) ∈ lw_tbl := tq5 (i := 103) rfl
theorem tw1064 : Cond.codeWith ({ cls := "BrigadePagersLaw", name := "rotation", desc := "(LBrigadePagers;II[J)I" } : MethodName) method_20_code (5 : Nat) (Option.some .int) [((0 : Nat), (10 : Nat), (13 : Nat), (19 : Nat))] ∈ lw_tbl := tq5 (i := 104) rfl
theorem tw1065 : Cond.methodLink "BrigadePagersLaw" (72 : Nat) ({ cls := "BrigadePagers", name := "rotation", desc := "(II)I" } : MethodName) ∈ lw_tbl := tq5 (i := 105) rfl
theorem tw1066 : Cond.instanceMethod ({ cls := "BrigadePagers", name := "rotation", desc := "(II)I" } : MethodName) ∈ lw_tbl := tq5 (i := 106) rfl
theorem tw1067 : Cond.selects "BrigadePagers" ({ cls := "BrigadePagers", name := "rotation", desc := "(II)I" } : MethodName) ({ cls := "BrigadePagers", name := "rotation", desc := "(II)I" } : MethodName) ∈ lw_tbl := tq5 (i := 107) rfl
theorem tw1068 : Cond.code ({ cls := "BrigadePagers", name := "rotation", desc := "(II)I" } : MethodName) prog_1_method_23_code (3 : Nat) (Option.some .int) ∈ lw_tbl := tq5 (i := 108) rfl
theorem tw1069 : Cond.methodLink "BrigadePagers" (210 : Nat) ({ cls := "BrigadePagers", name := "needPlace", desc := "(II)V" } : MethodName) ∈ lw_tbl := tq5 (i := 109) rfl
theorem tw1071 : Cond.instanceMethod ({ cls := "BrigadePagers", name := "needPlace", desc := "(II)V" } : MethodName) ∈ lw_tbl := tq5 (i := 111) rfl
theorem tw1072 : Cond.code ({ cls := "BrigadePagers", name := "needPlace", desc := "(II)V" } : MethodName) prog_1_method_62_code (3 : Nat) (Option.none : Option ClassFile.FieldType) ∈ lw_tbl := tq5 (i := 112) rfl
theorem tw1074 : Cond.methodLink "BrigadePagersLaw" (257 : Nat) ({ cls := "BrigadePagersLaw", name := "holderAt", desc := "(LBrigadePagers;II[J)I" } : MethodName) ∈ lw_tbl := tq5 (i := 114) rfl
theorem tw1075 : Cond.static ({ cls := "BrigadePagersLaw", name := "holderAt", desc := "(LBrigadePagers;II[J)I" } : MethodName) ∈ lw_tbl := tq5 (i := 115) rfl
theorem tw1076 : Cond.codeWith ({ cls := "BrigadePagersLaw", name := "holderAt", desc := "(LBrigadePagers;II[J)I" } : MethodName) method_21_code (5 : Nat) (Option.some .int) [((0 : Nat), (10 : Nat), (13 : Nat), (19 : Nat)), ((0 : Nat), (10 : Nat), (17 : Nat), (25 : Nat))] ∈ lw_tbl := tq5 (i := 116) rfl
theorem tw1077 : Cond.methodLink "BrigadePagersLaw" (75 : Nat) ({ cls := "BrigadePagers", name := "holderAt", desc := "(II)I" } : MethodName) ∈ lw_tbl := tq5 (i := 117) rfl
theorem tw1078 : Cond.instanceMethod ({ cls := "BrigadePagers", name := "holderAt", desc := "(II)I" } : MethodName) ∈ lw_tbl := tq5 (i := 118) rfl
theorem tw1079 : Cond.selects "BrigadePagers" ({ cls := "BrigadePagers", name := "holderAt", desc := "(II)I" } : MethodName) ({ cls := "BrigadePagers", name := "holderAt", desc := "(II)I" } : MethodName) ∈ lw_tbl := tq5 (i := 119) rfl
theorem tw1080 : Cond.code ({ cls := "BrigadePagers", name := "holderAt", desc := "(II)I" } : MethodName) prog_1_method_24_code (3 : Nat) (Option.some .int) ∈ lw_tbl := tq5 (i := 120) rfl
theorem tw1082 : Cond.methodLinkNest "BrigadePagers" (218 : Nat) ({ cls := "BrigadePagers$State", name := "holderThen", desc := "(II)I" } : MethodName) "BrigadePagers" ∈ lw_tbl := tq5 (i := 122) rfl
theorem tw1084 : Cond.instanceMethod ({ cls := "BrigadePagers$State", name := "holderThen", desc := "(II)I" } : MethodName) ∈ lw_tbl := tq5 (i := 124) rfl
theorem tw1085 : Cond.code ({ cls := "BrigadePagers$State", name := "holderThen", desc := "(II)I" } : MethodName) prog_12_method_14_code (4 : Nat) (Option.some .int) ∈ lw_tbl := tq5 (i := 125) rfl
theorem tw1086 : Cond.methodLink "BrigadePagersLaw" (260 : Nat) ({ cls := "BrigadePagersLaw", name := "dutyMinutes", desc := "(LBrigadePagers;II[J)I" } : MethodName) ∈ lw_tbl := tq5 (i := 126) rfl
theorem tw1087 : Cond.static ({ cls := "BrigadePagersLaw", name := "dutyMinutes", desc := "(LBrigadePagers;II[J)I" } : MethodName) ∈ lw_tbl := tq5 (i := 127) rfl
theorem tw1088 : Cond.codeWith ({ cls := "BrigadePagersLaw", name := "dutyMinutes", desc := "(LBrigadePagers;II[J)I" } : MethodName) method_22_code (5 : Nat) (Option.some .int) [((0 : Nat), (10 : Nat), (13 : Nat), (19 : Nat)), ((0 : Nat), (10 : Nat), (17 : Nat), (25 : Nat))] ∈ lw_tbl := tq5 (i := 128) rfl
theorem tw1089 : Cond.methodLink "BrigadePagersLaw" (78 : Nat) ({ cls := "BrigadePagers", name := "dutyMinutes", desc := "(II)I" } : MethodName) ∈ lw_tbl := tq5 (i := 129) rfl
theorem tw1090 : Cond.instanceMethod ({ cls := "BrigadePagers", name := "dutyMinutes", desc := "(II)I" } : MethodName) ∈ lw_tbl := tq5 (i := 130) rfl
theorem tw1091 : Cond.selects "BrigadePagers" ({ cls := "BrigadePagers", name := "dutyMinutes", desc := "(II)I" } : MethodName) ({ cls := "BrigadePagers", name := "dutyMinutes", desc := "(II)I" } : MethodName) ∈ lw_tbl := tq5 (i := 131) rfl
theorem tw1092 : Cond.code ({ cls := "BrigadePagers", name := "dutyMinutes", desc := "(II)I" } : MethodName) prog_1_method_25_code (3 : Nat) (Option.some .int) ∈ lw_tbl := tq5 (i := 132) rfl
theorem tw1094 : Cond.methodLinkNest "BrigadePagers" (223 : Nat) ({ cls := "BrigadePagers$State", name := "dutyUpTo", desc := "(II)I" } : MethodName) "BrigadePagers" ∈ lw_tbl := tq5 (i := 134) rfl
theorem tw1096 : Cond.instanceMethod ({ cls := "BrigadePagers$State", name := "dutyUpTo", desc := "(II)I" } : MethodName) ∈ lw_tbl := tq5 (i := 136) rfl
theorem tw1097 : Cond.code ({ cls := "BrigadePagers$State", name := "dutyUpTo", desc := "(II)I" } : MethodName) prog_12_method_22_code (9 : Nat) (Option.some .int) ∈ lw_tbl := tq5 (i := 137) rfl
theorem tw1098 : Cond.methodLink "BrigadePagers$State" (185 : Nat) ({ cls := "BrigadePagers$State", name := "endAt", desc := "(II)I" } : MethodName) ∈ lw_tbl := tq5 (i := 138) rfl
theorem tw1099 : Cond.methodLink "BrigadePagers$State" (188 : Nat) ({ cls := "BrigadePagers$State", name := "holderThen", desc := "(II)I" } : MethodName) ∈ lw_tbl := tq5 (i := 139) rfl
theorem tw1100 : Cond.methodLink "BrigadePagersLaw" (263 : Nat) ({ cls := "BrigadePagersLaw", name := "whyNotHandOn", desc := "(LBrigadePagers;III[J)I" } : MethodName) ∈ lw_tbl := tq5 (i := 140) rfl
theorem tw1101 : Cond.static ({ cls := "BrigadePagersLaw", name := "whyNotHandOn", desc := "(LBrigadePagers;III[J)I" } : MethodName) ∈ lw_tbl := tq5 (i := 141) rfl
theorem tw1102 : Cond.codeWith ({ cls := "BrigadePagersLaw", name := "whyNotHandOn", desc := "(LBrigadePagers;III[J)I" } : MethodName) method_23_code (6 : Nat) (Option.some .int) [((0 : Nat), (12 : Nat), (15 : Nat), (19 : Nat))] ∈ lw_tbl := tq5 (i := 142) rfl
theorem tw1103 : Cond.methodLink "BrigadePagersLaw" (81 : Nat) ({ cls := "BrigadePagers", name := "whyNotHandOn", desc := "(III)I" } : MethodName) ∈ lw_tbl := tq5 (i := 143) rfl
theorem tw1104 : Cond.instanceMethod ({ cls := "BrigadePagers", name := "whyNotHandOn", desc := "(III)I" } : MethodName) ∈ lw_tbl := tq5 (i := 144) rfl
theorem tw1105 : Cond.selects "BrigadePagers" ({ cls := "BrigadePagers", name := "whyNotHandOn", desc := "(III)I" } : MethodName) ({ cls := "BrigadePagers", name := "whyNotHandOn", desc := "(III)I" } : MethodName) ∈ lw_tbl := tq5 (i := 145) rfl
theorem tw1106 : Cond.code ({ cls := "BrigadePagers", name := "whyNotHandOn", desc := "(III)I" } : MethodName) prog_1_method_26_code (4 : Nat) (Option.some .int) ∈ lw_tbl := tq5 (i := 146) rfl
theorem tw1107 : Cond.methodLinkNest "BrigadePagers" (226 : Nat) ({ cls := "BrigadePagers$State", name := "reasonAgainst", desc := "(III)I" } : MethodName) "BrigadePagers" ∈ lw_tbl := tq5 (i := 147) rfl
theorem tw1109 : Cond.instanceMethod ({ cls := "BrigadePagers$State", name := "reasonAgainst", desc := "(III)I" } : MethodName) ∈ lw_tbl := tq5 (i := 149) rfl
theorem tw1110 : Cond.code ({ cls := "BrigadePagers$State", name := "reasonAgainst", desc := "(III)I" } : MethodName) prog_12_method_19_code (4 : Nat) (Option.some .int) ∈ lw_tbl := tq5 (i := 150) rfl
theorem tw1111 : Cond.methodLink "BrigadePagers$State" (166 : Nat) ({ cls := "BrigadePagers$State", name := "chainPerson", desc := "(II)I" } : MethodName) ∈ lw_tbl := tq5 (i := 151) rfl
theorem tw1112 : Cond.methodLink "BrigadePagers$State" (172 : Nat) ({ cls := "BrigadePagers$State", name := "isOut", desc := "(I)Z" } : MethodName) ∈ lw_tbl := tq5 (i := 152) rfl
theorem tw1113 : Cond.methodLink "BrigadePagers$State" (175 : Nat) ({ cls := "BrigadePagers$State", name := "isInChain", desc := "(II)Z" } : MethodName) ∈ lw_tbl := tq5 (i := 153) rfl
theorem tw1115 : Cond.instanceMethod ({ cls := "BrigadePagers$State", name := "isInChain", desc := "(II)Z" } : MethodName) ∈ lw_tbl := tq5 (i := 155) rfl
theorem tw1116 : Cond.code ({ cls := "BrigadePagers$State", name := "isInChain", desc := "(II)Z" } : MethodName) prog_12_method_17_code (4 : Nat) (Option.some .boolean) ∈ lw_tbl := tq5 (i := 156) rfl
theorem tw1117 : Cond.methodLinkNest "BrigadePagers$State" (179 : Nat) ({ cls := "BrigadePagers", name := "has", desc := "(II)Z" } : MethodName) "BrigadePagers" ∈ lw_tbl := tq5 (i := 157) rfl
theorem tw1118 : Cond.static ({ cls := "BrigadePagers", name := "has", desc := "(II)Z" } : MethodName) ∈ lw_tbl := tq5 (i := 158) rfl
theorem tw1119 : Cond.code ({ cls := "BrigadePagers", name := "has", desc := "(II)Z" } : MethodName) prog_1_method_70_code (2 : Nat) (Option.some .boolean) ∈ lw_tbl := tq5 (i := 159) rfl
theorem tw1120 : Cond.methodLink "BrigadePagers$State" (182 : Nat) ({ cls := "BrigadePagers$State", name := "isTrustedByChain", desc := "(II)Z" } : MethodName) ∈ lw_tbl := tq5 (i := 160) rfl
theorem tw1122 : Cond.instanceMethod ({ cls := "BrigadePagers$State", name := "isTrustedByChain", desc := "(II)Z" } : MethodName) ∈ lw_tbl := tq5 (i := 162) rfl
theorem tw1123 : Cond.code ({ cls := "BrigadePagers$State", name := "isTrustedByChain", desc := "(II)Z" } : MethodName) prog_12_method_18_code (4 : Nat) (Option.some .boolean) ∈ lw_tbl := tq5 (i := 163) rfl
theorem tw1124 : Cond.methodLink "BrigadePagersLaw" (267 : Nat) ({ cls := "BrigadePagersLaw", name := "steps", desc := "(LBrigadePagers;II[J)I" } : MethodName) ∈ lw_tbl := tq5 (i := 164) rfl
theorem tw1125 : Cond.static ({ cls := "BrigadePagersLaw", name := "steps", desc := "(LBrigadePagers;II[J)I" } : MethodName) ∈ lw_tbl := tq5 (i := 165) rfl
theorem tw1126 : Cond.codeWith ({ cls := "BrigadePagersLaw", name := "steps", desc := "(LBrigadePagers;II[J)I" } : MethodName) method_24_code (5 : Nat) (Option.some .int) [((0 : Nat), (10 : Nat), (13 : Nat), (19 : Nat)), ((0 : Nat), (10 : Nat), (17 : Nat), (30 : Nat))] ∈ lw_tbl := tq5 (i := 166) rfl
theorem tw1127 : Cond.methodLink "BrigadePagersLaw" (85 : Nat) ({ cls := "BrigadePagers", name := "steps", desc := "(II)I" } : MethodName) ∈ lw_tbl := tq5 (i := 167) rfl
theorem tw1128 : Cond.instanceMethod ({ cls := "BrigadePagers", name := "steps", desc := "(II)I" } : MethodName) ∈ lw_tbl := tq5 (i := 168) rfl
theorem tw1129 : Cond.selects "BrigadePagers" ({ cls := "BrigadePagers", name := "steps", desc := "(II)I" } : MethodName) ({ cls := "BrigadePagers", name := "steps", desc := "(II)I" } : MethodName) ∈ lw_tbl := tq5 (i := 169) rfl
theorem tw1130 : Cond.code ({ cls := "BrigadePagers", name := "steps", desc := "(II)I" } : MethodName) prog_1_method_27_code (3 : Nat) (Option.some .int) ∈ lw_tbl := tq5 (i := 170) rfl
theorem tw1132 : Cond.methodLink "BrigadePagersLaw" (270 : Nat) ({ cls := "BrigadePagersLaw", name := "returnsAt", desc := "(LBrigadePagers;I[J)I" } : MethodName) ∈ lw_tbl := tq5 (i := 172) rfl
theorem tw1133 : Cond.static ({ cls := "BrigadePagersLaw", name := "returnsAt", desc := "(LBrigadePagers;I[J)I" } : MethodName) ∈ lw_tbl := tq5 (i := 173) rfl
theorem tw1134 : Cond.codeWith ({ cls := "BrigadePagersLaw", name := "returnsAt", desc := "(LBrigadePagers;I[J)I" } : MethodName) method_25_code (4 : Nat) (Option.some .int) [((0 : Nat), (9 : Nat), (12 : Nat), (19 : Nat))] ∈ lw_tbl := tq5 (i := 174) rfl
theorem tw1135 : Cond.methodLink "BrigadePagersLaw" (88 : Nat) ({ cls := "BrigadePagers", name := "returnsAt", desc := "(I)I" } : MethodName) ∈ lw_tbl := tq5 (i := 175) rfl
theorem tw1136 : Cond.instanceMethod ({ cls := "BrigadePagers", name := "returnsAt", desc := "(I)I" } : MethodName) ∈ lw_tbl := tq5 (i := 176) rfl
theorem tw1137 : Cond.selects "BrigadePagers" ({ cls := "BrigadePagers", name := "returnsAt", desc := "(I)I" } : MethodName) ({ cls := "BrigadePagers", name := "returnsAt", desc := "(I)I" } : MethodName) ∈ lw_tbl := tq5 (i := 177) rfl
theorem tw1138 : Cond.code ({ cls := "BrigadePagers", name := "returnsAt", desc := "(I)I" } : MethodName) prog_1_method_28_code (2 : Nat) (Option.some .int) ∈ lw_tbl := tq5 (i := 178) rfl
theorem tw1139 : Cond.methodLink "BrigadePagers" (232 : Nat) ({ cls := "BrigadePagers", name := "needEngine", desc := "(I)V" } : MethodName) ∈ lw_tbl := tq5 (i := 179) rfl
theorem tw1141 : Cond.instanceMethod ({ cls := "BrigadePagers", name := "needEngine", desc := "(I)V" } : MethodName) ∈ lw_tbl := tq5 (i := 181) rfl
theorem tw1142 : Cond.code ({ cls := "BrigadePagers", name := "needEngine", desc := "(I)V" } : MethodName) prog_1_method_63_code (2 : Nat) (Option.none : Option ClassFile.FieldType) ∈ lw_tbl := tq5 (i := 182) rfl
theorem tw1144 : Cond.methodLinkNest "BrigadePagers" (235 : Nat) ({ cls := "BrigadePagers$State", name := "isEngineOut", desc := "(I)Z" } : MethodName) "BrigadePagers" ∈ lw_tbl := tq5 (i := 184) rfl
theorem tw1146 : Cond.instanceMethod ({ cls := "BrigadePagers$State", name := "isEngineOut", desc := "(I)Z" } : MethodName) ∈ lw_tbl := tq5 (i := 186) rfl
theorem tw1147 : Cond.code ({ cls := "BrigadePagers$State", name := "isEngineOut", desc := "(I)Z" } : MethodName) prog_12_method_23_code (2 : Nat) (Option.some .boolean) ∈ lw_tbl := tq5 (i := 187) rfl
theorem tw1148 : Cond.methodLink "BrigadePagersLaw" (273 : Nat) ({ cls := "BrigadePagersLaw", name := "cost", desc := "(LBrigadePagers;I[J)I" } : MethodName) ∈ lw_tbl := tq5 (i := 188) rfl
theorem tw1149 : Cond.static ({ cls := "BrigadePagersLaw", name := "cost", desc := "(LBrigadePagers;I[J)I" } : MethodName) ∈ lw_tbl := tq5 (i := 189) rfl
theorem tw1150 : Cond.codeWith ({ cls := "BrigadePagersLaw", name := "cost", desc := "(LBrigadePagers;I[J)I" } : MethodName) method_26_code (4 : Nat) (Option.some .int) [((0 : Nat), (9 : Nat), (12 : Nat), (19 : Nat))] ∈ lw_tbl := tq5 (i := 190) rfl
theorem tw1151 : Cond.methodLink "BrigadePagersLaw" (91 : Nat) ({ cls := "BrigadePagers", name := "cost", desc := "(I)I" } : MethodName) ∈ lw_tbl := tq5 (i := 191) rfl
theorem tw1152 : Cond.instanceMethod ({ cls := "BrigadePagers", name := "cost", desc := "(I)I" } : MethodName) ∈ lw_tbl := tq5 (i := 192) rfl
theorem tw1153 : Cond.selects "BrigadePagers" ({ cls := "BrigadePagers", name := "cost", desc := "(I)I" } : MethodName) ({ cls := "BrigadePagers", name := "cost", desc := "(I)I" } : MethodName) ∈ lw_tbl := tq5 (i := 193) rfl
theorem tw1154 : Cond.code ({ cls := "BrigadePagers", name := "cost", desc := "(I)I" } : MethodName) prog_1_method_29_code (2 : Nat) (Option.some .int) ∈ lw_tbl := tq5 (i := 194) rfl
theorem tw1155 : Cond.methodLink "BrigadePagers" (241 : Nat) ({ cls := "BrigadePagers", name := "needCall", desc := "(I)V" } : MethodName) ∈ lw_tbl := tq5 (i := 195) rfl
theorem tw1157 : Cond.instanceMethod ({ cls := "BrigadePagers", name := "needCall", desc := "(I)V" } : MethodName) ∈ lw_tbl := tq5 (i := 197) rfl
theorem tw1158 : Cond.code ({ cls := "BrigadePagers", name := "needCall", desc := "(I)V" } : MethodName) prog_1_method_67_code (2 : Nat) (Option.none : Option ClassFile.FieldType) ∈ lw_tbl := tq5 (i := 198) rfl
theorem tw1160 : Cond.methodLink "BrigadePagersLaw" (276 : Nat) ({ cls := "BrigadePagersLaw", name := "isAnswered", desc := "(LBrigadePagers;I[J)I" } : MethodName) ∈ lw_tbl := tq5 (i := 200) rfl
theorem tw1161 : Cond.static ({ cls := "BrigadePagersLaw", name := "isAnswered", desc := "(LBrigadePagers;I[J)I" } : MethodName) ∈ lw_tbl := tq5 (i := 201) rfl
theorem tw1162 : Cond.codeWith ({ cls := "BrigadePagersLaw", name := "isAnswered", desc := "(LBrigadePagers;I[J)I" } : MethodName) method_27_code (4 : Nat) (Option.some .int) [((0 : Nat), (16 : Nat), (19 : Nat), (19 : Nat))] ∈ lw_tbl := tq5 (i := 202) rfl
theorem tw1163 : Cond.methodLink "BrigadePagersLaw" (94 : Nat) ({ cls := "BrigadePagers", name := "isAnswered", desc := "(I)Z" } : MethodName) ∈ lw_tbl := tq5 (i := 203) rfl
theorem tw1164 : Cond.instanceMethod ({ cls := "BrigadePagers", name := "isAnswered", desc := "(I)Z" } : MethodName) ∈ lw_tbl := tq5 (i := 204) rfl
theorem tw1165 : Cond.selects "BrigadePagers" ({ cls := "BrigadePagers", name := "isAnswered", desc := "(I)Z" } : MethodName) ({ cls := "BrigadePagers", name := "isAnswered", desc := "(I)Z" } : MethodName) ∈ lw_tbl := tq5 (i := 205) rfl
theorem tw1166 : Cond.code ({ cls := "BrigadePagers", name := "isAnswered", desc := "(I)Z" } : MethodName) prog_1_method_30_code (2 : Nat) (Option.some .boolean) ∈ lw_tbl := tq5 (i := 206) rfl
theorem tw1167 : Cond.methodLink "BrigadePagers" (250 : Nat) ({ cls := "BrigadePagers", name := "has", desc := "(II)Z" } : MethodName) ∈ lw_tbl := tq5 (i := 207) rfl
theorem tw1168 : Cond.methodLink "BrigadePagersLaw" (279 : Nat) ({ cls := "BrigadePagersLaw", name := "came", desc := "(LBrigadePagers;I[J)I" } : MethodName) ∈ lw_tbl := tq5 (i := 208) rfl
theorem tw1169 : Cond.static ({ cls := "BrigadePagersLaw", name := "came", desc := "(LBrigadePagers;I[J)I" } : MethodName) ∈ lw_tbl := tq5 (i := 209) rfl
theorem tw1170 : Cond.codeWith ({ cls := "BrigadePagersLaw", name := "came", desc := "(LBrigadePagers;I[J)I" } : MethodName) method_28_code (4 : Nat) (Option.some .int) [((0 : Nat), (9 : Nat), (12 : Nat), (19 : Nat))] ∈ lw_tbl := tq5 (i := 210) rfl
theorem tw1171 : Cond.methodLink "BrigadePagersLaw" (98 : Nat) ({ cls := "BrigadePagers", name := "came", desc := "(I)I" } : MethodName) ∈ lw_tbl := tq5 (i := 211) rfl
theorem tw1172 : Cond.instanceMethod ({ cls := "BrigadePagers", name := "came", desc := "(I)I" } : MethodName) ∈ lw_tbl := tq5 (i := 212) rfl
theorem tw1173 : Cond.selects "BrigadePagers" ({ cls := "BrigadePagers", name := "came", desc := "(I)I" } : MethodName) ({ cls := "BrigadePagers", name := "came", desc := "(I)I" } : MethodName) ∈ lw_tbl := tq5 (i := 213) rfl
theorem tw1174 : Cond.code ({ cls := "BrigadePagers", name := "came", desc := "(I)I" } : MethodName) prog_1_method_31_code (2 : Nat) (Option.some .int) ∈ lw_tbl := tq5 (i := 214) rfl
theorem tw1175 : Cond.methodLink "BrigadePagersLaw" (282 : Nat) ({ cls := "BrigadePagersLaw", name := "left", desc := "(LBrigadePagers;I[J)I" } : MethodName) ∈ lw_tbl := tq5 (i := 215) rfl
theorem tw1176 : Cond.static ({ cls := "BrigadePagersLaw", name := "left", desc := "(LBrigadePagers;I[J)I" } : MethodName) ∈ lw_tbl := tq5 (i := 216) rfl
theorem tw1177 : Cond.codeWith ({ cls := "BrigadePagersLaw", name := "left", desc := "(LBrigadePagers;I[J)I" } : MethodName) method_29_code (4 : Nat) (Option.some .int) [((0 : Nat), (9 : Nat), (12 : Nat), (19 : Nat))] ∈ lw_tbl := tq5 (i := 217) rfl
theorem tw1178 : Cond.methodLink "BrigadePagersLaw" (101 : Nat) ({ cls := "BrigadePagers", name := "left", desc := "(I)I" } : MethodName) ∈ lw_tbl := tq5 (i := 218) rfl
theorem tw1179 : Cond.instanceMethod ({ cls := "BrigadePagers", name := "left", desc := "(I)I" } : MethodName) ∈ lw_tbl := tq5 (i := 219) rfl
theorem tw1180 : Cond.selects "BrigadePagers" ({ cls := "BrigadePagers", name := "left", desc := "(I)I" } : MethodName) ({ cls := "BrigadePagers", name := "left", desc := "(I)I" } : MethodName) ∈ lw_tbl := tq5 (i := 220) rfl
theorem tw1181 : Cond.code ({ cls := "BrigadePagers", name := "left", desc := "(I)I" } : MethodName) prog_1_method_32_code (2 : Nat) (Option.some .int) ∈ lw_tbl := tq5 (i := 221) rfl
theorem tw1182 : Cond.methodLink "BrigadePagersLaw" (285 : Nat) ({ cls := "BrigadePagersLaw", name := "engine", desc := "(LBrigadePagers;II[J)I" } : MethodName) ∈ lw_tbl := tq5 (i := 222) rfl
theorem tw1183 : Cond.static ({ cls := "BrigadePagersLaw", name := "engine", desc := "(LBrigadePagers;II[J)I" } : MethodName) ∈ lw_tbl := tq5 (i := 223) rfl
theorem tw1184 : Cond.codeWith ({ cls := "BrigadePagersLaw", name := "engine", desc := "(LBrigadePagers;II[J)I" } : MethodName) method_30_code (5 : Nat) (Option.some .int) [((0 : Nat), (10 : Nat), (13 : Nat), (19 : Nat))] ∈ lw_tbl := tq5 (i := 224) rfl
theorem tw1185 : Cond.methodLink "BrigadePagersLaw" (104 : Nat) ({ cls := "BrigadePagers", name := "engine", desc := "(II)I" } : MethodName) ∈ lw_tbl := tq5 (i := 225) rfl
theorem tw1186 : Cond.instanceMethod ({ cls := "BrigadePagers", name := "engine", desc := "(II)I" } : MethodName) ∈ lw_tbl := tq5 (i := 226) rfl
theorem tw1187 : Cond.selects "BrigadePagers" ({ cls := "BrigadePagers", name := "engine", desc := "(II)I" } : MethodName) ({ cls := "BrigadePagers", name := "engine", desc := "(II)I" } : MethodName) ∈ lw_tbl := tq5 (i := 227) rfl
theorem tw1188 : Cond.code ({ cls := "BrigadePagers", name := "engine", desc := "(II)I" } : MethodName) prog_1_method_33_code (3 : Nat) (Option.some .int) ∈ lw_tbl := tq5 (i := 228) rfl
theorem tw1189 : Cond.methodLink "BrigadePagers" (260 : Nat) ({ cls := "BrigadePagers", name := "needLeaver", desc := "(II)V" } : MethodName) ∈ lw_tbl := tq5 (i := 229) rfl
theorem tw1191 : Cond.instanceMethod ({ cls := "BrigadePagers", name := "needLeaver", desc := "(II)V" } : MethodName) ∈ lw_tbl := tq5 (i := 231) rfl
theorem tw1192 : Cond.code ({ cls := "BrigadePagers", name := "needLeaver", desc := "(II)V" } : MethodName) prog_1_method_68_code (3 : Nat) (Option.none : Option ClassFile.FieldType) ∈ lw_tbl := tq5 (i := 232) rfl
theorem tw1194 : Cond.methodLink "BrigadePagersLaw" (288 : Nat) ({ cls := "BrigadePagersLaw", name := "leftAt", desc := "(LBrigadePagers;II[J)I" } : MethodName) ∈ lw_tbl := tq5 (i := 234) rfl
theorem tw1195 : Cond.static ({ cls := "BrigadePagersLaw", name := "leftAt", desc := "(LBrigadePagers;II[J)I" } : MethodName) ∈ lw_tbl := tq5 (i := 235) rfl
theorem tw1196 : Cond.codeWith ({ cls := "BrigadePagersLaw", name := "leftAt", desc := "(LBrigadePagers;II[J)I" } : MethodName) method_31_code (5 : Nat) (Option.some .int) [((0 : Nat), (10 : Nat), (13 : Nat), (19 : Nat))] ∈ lw_tbl := tq5 (i := 236) rfl
theorem tw1197 : Cond.methodLink "BrigadePagersLaw" (107 : Nat) ({ cls := "BrigadePagers", name := "leftAt", desc := "(II)I" } : MethodName) ∈ lw_tbl := tq5 (i := 237) rfl
theorem tw1198 : Cond.instanceMethod ({ cls := "BrigadePagers", name := "leftAt", desc := "(II)I" } : MethodName) ∈ lw_tbl := tq5 (i := 238) rfl
theorem tw1199 : Cond.selects "BrigadePagers" ({ cls := "BrigadePagers", name := "leftAt", desc := "(II)I" } : MethodName) ({ cls := "BrigadePagers", name := "leftAt", desc := "(II)I" } : MethodName) ∈ lw_tbl := tq5 (i := 239) rfl
theorem tw1200 : Cond.code ({ cls := "BrigadePagers", name := "leftAt", desc := "(II)I" } : MethodName) prog_1_method_34_code (3 : Nat) (Option.some .int) ∈ lw_tbl := tq6 (i := 0) rfl
theorem tw1201 : Cond.methodLink "BrigadePagersLaw" (291 : Nat) ({ cls := "BrigadePagersLaw", name := "member", desc := "(LBrigadePagers;III[J)I" } : MethodName) ∈ lw_tbl := tq6 (i := 1) rfl
theorem tw1202 : Cond.static ({ cls := "BrigadePagersLaw", name := "member", desc := "(LBrigadePagers;III[J)I" } : MethodName) ∈ lw_tbl := tq6 (i := 2) rfl
theorem tw1203 : Cond.codeWith ({ cls := "BrigadePagersLaw", name := "member", desc := "(LBrigadePagers;III[J)I" } : MethodName) method_32_code (6 : Nat) (Option.some .int) [((0 : Nat), (12 : Nat), (15 : Nat), (19 : Nat))] ∈ lw_tbl := tq6 (i := 3) rfl
theorem tw1204 : Cond.methodLink "BrigadePagersLaw" (110 : Nat) ({ cls := "BrigadePagers", name := "member", desc := "(III)I" } : MethodName) ∈ lw_tbl := tq6 (i := 4) rfl
theorem tw1205 : Cond.instanceMethod ({ cls := "BrigadePagers", name := "member", desc := "(III)I" } : MethodName) ∈ lw_tbl := tq6 (i := 5) rfl
theorem tw1206 : Cond.selects "BrigadePagers" ({ cls := "BrigadePagers", name := "member", desc := "(III)I" } : MethodName) ({ cls := "BrigadePagers", name := "member", desc := "(III)I" } : MethodName) ∈ lw_tbl := tq6 (i := 6) rfl
theorem tw1207 : Cond.code ({ cls := "BrigadePagers", name := "member", desc := "(III)I" } : MethodName) prog_1_method_35_code (5 : Nat) (Option.some .int) ∈ lw_tbl := tq6 (i := 7) rfl
theorem tw1208 : Cond.methodLink "BrigadePagers" (272 : Nat) ({ cls := "BrigadePagers", name := "nthOf", desc := "(II)I" } : MethodName) ∈ lw_tbl := tq6 (i := 8) rfl
theorem tw1209 : Cond.static ({ cls := "BrigadePagers", name := "nthOf", desc := "(II)I" } : MethodName) ∈ lw_tbl := tq6 (i := 9) rfl
theorem tw1210 : Cond.code ({ cls := "BrigadePagers", name := "nthOf", desc := "(II)I" } : MethodName) prog_1_method_71_code (4 : Nat) (Option.some .int) ∈ lw_tbl := tq6 (i := 10) rfl
theorem tw1212 : Cond.methodLink "BrigadePagersLaw" (298 : Nat) ({ cls := "BrigadePagersLaw", name := "whyAbsent", desc := "(LBrigadePagers;II[J)I" } : MethodName) ∈ lw_tbl := tq6 (i := 12) rfl
theorem tw1213 : Cond.static ({ cls := "BrigadePagersLaw", name := "whyAbsent", desc := "(LBrigadePagers;II[J)I" } : MethodName) ∈ lw_tbl := tq6 (i := 13) rfl
theorem tw1214 : Cond.codeWith ({ cls := "BrigadePagersLaw", name := "whyAbsent", desc := "(LBrigadePagers;II[J)I" } : MethodName) method_33_code (5 : Nat) (Option.some .int) [((0 : Nat), (10 : Nat), (13 : Nat), (19 : Nat))] ∈ lw_tbl := tq6 (i := 14) rfl
theorem tw1215 : Cond.methodLink "BrigadePagersLaw" (113 : Nat) ({ cls := "BrigadePagers", name := "whyAbsent", desc := "(II)I" } : MethodName) ∈ lw_tbl := tq6 (i := 15) rfl
theorem tw1216 : Cond.instanceMethod ({ cls := "BrigadePagers", name := "whyAbsent", desc := "(II)I" } : MethodName) ∈ lw_tbl := tq6 (i := 16) rfl
theorem tw1217 : Cond.selects "BrigadePagers" ({ cls := "BrigadePagers", name := "whyAbsent", desc := "(II)I" } : MethodName) ({ cls := "BrigadePagers", name := "whyAbsent", desc := "(II)I" } : MethodName) ∈ lw_tbl := tq6 (i := 17) rfl
theorem tw1218 : Cond.code ({ cls := "BrigadePagers", name := "whyAbsent", desc := "(II)I" } : MethodName) prog_1_method_37_code (3 : Nat) (Option.some .int) ∈ lw_tbl := tq6 (i := 18) rfl
theorem tw1219 : Cond.methodLink "BrigadePagers" (277 : Nat) ({ cls := "BrigadePagers", name := "needKind", desc := "(I)V" } : MethodName) ∈ lw_tbl := tq6 (i := 19) rfl
theorem tw1221 : Cond.instanceMethod ({ cls := "BrigadePagers", name := "needKind", desc := "(I)V" } : MethodName) ∈ lw_tbl := tq6 (i := 21) rfl
theorem tw1222 : Cond.code ({ cls := "BrigadePagers", name := "needKind", desc := "(I)V" } : MethodName) prog_1_method_64_code (2 : Nat) (Option.none : Option ClassFile.FieldType) ∈ lw_tbl := tq6 (i := 22) rfl
theorem tw1224 : Cond.methodLinkNest "BrigadePagers" (284 : Nat) ({ cls := "BrigadePagers$Muster", name := "foresee", desc := "(LBrigadePagers$State;LBrigadePagers$Kind;)Z" } : MethodName) "BrigadePagers" ∈ lw_tbl := tq6 (i := 24) rfl
theorem tw1226 : Cond.instanceMethod ({ cls := "BrigadePagers$Muster", name := "foresee", desc := "(LBrigadePagers$State;LBrigadePagers$Kind;)Z" } : MethodName) ∈ lw_tbl := tq6 (i := 26) rfl
theorem tw1227 : Cond.code ({ cls := "BrigadePagers$Muster", name := "foresee", desc := "(LBrigadePagers$State;LBrigadePagers$Kind;)Z" } : MethodName) prog_6_method_2_code (5 : Nat) (Option.some .boolean) ∈ lw_tbl := tq6 (i := 27) rfl
theorem tw1228 : Cond.methodLink "BrigadePagers$Muster" (44 : Nat) ({ cls := "BrigadePagers$Muster", name := "alert", desc := "(LBrigadePagers$Kind;)V" } : MethodName) ∈ lw_tbl := tq6 (i := 28) rfl
theorem tw1230 : Cond.instanceMethod ({ cls := "BrigadePagers$Muster", name := "alert", desc := "(LBrigadePagers$Kind;)V" } : MethodName) ∈ lw_tbl := tq6 (i := 30) rfl
theorem tw1231 : Cond.code ({ cls := "BrigadePagers$Muster", name := "alert", desc := "(LBrigadePagers$Kind;)V" } : MethodName) prog_6_method_3_code (4 : Nat) (Option.none : Option ClassFile.FieldType) ∈ lw_tbl := tq6 (i := 31) rfl
theorem tw1232 : Cond.methodLinkNest "BrigadePagers$Muster" (79 : Nat) ({ cls := "BrigadePagers$State", name := "holderThen", desc := "(II)I" } : MethodName) "BrigadePagers" ∈ lw_tbl := tq6 (i := 32) rfl
theorem tw1233 : Cond.methodLinkNest "BrigadePagers$Muster" (88 : Nat) ({ cls := "BrigadePagers$State", name := "arrivalOf", desc := "(I)I" } : MethodName) "BrigadePagers" ∈ lw_tbl := tq6 (i := 33) rfl
theorem tw1234 : Cond.methodLinkNest "BrigadePagers$Muster" (92 : Nat) ({ cls := "BrigadePagers", name := "has", desc := "(II)Z" } : MethodName) "BrigadePagers" ∈ lw_tbl := tq6 (i := 34) rfl
theorem tw1235 : Cond.methodLink "BrigadePagers$Muster" (99 : Nat) ({ cls := "BrigadePagers$Muster", name := "absenceOfHolder", desc := "(II)I" } : MethodName) ∈ lw_tbl := tq6 (i := 35) rfl
theorem tw1237 : Cond.instanceMethod ({ cls := "BrigadePagers$Muster", name := "absenceOfHolder", desc := "(II)I" } : MethodName) ∈ lw_tbl := tq6 (i := 37) rfl
theorem tw1238 : Cond.code ({ cls := "BrigadePagers$Muster", name := "absenceOfHolder", desc := "(II)I" } : MethodName) prog_6_method_4_code (3 : Nat) (Option.some .int) ∈ lw_tbl := tq6 (i := 38) rfl
theorem tw1239 : Cond.methodLinkNest "BrigadePagers$Muster" (105 : Nat) ({ cls := "BrigadePagers$State", name := "isOut", desc := "(I)Z" } : MethodName) "BrigadePagers" ∈ lw_tbl := tq6 (i := 39) rfl
theorem tw1240 : Cond.methodLinkNest "BrigadePagers$Muster" (109 : Nat) ({ cls := "BrigadePagers$State", name := "isTired", desc := "(I)Z" } : MethodName) "BrigadePagers" ∈ lw_tbl := tq6 (i := 40) rfl
theorem tw1241 : Cond.methodLink "BrigadePagers$Muster" (63 : Nat) ({ cls := "BrigadePagers$Muster", name := "lookAtEngine", desc := "(II)V" } : MethodName) ∈ lw_tbl := tq6 (i := 41) rfl
theorem tw1243 : Cond.instanceMethod ({ cls := "BrigadePagers$Muster", name := "lookAtEngine", desc := "(II)V" } : MethodName) ∈ lw_tbl := tq6 (i := 43) rfl
theorem tw1244 : Cond.code ({ cls := "BrigadePagers$Muster", name := "lookAtEngine", desc := "(II)V" } : MethodName) prog_6_method_5_code (4 : Nat) (Option.none : Option ClassFile.FieldType) ∈ lw_tbl := tq6 (i := 44) rfl
theorem tw1245 : Cond.methodLinkNest "BrigadePagers$Muster" (120 : Nat) ({ cls := "BrigadePagers$Plan", name := "mostManned", desc := "([II)I" } : MethodName) "BrigadePagers" ∈ lw_tbl := tq6 (i := 45) rfl
theorem tw1247 : Cond.instanceMethod ({ cls := "BrigadePagers$Plan", name := "mostManned", desc := "([II)I" } : MethodName) ∈ lw_tbl := tq6 (i := 47) rfl
theorem tw1248 : Cond.code ({ cls := "BrigadePagers$Plan", name := "mostManned", desc := "([II)I" } : MethodName) prog_10_method_7_code (6 : Nat) (Option.some .int) ∈ lw_tbl := tq6 (i := 48) rfl
theorem tw1249 : Cond.methodLink "BrigadePagers$Plan" (93 : Nat) ({ cls := "java/lang/Integer", name := "bitCount", desc := "(I)I" } : MethodName) ∈ lw_tbl := tq6 (i := 49) rfl
theorem tw1250 : Cond.static ({ cls := "java/lang/Integer", name := "bitCount", desc := "(I)I" } : MethodName) ∈ lw_tbl := tq6 (i := 50) rfl
theorem tw1251 : Cond.code ({ cls := "java/lang/Integer", name := "bitCount", desc := "(I)I" } : MethodName) prog_22_method_49_code (1 : Nat) (Option.some .int) ∈ lw_tbl := tq6 (i := 51) rfl
theorem tw1252 : Cond.constant "java/lang/Integer" (265 : Nat) (1431655765 : Int32) ∈ lw_tbl := tq6 (i := 52) rfl
theorem tw1253 : Cond.constant "java/lang/Integer" (266 : Nat) (858993459 : Int32) ∈ lw_tbl := tq6 (i := 53) rfl
theorem tw1254 : Cond.constant "java/lang/Integer" (267 : Nat) (252645135 : Int32) ∈ lw_tbl := tq6 (i := 54) rfl
theorem tw1255 : Cond.methodLink "BrigadePagers$Plan" (98 : Nat) ({ cls := "java/lang/Math", name := "min", desc := "(II)I" } : MethodName) ∈ lw_tbl := tq6 (i := 55) rfl
theorem tw1256 : Cond.methodLinkNest "BrigadePagers$Muster" (127 : Nat) ({ cls := "BrigadePagers$State", name := "isEngineOut", desc := "(I)Z" } : MethodName) "BrigadePagers" ∈ lw_tbl := tq6 (i := 56) rfl
theorem tw1257 : Cond.methodLink "BrigadePagers$Muster" (133 : Nat) ({ cls := "BrigadePagers$Muster", name := "earliestDeparture", desc := "(LBrigadePagers$Engine;)I" } : MethodName) ∈ lw_tbl := tq6 (i := 57) rfl
theorem tw1259 : Cond.instanceMethod ({ cls := "BrigadePagers$Muster", name := "earliestDeparture", desc := "(LBrigadePagers$Engine;)I" } : MethodName) ∈ lw_tbl := tq6 (i := 59) rfl
theorem tw1260 : Cond.code ({ cls := "BrigadePagers$Muster", name := "earliestDeparture", desc := "(LBrigadePagers$Engine;)I" } : MethodName) prog_6_method_7_code (5 : Nat) (Option.some .int) ∈ lw_tbl := tq6 (i := 60) rfl
theorem tw1261 : Cond.methodLink "BrigadePagers$Muster" (137 : Nat) ({ cls := "BrigadePagers$Muster", name := "freeWithin", desc := "(I)I" } : MethodName) ∈ lw_tbl := tq6 (i := 61) rfl
theorem tw1263 : Cond.instanceMethod ({ cls := "BrigadePagers$Muster", name := "freeWithin", desc := "(I)I" } : MethodName) ∈ lw_tbl := tq6 (i := 63) rfl
theorem tw1264 : Cond.code ({ cls := "BrigadePagers$Muster", name := "freeWithin", desc := "(I)I" } : MethodName) prog_6_method_6_code (4 : Nat) (Option.some .int) ∈ lw_tbl := tq6 (i := 64) rfl
theorem tw1265 : Cond.methodLink "BrigadePagers$Muster" (140 : Nat) ({ cls := "BrigadePagers$Muster", name := "firstCrew", desc := "(LBrigadePagers$Engine;I)I" } : MethodName) ∈ lw_tbl := tq6 (i := 65) rfl
theorem tw1267 : Cond.instanceMethod ({ cls := "BrigadePagers$Muster", name := "firstCrew", desc := "(LBrigadePagers$Engine;I)I" } : MethodName) ∈ lw_tbl := tq6 (i := 67) rfl
theorem tw1268 : Cond.code ({ cls := "BrigadePagers$Muster", name := "firstCrew", desc := "(LBrigadePagers$Engine;I)I" } : MethodName) prog_6_method_8_code (7 : Nat) (Option.some .int) ∈ lw_tbl := tq6 (i := 68) rfl
theorem tw1269 : Cond.methodLink "BrigadePagersLaw" (301 : Nat) ({ cls := "BrigadePagersLaw", name := "whyStays", desc := "(LBrigadePagers;II[J)I" } : MethodName) ∈ lw_tbl := tq6 (i := 69) rfl
theorem tw1270 : Cond.static ({ cls := "BrigadePagersLaw", name := "whyStays", desc := "(LBrigadePagers;II[J)I" } : MethodName) ∈ lw_tbl := tq6 (i := 70) rfl
theorem tw1271 : Cond.codeWith ({ cls := "BrigadePagersLaw", name := "whyStays", desc := "(LBrigadePagers;II[J)I" } : MethodName) method_34_code (5 : Nat) (Option.some .int) [((0 : Nat), (10 : Nat), (13 : Nat), (19 : Nat))] ∈ lw_tbl := tq6 (i := 71) rfl
theorem tw1272 : Cond.methodLink "BrigadePagersLaw" (116 : Nat) ({ cls := "BrigadePagers", name := "whyStays", desc := "(II)I" } : MethodName) ∈ lw_tbl := tq6 (i := 72) rfl
theorem tw1273 : Cond.instanceMethod ({ cls := "BrigadePagers", name := "whyStays", desc := "(II)I" } : MethodName) ∈ lw_tbl := tq6 (i := 73) rfl
theorem tw1274 : Cond.selects "BrigadePagers" ({ cls := "BrigadePagers", name := "whyStays", desc := "(II)I" } : MethodName) ({ cls := "BrigadePagers", name := "whyStays", desc := "(II)I" } : MethodName) ∈ lw_tbl := tq6 (i := 74) rfl
theorem tw1275 : Cond.code ({ cls := "BrigadePagers", name := "whyStays", desc := "(II)I" } : MethodName) prog_1_method_38_code (3 : Nat) (Option.some .int) ∈ lw_tbl := tq6 (i := 75) rfl
theorem tw1276 : Cond.methodLink "BrigadePagers" (291 : Nat) ({ cls := "BrigadePagers", name := "needKindEngine", desc := "(II)V" } : MethodName) ∈ lw_tbl := tq6 (i := 76) rfl
theorem tw1278 : Cond.instanceMethod ({ cls := "BrigadePagers", name := "needKindEngine", desc := "(II)V" } : MethodName) ∈ lw_tbl := tq6 (i := 78) rfl
theorem tw1279 : Cond.code ({ cls := "BrigadePagers", name := "needKindEngine", desc := "(II)V" } : MethodName) prog_1_method_65_code (3 : Nat) (Option.none : Option ClassFile.FieldType) ∈ lw_tbl := tq6 (i := 79) rfl
theorem tw1281 : Cond.methodLink "BrigadePagersLaw" (304 : Nat) ({ cls := "BrigadePagersLaw", name := "departure", desc := "(LBrigadePagers;II[J)I" } : MethodName) ∈ lw_tbl := tq6 (i := 81) rfl
theorem tw1282 : Cond.static ({ cls := "BrigadePagersLaw", name := "departure", desc := "(LBrigadePagers;II[J)I" } : MethodName) ∈ lw_tbl := tq6 (i := 82) rfl
theorem tw1283 : Cond.codeWith ({ cls := "BrigadePagersLaw", name := "departure", desc := "(LBrigadePagers;II[J)I" } : MethodName) method_35_code (5 : Nat) (Option.some .int) [((0 : Nat), (10 : Nat), (13 : Nat), (19 : Nat)), ((0 : Nat), (10 : Nat), (17 : Nat), (13 : Nat))] ∈ lw_tbl := tq6 (i := 83) rfl
theorem tw1284 : Cond.methodLink "BrigadePagersLaw" (119 : Nat) ({ cls := "BrigadePagers", name := "departure", desc := "(II)I" } : MethodName) ∈ lw_tbl := tq6 (i := 84) rfl
theorem tw1285 : Cond.instanceMethod ({ cls := "BrigadePagers", name := "departure", desc := "(II)I" } : MethodName) ∈ lw_tbl := tq6 (i := 85) rfl
theorem tw1286 : Cond.selects "BrigadePagers" ({ cls := "BrigadePagers", name := "departure", desc := "(II)I" } : MethodName) ({ cls := "BrigadePagers", name := "departure", desc := "(II)I" } : MethodName) ∈ lw_tbl := tq6 (i := 86) rfl
theorem tw1287 : Cond.code ({ cls := "BrigadePagers", name := "departure", desc := "(II)I" } : MethodName) prog_1_method_39_code (3 : Nat) (Option.some .int) ∈ lw_tbl := tq6 (i := 87) rfl
theorem tw1288 : Cond.methodLink "BrigadePagers" (297 : Nat) ({ cls := "BrigadePagers", name := "needLeaving", desc := "(I)V" } : MethodName) ∈ lw_tbl := tq6 (i := 88) rfl
theorem tw1290 : Cond.instanceMethod ({ cls := "BrigadePagers", name := "needLeaving", desc := "(I)V" } : MethodName) ∈ lw_tbl := tq6 (i := 90) rfl
theorem tw1291 : Cond.code ({ cls := "BrigadePagers", name := "needLeaving", desc := "(I)V" } : MethodName) prog_1_method_66_code (2 : Nat) (Option.none : Option ClassFile.FieldType) ∈ lw_tbl := tq6 (i := 91) rfl
theorem tw1293 : Cond.methodLink "BrigadePagersLaw" (307 : Nat) ({ cls := "BrigadePagersLaw", name := "mans", desc := "(LBrigadePagers;III[J)I" } : MethodName) ∈ lw_tbl := tq6 (i := 93) rfl
theorem tw1294 : Cond.static ({ cls := "BrigadePagersLaw", name := "mans", desc := "(LBrigadePagers;III[J)I" } : MethodName) ∈ lw_tbl := tq6 (i := 94) rfl
theorem tw1295 : Cond.codeWith ({ cls := "BrigadePagersLaw", name := "mans", desc := "(LBrigadePagers;III[J)I" } : MethodName) method_36_code (6 : Nat) (Option.some .int) [((0 : Nat), (12 : Nat), (15 : Nat), (19 : Nat)), ((0 : Nat), (12 : Nat), (19 : Nat), (13 : Nat))] ∈ lw_tbl := tq6 (i := 95) rfl
theorem tw1296 : Cond.methodLink "BrigadePagersLaw" (122 : Nat) ({ cls := "BrigadePagers", name := "mans", desc := "(III)I" } : MethodName) ∈ lw_tbl := tq6 (i := 96) rfl
theorem tw1297 : Cond.instanceMethod ({ cls := "BrigadePagers", name := "mans", desc := "(III)I" } : MethodName) ∈ lw_tbl := tq6 (i := 97) rfl
theorem tw1298 : Cond.selects "BrigadePagers" ({ cls := "BrigadePagers", name := "mans", desc := "(III)I" } : MethodName) ({ cls := "BrigadePagers", name := "mans", desc := "(III)I" } : MethodName) ∈ lw_tbl := tq6 (i := 98) rfl
theorem tw1299 : Cond.code ({ cls := "BrigadePagers", name := "mans", desc := "(III)I" } : MethodName) prog_1_method_40_code (5 : Nat) (Option.some .int) ∈ lw_tbl := tq6 (i := 99) rfl
theorem tw1301 : Cond.methodLinkNest "BrigadePagers" (319 : Nat) ({ cls := "BrigadePagers$Muster", name := "personAt", desc := "(LBrigadePagers$Engine;II)I" } : MethodName) "BrigadePagers" ∈ lw_tbl := tq6 (i := 101) rfl
theorem tw1303 : Cond.instanceMethod ({ cls := "BrigadePagers$Muster", name := "personAt", desc := "(LBrigadePagers$Engine;II)I" } : MethodName) ∈ lw_tbl := tq6 (i := 103) rfl
theorem tw1304 : Cond.code ({ cls := "BrigadePagers$Muster", name := "personAt", desc := "(LBrigadePagers$Engine;II)I" } : MethodName) prog_6_method_9_code (9 : Nat) (Option.some .int) ∈ lw_tbl := tq6 (i := 104) rfl
theorem tw1305 : Cond.methodLinkNest "BrigadePagers$Muster" (144 : Nat) ({ cls := "BrigadePagers", name := "copyAll", desc := "([I[I)V" } : MethodName) "BrigadePagers" ∈ lw_tbl := tq6 (i := 105) rfl
theorem tw1306 : Cond.static ({ cls := "BrigadePagers", name := "copyAll", desc := "([I[I)V" } : MethodName) ∈ lw_tbl := tq6 (i := 106) rfl
theorem tw1307 : Cond.code ({ cls := "BrigadePagers", name := "copyAll", desc := "([I[I)V" } : MethodName) prog_1_method_73_code (2 : Nat) (Option.none : Option ClassFile.FieldType) ∈ lw_tbl := tq6 (i := 107) rfl
theorem tw1308 : Cond.methodLink "BrigadePagers" (451 : Nat) ({ cls := "java/lang/Math", name := "min", desc := "(II)I" } : MethodName) ∈ lw_tbl := tq6 (i := 108) rfl
theorem tw1309 : Cond.methodLink "BrigadePagers" (456 : Nat) ({ cls := "java/lang/System", name := "arraycopy", desc := "(Ljava/lang/Object;ILjava/lang/Object;II)V" } : MethodName) ∈ lw_tbl := tq6 (i := 109) rfl
theorem tw1310 : Cond.methodLink "BrigadePagers$Muster" (151 : Nat) ({ cls := "BrigadePagers$Muster", name := "lowestFor", desc := "(II)I" } : MethodName) ∈ lw_tbl := tq6 (i := 110) rfl
theorem tw1312 : Cond.instanceMethod ({ cls := "BrigadePagers$Muster", name := "lowestFor", desc := "(II)I" } : MethodName) ∈ lw_tbl := tq6 (i := 112) rfl
theorem tw1313 : Cond.code ({ cls := "BrigadePagers$Muster", name := "lowestFor", desc := "(II)I" } : MethodName) prog_6_method_10_code (5 : Nat) (Option.some .int) ∈ lw_tbl := tq6 (i := 113) rfl
theorem tw1314 : Cond.methodLink "BrigadePagersLaw" (310 : Nat) ({ cls := "BrigadePagersLaw", name := "manned", desc := "(LBrigadePagers;II[J)I" } : MethodName) ∈ lw_tbl := tq6 (i := 114) rfl
theorem tw1315 : Cond.static ({ cls := "BrigadePagersLaw", name := "manned", desc := "(LBrigadePagers;II[J)I" } : MethodName) ∈ lw_tbl := tq6 (i := 115) rfl
theorem tw1316 : Cond.codeWith ({ cls := "BrigadePagersLaw", name := "manned", desc := "(LBrigadePagers;II[J)I" } : MethodName) method_37_code (5 : Nat) (Option.some .int) [((0 : Nat), (10 : Nat), (13 : Nat), (19 : Nat))] ∈ lw_tbl := tq6 (i := 116) rfl
theorem tw1317 : Cond.methodLink "BrigadePagersLaw" (125 : Nat) ({ cls := "BrigadePagers", name := "manned", desc := "(II)I" } : MethodName) ∈ lw_tbl := tq6 (i := 117) rfl
theorem tw1318 : Cond.instanceMethod ({ cls := "BrigadePagers", name := "manned", desc := "(II)I" } : MethodName) ∈ lw_tbl := tq6 (i := 118) rfl
theorem tw1319 : Cond.selects "BrigadePagers" ({ cls := "BrigadePagers", name := "manned", desc := "(II)I" } : MethodName) ({ cls := "BrigadePagers", name := "manned", desc := "(II)I" } : MethodName) ∈ lw_tbl := tq6 (i := 119) rfl
theorem tw1320 : Cond.code ({ cls := "BrigadePagers", name := "manned", desc := "(II)I" } : MethodName) prog_1_method_41_code (3 : Nat) (Option.some .int) ∈ lw_tbl := tq6 (i := 120) rfl
theorem tw1321 : Cond.methodLink "BrigadePagersLaw" (313 : Nat) ({ cls := "BrigadePagersLaw", name := "wouldAnswer", desc := "(LBrigadePagers;I[J)I" } : MethodName) ∈ lw_tbl := tq6 (i := 121) rfl
theorem tw1322 : Cond.static ({ cls := "BrigadePagersLaw", name := "wouldAnswer", desc := "(LBrigadePagers;I[J)I" } : MethodName) ∈ lw_tbl := tq6 (i := 122) rfl
theorem tw1323 : Cond.codeWith ({ cls := "BrigadePagersLaw", name := "wouldAnswer", desc := "(LBrigadePagers;I[J)I" } : MethodName) method_38_code (4 : Nat) (Option.some .int) [((0 : Nat), (16 : Nat), (19 : Nat), (19 : Nat))] ∈ lw_tbl := tq6 (i := 123) rfl
theorem tw1324 : Cond.methodLink "BrigadePagersLaw" (128 : Nat) ({ cls := "BrigadePagers", name := "wouldAnswer", desc := "(I)Z" } : MethodName) ∈ lw_tbl := tq6 (i := 124) rfl
theorem tw1325 : Cond.instanceMethod ({ cls := "BrigadePagers", name := "wouldAnswer", desc := "(I)Z" } : MethodName) ∈ lw_tbl := tq6 (i := 125) rfl
theorem tw1326 : Cond.selects "BrigadePagers" ({ cls := "BrigadePagers", name := "wouldAnswer", desc := "(I)Z" } : MethodName) ({ cls := "BrigadePagers", name := "wouldAnswer", desc := "(I)Z" } : MethodName) ∈ lw_tbl := tq6 (i := 126) rfl
theorem tw1327 : Cond.code ({ cls := "BrigadePagers", name := "wouldAnswer", desc := "(I)Z" } : MethodName) prog_1_method_42_code (2 : Nat) (Option.some .boolean) ∈ lw_tbl := tq6 (i := 127) rfl
theorem tw1328 : Cond.methodLink "BrigadePagersLaw" (316 : Nat) ({ cls := "BrigadePagersLaw", name := "mostEngines", desc := "(LBrigadePagers;I[J)I" } : MethodName) ∈ lw_tbl := tq6 (i := 128) rfl
theorem tw1329 : Cond.static ({ cls := "BrigadePagersLaw", name := "mostEngines", desc := "(LBrigadePagers;I[J)I" } : MethodName) ∈ lw_tbl := tq6 (i := 129) rfl
theorem tw1330 : Cond.codeWith ({ cls := "BrigadePagersLaw", name := "mostEngines", desc := "(LBrigadePagers;I[J)I" } : MethodName) method_39_code (4 : Nat) (Option.some .int) [((0 : Nat), (9 : Nat), (12 : Nat), (19 : Nat))] ∈ lw_tbl := tq6 (i := 130) rfl
theorem tw1331 : Cond.methodLink "BrigadePagersLaw" (131 : Nat) ({ cls := "BrigadePagers", name := "mostEngines", desc := "(I)I" } : MethodName) ∈ lw_tbl := tq6 (i := 131) rfl
theorem tw1332 : Cond.instanceMethod ({ cls := "BrigadePagers", name := "mostEngines", desc := "(I)I" } : MethodName) ∈ lw_tbl := tq6 (i := 132) rfl
theorem tw1333 : Cond.selects "BrigadePagers" ({ cls := "BrigadePagers", name := "mostEngines", desc := "(I)I" } : MethodName) ({ cls := "BrigadePagers", name := "mostEngines", desc := "(I)I" } : MethodName) ∈ lw_tbl := tq6 (i := 133) rfl
theorem tw1334 : Cond.code ({ cls := "BrigadePagers", name := "mostEngines", desc := "(I)I" } : MethodName) prog_1_method_43_code (2 : Nat) (Option.some .int) ∈ lw_tbl := tq6 (i := 134) rfl
theorem tw1335 : Cond.methodLinkNest "BrigadePagers" (326 : Nat) ({ cls := "BrigadePagers$Muster", name := "mostTogether", desc := "(LBrigadePagers$Kind;)I" } : MethodName) "BrigadePagers" ∈ lw_tbl := tq6 (i := 135) rfl
theorem tw1337 : Cond.instanceMethod ({ cls := "BrigadePagers$Muster", name := "mostTogether", desc := "(LBrigadePagers$Kind;)I" } : MethodName) ∈ lw_tbl := tq6 (i := 137) rfl
theorem tw1338 : Cond.code ({ cls := "BrigadePagers$Muster", name := "mostTogether", desc := "(LBrigadePagers$Kind;)I" } : MethodName) prog_6_method_11_code (4 : Nat) (Option.some .int) ∈ lw_tbl := tq6 (i := 138) rfl
theorem tw1339 : Cond.methodLink "BrigadePagers$Muster" (157 : Nat) ({ cls := "java/lang/Integer", name := "bitCount", desc := "(I)I" } : MethodName) ∈ lw_tbl := tq6 (i := 139) rfl
theorem tw1340 : Cond.methodLink "BrigadePagers$Muster" (162 : Nat) ({ cls := "BrigadePagers$Muster", name := "couldLeaveTogether", desc := "(LBrigadePagers$Kind;I)Z" } : MethodName) ∈ lw_tbl := tq6 (i := 140) rfl
theorem tw1342 : Cond.instanceMethod ({ cls := "BrigadePagers$Muster", name := "couldLeaveTogether", desc := "(LBrigadePagers$Kind;I)Z" } : MethodName) ∈ lw_tbl := tq6 (i := 142) rfl
theorem tw1343 : Cond.code ({ cls := "BrigadePagers$Muster", name := "couldLeaveTogether", desc := "(LBrigadePagers$Kind;I)Z" } : MethodName) prog_6_method_12_code (6 : Nat) (Option.some .boolean) ∈ lw_tbl := tq6 (i := 143) rfl
theorem tw1344 : Cond.methodLink "BrigadePagers$Muster" (166 : Nat) ({ cls := "java/util/Arrays", name := "fill", desc := "([II)V" } : MethodName) ∈ lw_tbl := tq6 (i := 144) rfl
theorem tw1345 : Cond.methodLink "BrigadePagersLaw" (319 : Nat) ({ cls := "BrigadePagersLaw", name := "hoursUntilAnswered", desc := "(LBrigadePagers;I[J)I" } : MethodName) ∈ lw_tbl := tq6 (i := 145) rfl
theorem tw1346 : Cond.static ({ cls := "BrigadePagersLaw", name := "hoursUntilAnswered", desc := "(LBrigadePagers;I[J)I" } : MethodName) ∈ lw_tbl := tq6 (i := 146) rfl
theorem tw1347 : Cond.codeWith ({ cls := "BrigadePagersLaw", name := "hoursUntilAnswered", desc := "(LBrigadePagers;I[J)I" } : MethodName) method_40_code (4 : Nat) (Option.some .int) [((0 : Nat), (9 : Nat), (12 : Nat), (19 : Nat)), ((0 : Nat), (9 : Nat), (15 : Nat), (30 : Nat))] ∈ lw_tbl := tq6 (i := 147) rfl
theorem tw1348 : Cond.methodLink "BrigadePagersLaw" (134 : Nat) ({ cls := "BrigadePagers", name := "hoursUntilAnswered", desc := "(I)I" } : MethodName) ∈ lw_tbl := tq6 (i := 148) rfl
theorem tw1349 : Cond.instanceMethod ({ cls := "BrigadePagers", name := "hoursUntilAnswered", desc := "(I)I" } : MethodName) ∈ lw_tbl := tq6 (i := 149) rfl
theorem tw1350 : Cond.selects "BrigadePagers" ({ cls := "BrigadePagers", name := "hoursUntilAnswered", desc := "(I)I" } : MethodName) ({ cls := "BrigadePagers", name := "hoursUntilAnswered", desc := "(I)I" } : MethodName) ∈ lw_tbl := tq6 (i := 150) rfl
theorem tw1351 : Cond.code ({ cls := "BrigadePagers", name := "hoursUntilAnswered", desc := "(I)I" } : MethodName) prog_1_method_44_code (3 : Nat) (Option.some .int) ∈ lw_tbl := tq6 (i := 151) rfl
theorem tw1352 : Cond.methodLinkNest "BrigadePagers" (330 : Nat) ({ cls := "BrigadePagers$State", name := "copyFrom", desc := "(LBrigadePagers$State;)V" } : MethodName) "BrigadePagers" ∈ lw_tbl := tq6 (i := 152) rfl
theorem tw1354 : Cond.instanceMethod ({ cls := "BrigadePagers$State", name := "copyFrom", desc := "(LBrigadePagers$State;)V" } : MethodName) ∈ lw_tbl := tq6 (i := 154) rfl
theorem tw1355 : Cond.code ({ cls := "BrigadePagers$State", name := "copyFrom", desc := "(LBrigadePagers$State;)V" } : MethodName) prog_12_method_3_code (2 : Nat) (Option.none : Option ClassFile.FieldType) ∈ lw_tbl := tq6 (i := 155) rfl
theorem tw1356 : Cond.methodLinkNest "BrigadePagers$State" (103 : Nat) ({ cls := "BrigadePagers", name := "copyAll", desc := "([I[I)V" } : MethodName) "BrigadePagers" ∈ lw_tbl := tq6 (i := 156) rfl
theorem tw1357 : Cond.methodLinkNest "BrigadePagers$State" (107 : Nat) ({ cls := "BrigadePagers$CallLog", name := "copyFrom", desc := "(LBrigadePagers$CallLog;)V" } : MethodName) "BrigadePagers" ∈ lw_tbl := tq6 (i := 157) rfl
theorem tw1359 : Cond.instanceMethod ({ cls := "BrigadePagers$CallLog", name := "copyFrom", desc := "(LBrigadePagers$CallLog;)V" } : MethodName) ∈ lw_tbl := tq6 (i := 159) rfl
theorem tw1360 : Cond.code ({ cls := "BrigadePagers$CallLog", name := "copyFrom", desc := "(LBrigadePagers$CallLog;)V" } : MethodName) prog_2_method_2_code (2 : Nat) (Option.none : Option ClassFile.FieldType) ∈ lw_tbl := tq6 (i := 160) rfl
theorem tw1361 : Cond.methodLinkNest "BrigadePagers$CallLog" (34 : Nat) ({ cls := "BrigadePagers", name := "copyAll", desc := "([I[I)V" } : MethodName) "BrigadePagers" ∈ lw_tbl := tq6 (i := 161) rfl
theorem tw1362 : Cond.methodLinkNest "BrigadePagers" (333 : Nat) ({ cls := "BrigadePagers$State", name := "advance", desc := "(I)I" } : MethodName) "BrigadePagers" ∈ lw_tbl := tq6 (i := 162) rfl
theorem tw1364 : Cond.instanceMethod ({ cls := "BrigadePagers$State", name := "advance", desc := "(I)I" } : MethodName) ∈ lw_tbl := tq6 (i := 164) rfl
theorem tw1365 : Cond.code ({ cls := "BrigadePagers$State", name := "advance", desc := "(I)I" } : MethodName) prog_12_method_24_code (5 : Nat) (Option.some .int) ∈ lw_tbl := tq6 (i := 165) rfl
theorem tw1366 : Cond.methodLink "BrigadePagers$State" (191 : Nat) ({ cls := "BrigadePagers$State", name := "isEngineOut", desc := "(I)Z" } : MethodName) ∈ lw_tbl := tq6 (i := 166) rfl
theorem tw1367 : Cond.methodLink "BrigadePagers$State" (194 : Nat) ({ cls := "BrigadePagers$State", name := "growTrustIn", desc := "(I)V" } : MethodName) ∈ lw_tbl := tq6 (i := 167) rfl
theorem tw1369 : Cond.instanceMethod ({ cls := "BrigadePagers$State", name := "growTrustIn", desc := "(I)V" } : MethodName) ∈ lw_tbl := tq6 (i := 169) rfl
theorem tw1370 : Cond.code ({ cls := "BrigadePagers$State", name := "growTrustIn", desc := "(I)V" } : MethodName) prog_12_method_25_code (4 : Nat) (Option.none : Option ClassFile.FieldType) ∈ lw_tbl := tq6 (i := 170) rfl
theorem tw1371 : Cond.methodLink "BrigadePagers$State" (198 : Nat) ({ cls := "BrigadePagers$State", name := "shiftTrust", desc := "(III)V" } : MethodName) ∈ lw_tbl := tq6 (i := 171) rfl
theorem tw1373 : Cond.instanceMethod ({ cls := "BrigadePagers$State", name := "shiftTrust", desc := "(III)V" } : MethodName) ∈ lw_tbl := tq6 (i := 173) rfl
theorem tw1374 : Cond.code ({ cls := "BrigadePagers$State", name := "shiftTrust", desc := "(III)V" } : MethodName) prog_12_method_10_code (5 : Nat) (Option.none : Option ClassFile.FieldType) ∈ lw_tbl := tq6 (i := 174) rfl
theorem tw1376 : Cond.methodLink "BrigadePagersLaw" (322 : Nat) ({ cls := "BrigadePagersLaw", name := "helpfulPager", desc := "(LBrigadePagers;I[J)I" } : MethodName) ∈ lw_tbl := tq6 (i := 176) rfl
theorem tw1377 : Cond.static ({ cls := "BrigadePagersLaw", name := "helpfulPager", desc := "(LBrigadePagers;I[J)I" } : MethodName) ∈ lw_tbl := tq6 (i := 177) rfl
theorem tw1378 : Cond.codeWith ({ cls := "BrigadePagersLaw", name := "helpfulPager", desc := "(LBrigadePagers;I[J)I" } : MethodName) method_41_code (4 : Nat) (Option.some .int) [((0 : Nat), (9 : Nat), (12 : Nat), (19 : Nat)), ((0 : Nat), (9 : Nat), (15 : Nat), (13 : Nat)), ((0 : Nat), (9 : Nat), (18 : Nat), (30 : Nat))] ∈ lw_tbl := tq6 (i := 178) rfl
theorem tw1379 : Cond.methodLink "BrigadePagersLaw" (137 : Nat) ({ cls := "BrigadePagers", name := "helpfulPager", desc := "(I)I" } : MethodName) ∈ lw_tbl := tq6 (i := 179) rfl
theorem tw1380 : Cond.instanceMethod ({ cls := "BrigadePagers", name := "helpfulPager", desc := "(I)I" } : MethodName) ∈ lw_tbl := tq6 (i := 180) rfl
theorem tw1381 : Cond.selects "BrigadePagers" ({ cls := "BrigadePagers", name := "helpfulPager", desc := "(I)I" } : MethodName) ({ cls := "BrigadePagers", name := "helpfulPager", desc := "(I)I" } : MethodName) ∈ lw_tbl := tq6 (i := 181) rfl
theorem tw1382 : Cond.code ({ cls := "BrigadePagers", name := "helpfulPager", desc := "(I)I" } : MethodName) prog_1_method_45_code (2 : Nat) (Option.some .int) ∈ lw_tbl := tq6 (i := 182) rfl
theorem tw1383 : Cond.methodLink "BrigadePagers" (338 : Nat) ({ cls := "BrigadePagers", name := "helpfulHandOn", desc := "(I)I" } : MethodName) ∈ lw_tbl := tq6 (i := 183) rfl
theorem tw1385 : Cond.instanceMethod ({ cls := "BrigadePagers", name := "helpfulHandOn", desc := "(I)I" } : MethodName) ∈ lw_tbl := tq6 (i := 185) rfl
theorem tw1386 : Cond.code ({ cls := "BrigadePagers", name := "helpfulHandOn", desc := "(I)I" } : MethodName) prog_1_method_47_code (6 : Nat) (Option.some .int) ∈ lw_tbl := tq6 (i := 186) rfl
theorem tw1388 : Cond.methodLinkNest "BrigadePagers" (346 : Nat) ({ cls := "BrigadePagers$State", name := "addHandOn", desc := "(III)V" } : MethodName) "BrigadePagers" ∈ lw_tbl := tq6 (i := 188) rfl
theorem tw1390 : Cond.instanceMethod ({ cls := "BrigadePagers$State", name := "addHandOn", desc := "(III)V" } : MethodName) ∈ lw_tbl := tq6 (i := 190) rfl
theorem tw1391 : Cond.code ({ cls := "BrigadePagers$State", name := "addHandOn", desc := "(III)V" } : MethodName) prog_12_method_20_code (4 : Nat) (Option.none : Option ClassFile.FieldType) ∈ lw_tbl := tq6 (i := 191) rfl
theorem tw1392 : Cond.methodLinkNest "BrigadePagers" (350 : Nat) ({ cls := "BrigadePagers$State", name := "dropHandOn", desc := "(I)V" } : MethodName) "BrigadePagers" ∈ lw_tbl := tq6 (i := 192) rfl
theorem tw1394 : Cond.instanceMethod ({ cls := "BrigadePagers$State", name := "dropHandOn", desc := "(I)V" } : MethodName) ∈ lw_tbl := tq6 (i := 194) rfl
theorem tw1395 : Cond.code ({ cls := "BrigadePagers$State", name := "dropHandOn", desc := "(I)V" } : MethodName) prog_12_method_21_code (2 : Nat) (Option.none : Option ClassFile.FieldType) ∈ lw_tbl := tq6 (i := 195) rfl
theorem tw1397 : Cond.methodLink "BrigadePagersLaw" (325 : Nat) ({ cls := "BrigadePagersLaw", name := "helpfulPerson", desc := "(LBrigadePagers;I[J)I" } : MethodName) ∈ lw_tbl := tq6 (i := 197) rfl
theorem tw1398 : Cond.static ({ cls := "BrigadePagersLaw", name := "helpfulPerson", desc := "(LBrigadePagers;I[J)I" } : MethodName) ∈ lw_tbl := tq6 (i := 198) rfl
theorem tw1399 : Cond.codeWith ({ cls := "BrigadePagersLaw", name := "helpfulPerson", desc := "(LBrigadePagers;I[J)I" } : MethodName) method_42_code (4 : Nat) (Option.some .int) [((0 : Nat), (9 : Nat), (12 : Nat), (19 : Nat)), ((0 : Nat), (9 : Nat), (15 : Nat), (13 : Nat)), ((0 : Nat), (9 : Nat), (18 : Nat), (30 : Nat))] ∈ lw_tbl := tq6 (i := 199) rfl
theorem tw1400 : Cond.methodLink "BrigadePagersLaw" (140 : Nat) ({ cls := "BrigadePagers", name := "helpfulPerson", desc := "(I)I" } : MethodName) ∈ lw_tbl := tq6 (i := 200) rfl
theorem tw1401 : Cond.instanceMethod ({ cls := "BrigadePagers", name := "helpfulPerson", desc := "(I)I" } : MethodName) ∈ lw_tbl := tq6 (i := 201) rfl
theorem tw1402 : Cond.selects "BrigadePagers" ({ cls := "BrigadePagers", name := "helpfulPerson", desc := "(I)I" } : MethodName) ({ cls := "BrigadePagers", name := "helpfulPerson", desc := "(I)I" } : MethodName) ∈ lw_tbl := tq6 (i := 202) rfl
theorem tw1403 : Cond.code ({ cls := "BrigadePagers", name := "helpfulPerson", desc := "(I)I" } : MethodName) prog_1_method_46_code (2 : Nat) (Option.some .int) ∈ lw_tbl := tq6 (i := 203) rfl
theorem tw1404 : Cond.methodLink "BrigadePagersLaw" (328 : Nat) ({ cls := "BrigadePagersLaw", name := "call", desc := "(LBrigadePagers;I[J)I" } : MethodName) ∈ lw_tbl := tq6 (i := 204) rfl
theorem tw1405 : Cond.static ({ cls := "BrigadePagersLaw", name := "call", desc := "(LBrigadePagers;I[J)I" } : MethodName) ∈ lw_tbl := tq6 (i := 205) rfl
theorem tw1406 : Cond.codeWith ({ cls := "BrigadePagersLaw", name := "call", desc := "(LBrigadePagers;I[J)I" } : MethodName) method_43_code (4 : Nat) (Option.some .int) [((0 : Nat), (9 : Nat), (12 : Nat), (19 : Nat)), ((0 : Nat), (9 : Nat), (15 : Nat), (13 : Nat))] ∈ lw_tbl := tq6 (i := 206) rfl
theorem tw1407 : Cond.methodLink "BrigadePagersLaw" (143 : Nat) ({ cls := "BrigadePagers", name := "call", desc := "(I)I" } : MethodName) ∈ lw_tbl := tq6 (i := 207) rfl
theorem tw1408 : Cond.instanceMethod ({ cls := "BrigadePagers", name := "call", desc := "(I)I" } : MethodName) ∈ lw_tbl := tq6 (i := 208) rfl
theorem tw1409 : Cond.selects "BrigadePagers" ({ cls := "BrigadePagers", name := "call", desc := "(I)I" } : MethodName) ({ cls := "BrigadePagers", name := "call", desc := "(I)I" } : MethodName) ∈ lw_tbl := tq6 (i := 209) rfl
theorem tw1410 : Cond.code ({ cls := "BrigadePagers", name := "call", desc := "(I)I" } : MethodName) prog_1_method_48_code (2 : Nat) (Option.some .int) ∈ lw_tbl := tq6 (i := 210) rfl
theorem tw1412 : Cond.methodLinkNest "BrigadePagers" (357 : Nat) ({ cls := "BrigadePagers$History", name := "keep", desc := "(LBrigadePagers$State;)V" } : MethodName) "BrigadePagers" ∈ lw_tbl := tq6 (i := 212) rfl
theorem tw1414 : Cond.instanceMethod ({ cls := "BrigadePagers$History", name := "keep", desc := "(LBrigadePagers$State;)V" } : MethodName) ∈ lw_tbl := tq6 (i := 214) rfl
theorem tw1415 : Cond.code ({ cls := "BrigadePagers$History", name := "keep", desc := "(LBrigadePagers$State;)V" } : MethodName) prog_4_method_3_code (2 : Nat) (Option.none : Option ClassFile.FieldType) ∈ lw_tbl := tq6 (i := 215) rfl
theorem tw1416 : Cond.methodLink "BrigadePagers$History" (31 : Nat) ({ cls := "BrigadePagers$History", name := "forgetOldest", desc := "()V" } : MethodName) ∈ lw_tbl := tq6 (i := 216) rfl
theorem tw1418 : Cond.instanceMethod ({ cls := "BrigadePagers$History", name := "forgetOldest", desc := "()V" } : MethodName) ∈ lw_tbl := tq6 (i := 218) rfl
theorem tw1419 : Cond.code ({ cls := "BrigadePagers$History", name := "forgetOldest", desc := "()V" } : MethodName) prog_4_method_4_code (3 : Nat) (Option.none : Option ClassFile.FieldType) ∈ lw_tbl := tq6 (i := 219) rfl
theorem tw1420 : Cond.methodLinkNest "BrigadePagers$History" (34 : Nat) ({ cls := "BrigadePagers$State", name := "copyFrom", desc := "(LBrigadePagers$State;)V" } : MethodName) "BrigadePagers" ∈ lw_tbl := tq6 (i := 220) rfl
theorem tw1421 : Cond.methodLinkNest "BrigadePagers" (360 : Nat) ({ cls := "BrigadePagers$Muster", name := "carryOut", desc := "(LBrigadePagers$Kind;)I" } : MethodName) "BrigadePagers" ∈ lw_tbl := tq6 (i := 221) rfl
theorem tw1423 : Cond.instanceMethod ({ cls := "BrigadePagers$Muster", name := "carryOut", desc := "(LBrigadePagers$Kind;)I" } : MethodName) ∈ lw_tbl := tq6 (i := 223) rfl
theorem tw1424 : Cond.code ({ cls := "BrigadePagers$Muster", name := "carryOut", desc := "(LBrigadePagers$Kind;)I" } : MethodName) prog_6_method_13_code (6 : Nat) (Option.some .int) ∈ lw_tbl := tq6 (i := 224) rfl
theorem tw1425 : Cond.methodLink "BrigadePagers$Muster" (172 : Nat) ({ cls := "BrigadePagers$Muster", name := "loseTrust", desc := "(LBrigadePagers$Kind;)V" } : MethodName) ∈ lw_tbl := tq6 (i := 225) rfl
theorem tw1427 : Cond.instanceMethod ({ cls := "BrigadePagers$Muster", name := "loseTrust", desc := "(LBrigadePagers$Kind;)V" } : MethodName) ∈ lw_tbl := tq6 (i := 227) rfl
theorem tw1428 : Cond.code ({ cls := "BrigadePagers$Muster", name := "loseTrust", desc := "(LBrigadePagers$Kind;)V" } : MethodName) prog_6_method_14_code (6 : Nat) (Option.none : Option ClassFile.FieldType) ∈ lw_tbl := tq6 (i := 228) rfl
theorem tw1429 : Cond.methodLinkNest "BrigadePagers$Muster" (208 : Nat) ({ cls := "BrigadePagers$State", name := "chainPerson", desc := "(II)I" } : MethodName) "BrigadePagers" ∈ lw_tbl := tq6 (i := 229) rfl
theorem tw1430 : Cond.methodLinkNest "BrigadePagers$Muster" (211 : Nat) ({ cls := "BrigadePagers$State", name := "shiftTrust", desc := "(III)V" } : MethodName) "BrigadePagers" ∈ lw_tbl := tq6 (i := 230) rfl
theorem tw1431 : Cond.methodLinkNest "BrigadePagers$Muster" (179 : Nat) ({ cls := "BrigadePagers$CallLog", name := "open", desc := "(I)V" } : MethodName) "BrigadePagers" ∈ lw_tbl := tq6 (i := 231) rfl
theorem tw1433 : Cond.instanceMethod ({ cls := "BrigadePagers$CallLog", name := "open", desc := "(I)V" } : MethodName) ∈ lw_tbl := tq6 (i := 233) rfl
theorem tw1434 : Cond.code ({ cls := "BrigadePagers$CallLog", name := "open", desc := "(I)V" } : MethodName) prog_2_method_3_code (2 : Nat) (Option.none : Option ClassFile.FieldType) ∈ lw_tbl := tq6 (i := 234) rfl
theorem tw1435 : Cond.methodLink "BrigadePagers$Muster" (185 : Nat) ({ cls := "BrigadePagers$Muster", name := "sendEngine", desc := "(LBrigadePagers$Kind;I)I" } : MethodName) ∈ lw_tbl := tq6 (i := 235) rfl
theorem tw1437 : Cond.instanceMethod ({ cls := "BrigadePagers$Muster", name := "sendEngine", desc := "(LBrigadePagers$Kind;I)I" } : MethodName) ∈ lw_tbl := tq6 (i := 237) rfl
theorem tw1438 : Cond.code ({ cls := "BrigadePagers$Muster", name := "sendEngine", desc := "(LBrigadePagers$Kind;I)I" } : MethodName) prog_6_method_15_code (8 : Nat) (Option.some .int) ∈ lw_tbl := tq6 (i := 238) rfl
theorem tw1439 : Cond.methodLinkNest "BrigadePagers$Muster" (225 : Nat) ({ cls := "BrigadePagers$CallLog", name := "addLeaver", desc := "(III)V" } : MethodName) "BrigadePagers" ∈ lw_tbl := tq6 (i := 239) rfl
theorem tw1441 : Cond.instanceMethod ({ cls := "BrigadePagers$CallLog", name := "addLeaver", desc := "(III)V" } : MethodName) ∈ lw_tbl := tq7 (i := 1) rfl
theorem tw1442 : Cond.code ({ cls := "BrigadePagers$CallLog", name := "addLeaver", desc := "(III)V" } : MethodName) prog_2_method_4_code (5 : Nat) (Option.none : Option ClassFile.FieldType) ∈ lw_tbl := tq7 (i := 2) rfl
theorem tw1443 : Cond.methodLinkNest "BrigadePagers$Muster" (198 : Nat) ({ cls := "BrigadePagers$State", name := "sendAway", desc := "(II)I" } : MethodName) "BrigadePagers" ∈ lw_tbl := tq7 (i := 3) rfl
theorem tw1445 : Cond.instanceMethod ({ cls := "BrigadePagers$State", name := "sendAway", desc := "(II)I" } : MethodName) ∈ lw_tbl := tq7 (i := 5) rfl
theorem tw1446 : Cond.code ({ cls := "BrigadePagers$State", name := "sendAway", desc := "(II)I" } : MethodName) prog_12_method_11_code (4 : Nat) (Option.some .int) ∈ lw_tbl := tq7 (i := 6) rfl
theorem tw1447 : Cond.methodLinkNest "BrigadePagers$Muster" (201 : Nat) ({ cls := "BrigadePagers$CallLog", name := "close", desc := "(IZ)I" } : MethodName) "BrigadePagers" ∈ lw_tbl := tq7 (i := 7) rfl
theorem tw1449 : Cond.instanceMethod ({ cls := "BrigadePagers$CallLog", name := "close", desc := "(IZ)I" } : MethodName) ∈ lw_tbl := tq7 (i := 9) rfl
theorem tw1450 : Cond.code ({ cls := "BrigadePagers$CallLog", name := "close", desc := "(IZ)I" } : MethodName) prog_2_method_5_code (3 : Nat) (Option.some .int) ∈ lw_tbl := tq7 (i := 10) rfl
theorem tw1451 : Cond.methodLink "BrigadePagersLaw" (331 : Nat) ({ cls := "BrigadePagersLaw", name := "handOn", desc := "(LBrigadePagers;III[J)I" } : MethodName) ∈ lw_tbl := tq7 (i := 11) rfl
theorem tw1452 : Cond.static ({ cls := "BrigadePagersLaw", name := "handOn", desc := "(LBrigadePagers;III[J)I" } : MethodName) ∈ lw_tbl := tq7 (i := 12) rfl
theorem tw1453 : Cond.codeWith ({ cls := "BrigadePagersLaw", name := "handOn", desc := "(LBrigadePagers;III[J)I" } : MethodName) method_44_code (6 : Nat) (Option.some .int) [((0 : Nat), (12 : Nat), (15 : Nat), (19 : Nat)), ((0 : Nat), (12 : Nat), (19 : Nat), (13 : Nat))] ∈ lw_tbl := tq7 (i := 13) rfl
theorem tw1454 : Cond.methodLink "BrigadePagersLaw" (146 : Nat) ({ cls := "BrigadePagers", name := "handOn", desc := "(III)I" } : MethodName) ∈ lw_tbl := tq7 (i := 14) rfl
theorem tw1455 : Cond.instanceMethod ({ cls := "BrigadePagers", name := "handOn", desc := "(III)I" } : MethodName) ∈ lw_tbl := tq7 (i := 15) rfl
theorem tw1456 : Cond.selects "BrigadePagers" ({ cls := "BrigadePagers", name := "handOn", desc := "(III)I" } : MethodName) ({ cls := "BrigadePagers", name := "handOn", desc := "(III)I" } : MethodName) ∈ lw_tbl := tq7 (i := 16) rfl
theorem tw1457 : Cond.code ({ cls := "BrigadePagers", name := "handOn", desc := "(III)I" } : MethodName) prog_1_method_49_code (4 : Nat) (Option.some .int) ∈ lw_tbl := tq7 (i := 17) rfl
theorem tw1459 : Cond.methodLink "BrigadePagersLaw" (334 : Nat) ({ cls := "BrigadePagersLaw", name := "giveBack", desc := "(LBrigadePagers;I[J)I" } : MethodName) ∈ lw_tbl := tq7 (i := 19) rfl
theorem tw1460 : Cond.static ({ cls := "BrigadePagersLaw", name := "giveBack", desc := "(LBrigadePagers;I[J)I" } : MethodName) ∈ lw_tbl := tq7 (i := 20) rfl
theorem tw1461 : Cond.codeWith ({ cls := "BrigadePagersLaw", name := "giveBack", desc := "(LBrigadePagers;I[J)I" } : MethodName) method_45_code (4 : Nat) (Option.some .int) [((0 : Nat), (9 : Nat), (12 : Nat), (19 : Nat)), ((0 : Nat), (9 : Nat), (15 : Nat), (13 : Nat))] ∈ lw_tbl := tq7 (i := 21) rfl
theorem tw1462 : Cond.methodLink "BrigadePagersLaw" (149 : Nat) ({ cls := "BrigadePagers", name := "giveBack", desc := "(I)I" } : MethodName) ∈ lw_tbl := tq7 (i := 22) rfl
theorem tw1463 : Cond.instanceMethod ({ cls := "BrigadePagers", name := "giveBack", desc := "(I)I" } : MethodName) ∈ lw_tbl := tq7 (i := 23) rfl
theorem tw1464 : Cond.selects "BrigadePagers" ({ cls := "BrigadePagers", name := "giveBack", desc := "(I)I" } : MethodName) ({ cls := "BrigadePagers", name := "giveBack", desc := "(I)I" } : MethodName) ∈ lw_tbl := tq7 (i := 24) rfl
theorem tw1465 : Cond.code ({ cls := "BrigadePagers", name := "giveBack", desc := "(I)I" } : MethodName) prog_1_method_50_code (2 : Nat) (Option.some .int) ∈ lw_tbl := tq7 (i := 25) rfl
theorem tw1467 : Cond.methodLink "BrigadePagersLaw" (337 : Nat) ({ cls := "BrigadePagersLaw", name := "pass", desc := "(LBrigadePagers;I[J)I" } : MethodName) ∈ lw_tbl := tq7 (i := 27) rfl
theorem tw1468 : Cond.static ({ cls := "BrigadePagersLaw", name := "pass", desc := "(LBrigadePagers;I[J)I" } : MethodName) ∈ lw_tbl := tq7 (i := 28) rfl
theorem tw1469 : Cond.codeWith ({ cls := "BrigadePagersLaw", name := "pass", desc := "(LBrigadePagers;I[J)I" } : MethodName) method_46_code (4 : Nat) (Option.some .int) [((0 : Nat), (9 : Nat), (12 : Nat), (25 : Nat)), ((0 : Nat), (9 : Nat), (15 : Nat), (13 : Nat))] ∈ lw_tbl := tq7 (i := 29) rfl
theorem tw1470 : Cond.methodLink "BrigadePagersLaw" (152 : Nat) ({ cls := "BrigadePagers", name := "pass", desc := "(I)I" } : MethodName) ∈ lw_tbl := tq7 (i := 30) rfl
theorem tw1471 : Cond.instanceMethod ({ cls := "BrigadePagers", name := "pass", desc := "(I)I" } : MethodName) ∈ lw_tbl := tq7 (i := 31) rfl
theorem tw1472 : Cond.selects "BrigadePagers" ({ cls := "BrigadePagers", name := "pass", desc := "(I)I" } : MethodName) ({ cls := "BrigadePagers", name := "pass", desc := "(I)I" } : MethodName) ∈ lw_tbl := tq7 (i := 32) rfl
theorem tw1473 : Cond.code ({ cls := "BrigadePagers", name := "pass", desc := "(I)I" } : MethodName) prog_1_method_51_code (2 : Nat) (Option.some .int) ∈ lw_tbl := tq7 (i := 33) rfl
theorem tw1475 : Cond.methodLink "BrigadePagersLaw" (340 : Nat) ({ cls := "BrigadePagersLaw", name := "swapPlaces", desc := "(LBrigadePagers;III[J)I" } : MethodName) ∈ lw_tbl := tq7 (i := 35) rfl
theorem tw1476 : Cond.static ({ cls := "BrigadePagersLaw", name := "swapPlaces", desc := "(LBrigadePagers;III[J)I" } : MethodName) ∈ lw_tbl := tq7 (i := 36) rfl
theorem tw1477 : Cond.codeWith ({ cls := "BrigadePagersLaw", name := "swapPlaces", desc := "(LBrigadePagers;III[J)I" } : MethodName) method_47_code (6 : Nat) (Option.some .int) [((0 : Nat), (12 : Nat), (15 : Nat), (19 : Nat)), ((0 : Nat), (12 : Nat), (19 : Nat), (25 : Nat)), ((0 : Nat), (12 : Nat), (23 : Nat), (13 : Nat))] ∈ lw_tbl := tq7 (i := 37) rfl
theorem tw1478 : Cond.methodLink "BrigadePagersLaw" (155 : Nat) ({ cls := "BrigadePagers", name := "swapPlaces", desc := "(III)I" } : MethodName) ∈ lw_tbl := tq7 (i := 38) rfl
theorem tw1479 : Cond.instanceMethod ({ cls := "BrigadePagers", name := "swapPlaces", desc := "(III)I" } : MethodName) ∈ lw_tbl := tq7 (i := 39) rfl
theorem tw1480 : Cond.selects "BrigadePagers" ({ cls := "BrigadePagers", name := "swapPlaces", desc := "(III)I" } : MethodName) ({ cls := "BrigadePagers", name := "swapPlaces", desc := "(III)I" } : MethodName) ∈ lw_tbl := tq7 (i := 40) rfl
theorem tw1481 : Cond.code ({ cls := "BrigadePagers", name := "swapPlaces", desc := "(III)I" } : MethodName) prog_1_method_52_code (8 : Nat) (Option.some .int) ∈ lw_tbl := tq7 (i := 41) rfl
theorem tw1483 : Cond.methodLinkNest "BrigadePagers" (371 : Nat) ({ cls := "BrigadePagers$State", name := "placeAt", desc := "(II)I" } : MethodName) "BrigadePagers" ∈ lw_tbl := tq7 (i := 43) rfl
theorem tw1485 : Cond.methodLink "BrigadePagersLaw" (343 : Nat) ({ cls := "BrigadePagersLaw", name := "excuse", desc := "(LBrigadePagers;IZ[J)I" } : MethodName) ∈ lw_tbl := tq7 (i := 45) rfl
theorem tw1486 : Cond.static ({ cls := "BrigadePagersLaw", name := "excuse", desc := "(LBrigadePagers;IZ[J)I" } : MethodName) ∈ lw_tbl := tq7 (i := 46) rfl
theorem tw1487 : Cond.codeWith ({ cls := "BrigadePagersLaw", name := "excuse", desc := "(LBrigadePagers;IZ[J)I" } : MethodName) method_48_code (5 : Nat) (Option.some .int) [((0 : Nat), (10 : Nat), (13 : Nat), (19 : Nat))] ∈ lw_tbl := tq7 (i := 47) rfl
theorem tw1488 : Cond.methodLink "BrigadePagersLaw" (158 : Nat) ({ cls := "BrigadePagers", name := "excuse", desc := "(IZ)I" } : MethodName) ∈ lw_tbl := tq7 (i := 48) rfl
theorem tw1489 : Cond.instanceMethod ({ cls := "BrigadePagers", name := "excuse", desc := "(IZ)I" } : MethodName) ∈ lw_tbl := tq7 (i := 49) rfl
theorem tw1490 : Cond.selects "BrigadePagers" ({ cls := "BrigadePagers", name := "excuse", desc := "(IZ)I" } : MethodName) ({ cls := "BrigadePagers", name := "excuse", desc := "(IZ)I" } : MethodName) ∈ lw_tbl := tq7 (i := 50) rfl
theorem tw1491 : Cond.code ({ cls := "BrigadePagers", name := "excuse", desc := "(IZ)I" } : MethodName) prog_1_method_53_code (3 : Nat) (Option.some .int) ∈ lw_tbl := tq7 (i := 51) rfl
theorem tw1492 : Cond.methodLink "BrigadePagers" (379 : Nat) ({ cls := "java/lang/Integer", name := "bitCount", desc := "(I)I" } : MethodName) ∈ lw_tbl := tq7 (i := 52) rfl
theorem tw1493 : Cond.methodLink "BrigadePagersLaw" (347 : Nat) ({ cls := "BrigadePagersLaw", name := "setService", desc := "(LBrigadePagers;IZ[J)I" } : MethodName) ∈ lw_tbl := tq7 (i := 53) rfl
theorem tw1494 : Cond.static ({ cls := "BrigadePagersLaw", name := "setService", desc := "(LBrigadePagers;IZ[J)I" } : MethodName) ∈ lw_tbl := tq7 (i := 54) rfl
theorem tw1495 : Cond.codeWith ({ cls := "BrigadePagersLaw", name := "setService", desc := "(LBrigadePagers;IZ[J)I" } : MethodName) method_49_code (5 : Nat) (Option.some .int) [((0 : Nat), (10 : Nat), (13 : Nat), (19 : Nat)), ((0 : Nat), (10 : Nat), (17 : Nat), (13 : Nat))] ∈ lw_tbl := tq7 (i := 55) rfl
theorem tw1496 : Cond.methodLink "BrigadePagersLaw" (162 : Nat) ({ cls := "BrigadePagers", name := "setService", desc := "(IZ)I" } : MethodName) ∈ lw_tbl := tq7 (i := 56) rfl
theorem tw1497 : Cond.instanceMethod ({ cls := "BrigadePagers", name := "setService", desc := "(IZ)I" } : MethodName) ∈ lw_tbl := tq7 (i := 57) rfl
theorem tw1498 : Cond.selects "BrigadePagers" ({ cls := "BrigadePagers", name := "setService", desc := "(IZ)I" } : MethodName) ({ cls := "BrigadePagers", name := "setService", desc := "(IZ)I" } : MethodName) ∈ lw_tbl := tq7 (i := 58) rfl
theorem tw1499 : Cond.code ({ cls := "BrigadePagers", name := "setService", desc := "(IZ)I" } : MethodName) prog_1_method_54_code (3 : Nat) (Option.some .int) ∈ lw_tbl := tq7 (i := 59) rfl
theorem tw1501 : Cond.methodLink "BrigadePagersLaw" (350 : Nat) ({ cls := "BrigadePagersLaw", name := "setTrust", desc := "(LBrigadePagers;III[J)I" } : MethodName) ∈ lw_tbl := tq7 (i := 61) rfl
theorem tw1502 : Cond.static ({ cls := "BrigadePagersLaw", name := "setTrust", desc := "(LBrigadePagers;III[J)I" } : MethodName) ∈ lw_tbl := tq7 (i := 62) rfl
theorem tw1503 : Cond.codeWith ({ cls := "BrigadePagersLaw", name := "setTrust", desc := "(LBrigadePagers;III[J)I" } : MethodName) method_50_code (6 : Nat) (Option.some .int) [((0 : Nat), (12 : Nat), (15 : Nat), (19 : Nat)), ((0 : Nat), (12 : Nat), (19 : Nat), (25 : Nat))] ∈ lw_tbl := tq7 (i := 63) rfl
theorem tw1504 : Cond.methodLink "BrigadePagersLaw" (165 : Nat) ({ cls := "BrigadePagers", name := "setTrust", desc := "(III)I" } : MethodName) ∈ lw_tbl := tq7 (i := 64) rfl
theorem tw1505 : Cond.instanceMethod ({ cls := "BrigadePagers", name := "setTrust", desc := "(III)I" } : MethodName) ∈ lw_tbl := tq7 (i := 65) rfl
theorem tw1506 : Cond.selects "BrigadePagers" ({ cls := "BrigadePagers", name := "setTrust", desc := "(III)I" } : MethodName) ({ cls := "BrigadePagers", name := "setTrust", desc := "(III)I" } : MethodName) ∈ lw_tbl := tq7 (i := 66) rfl
theorem tw1507 : Cond.code ({ cls := "BrigadePagers", name := "setTrust", desc := "(III)I" } : MethodName) prog_1_method_55_code (5 : Nat) (Option.some .int) ∈ lw_tbl := tq7 (i := 67) rfl
theorem tw1509 : Cond.methodLink "BrigadePagersLaw" (353 : Nat) ({ cls := "BrigadePagersLaw", name := "undo", desc := "(LBrigadePagers;[J)I" } : MethodName) ∈ lw_tbl := tq7 (i := 69) rfl
theorem tw1510 : Cond.static ({ cls := "BrigadePagersLaw", name := "undo", desc := "(LBrigadePagers;[J)I" } : MethodName) ∈ lw_tbl := tq7 (i := 70) rfl
theorem tw1511 : Cond.codeWith ({ cls := "BrigadePagersLaw", name := "undo", desc := "(LBrigadePagers;[J)I" } : MethodName) method_51_code (3 : Nat) (Option.some .int) [((0 : Nat), (8 : Nat), (11 : Nat), (13 : Nat))] ∈ lw_tbl := tq7 (i := 71) rfl
theorem tw1512 : Cond.methodLink "BrigadePagersLaw" (168 : Nat) ({ cls := "BrigadePagers", name := "undo", desc := "()I" } : MethodName) ∈ lw_tbl := tq7 (i := 72) rfl
theorem tw1513 : Cond.instanceMethod ({ cls := "BrigadePagers", name := "undo", desc := "()I" } : MethodName) ∈ lw_tbl := tq7 (i := 73) rfl
theorem tw1514 : Cond.selects "BrigadePagers" ({ cls := "BrigadePagers", name := "undo", desc := "()I" } : MethodName) ({ cls := "BrigadePagers", name := "undo", desc := "()I" } : MethodName) ∈ lw_tbl := tq7 (i := 74) rfl
theorem tw1515 : Cond.code ({ cls := "BrigadePagers", name := "undo", desc := "()I" } : MethodName) prog_1_method_56_code (1 : Nat) (Option.some .int) ∈ lw_tbl := tq7 (i := 75) rfl
theorem tw1517 : Cond.methodLinkNest "BrigadePagers" (396 : Nat) ({ cls := "BrigadePagers$History", name := "takeBack", desc := "(LBrigadePagers$State;)V" } : MethodName) "BrigadePagers" ∈ lw_tbl := tq7 (i := 77) rfl
theorem tw1519 : Cond.instanceMethod ({ cls := "BrigadePagers$History", name := "takeBack", desc := "(LBrigadePagers$State;)V" } : MethodName) ∈ lw_tbl := tq7 (i := 79) rfl
theorem tw1520 : Cond.code ({ cls := "BrigadePagers$History", name := "takeBack", desc := "(LBrigadePagers$State;)V" } : MethodName) prog_4_method_5_code (2 : Nat) (Option.none : Option ClassFile.FieldType) ∈ lw_tbl := tq7 (i := 80) rfl
theorem tw1521 : Cond.methodLink "BrigadePagersLaw" (356 : Nat) ({ cls := "BrigadePagersLaw", name := "save", desc := "(LBrigadePagers;I)I" } : MethodName) ∈ lw_tbl := tq7 (i := 81) rfl
theorem tw1522 : Cond.static ({ cls := "BrigadePagersLaw", name := "save", desc := "(LBrigadePagers;I)I" } : MethodName) ∈ lw_tbl := tq7 (i := 82) rfl
theorem tw1523 : Cond.codeWith ({ cls := "BrigadePagersLaw", name := "save", desc := "(LBrigadePagers;I)I" } : MethodName) method_52_code (3 : Nat) (Option.some .int) [((0 : Nat), (5 : Nat), (8 : Nat), (19 : Nat))] ∈ lw_tbl := tq7 (i := 83) rfl
theorem tw1524 : Cond.methodLink "BrigadePagersLaw" (171 : Nat) ({ cls := "BrigadePagers", name := "save", desc := "(I)V" } : MethodName) ∈ lw_tbl := tq7 (i := 84) rfl
theorem tw1525 : Cond.instanceMethod ({ cls := "BrigadePagers", name := "save", desc := "(I)V" } : MethodName) ∈ lw_tbl := tq7 (i := 85) rfl
theorem tw1526 : Cond.selects "BrigadePagers" ({ cls := "BrigadePagers", name := "save", desc := "(I)V" } : MethodName) ({ cls := "BrigadePagers", name := "save", desc := "(I)V" } : MethodName) ∈ lw_tbl := tq7 (i := 86) rfl
theorem tw1527 : Cond.code ({ cls := "BrigadePagers", name := "save", desc := "(I)V" } : MethodName) prog_1_method_57_code (2 : Nat) (Option.none : Option ClassFile.FieldType) ∈ lw_tbl := tq7 (i := 87) rfl
theorem tw1528 : Cond.methodLink "BrigadePagers" (399 : Nat) ({ cls := "BrigadePagers", name := "needSlot", desc := "(I)V" } : MethodName) ∈ lw_tbl := tq7 (i := 88) rfl
theorem tw1530 : Cond.instanceMethod ({ cls := "BrigadePagers", name := "needSlot", desc := "(I)V" } : MethodName) ∈ lw_tbl := tq7 (i := 90) rfl
theorem tw1531 : Cond.code ({ cls := "BrigadePagers", name := "needSlot", desc := "(I)V" } : MethodName) prog_1_method_69_code (2 : Nat) (Option.none : Option ClassFile.FieldType) ∈ lw_tbl := tq7 (i := 91) rfl
theorem tw1533 : Cond.methodLink "BrigadePagersLaw" (360 : Nat) ({ cls := "BrigadePagersLaw", name := "restore", desc := "(LBrigadePagers;I)I" } : MethodName) ∈ lw_tbl := tq7 (i := 93) rfl
theorem tw1534 : Cond.static ({ cls := "BrigadePagersLaw", name := "restore", desc := "(LBrigadePagers;I)I" } : MethodName) ∈ lw_tbl := tq7 (i := 94) rfl
theorem tw1535 : Cond.codeWith ({ cls := "BrigadePagersLaw", name := "restore", desc := "(LBrigadePagers;I)I" } : MethodName) method_53_code (3 : Nat) (Option.some .int) [((0 : Nat), (5 : Nat), (8 : Nat), (19 : Nat)), ((0 : Nat), (5 : Nat), (11 : Nat), (30 : Nat))] ∈ lw_tbl := tq7 (i := 95) rfl
theorem tw1536 : Cond.methodLink "BrigadePagersLaw" (175 : Nat) ({ cls := "BrigadePagers", name := "restore", desc := "(I)V" } : MethodName) ∈ lw_tbl := tq7 (i := 96) rfl
theorem tw1537 : Cond.instanceMethod ({ cls := "BrigadePagers", name := "restore", desc := "(I)V" } : MethodName) ∈ lw_tbl := tq7 (i := 97) rfl
theorem tw1538 : Cond.selects "BrigadePagers" ({ cls := "BrigadePagers", name := "restore", desc := "(I)V" } : MethodName) ({ cls := "BrigadePagers", name := "restore", desc := "(I)V" } : MethodName) ∈ lw_tbl := tq7 (i := 98) rfl
theorem tw1539 : Cond.code ({ cls := "BrigadePagers", name := "restore", desc := "(I)V" } : MethodName) prog_1_method_58_code (2 : Nat) (Option.none : Option ClassFile.FieldType) ∈ lw_tbl := tq7 (i := 99) rfl
theorem tw1541 : Cond.classLink "BrigadePagersLaw" (179 : Nat) "BrigadePagersModel" ∈ lw_tbl := tq7 (i := 101) rfl
theorem tw1542 : Cond.instantiable "BrigadePagersModel" (71 : Nat) ∈ lw_tbl := tq7 (i := 102) rfl
theorem tw1543 : Cond.methodLink "BrigadePagersLaw" (181 : Nat) ({ cls := "BrigadePagersModel", name := "<init>", desc := "()V" } : MethodName) ∈ lw_tbl := tq7 (i := 103) rfl
theorem tw1544 : Cond.instanceMethod ({ cls := "BrigadePagersModel", name := "<init>", desc := "()V" } : MethodName) ∈ lw_tbl := tq7 (i := 104) rfl
theorem tw1545 : Cond.code ({ cls := "BrigadePagersModel", name := "<init>", desc := "()V" } : MethodName) prog_14_method_1_code (1 : Nat) (Option.none : Option ClassFile.FieldType) ∈ lw_tbl := tq7 (i := 105) rfl
theorem tw1546 : Cond.methodLink "BrigadePagersModel" (1 : Nat) ({ cls := "java/lang/Object", name := "<init>", desc := "()V" } : MethodName) ∈ lw_tbl := tq7 (i := 106) rfl
theorem tw1547 : Cond.methodLink "BrigadePagersModel" (163 : Nat) ({ cls := "BrigadePagersModel", name := "takesText", desc := "()V" } : MethodName) ∈ lw_tbl := tq7 (i := 107) rfl
theorem tw1549 : Cond.instanceMethod ({ cls := "BrigadePagersModel", name := "takesText", desc := "()V" } : MethodName) ∈ lw_tbl := tq7 (i := 109) rfl
theorem tw1550 : Cond.code ({ cls := "BrigadePagersModel", name := "takesText", desc := "()V" } : MethodName) prog_14_method_29_code (3 : Nat) (Option.none : Option ClassFile.FieldType) ∈ lw_tbl := tq7 (i := 110) rfl
theorem tw1551 : Cond.fieldLink "BrigadePagersModel" (166 : Nat) "BrigadePagersModel" "raised" "I" ∈ lw_tbl := tq7 (i := 111) rfl
theorem tw1552 : Cond.fieldLink "BrigadePagersModel" (7 : Nat) "BrigadePagersModel" "w" "[I" ∈ lw_tbl := tq7 (i := 112) rfl
theorem tw1553 : Cond.fieldLink "BrigadePagersModel" (13 : Nat) "BrigadePagersModel" "undone" "[I" ∈ lw_tbl := tq7 (i := 113) rfl
theorem tw1554 : Cond.fieldLink "BrigadePagersModel" (16 : Nat) "BrigadePagersModel" "slots" "[I" ∈ lw_tbl := tq7 (i := 114) rfl
theorem tw1555 : Cond.fieldLink "BrigadePagersModel" (19 : Nat) "BrigadePagersModel" "aside" "[I" ∈ lw_tbl := tq7 (i := 115) rfl
theorem tw1556 : Cond.fieldLink "BrigadePagersModel" (22 : Nat) "BrigadePagersModel" "isSaved" "[Z" ∈ lw_tbl := tq7 (i := 116) rfl
theorem tw1557 : Cond.fieldLink "BrigadePagersModel" (337 : Nat) "BrigadePagersModel" "undos" "I" ∈ lw_tbl := tq7 (i := 117) rfl
theorem tw1558 : Cond.fieldLink "BrigadePagersModel" (26 : Nat) "BrigadePagersModel" "night" "[I" ∈ lw_tbl := tq7 (i := 118) rfl
theorem tw1559 : Cond.fieldLink "BrigadePagersModel" (325 : Nat) "BrigadePagersModel" "people" "I" ∈ lw_tbl := tq7 (i := 119) rfl
theorem tw1560 : Cond.fieldLink "BrigadePagersModel" (328 : Nat) "BrigadePagersModel" "pagers" "I" ∈ lw_tbl := tq7 (i := 120) rfl
theorem tw1561 : Cond.fieldLink "BrigadePagersModel" (331 : Nat) "BrigadePagersModel" "engines" "I" ∈ lw_tbl := tq7 (i := 121) rfl
theorem tw1562 : Cond.fieldLink "BrigadePagersModel" (334 : Nat) "BrigadePagersModel" "kinds" "I" ∈ lw_tbl := tq7 (i := 122) rfl
theorem tw1563 : Cond.fieldLink "BrigadePagersModel" (29 : Nat) "BrigadePagersModel" "names" "[J" ∈ lw_tbl := tq7 (i := 123) rfl
theorem tw1564 : Cond.fieldLink "BrigadePagersModel" (33 : Nat) "BrigadePagersModel" "travel" "[I" ∈ lw_tbl := tq7 (i := 124) rfl
theorem tw1565 : Cond.fieldLink "BrigadePagersModel" (36 : Nat) "BrigadePagersModel" "skills" "[I" ∈ lw_tbl := tq7 (i := 125) rfl
theorem tw1566 : Cond.fieldLink "BrigadePagersModel" (39 : Nat) "BrigadePagersModel" "demand" "[I" ∈ lw_tbl := tq7 (i := 126) rfl
theorem tw1567 : Cond.fieldLink "BrigadePagersModel" (42 : Nat) "BrigadePagersModel" "turn" "[I" ∈ lw_tbl := tq7 (i := 127) rfl
theorem tw1568 : Cond.fieldLink "BrigadePagersModel" (45 : Nat) "BrigadePagersModel" "places" "[I" ∈ lw_tbl := tq7 (i := 128) rfl
theorem tw1569 : Cond.fieldLink "BrigadePagersModel" (48 : Nat) "BrigadePagersModel" "drive" "[I" ∈ lw_tbl := tq7 (i := 129) rfl
theorem tw1570 : Cond.fieldLink "BrigadePagersModel" (51 : Nat) "BrigadePagersModel" "posts" "[I" ∈ lw_tbl := tq7 (i := 130) rfl
theorem tw1571 : Cond.fieldLink "BrigadePagersModel" (54 : Nat) "BrigadePagersModel" "post" "[I" ∈ lw_tbl := tq7 (i := 131) rfl
theorem tw1572 : Cond.fieldLink "BrigadePagersModel" (57 : Nat) "BrigadePagersModel" "lasts" "[I" ∈ lw_tbl := tq7 (i := 132) rfl
theorem tw1573 : Cond.fieldLink "BrigadePagersModel" (60 : Nat) "BrigadePagersModel" "patience" "[I" ∈ lw_tbl := tq7 (i := 133) rfl
theorem tw1574 : Cond.fieldLink "BrigadePagersModel" (63 : Nat) "BrigadePagersModel" "need" "[I" ∈ lw_tbl := tq7 (i := 134) rfl
theorem tw1575 : Cond.fieldLink "BrigadePagersModel" (66 : Nat) "BrigadePagersModel" "kindPagers" "[I" ∈ lw_tbl := tq7 (i := 135) rfl
theorem tw1576 : Cond.fieldLink "BrigadePagersModel" (69 : Nat) "BrigadePagersModel" "kindPager" "[I" ∈ lw_tbl := tq7 (i := 136) rfl
theorem tw1577 : Cond.fieldLink "BrigadePagersModel" (72 : Nat) "BrigadePagersModel" "kindEngines" "[I" ∈ lw_tbl := tq7 (i := 137) rfl
theorem tw1578 : Cond.fieldLink "BrigadePagersModel" (75 : Nat) "BrigadePagersModel" "kindEngine" "[I" ∈ lw_tbl := tq7 (i := 138) rfl
theorem tw1579 : Cond.fieldLink "BrigadePagersModel" (78 : Nat) "BrigadePagersModel" "text" "[I" ∈ lw_tbl := tq7 (i := 139) rfl
theorem tw1580 : Cond.fieldLink "BrigadePagersModel" (169 : Nat) "BrigadePagersModel" "length" "I" ∈ lw_tbl := tq7 (i := 140) rfl
theorem tw1581 : Cond.fieldLink "BrigadePagersModel" (187 : Nat) "BrigadePagersModel" "at" "I" ∈ lw_tbl := tq7 (i := 141) rfl
theorem tw1582 : Cond.fieldLink "BrigadePagersModel" (184 : Nat) "BrigadePagersModel" "errorCode" "I" ∈ lw_tbl := tq7 (i := 142) rfl
theorem tw1583 : Cond.fieldLink "BrigadePagersModel" (81 : Nat) "BrigadePagersModel" "errorPosition" "I" ∈ lw_tbl := tq7 (i := 143) rfl
theorem tw1584 : Cond.fieldLink "BrigadePagersModel" (180 : Nat) "BrigadePagersModel" "isBad" "Z" ∈ lw_tbl := tq7 (i := 144) rfl
theorem tw1585 : Cond.fieldLink "BrigadePagersModel" (227 : Nat) "BrigadePagersModel" "value" "I" ∈ lw_tbl := tq7 (i := 145) rfl
theorem tw1586 : Cond.fieldLink "BrigadePagersModel" (224 : Nat) "BrigadePagersModel" "valueAt" "I" ∈ lw_tbl := tq7 (i := 146) rfl
theorem tw1587 : Cond.fieldLink "BrigadePagersModel" (233 : Nat) "BrigadePagersModel" "word" "J" ∈ lw_tbl := tq7 (i := 147) rfl
theorem tw1588 : Cond.fieldLink "BrigadePagersModel" (201 : Nat) "BrigadePagersModel" "wordAt" "I" ∈ lw_tbl := tq7 (i := 148) rfl
theorem tw1589 : Cond.fieldLink "BrigadePagersModel" (85 : Nat) "BrigadePagersModel" "newNight" "[I" ∈ lw_tbl := tq7 (i := 149) rfl
theorem tw1590 : Cond.fieldLink "BrigadePagersModel" (256 : Nat) "BrigadePagersModel" "newPeople" "I" ∈ lw_tbl := tq7 (i := 150) rfl
theorem tw1591 : Cond.fieldLink "BrigadePagersModel" (273 : Nat) "BrigadePagersModel" "newTrusts" "I" ∈ lw_tbl := tq7 (i := 151) rfl
theorem tw1592 : Cond.fieldLink "BrigadePagersModel" (276 : Nat) "BrigadePagersModel" "newPagers" "I" ∈ lw_tbl := tq7 (i := 152) rfl
theorem tw1593 : Cond.fieldLink "BrigadePagersModel" (279 : Nat) "BrigadePagersModel" "newEngines" "I" ∈ lw_tbl := tq7 (i := 153) rfl
theorem tw1594 : Cond.fieldLink "BrigadePagersModel" (284 : Nat) "BrigadePagersModel" "newKinds" "I" ∈ lw_tbl := tq7 (i := 154) rfl
theorem tw1595 : Cond.fieldLink "BrigadePagersModel" (88 : Nat) "BrigadePagersModel" "newNames" "[J" ∈ lw_tbl := tq7 (i := 155) rfl
theorem tw1596 : Cond.fieldLink "BrigadePagersModel" (91 : Nat) "BrigadePagersModel" "newTravel" "[I" ∈ lw_tbl := tq7 (i := 156) rfl
theorem tw1597 : Cond.fieldLink "BrigadePagersModel" (94 : Nat) "BrigadePagersModel" "newSkills" "[I" ∈ lw_tbl := tq7 (i := 157) rfl
theorem tw1598 : Cond.fieldLink "BrigadePagersModel" (97 : Nat) "BrigadePagersModel" "newTrust" "[I" ∈ lw_tbl := tq7 (i := 158) rfl
theorem tw1599 : Cond.fieldLink "BrigadePagersModel" (100 : Nat) "BrigadePagersModel" "isTold" "[Z" ∈ lw_tbl := tq7 (i := 159) rfl
theorem tw1600 : Cond.fieldLink "BrigadePagersModel" (103 : Nat) "BrigadePagersModel" "newDemand" "[I" ∈ lw_tbl := tq7 (i := 160) rfl
theorem tw1601 : Cond.fieldLink "BrigadePagersModel" (106 : Nat) "BrigadePagersModel" "newTurn" "[I" ∈ lw_tbl := tq7 (i := 161) rfl
theorem tw1602 : Cond.fieldLink "BrigadePagersModel" (109 : Nat) "BrigadePagersModel" "newPlaces" "[I" ∈ lw_tbl := tq7 (i := 162) rfl
theorem tw1603 : Cond.fieldLink "BrigadePagersModel" (112 : Nat) "BrigadePagersModel" "newPlace" "[I" ∈ lw_tbl := tq7 (i := 163) rfl
theorem tw1604 : Cond.fieldLink "BrigadePagersModel" (115 : Nat) "BrigadePagersModel" "newDrive" "[I" ∈ lw_tbl := tq7 (i := 164) rfl
theorem tw1605 : Cond.fieldLink "BrigadePagersModel" (118 : Nat) "BrigadePagersModel" "newPosts" "[I" ∈ lw_tbl := tq7 (i := 165) rfl
theorem tw1606 : Cond.fieldLink "BrigadePagersModel" (121 : Nat) "BrigadePagersModel" "newPost" "[I" ∈ lw_tbl := tq7 (i := 166) rfl
theorem tw1607 : Cond.fieldLink "BrigadePagersModel" (124 : Nat) "BrigadePagersModel" "newLasts" "[I" ∈ lw_tbl := tq7 (i := 167) rfl
theorem tw1608 : Cond.fieldLink "BrigadePagersModel" (127 : Nat) "BrigadePagersModel" "newPatience" "[I" ∈ lw_tbl := tq7 (i := 168) rfl
theorem tw1609 : Cond.fieldLink "BrigadePagersModel" (130 : Nat) "BrigadePagersModel" "newNeed" "[I" ∈ lw_tbl := tq7 (i := 169) rfl
theorem tw1610 : Cond.fieldLink "BrigadePagersModel" (133 : Nat) "BrigadePagersModel" "newKindPagers" "[I" ∈ lw_tbl := tq7 (i := 170) rfl
theorem tw1611 : Cond.fieldLink "BrigadePagersModel" (136 : Nat) "BrigadePagersModel" "newKindPager" "[I" ∈ lw_tbl := tq7 (i := 171) rfl
theorem tw1612 : Cond.fieldLink "BrigadePagersModel" (139 : Nat) "BrigadePagersModel" "newKindEngines" "[I" ∈ lw_tbl := tq7 (i := 172) rfl
theorem tw1613 : Cond.fieldLink "BrigadePagersModel" (142 : Nat) "BrigadePagersModel" "newKindEngine" "[I" ∈ lw_tbl := tq7 (i := 173) rfl
theorem tw1614 : Cond.fieldLink "BrigadePagersModel" (425 : Nat) "BrigadePagersModel" "comers" "I" ∈ lw_tbl := tq7 (i := 174) rfl
theorem tw1615 : Cond.fieldLink "BrigadePagersModel" (145 : Nat) "BrigadePagersModel" "crews" "[I" ∈ lw_tbl := tq7 (i := 175) rfl
theorem tw1616 : Cond.fieldLink "BrigadePagersModel" (148 : Nat) "BrigadePagersModel" "stays" "[I" ∈ lw_tbl := tq7 (i := 176) rfl
theorem tw1617 : Cond.fieldLink "BrigadePagersModel" (151 : Nat) "BrigadePagersModel" "free" "[I" ∈ lw_tbl := tq7 (i := 177) rfl
theorem tw1618 : Cond.fieldLink "BrigadePagersModel" (154 : Nat) "BrigadePagersModel" "gone" "[I" ∈ lw_tbl := tq7 (i := 178) rfl
theorem tw1619 : Cond.fieldLink "BrigadePagersModel" (431 : Nat) "BrigadePagersModel" "leaving" "I" ∈ lw_tbl := tq7 (i := 179) rfl
theorem tw1620 : Cond.fieldLink "BrigadePagersModel" (157 : Nat) "BrigadePagersModel" "can" "[Z" ∈ lw_tbl := tq7 (i := 180) rfl
theorem tw1621 : Cond.fieldLink "BrigadePagersModel" (160 : Nat) "BrigadePagersModel" "reach" "[Z" ∈ lw_tbl := tq7 (i := 181) rfl
theorem tw1765 : Cond.arrayClass .long ∈ lw_tbl := tq8 (i := 85) rfl
theorem tw1766 : Cond.methodLink "BrigadePagersLaw" (188 : Nat) ({ cls := "BrigadePagersModel", name := "thrown", desc := "()I" } : MethodName) ∈ lw_tbl := tq8 (i := 86) rfl
theorem tw1767 : Cond.instanceMethod ({ cls := "BrigadePagersModel", name := "thrown", desc := "()I" } : MethodName) ∈ lw_tbl := tq8 (i := 87) rfl
theorem tw1768 : Cond.selects "BrigadePagersModel" ({ cls := "BrigadePagersModel", name := "thrown", desc := "()I" } : MethodName) ({ cls := "BrigadePagersModel", name := "thrown", desc := "()I" } : MethodName) ∈ lw_tbl := tq8 (i := 88) rfl
theorem tw1769 : Cond.code ({ cls := "BrigadePagersModel", name := "thrown", desc := "()I" } : MethodName) prog_14_method_2_code (1 : Nat) (Option.some .int) ∈ lw_tbl := tq8 (i := 89) rfl
theorem tw1770 : Cond.methodLink "BrigadePagersLaw" (187 : Nat) ({ cls := "BrigadePagersModel", name := "append", desc := "(IIIII)I" } : MethodName) ∈ lw_tbl := tq8 (i := 90) rfl
theorem tw1771 : Cond.instanceMethod ({ cls := "BrigadePagersModel", name := "append", desc := "(IIIII)I" } : MethodName) ∈ lw_tbl := tq8 (i := 91) rfl
theorem tw1772 : Cond.selects "BrigadePagersModel" ({ cls := "BrigadePagersModel", name := "append", desc := "(IIIII)I" } : MethodName) ({ cls := "BrigadePagersModel", name := "append", desc := "(IIIII)I" } : MethodName) ∈ lw_tbl := tq8 (i := 92) rfl
theorem tw1773 : Cond.code ({ cls := "BrigadePagersModel", name := "append", desc := "(IIIII)I" } : MethodName) prog_14_method_5_code (6 : Nat) (Option.some .int) ∈ lw_tbl := tq8 (i := 93) rfl
theorem tw1774 : Cond.methodLink "BrigadePagersModel" (172 : Nat) ({ cls := "BrigadePagersModel", name := "bytes", desc := "(I)V" } : MethodName) ∈ lw_tbl := tq8 (i := 94) rfl
theorem tw1776 : Cond.instanceMethod ({ cls := "BrigadePagersModel", name := "bytes", desc := "(I)V" } : MethodName) ∈ lw_tbl := tq8 (i := 96) rfl
theorem tw1777 : Cond.code ({ cls := "BrigadePagersModel", name := "bytes", desc := "(I)V" } : MethodName) prog_14_method_4_code (3 : Nat) (Option.none : Option ClassFile.FieldType) ∈ lw_tbl := tq8 (i := 97) rfl
theorem tw1778 : Cond.methodLink "BrigadePagersLaw" (194 : Nat) ({ cls := "BrigadePagersModel", name := "truncate", desc := "(I)I" } : MethodName) ∈ lw_tbl := tq8 (i := 98) rfl
theorem tw1779 : Cond.instanceMethod ({ cls := "BrigadePagersModel", name := "truncate", desc := "(I)I" } : MethodName) ∈ lw_tbl := tq8 (i := 99) rfl
theorem tw1780 : Cond.selects "BrigadePagersModel" ({ cls := "BrigadePagersModel", name := "truncate", desc := "(I)I" } : MethodName) ({ cls := "BrigadePagersModel", name := "truncate", desc := "(I)I" } : MethodName) ∈ lw_tbl := tq8 (i := 100) rfl
theorem tw1781 : Cond.code ({ cls := "BrigadePagersModel", name := "truncate", desc := "(I)I" } : MethodName) prog_14_method_6_code (2 : Nat) (Option.some .int) ∈ lw_tbl := tq8 (i := 101) rfl
theorem tw1782 : Cond.methodLink "BrigadePagersModel" (176 : Nat) ({ cls := "BrigadePagersModel", name := "in", desc := "(JJJ)Z" } : MethodName) ∈ lw_tbl := tq8 (i := 102) rfl
theorem tw1783 : Cond.static ({ cls := "BrigadePagersModel", name := "in", desc := "(JJJ)Z" } : MethodName) ∈ lw_tbl := tq8 (i := 103) rfl
theorem tw1784 : Cond.code ({ cls := "BrigadePagersModel", name := "in", desc := "(JJJ)Z" } : MethodName) prog_14_method_3_code (6 : Nat) (Option.some .boolean) ∈ lw_tbl := tq8 (i := 104) rfl
theorem tw1785 : Cond.methodLink "BrigadePagersLaw" (198 : Nat) ({ cls := "BrigadePagersModel", name := "load", desc := "()I" } : MethodName) ∈ lw_tbl := tq8 (i := 105) rfl
theorem tw1786 : Cond.instanceMethod ({ cls := "BrigadePagersModel", name := "load", desc := "()I" } : MethodName) ∈ lw_tbl := tq8 (i := 106) rfl
theorem tw1787 : Cond.selects "BrigadePagersModel" ({ cls := "BrigadePagersModel", name := "load", desc := "()I" } : MethodName) ({ cls := "BrigadePagersModel", name := "load", desc := "()I" } : MethodName) ∈ lw_tbl := tq8 (i := 107) rfl
theorem tw1788 : Cond.code ({ cls := "BrigadePagersModel", name := "load", desc := "()I" } : MethodName) prog_14_method_30_code (1 : Nat) (Option.some .int) ∈ lw_tbl := tq8 (i := 108) rfl
theorem tw1789 : Cond.methodLink "BrigadePagersModel" (340 : Nat) ({ cls := "BrigadePagersModel", name := "readsText", desc := "()V" } : MethodName) ∈ lw_tbl := tq8 (i := 109) rfl
theorem tw1791 : Cond.instanceMethod ({ cls := "BrigadePagersModel", name := "readsText", desc := "()V" } : MethodName) ∈ lw_tbl := tq8 (i := 111) rfl
theorem tw1792 : Cond.code ({ cls := "BrigadePagersModel", name := "readsText", desc := "()V" } : MethodName) prog_14_method_28_code (2 : Nat) (Option.none : Option ClassFile.FieldType) ∈ lw_tbl := tq8 (i := 112) rfl
theorem tw1793 : Cond.methodLink "BrigadePagersModel" (198 : Nat) ({ cls := "BrigadePagersModel", name := "blanks", desc := "()V" } : MethodName) ∈ lw_tbl := tq8 (i := 113) rfl
theorem tw1795 : Cond.instanceMethod ({ cls := "BrigadePagersModel", name := "blanks", desc := "()V" } : MethodName) ∈ lw_tbl := tq8 (i := 115) rfl
theorem tw1796 : Cond.code ({ cls := "BrigadePagersModel", name := "blanks", desc := "()V" } : MethodName) prog_14_method_8_code (1 : Nat) (Option.none : Option ClassFile.FieldType) ∈ lw_tbl := tq8 (i := 116) rfl
theorem tw1797 : Cond.constantLong "BrigadePagersModel" (291 : Nat) (7622660 : Int64) ∈ lw_tbl := tq8 (i := 117) rfl
theorem tw1798 : Cond.methodLink "BrigadePagersModel" (252 : Nat) ({ cls := "BrigadePagersModel", name := "says", desc := "(J)Z" } : MethodName) ∈ lw_tbl := tq8 (i := 118) rfl
theorem tw1800 : Cond.instanceMethod ({ cls := "BrigadePagersModel", name := "says", desc := "(J)Z" } : MethodName) ∈ lw_tbl := tq8 (i := 120) rfl
theorem tw1801 : Cond.code ({ cls := "BrigadePagersModel", name := "says", desc := "(J)Z" } : MethodName) prog_14_method_12_code (5 : Nat) (Option.some .boolean) ∈ lw_tbl := tq8 (i := 121) rfl
theorem tw1802 : Cond.methodLink "BrigadePagersModel" (212 : Nat) ({ cls := "BrigadePagersModel", name := "takesWord", desc := "()J" } : MethodName) ∈ lw_tbl := tq8 (i := 122) rfl
theorem tw1804 : Cond.instanceMethod ({ cls := "BrigadePagersModel", name := "takesWord", desc := "()J" } : MethodName) ∈ lw_tbl := tq8 (i := 124) rfl
theorem tw1805 : Cond.code ({ cls := "BrigadePagersModel", name := "takesWord", desc := "()J" } : MethodName) prog_14_method_11_code (4 : Nat) (Option.some .long) ∈ lw_tbl := tq8 (i := 125) rfl
theorem tw1806 : Cond.methodLink "BrigadePagersModel" (204 : Nat) ({ cls := "BrigadePagersModel", name := "isLetter", desc := "(I)Z" } : MethodName) ∈ lw_tbl := tq8 (i := 126) rfl
theorem tw1808 : Cond.instanceMethod ({ cls := "BrigadePagersModel", name := "isLetter", desc := "(I)Z" } : MethodName) ∈ lw_tbl := tq8 (i := 128) rfl
theorem tw1809 : Cond.code ({ cls := "BrigadePagersModel", name := "isLetter", desc := "(I)Z" } : MethodName) prog_14_method_9_code (2 : Nat) (Option.some .boolean) ∈ lw_tbl := tq8 (i := 129) rfl
theorem tw1810 : Cond.constantLong "BrigadePagersModel" (190 : Nat) (97 : Int64) ∈ lw_tbl := tq8 (i := 130) rfl
theorem tw1811 : Cond.constantLong "BrigadePagersModel" (192 : Nat) (122 : Int64) ∈ lw_tbl := tq8 (i := 131) rfl
theorem tw1812 : Cond.constantLong "BrigadePagersModel" (208 : Nat) (27 : Int64) ∈ lw_tbl := tq8 (i := 132) rfl
theorem tw1813 : Cond.constantLong "BrigadePagersModel" (210 : Nat) (-1 : Int64) ∈ lw_tbl := tq8 (i := 133) rfl
theorem tw1814 : Cond.methodLink "BrigadePagersModel" (220 : Nat) ({ cls := "BrigadePagersModel", name := "fault", desc := "(II)V" } : MethodName) ∈ lw_tbl := tq8 (i := 134) rfl
theorem tw1816 : Cond.instanceMethod ({ cls := "BrigadePagersModel", name := "fault", desc := "(II)V" } : MethodName) ∈ lw_tbl := tq8 (i := 136) rfl
theorem tw1817 : Cond.code ({ cls := "BrigadePagersModel", name := "fault", desc := "(II)V" } : MethodName) prog_14_method_7_code (3 : Nat) (Option.none : Option ClassFile.FieldType) ∈ lw_tbl := tq8 (i := 137) rfl
theorem tw1818 : Cond.methodLink "BrigadePagersModel" (262 : Nat) ({ cls := "BrigadePagersModel", name := "number", desc := "(II)I" } : MethodName) ∈ lw_tbl := tq8 (i := 138) rfl
theorem tw1820 : Cond.instanceMethod ({ cls := "BrigadePagersModel", name := "number", desc := "(II)I" } : MethodName) ∈ lw_tbl := tq8 (i := 140) rfl
theorem tw1821 : Cond.code ({ cls := "BrigadePagersModel", name := "number", desc := "(II)I" } : MethodName) prog_14_method_15_code (4 : Nat) (Option.some .int) ∈ lw_tbl := tq8 (i := 141) rfl
theorem tw1822 : Cond.methodLink "BrigadePagersModel" (230 : Nat) ({ cls := "BrigadePagersModel", name := "isDigit", desc := "(I)Z" } : MethodName) ∈ lw_tbl := tq8 (i := 142) rfl
theorem tw1824 : Cond.instanceMethod ({ cls := "BrigadePagersModel", name := "isDigit", desc := "(I)Z" } : MethodName) ∈ lw_tbl := tq8 (i := 144) rfl
theorem tw1825 : Cond.code ({ cls := "BrigadePagersModel", name := "isDigit", desc := "(I)Z" } : MethodName) prog_14_method_10_code (2 : Nat) (Option.some .boolean) ∈ lw_tbl := tq8 (i := 145) rfl
theorem tw1826 : Cond.constantLong "BrigadePagersModel" (194 : Nat) (48 : Int64) ∈ lw_tbl := tq8 (i := 146) rfl
theorem tw1827 : Cond.constantLong "BrigadePagersModel" (196 : Nat) (57 : Int64) ∈ lw_tbl := tq8 (i := 147) rfl
theorem tw1828 : Cond.methodLink "BrigadePagersModel" (293 : Nat) ({ cls := "BrigadePagersModel", name := "semicolon", desc := "()V" } : MethodName) ∈ lw_tbl := tq8 (i := 148) rfl
theorem tw1830 : Cond.instanceMethod ({ cls := "BrigadePagersModel", name := "semicolon", desc := "()V" } : MethodName) ∈ lw_tbl := tq8 (i := 150) rfl
theorem tw1831 : Cond.code ({ cls := "BrigadePagersModel", name := "semicolon", desc := "()V" } : MethodName) prog_14_method_27_code (1 : Nat) (Option.none : Option ClassFile.FieldType) ∈ lw_tbl := tq8 (i := 151) rfl
theorem tw1832 : Cond.methodLink "BrigadePagersModel" (287 : Nat) ({ cls := "BrigadePagersModel", name := "sign", desc := "(C)V" } : MethodName) ∈ lw_tbl := tq8 (i := 152) rfl
theorem tw1834 : Cond.instanceMethod ({ cls := "BrigadePagersModel", name := "sign", desc := "(C)V" } : MethodName) ∈ lw_tbl := tq8 (i := 154) rfl
theorem tw1835 : Cond.code ({ cls := "BrigadePagersModel", name := "sign", desc := "(C)V" } : MethodName) prog_14_method_14_code (2 : Nat) (Option.none : Option ClassFile.FieldType) ∈ lw_tbl := tq8 (i := 155) rfl
theorem tw1836 : Cond.methodLink "BrigadePagersModel" (216 : Nat) ({ cls := "BrigadePagersModel", name := "isNext", desc := "(C)Z" } : MethodName) ∈ lw_tbl := tq8 (i := 156) rfl
theorem tw1838 : Cond.instanceMethod ({ cls := "BrigadePagersModel", name := "isNext", desc := "(C)Z" } : MethodName) ∈ lw_tbl := tq8 (i := 158) rfl
theorem tw1839 : Cond.code ({ cls := "BrigadePagersModel", name := "isNext", desc := "(C)Z" } : MethodName) prog_14_method_13_code (2 : Nat) (Option.some .boolean) ∈ lw_tbl := tq8 (i := 159) rfl
theorem tw1840 : Cond.constantLong "BrigadePagersModel" (296 : Nat) (232608281 : Int64) ∈ lw_tbl := tq8 (i := 160) rfl
theorem tw1841 : Cond.methodLink "BrigadePagersModel" (298 : Nat) ({ cls := "BrigadePagersModel", name := "begins", desc := "(JII)Z" } : MethodName) ∈ lw_tbl := tq8 (i := 161) rfl
theorem tw1843 : Cond.instanceMethod ({ cls := "BrigadePagersModel", name := "begins", desc := "(JII)Z" } : MethodName) ∈ lw_tbl := tq8 (i := 163) rfl
theorem tw1844 : Cond.code ({ cls := "BrigadePagersModel", name := "begins", desc := "(JII)Z" } : MethodName) prog_14_method_21_code (6 : Nat) (Option.some .boolean) ∈ lw_tbl := tq8 (i := 164) rfl
theorem tw1845 : Cond.methodLink "BrigadePagersModel" (302 : Nat) ({ cls := "BrigadePagersModel", name := "person", desc := "()V" } : MethodName) ∈ lw_tbl := tq8 (i := 165) rfl
theorem tw1847 : Cond.instanceMethod ({ cls := "BrigadePagersModel", name := "person", desc := "()V" } : MethodName) ∈ lw_tbl := tq8 (i := 167) rfl
theorem tw1848 : Cond.code ({ cls := "BrigadePagersModel", name := "person", desc := "()V" } : MethodName) prog_14_method_22_code (2 : Nat) (Option.none : Option ClassFile.FieldType) ∈ lw_tbl := tq8 (i := 168) rfl
theorem tw1849 : Cond.methodLink "BrigadePagersModel" (259 : Nat) ({ cls := "BrigadePagersModel", name := "newName", desc := "(II)V" } : MethodName) ∈ lw_tbl := tq8 (i := 169) rfl
theorem tw1851 : Cond.instanceMethod ({ cls := "BrigadePagersModel", name := "newName", desc := "(II)V" } : MethodName) ∈ lw_tbl := tq8 (i := 171) rfl
theorem tw1852 : Cond.code ({ cls := "BrigadePagersModel", name := "newName", desc := "(II)V" } : MethodName) prog_14_method_18_code (5 : Nat) (Option.none : Option ClassFile.FieldType) ∈ lw_tbl := tq8 (i := 172) rfl
theorem tw1853 : Cond.methodLink "BrigadePagersModel" (237 : Nat) ({ cls := "BrigadePagersModel", name := "name", desc := "()J" } : MethodName) ∈ lw_tbl := tq8 (i := 173) rfl
theorem tw1855 : Cond.instanceMethod ({ cls := "BrigadePagersModel", name := "name", desc := "()J" } : MethodName) ∈ lw_tbl := tq8 (i := 175) rfl
theorem tw1856 : Cond.code ({ cls := "BrigadePagersModel", name := "name", desc := "()J" } : MethodName) prog_14_method_16_code (1 : Nat) (Option.some .long) ∈ lw_tbl := tq8 (i := 176) rfl
theorem tw1857 : Cond.methodLink "BrigadePagersModel" (240 : Nat) ({ cls := "BrigadePagersModel", name := "place", desc := "(IIJ)I" } : MethodName) ∈ lw_tbl := tq8 (i := 177) rfl
theorem tw1859 : Cond.instanceMethod ({ cls := "BrigadePagersModel", name := "place", desc := "(IIJ)I" } : MethodName) ∈ lw_tbl := tq8 (i := 179) rfl
theorem tw1860 : Cond.code ({ cls := "BrigadePagersModel", name := "place", desc := "(IIJ)I" } : MethodName) prog_14_method_17_code (6 : Nat) (Option.some .int) ∈ lw_tbl := tq8 (i := 180) rfl
theorem tw1861 : Cond.methodLink "BrigadePagersModel" (266 : Nat) ({ cls := "BrigadePagersModel", name := "skillOf", desc := "(J)I" } : MethodName) ∈ lw_tbl := tq8 (i := 181) rfl
theorem tw1862 : Cond.static ({ cls := "BrigadePagersModel", name := "skillOf", desc := "(J)I" } : MethodName) ∈ lw_tbl := tq8 (i := 182) rfl
theorem tw1863 : Cond.code ({ cls := "BrigadePagersModel", name := "skillOf", desc := "(J)I" } : MethodName) prog_14_method_20_code (2 : Nat) (Option.some .int) ∈ lw_tbl := tq8 (i := 183) rfl
theorem tw1864 : Cond.constantLong "BrigadePagersModel" (244 : Nat) (1758489 : Int64) ∈ lw_tbl := tq8 (i := 184) rfl
theorem tw1865 : Cond.constantLong "BrigadePagersModel" (246 : Nat) (67154904 : Int64) ∈ lw_tbl := tq8 (i := 185) rfl
theorem tw1866 : Cond.constantLong "BrigadePagersModel" (248 : Nat) (7010310 : Int64) ∈ lw_tbl := tq8 (i := 186) rfl
theorem tw1867 : Cond.constantLong "BrigadePagersModel" (250 : Nat) (10364495 : Int64) ∈ lw_tbl := tq8 (i := 187) rfl
theorem tw1868 : Cond.constantLong "BrigadePagersModel" (305 : Nat) (10998956 : Int64) ∈ lw_tbl := tq8 (i := 188) rfl
theorem tw1869 : Cond.methodLink "BrigadePagersModel" (307 : Nat) ({ cls := "BrigadePagersModel", name := "trust", desc := "()V" } : MethodName) ∈ lw_tbl := tq8 (i := 189) rfl
theorem tw1871 : Cond.instanceMethod ({ cls := "BrigadePagersModel", name := "trust", desc := "()V" } : MethodName) ∈ lw_tbl := tq8 (i := 191) rfl
theorem tw1872 : Cond.code ({ cls := "BrigadePagersModel", name := "trust", desc := "()V" } : MethodName) prog_14_method_23_code (3 : Nat) (Option.none : Option ClassFile.FieldType) ∈ lw_tbl := tq8 (i := 192) rfl
theorem tw1873 : Cond.methodLink "BrigadePagersModel" (270 : Nat) ({ cls := "BrigadePagersModel", name := "named", desc := "(II)I" } : MethodName) ∈ lw_tbl := tq8 (i := 193) rfl
theorem tw1875 : Cond.instanceMethod ({ cls := "BrigadePagersModel", name := "named", desc := "(II)I" } : MethodName) ∈ lw_tbl := tq8 (i := 195) rfl
theorem tw1876 : Cond.code ({ cls := "BrigadePagersModel", name := "named", desc := "(II)I" } : MethodName) prog_14_method_19_code (6 : Nat) (Option.some .int) ∈ lw_tbl := tq8 (i := 196) rfl
theorem tw1877 : Cond.constantLong "BrigadePagersModel" (310 : Nat) (8527995 : Int64) ∈ lw_tbl := tq8 (i := 197) rfl
theorem tw1878 : Cond.methodLink "BrigadePagersModel" (312 : Nat) ({ cls := "BrigadePagersModel", name := "pager", desc := "()V" } : MethodName) ∈ lw_tbl := tq8 (i := 198) rfl
theorem tw1880 : Cond.instanceMethod ({ cls := "BrigadePagersModel", name := "pager", desc := "()V" } : MethodName) ∈ lw_tbl := tq8 (i := 200) rfl
theorem tw1881 : Cond.code ({ cls := "BrigadePagersModel", name := "pager", desc := "()V" } : MethodName) prog_14_method_24_code (3 : Nat) (Option.none : Option ClassFile.FieldType) ∈ lw_tbl := tq8 (i := 201) rfl
theorem tw1882 : Cond.constantLong "BrigadePagersModel" (315 : Nat) (79329434 : Int64) ∈ lw_tbl := tq8 (i := 202) rfl
theorem tw1883 : Cond.methodLink "BrigadePagersModel" (317 : Nat) ({ cls := "BrigadePagersModel", name := "engine", desc := "()V" } : MethodName) ∈ lw_tbl := tq8 (i := 203) rfl
theorem tw1885 : Cond.instanceMethod ({ cls := "BrigadePagersModel", name := "engine", desc := "()V" } : MethodName) ∈ lw_tbl := tq8 (i := 205) rfl
theorem tw1886 : Cond.code ({ cls := "BrigadePagersModel", name := "engine", desc := "()V" } : MethodName) prog_14_method_25_code (4 : Nat) (Option.none : Option ClassFile.FieldType) ∈ lw_tbl := tq8 (i := 206) rfl
theorem tw1887 : Cond.constantLong "BrigadePagersModel" (282 : Nat) (1132 : Int64) ∈ lw_tbl := tq8 (i := 207) rfl
theorem tw1888 : Cond.constantLong "BrigadePagersModel" (320 : Nat) (223456 : Int64) ∈ lw_tbl := tq8 (i := 208) rfl
theorem tw1889 : Cond.methodLink "BrigadePagersModel" (322 : Nat) ({ cls := "BrigadePagersModel", name := "kind", desc := "()V" } : MethodName) ∈ lw_tbl := tq8 (i := 209) rfl
theorem tw1891 : Cond.instanceMethod ({ cls := "BrigadePagersModel", name := "kind", desc := "()V" } : MethodName) ∈ lw_tbl := tq8 (i := 211) rfl
theorem tw1892 : Cond.code ({ cls := "BrigadePagersModel", name := "kind", desc := "()V" } : MethodName) prog_14_method_26_code (4 : Nat) (Option.none : Option ClassFile.FieldType) ∈ lw_tbl := tq8 (i := 212) rfl
theorem tw1893 : Cond.methodLink "BrigadePagersLaw" (202 : Nat) ({ cls := "BrigadePagersModel", name := "errorCode", desc := "()I" } : MethodName) ∈ lw_tbl := tq8 (i := 213) rfl
theorem tw1894 : Cond.instanceMethod ({ cls := "BrigadePagersModel", name := "errorCode", desc := "()I" } : MethodName) ∈ lw_tbl := tq8 (i := 214) rfl
theorem tw1895 : Cond.selects "BrigadePagersModel" ({ cls := "BrigadePagersModel", name := "errorCode", desc := "()I" } : MethodName) ({ cls := "BrigadePagersModel", name := "errorCode", desc := "()I" } : MethodName) ∈ lw_tbl := tq8 (i := 215) rfl
theorem tw1896 : Cond.code ({ cls := "BrigadePagersModel", name := "errorCode", desc := "()I" } : MethodName) prog_14_method_31_code (1 : Nat) (Option.some .int) ∈ lw_tbl := tq8 (i := 216) rfl
theorem tw1897 : Cond.methodLink "BrigadePagersLaw" (206 : Nat) ({ cls := "BrigadePagersModel", name := "errorPosition", desc := "()I" } : MethodName) ∈ lw_tbl := tq8 (i := 217) rfl
theorem tw1898 : Cond.instanceMethod ({ cls := "BrigadePagersModel", name := "errorPosition", desc := "()I" } : MethodName) ∈ lw_tbl := tq8 (i := 218) rfl
theorem tw1899 : Cond.selects "BrigadePagersModel" ({ cls := "BrigadePagersModel", name := "errorPosition", desc := "()I" } : MethodName) ({ cls := "BrigadePagersModel", name := "errorPosition", desc := "()I" } : MethodName) ∈ lw_tbl := tq8 (i := 219) rfl
theorem tw1900 : Cond.code ({ cls := "BrigadePagersModel", name := "errorPosition", desc := "()I" } : MethodName) prog_14_method_32_code (1 : Nat) (Option.some .int) ∈ lw_tbl := tq8 (i := 220) rfl
theorem tw1901 : Cond.methodLink "BrigadePagersLaw" (209 : Nat) ({ cls := "BrigadePagersModel", name := "find", desc := "(I)I" } : MethodName) ∈ lw_tbl := tq8 (i := 221) rfl
theorem tw1902 : Cond.instanceMethod ({ cls := "BrigadePagersModel", name := "find", desc := "(I)I" } : MethodName) ∈ lw_tbl := tq8 (i := 222) rfl
theorem tw1903 : Cond.selects "BrigadePagersModel" ({ cls := "BrigadePagersModel", name := "find", desc := "(I)I" } : MethodName) ({ cls := "BrigadePagersModel", name := "find", desc := "(I)I" } : MethodName) ∈ lw_tbl := tq8 (i := 223) rfl
theorem tw1904 : Cond.code ({ cls := "BrigadePagersModel", name := "find", desc := "(I)I" } : MethodName) prog_14_method_33_code (7 : Nat) (Option.some .int) ∈ lw_tbl := tq8 (i := 224) rfl
theorem tw1905 : Cond.constantLong "BrigadePagersModel" (343 : Nat) (3 : Int64) ∈ lw_tbl := tq8 (i := 225) rfl
theorem tw1906 : Cond.methodLink "BrigadePagersLaw" (212 : Nat) ({ cls := "BrigadePagersModel", name := "count", desc := "(I)I" } : MethodName) ∈ lw_tbl := tq8 (i := 226) rfl
theorem tw1907 : Cond.instanceMethod ({ cls := "BrigadePagersModel", name := "count", desc := "(I)I" } : MethodName) ∈ lw_tbl := tq8 (i := 227) rfl
theorem tw1908 : Cond.selects "BrigadePagersModel" ({ cls := "BrigadePagersModel", name := "count", desc := "(I)I" } : MethodName) ({ cls := "BrigadePagersModel", name := "count", desc := "(I)I" } : MethodName) ∈ lw_tbl := tq8 (i := 228) rfl
theorem tw1909 : Cond.code ({ cls := "BrigadePagersModel", name := "count", desc := "(I)I" } : MethodName) prog_14_method_34_code (2 : Nat) (Option.some .int) ∈ lw_tbl := tq8 (i := 229) rfl
theorem tw1910 : Cond.constantLong "BrigadePagersModel" (345 : Nat) (4 : Int64) ∈ lw_tbl := tq8 (i := 230) rfl
theorem tw1911 : Cond.methodLink "BrigadePagersLaw" (216 : Nat) ({ cls := "BrigadePagersModel", name := "time", desc := "()I" } : MethodName) ∈ lw_tbl := tq8 (i := 231) rfl
theorem tw1912 : Cond.instanceMethod ({ cls := "BrigadePagersModel", name := "time", desc := "()I" } : MethodName) ∈ lw_tbl := tq8 (i := 232) rfl
theorem tw1913 : Cond.selects "BrigadePagersModel" ({ cls := "BrigadePagersModel", name := "time", desc := "()I" } : MethodName) ({ cls := "BrigadePagersModel", name := "time", desc := "()I" } : MethodName) ∈ lw_tbl := tq8 (i := 233) rfl
theorem tw1914 : Cond.code ({ cls := "BrigadePagersModel", name := "time", desc := "()I" } : MethodName) prog_14_method_43_code (1 : Nat) (Option.some .int) ∈ lw_tbl := tq8 (i := 234) rfl
theorem tw1915 : Cond.methodLink "BrigadePagersLaw" (220 : Nat) ({ cls := "BrigadePagersModel", name := "nightMinutes", desc := "(II)I" } : MethodName) ∈ lw_tbl := tq8 (i := 235) rfl
theorem tw1916 : Cond.instanceMethod ({ cls := "BrigadePagersModel", name := "nightMinutes", desc := "(II)I" } : MethodName) ∈ lw_tbl := tq8 (i := 236) rfl
theorem tw1917 : Cond.selects "BrigadePagersModel" ({ cls := "BrigadePagersModel", name := "nightMinutes", desc := "(II)I" } : MethodName) ({ cls := "BrigadePagersModel", name := "nightMinutes", desc := "(II)I" } : MethodName) ∈ lw_tbl := tq8 (i := 237) rfl
theorem tw1918 : Cond.code ({ cls := "BrigadePagersModel", name := "nightMinutes", desc := "(II)I" } : MethodName) prog_14_method_44_code (5 : Nat) (Option.some .int) ∈ lw_tbl := tq8 (i := 238) rfl
theorem tw1919 : Cond.methodLink "BrigadePagersModel" (347 : Nat) ({ cls := "BrigadePagersModel", name := "isNight", desc := "(I)Z" } : MethodName) ∈ lw_tbl := tq8 (i := 239) rfl
theorem tw1921 : Cond.instanceMethod ({ cls := "BrigadePagersModel", name := "isNight", desc := "(I)Z" } : MethodName) ∈ lw_tbl := tq9 (i := 1) rfl
theorem tw1922 : Cond.code ({ cls := "BrigadePagersModel", name := "isNight", desc := "(I)Z" } : MethodName) prog_14_method_35_code (3 : Nat) (Option.some .boolean) ∈ lw_tbl := tq9 (i := 2) rfl
theorem tw1923 : Cond.methodLink "BrigadePagersLaw" (223 : Nat) ({ cls := "BrigadePagersModel", name := "outUntil", desc := "(I)I" } : MethodName) ∈ lw_tbl := tq9 (i := 3) rfl
theorem tw1924 : Cond.instanceMethod ({ cls := "BrigadePagersModel", name := "outUntil", desc := "(I)I" } : MethodName) ∈ lw_tbl := tq9 (i := 4) rfl
theorem tw1925 : Cond.selects "BrigadePagersModel" ({ cls := "BrigadePagersModel", name := "outUntil", desc := "(I)I" } : MethodName) ({ cls := "BrigadePagersModel", name := "outUntil", desc := "(I)I" } : MethodName) ∈ lw_tbl := tq9 (i := 5) rfl
theorem tw1926 : Cond.code ({ cls := "BrigadePagersModel", name := "outUntil", desc := "(I)I" } : MethodName) prog_14_method_46_code (2 : Nat) (Option.some .int) ∈ lw_tbl := tq9 (i := 6) rfl
theorem tw1927 : Cond.methodLink "BrigadePagersModel" (353 : Nat) ({ cls := "BrigadePagersModel", name := "isPerson", desc := "(I)Z" } : MethodName) ∈ lw_tbl := tq9 (i := 7) rfl
theorem tw1929 : Cond.instanceMethod ({ cls := "BrigadePagersModel", name := "isPerson", desc := "(I)Z" } : MethodName) ∈ lw_tbl := tq9 (i := 9) rfl
theorem tw1930 : Cond.code ({ cls := "BrigadePagersModel", name := "isPerson", desc := "(I)Z" } : MethodName) prog_14_method_45_code (2 : Nat) (Option.some .boolean) ∈ lw_tbl := tq9 (i := 10) rfl
theorem tw1931 : Cond.methodLink "BrigadePagersModel" (356 : Nat) ({ cls := "BrigadePagersModel", name := "isOut", desc := "(I)Z" } : MethodName) ∈ lw_tbl := tq9 (i := 11) rfl
theorem tw1933 : Cond.instanceMethod ({ cls := "BrigadePagersModel", name := "isOut", desc := "(I)Z" } : MethodName) ∈ lw_tbl := tq9 (i := 13) rfl
theorem tw1934 : Cond.code ({ cls := "BrigadePagersModel", name := "isOut", desc := "(I)Z" } : MethodName) prog_14_method_36_code (2 : Nat) (Option.some .boolean) ∈ lw_tbl := tq9 (i := 14) rfl
theorem tw1935 : Cond.methodLink "BrigadePagersLaw" (226 : Nat) ({ cls := "BrigadePagersModel", name := "lostSleep", desc := "(I)I" } : MethodName) ∈ lw_tbl := tq9 (i := 15) rfl
theorem tw1936 : Cond.instanceMethod ({ cls := "BrigadePagersModel", name := "lostSleep", desc := "(I)I" } : MethodName) ∈ lw_tbl := tq9 (i := 16) rfl
theorem tw1937 : Cond.selects "BrigadePagersModel" ({ cls := "BrigadePagersModel", name := "lostSleep", desc := "(I)I" } : MethodName) ({ cls := "BrigadePagersModel", name := "lostSleep", desc := "(I)I" } : MethodName) ∈ lw_tbl := tq9 (i := 17) rfl
theorem tw1938 : Cond.code ({ cls := "BrigadePagersModel", name := "lostSleep", desc := "(I)I" } : MethodName) prog_14_method_47_code (2 : Nat) (Option.some .int) ∈ lw_tbl := tq9 (i := 18) rfl
theorem tw1939 : Cond.methodLink "BrigadePagersLaw" (229 : Nat) ({ cls := "BrigadePagersModel", name := "lostSleepAfter", desc := "(II)I" } : MethodName) ∈ lw_tbl := tq9 (i := 19) rfl
theorem tw1940 : Cond.instanceMethod ({ cls := "BrigadePagersModel", name := "lostSleepAfter", desc := "(II)I" } : MethodName) ∈ lw_tbl := tq9 (i := 20) rfl
theorem tw1941 : Cond.selects "BrigadePagersModel" ({ cls := "BrigadePagersModel", name := "lostSleepAfter", desc := "(II)I" } : MethodName) ({ cls := "BrigadePagersModel", name := "lostSleepAfter", desc := "(II)I" } : MethodName) ∈ lw_tbl := tq9 (i := 21) rfl
theorem tw1942 : Cond.code ({ cls := "BrigadePagersModel", name := "lostSleepAfter", desc := "(II)I" } : MethodName) prog_14_method_48_code (4 : Nat) (Option.some .int) ∈ lw_tbl := tq9 (i := 22) rfl
theorem tw1943 : Cond.constantLong "BrigadePagersModel" (359 : Nat) (1440 : Int64) ∈ lw_tbl := tq9 (i := 23) rfl
theorem tw1944 : Cond.methodLink "BrigadePagersModel" (361 : Nat) ({ cls := "BrigadePagersModel", name := "lays", desc := "()V" } : MethodName) ∈ lw_tbl := tq9 (i := 24) rfl
theorem tw1946 : Cond.instanceMethod ({ cls := "BrigadePagersModel", name := "lays", desc := "()V" } : MethodName) ∈ lw_tbl := tq9 (i := 26) rfl
theorem tw1947 : Cond.code ({ cls := "BrigadePagersModel", name := "lays", desc := "()V" } : MethodName) prog_14_method_41_code (2 : Nat) (Option.none : Option ClassFile.FieldType) ∈ lw_tbl := tq9 (i := 27) rfl
theorem tw1948 : Cond.methodLink "BrigadePagersModel" (364 : Nat) ({ cls := "BrigadePagersModel", name := "minute", desc := "()I" } : MethodName) ∈ lw_tbl := tq9 (i := 28) rfl
theorem tw1950 : Cond.instanceMethod ({ cls := "BrigadePagersModel", name := "minute", desc := "()I" } : MethodName) ∈ lw_tbl := tq9 (i := 30) rfl
theorem tw1951 : Cond.code ({ cls := "BrigadePagersModel", name := "minute", desc := "()I" } : MethodName) prog_14_method_39_code (5 : Nat) (Option.some .int) ∈ lw_tbl := tq9 (i := 31) rfl
theorem tw1952 : Cond.methodLink "BrigadePagersModel" (350 : Nat) ({ cls := "BrigadePagersModel", name := "grows", desc := "(I)V" } : MethodName) ∈ lw_tbl := tq9 (i := 32) rfl
theorem tw1954 : Cond.instanceMethod ({ cls := "BrigadePagersModel", name := "grows", desc := "(I)V" } : MethodName) ∈ lw_tbl := tq9 (i := 34) rfl
theorem tw1955 : Cond.code ({ cls := "BrigadePagersModel", name := "grows", desc := "(I)V" } : MethodName) prog_14_method_40_code (5 : Nat) (Option.none : Option ClassFile.FieldType) ∈ lw_tbl := tq9 (i := 35) rfl
theorem tw1956 : Cond.methodLink "BrigadePagersModel" (368 : Nat) ({ cls := "BrigadePagersModel", name := "takes", desc := "()V" } : MethodName) ∈ lw_tbl := tq9 (i := 36) rfl
theorem tw1958 : Cond.instanceMethod ({ cls := "BrigadePagersModel", name := "takes", desc := "()V" } : MethodName) ∈ lw_tbl := tq9 (i := 38) rfl
theorem tw1959 : Cond.code ({ cls := "BrigadePagersModel", name := "takes", desc := "()V" } : MethodName) prog_14_method_42_code (2 : Nat) (Option.none : Option ClassFile.FieldType) ∈ lw_tbl := tq9 (i := 39) rfl
theorem tw1960 : Cond.methodLink "BrigadePagersLaw" (232 : Nat) ({ cls := "BrigadePagersModel", name := "restedAt", desc := "(I)I" } : MethodName) ∈ lw_tbl := tq9 (i := 40) rfl
theorem tw1961 : Cond.instanceMethod ({ cls := "BrigadePagersModel", name := "restedAt", desc := "(I)I" } : MethodName) ∈ lw_tbl := tq9 (i := 41) rfl
theorem tw1962 : Cond.selects "BrigadePagersModel" ({ cls := "BrigadePagersModel", name := "restedAt", desc := "(I)I" } : MethodName) ({ cls := "BrigadePagersModel", name := "restedAt", desc := "(I)I" } : MethodName) ∈ lw_tbl := tq9 (i := 42) rfl
theorem tw1963 : Cond.code ({ cls := "BrigadePagersModel", name := "restedAt", desc := "(I)I" } : MethodName) prog_14_method_49_code (3 : Nat) (Option.some .int) ∈ lw_tbl := tq9 (i := 43) rfl
theorem tw1964 : Cond.methodLink "BrigadePagersModel" (371 : Nat) ({ cls := "BrigadePagersModel", name := "isTired", desc := "(I)Z" } : MethodName) ∈ lw_tbl := tq9 (i := 44) rfl
theorem tw1966 : Cond.instanceMethod ({ cls := "BrigadePagersModel", name := "isTired", desc := "(I)Z" } : MethodName) ∈ lw_tbl := tq9 (i := 46) rfl
theorem tw1967 : Cond.code ({ cls := "BrigadePagersModel", name := "isTired", desc := "(I)Z" } : MethodName) prog_14_method_37_code (2 : Nat) (Option.some .boolean) ∈ lw_tbl := tq9 (i := 47) rfl
theorem tw1968 : Cond.methodLink "BrigadePagersLaw" (235 : Nat) ({ cls := "BrigadePagersModel", name := "arrival", desc := "(I)I" } : MethodName) ∈ lw_tbl := tq9 (i := 48) rfl
theorem tw1969 : Cond.instanceMethod ({ cls := "BrigadePagersModel", name := "arrival", desc := "(I)I" } : MethodName) ∈ lw_tbl := tq9 (i := 49) rfl
theorem tw1970 : Cond.selects "BrigadePagersModel" ({ cls := "BrigadePagersModel", name := "arrival", desc := "(I)I" } : MethodName) ({ cls := "BrigadePagersModel", name := "arrival", desc := "(I)I" } : MethodName) ∈ lw_tbl := tq9 (i := 50) rfl
theorem tw1971 : Cond.code ({ cls := "BrigadePagersModel", name := "arrival", desc := "(I)I" } : MethodName) prog_14_method_50_code (2 : Nat) (Option.some .int) ∈ lw_tbl := tq9 (i := 51) rfl
theorem tw1972 : Cond.methodLink "BrigadePagersModel" (374 : Nat) ({ cls := "BrigadePagersModel", name := "arrivalOf", desc := "(I)I" } : MethodName) ∈ lw_tbl := tq9 (i := 52) rfl
theorem tw1974 : Cond.instanceMethod ({ cls := "BrigadePagersModel", name := "arrivalOf", desc := "(I)I" } : MethodName) ∈ lw_tbl := tq9 (i := 54) rfl
theorem tw1975 : Cond.code ({ cls := "BrigadePagersModel", name := "arrivalOf", desc := "(I)I" } : MethodName) prog_14_method_38_code (2 : Nat) (Option.some .int) ∈ lw_tbl := tq9 (i := 55) rfl
theorem tw1976 : Cond.methodLink "BrigadePagersLaw" (238 : Nat) ({ cls := "BrigadePagersModel", name := "pay", desc := "(I)I" } : MethodName) ∈ lw_tbl := tq9 (i := 56) rfl
theorem tw1977 : Cond.instanceMethod ({ cls := "BrigadePagersModel", name := "pay", desc := "(I)I" } : MethodName) ∈ lw_tbl := tq9 (i := 57) rfl
theorem tw1978 : Cond.selects "BrigadePagersModel" ({ cls := "BrigadePagersModel", name := "pay", desc := "(I)I" } : MethodName) ({ cls := "BrigadePagersModel", name := "pay", desc := "(I)I" } : MethodName) ∈ lw_tbl := tq9 (i := 58) rfl
theorem tw1979 : Cond.code ({ cls := "BrigadePagersModel", name := "pay", desc := "(I)I" } : MethodName) prog_14_method_51_code (2 : Nat) (Option.some .int) ∈ lw_tbl := tq9 (i := 59) rfl
theorem tw1980 : Cond.methodLink "BrigadePagersLaw" (241 : Nat) ({ cls := "BrigadePagersModel", name := "trust", desc := "(II)I" } : MethodName) ∈ lw_tbl := tq9 (i := 60) rfl
theorem tw1981 : Cond.instanceMethod ({ cls := "BrigadePagersModel", name := "trust", desc := "(II)I" } : MethodName) ∈ lw_tbl := tq9 (i := 61) rfl
theorem tw1982 : Cond.selects "BrigadePagersModel" ({ cls := "BrigadePagersModel", name := "trust", desc := "(II)I" } : MethodName) ({ cls := "BrigadePagersModel", name := "trust", desc := "(II)I" } : MethodName) ∈ lw_tbl := tq9 (i := 62) rfl
theorem tw1983 : Cond.code ({ cls := "BrigadePagersModel", name := "trust", desc := "(II)I" } : MethodName) prog_14_method_53_code (3 : Nat) (Option.some .int) ∈ lw_tbl := tq9 (i := 63) rfl
theorem tw1984 : Cond.methodLink "BrigadePagersModel" (378 : Nat) ({ cls := "BrigadePagersModel", name := "isCouple", desc := "(II)Z" } : MethodName) ∈ lw_tbl := tq9 (i := 64) rfl
theorem tw1986 : Cond.instanceMethod ({ cls := "BrigadePagersModel", name := "isCouple", desc := "(II)Z" } : MethodName) ∈ lw_tbl := tq9 (i := 66) rfl
theorem tw1987 : Cond.code ({ cls := "BrigadePagersModel", name := "isCouple", desc := "(II)Z" } : MethodName) prog_14_method_52_code (3 : Nat) (Option.some .boolean) ∈ lw_tbl := tq9 (i := 67) rfl
theorem tw1988 : Cond.methodLink "BrigadePagersLaw" (244 : Nat) ({ cls := "BrigadePagersModel", name := "trustPath", desc := "(II)I" } : MethodName) ∈ lw_tbl := tq9 (i := 68) rfl
theorem tw1989 : Cond.instanceMethod ({ cls := "BrigadePagersModel", name := "trustPath", desc := "(II)I" } : MethodName) ∈ lw_tbl := tq9 (i := 69) rfl
theorem tw1990 : Cond.selects "BrigadePagersModel" ({ cls := "BrigadePagersModel", name := "trustPath", desc := "(II)I" } : MethodName) ({ cls := "BrigadePagersModel", name := "trustPath", desc := "(II)I" } : MethodName) ∈ lw_tbl := tq9 (i := 70) rfl
theorem tw1991 : Cond.code ({ cls := "BrigadePagersModel", name := "trustPath", desc := "(II)I" } : MethodName) prog_14_method_54_code (9 : Nat) (Option.some .int) ∈ lw_tbl := tq9 (i := 71) rfl
theorem tw1992 : Cond.methodLink "BrigadePagersLaw" (247 : Nat) ({ cls := "BrigadePagersModel", name := "chain", desc := "(II)I" } : MethodName) ∈ lw_tbl := tq9 (i := 72) rfl
theorem tw1993 : Cond.instanceMethod ({ cls := "BrigadePagersModel", name := "chain", desc := "(II)I" } : MethodName) ∈ lw_tbl := tq9 (i := 73) rfl
theorem tw1994 : Cond.selects "BrigadePagersModel" ({ cls := "BrigadePagersModel", name := "chain", desc := "(II)I" } : MethodName) ({ cls := "BrigadePagersModel", name := "chain", desc := "(II)I" } : MethodName) ∈ lw_tbl := tq9 (i := 74) rfl
theorem tw1995 : Cond.code ({ cls := "BrigadePagersModel", name := "chain", desc := "(II)I" } : MethodName) prog_14_method_64_code (3 : Nat) (Option.some .int) ∈ lw_tbl := tq9 (i := 75) rfl
theorem tw1996 : Cond.methodLink "BrigadePagersModel" (400 : Nat) ({ cls := "BrigadePagersModel", name := "isPager", desc := "(I)Z" } : MethodName) ∈ lw_tbl := tq9 (i := 76) rfl
theorem tw1998 : Cond.instanceMethod ({ cls := "BrigadePagersModel", name := "isPager", desc := "(I)Z" } : MethodName) ∈ lw_tbl := tq9 (i := 78) rfl
theorem tw1999 : Cond.code ({ cls := "BrigadePagersModel", name := "isPager", desc := "(I)Z" } : MethodName) prog_14_method_55_code (2 : Nat) (Option.some .boolean) ∈ lw_tbl := tq9 (i := 79) rfl
theorem tw2000 : Cond.methodLink "BrigadePagersModel" (388 : Nat) ({ cls := "BrigadePagersModel", name := "hands", desc := "(I)I" } : MethodName) ∈ lw_tbl := tq9 (i := 80) rfl
theorem tw2002 : Cond.instanceMethod ({ cls := "BrigadePagersModel", name := "hands", desc := "(I)I" } : MethodName) ∈ lw_tbl := tq9 (i := 82) rfl
theorem tw2003 : Cond.code ({ cls := "BrigadePagersModel", name := "hands", desc := "(I)I" } : MethodName) prog_14_method_59_code (2 : Nat) (Option.some .int) ∈ lw_tbl := tq9 (i := 83) rfl
theorem tw2004 : Cond.methodLink "BrigadePagersModel" (391 : Nat) ({ cls := "BrigadePagersModel", name := "link", desc := "(II)I" } : MethodName) ∈ lw_tbl := tq9 (i := 84) rfl
theorem tw2006 : Cond.instanceMethod ({ cls := "BrigadePagersModel", name := "link", desc := "(II)I" } : MethodName) ∈ lw_tbl := tq9 (i := 86) rfl
theorem tw2007 : Cond.code ({ cls := "BrigadePagersModel", name := "link", desc := "(II)I" } : MethodName) prog_14_method_58_code (3 : Nat) (Option.some .int) ∈ lw_tbl := tq9 (i := 87) rfl
theorem tw2008 : Cond.methodLink "BrigadePagersModel" (385 : Nat) ({ cls := "BrigadePagersModel", name := "ownerAt", desc := "(II)I" } : MethodName) ∈ lw_tbl := tq9 (i := 88) rfl
theorem tw2010 : Cond.instanceMethod ({ cls := "BrigadePagersModel", name := "ownerAt", desc := "(II)I" } : MethodName) ∈ lw_tbl := tq9 (i := 90) rfl
theorem tw2011 : Cond.code ({ cls := "BrigadePagersModel", name := "ownerAt", desc := "(II)I" } : MethodName) prog_14_method_57_code (3 : Nat) (Option.some .int) ∈ lw_tbl := tq9 (i := 91) rfl
theorem tw2012 : Cond.methodLink "BrigadePagersModel" (382 : Nat) ({ cls := "BrigadePagersModel", name := "turnAt", desc := "(II)I" } : MethodName) ∈ lw_tbl := tq9 (i := 92) rfl
theorem tw2014 : Cond.instanceMethod ({ cls := "BrigadePagersModel", name := "turnAt", desc := "(II)I" } : MethodName) ∈ lw_tbl := tq9 (i := 94) rfl
theorem tw2015 : Cond.code ({ cls := "BrigadePagersModel", name := "turnAt", desc := "(II)I" } : MethodName) prog_14_method_56_code (3 : Nat) (Option.some .int) ∈ lw_tbl := tq9 (i := 95) rfl
theorem tw2016 : Cond.methodLink "BrigadePagersLaw" (250 : Nat) ({ cls := "BrigadePagersModel", name := "handOns", desc := "(I)I" } : MethodName) ∈ lw_tbl := tq9 (i := 96) rfl
theorem tw2017 : Cond.instanceMethod ({ cls := "BrigadePagersModel", name := "handOns", desc := "(I)I" } : MethodName) ∈ lw_tbl := tq9 (i := 97) rfl
theorem tw2018 : Cond.selects "BrigadePagersModel" ({ cls := "BrigadePagersModel", name := "handOns", desc := "(I)I" } : MethodName) ({ cls := "BrigadePagersModel", name := "handOns", desc := "(I)I" } : MethodName) ∈ lw_tbl := tq9 (i := 98) rfl
theorem tw2019 : Cond.code ({ cls := "BrigadePagersModel", name := "handOns", desc := "(I)I" } : MethodName) prog_14_method_65_code (2 : Nat) (Option.some .int) ∈ lw_tbl := tq9 (i := 99) rfl
theorem tw2020 : Cond.methodLink "BrigadePagersLaw" (253 : Nat) ({ cls := "BrigadePagersModel", name := "holdingEnd", desc := "(I)I" } : MethodName) ∈ lw_tbl := tq9 (i := 100) rfl
theorem tw2021 : Cond.instanceMethod ({ cls := "BrigadePagersModel", name := "holdingEnd", desc := "(I)I" } : MethodName) ∈ lw_tbl := tq9 (i := 101) rfl
theorem tw2022 : Cond.selects "BrigadePagersModel" ({ cls := "BrigadePagersModel", name := "holdingEnd", desc := "(I)I" } : MethodName) ({ cls := "BrigadePagersModel", name := "holdingEnd", desc := "(I)I" } : MethodName) ∈ lw_tbl := tq9 (i := 102) rfl
theorem tw2023 : Cond.code ({ cls := "BrigadePagersModel", name := "holdingEnd", desc := "(I)I" } : MethodName) prog_14_method_66_code (2 : Nat) (Option.some .int) ∈ lw_tbl := tq9 (i := 103) rfl
theorem tw2024 : Cond.methodLink "BrigadePagersModel" (397 : Nat) ({ cls := "BrigadePagersModel", name := "endOf", desc := "(I)I" } : MethodName) ∈ lw_tbl := tq9 (i := 104) rfl
theorem tw2026 : Cond.instanceMethod ({ cls := "BrigadePagersModel", name := "endOf", desc := "(I)I" } : MethodName) ∈ lw_tbl := tq9 (i := 106) rfl
theorem tw2027 : Cond.code ({ cls := "BrigadePagersModel", name := "endOf", desc := "(I)I" } : MethodName) prog_14_method_61_code (3 : Nat) (Option.some .int) ∈ lw_tbl := tq9 (i := 107) rfl
theorem tw2028 : Cond.methodLink "BrigadePagersLaw" (256 : Nat) ({ cls := "BrigadePagersModel", name := "rotation", desc := "(II)I" } : MethodName) ∈ lw_tbl := tq9 (i := 108) rfl
theorem tw2029 : Cond.instanceMethod ({ cls := "BrigadePagersModel", name := "rotation", desc := "(II)I" } : MethodName) ∈ lw_tbl := tq9 (i := 109) rfl
theorem tw2030 : Cond.selects "BrigadePagersModel" ({ cls := "BrigadePagersModel", name := "rotation", desc := "(II)I" } : MethodName) ({ cls := "BrigadePagersModel", name := "rotation", desc := "(II)I" } : MethodName) ∈ lw_tbl := tq9 (i := 110) rfl
theorem tw2031 : Cond.code ({ cls := "BrigadePagersModel", name := "rotation", desc := "(II)I" } : MethodName) prog_14_method_67_code (3 : Nat) (Option.some .int) ∈ lw_tbl := tq9 (i := 111) rfl
theorem tw2032 : Cond.methodLink "BrigadePagersLaw" (259 : Nat) ({ cls := "BrigadePagersModel", name := "holderAt", desc := "(II)I" } : MethodName) ∈ lw_tbl := tq9 (i := 112) rfl
theorem tw2033 : Cond.instanceMethod ({ cls := "BrigadePagersModel", name := "holderAt", desc := "(II)I" } : MethodName) ∈ lw_tbl := tq9 (i := 113) rfl
theorem tw2034 : Cond.selects "BrigadePagersModel" ({ cls := "BrigadePagersModel", name := "holderAt", desc := "(II)I" } : MethodName) ({ cls := "BrigadePagersModel", name := "holderAt", desc := "(II)I" } : MethodName) ∈ lw_tbl := tq9 (i := 114) rfl
theorem tw2035 : Cond.code ({ cls := "BrigadePagersModel", name := "holderAt", desc := "(II)I" } : MethodName) prog_14_method_69_code (3 : Nat) (Option.some .int) ∈ lw_tbl := tq9 (i := 115) rfl
theorem tw2036 : Cond.constantLong "BrigadePagersModel" (403 : Nat) (20160 : Int64) ∈ lw_tbl := tq9 (i := 116) rfl
theorem tw2037 : Cond.methodLink "BrigadePagersModel" (405 : Nat) ({ cls := "BrigadePagersModel", name := "holderThen", desc := "(II)I" } : MethodName) ∈ lw_tbl := tq9 (i := 117) rfl
theorem tw2039 : Cond.instanceMethod ({ cls := "BrigadePagersModel", name := "holderThen", desc := "(II)I" } : MethodName) ∈ lw_tbl := tq9 (i := 119) rfl
theorem tw2040 : Cond.code ({ cls := "BrigadePagersModel", name := "holderThen", desc := "(II)I" } : MethodName) prog_14_method_68_code (4 : Nat) (Option.some .int) ∈ lw_tbl := tq9 (i := 120) rfl
theorem tw2041 : Cond.methodLink "BrigadePagersLaw" (262 : Nat) ({ cls := "BrigadePagersModel", name := "dutyMinutes", desc := "(II)I" } : MethodName) ∈ lw_tbl := tq9 (i := 121) rfl
theorem tw2042 : Cond.instanceMethod ({ cls := "BrigadePagersModel", name := "dutyMinutes", desc := "(II)I" } : MethodName) ∈ lw_tbl := tq9 (i := 122) rfl
theorem tw2043 : Cond.selects "BrigadePagersModel" ({ cls := "BrigadePagersModel", name := "dutyMinutes", desc := "(II)I" } : MethodName) ({ cls := "BrigadePagersModel", name := "dutyMinutes", desc := "(II)I" } : MethodName) ∈ lw_tbl := tq9 (i := 123) rfl
theorem tw2044 : Cond.code ({ cls := "BrigadePagersModel", name := "dutyMinutes", desc := "(II)I" } : MethodName) prog_14_method_70_code (7 : Nat) (Option.some .int) ∈ lw_tbl := tq9 (i := 124) rfl
theorem tw2045 : Cond.methodLink "BrigadePagersLaw" (266 : Nat) ({ cls := "BrigadePagersModel", name := "whyNotHandOn", desc := "(III)I" } : MethodName) ∈ lw_tbl := tq9 (i := 125) rfl
theorem tw2046 : Cond.instanceMethod ({ cls := "BrigadePagersModel", name := "whyNotHandOn", desc := "(III)I" } : MethodName) ∈ lw_tbl := tq9 (i := 126) rfl
theorem tw2047 : Cond.selects "BrigadePagersModel" ({ cls := "BrigadePagersModel", name := "whyNotHandOn", desc := "(III)I" } : MethodName) ({ cls := "BrigadePagersModel", name := "whyNotHandOn", desc := "(III)I" } : MethodName) ∈ lw_tbl := tq9 (i := 127) rfl
theorem tw2048 : Cond.code ({ cls := "BrigadePagersModel", name := "whyNotHandOn", desc := "(III)I" } : MethodName) prog_14_method_71_code (4 : Nat) (Option.some .int) ∈ lw_tbl := tq9 (i := 128) rfl
theorem tw2049 : Cond.methodLink "BrigadePagersModel" (408 : Nat) ({ cls := "BrigadePagersModel", name := "against", desc := "(III)I" } : MethodName) ∈ lw_tbl := tq9 (i := 129) rfl
theorem tw2051 : Cond.instanceMethod ({ cls := "BrigadePagersModel", name := "against", desc := "(III)I" } : MethodName) ∈ lw_tbl := tq9 (i := 131) rfl
theorem tw2052 : Cond.code ({ cls := "BrigadePagersModel", name := "against", desc := "(III)I" } : MethodName) prog_14_method_62_code (8 : Nat) (Option.some .int) ∈ lw_tbl := tq9 (i := 132) rfl
theorem tw2053 : Cond.methodLink "BrigadePagersModel" (394 : Nat) ({ cls := "BrigadePagersModel", name := "holder", desc := "(I)I" } : MethodName) ∈ lw_tbl := tq9 (i := 133) rfl
theorem tw2055 : Cond.instanceMethod ({ cls := "BrigadePagersModel", name := "holder", desc := "(I)I" } : MethodName) ∈ lw_tbl := tq9 (i := 135) rfl
theorem tw2056 : Cond.code ({ cls := "BrigadePagersModel", name := "holder", desc := "(I)I" } : MethodName) prog_14_method_60_code (2 : Nat) (Option.some .int) ∈ lw_tbl := tq9 (i := 136) rfl
theorem tw2057 : Cond.methodLink "BrigadePagersLaw" (269 : Nat) ({ cls := "BrigadePagersModel", name := "steps", desc := "(II)I" } : MethodName) ∈ lw_tbl := tq9 (i := 137) rfl
theorem tw2058 : Cond.instanceMethod ({ cls := "BrigadePagersModel", name := "steps", desc := "(II)I" } : MethodName) ∈ lw_tbl := tq9 (i := 138) rfl
theorem tw2059 : Cond.selects "BrigadePagersModel" ({ cls := "BrigadePagersModel", name := "steps", desc := "(II)I" } : MethodName) ({ cls := "BrigadePagersModel", name := "steps", desc := "(II)I" } : MethodName) ∈ lw_tbl := tq9 (i := 139) rfl
theorem tw2060 : Cond.code ({ cls := "BrigadePagersModel", name := "steps", desc := "(II)I" } : MethodName) prog_14_method_72_code (9 : Nat) (Option.some .int) ∈ lw_tbl := tq9 (i := 140) rfl
theorem tw2061 : Cond.methodLink "BrigadePagersModel" (412 : Nat) ({ cls := "BrigadePagersModel", name := "hands", desc := "(III)V" } : MethodName) ∈ lw_tbl := tq9 (i := 141) rfl
theorem tw2063 : Cond.instanceMethod ({ cls := "BrigadePagersModel", name := "hands", desc := "(III)V" } : MethodName) ∈ lw_tbl := tq9 (i := 143) rfl
theorem tw2064 : Cond.code ({ cls := "BrigadePagersModel", name := "hands", desc := "(III)V" } : MethodName) prog_14_method_63_code (5 : Nat) (Option.none : Option ClassFile.FieldType) ∈ lw_tbl := tq9 (i := 144) rfl
theorem tw2065 : Cond.methodLink "BrigadePagersLaw" (300 : Nat) ({ cls := "BrigadePagersModel", name := "whyAbsent", desc := "(II)I" } : MethodName) ∈ lw_tbl := tq9 (i := 145) rfl
theorem tw2066 : Cond.instanceMethod ({ cls := "BrigadePagersModel", name := "whyAbsent", desc := "(II)I" } : MethodName) ∈ lw_tbl := tq9 (i := 146) rfl
theorem tw2067 : Cond.selects "BrigadePagersModel" ({ cls := "BrigadePagersModel", name := "whyAbsent", desc := "(II)I" } : MethodName) ({ cls := "BrigadePagersModel", name := "whyAbsent", desc := "(II)I" } : MethodName) ∈ lw_tbl := tq9 (i := 147) rfl
theorem tw2068 : Cond.code ({ cls := "BrigadePagersModel", name := "whyAbsent", desc := "(II)I" } : MethodName) prog_14_method_84_code (3 : Nat) (Option.some .int) ∈ lw_tbl := tq9 (i := 148) rfl
theorem tw2069 : Cond.methodLink "BrigadePagersModel" (443 : Nat) ({ cls := "BrigadePagersModel", name := "isKind", desc := "(I)Z" } : MethodName) ∈ lw_tbl := tq9 (i := 149) rfl
theorem tw2071 : Cond.instanceMethod ({ cls := "BrigadePagersModel", name := "isKind", desc := "(I)Z" } : MethodName) ∈ lw_tbl := tq9 (i := 151) rfl
theorem tw2072 : Cond.code ({ cls := "BrigadePagersModel", name := "isKind", desc := "(I)Z" } : MethodName) prog_14_method_81_code (2 : Nat) (Option.some .boolean) ∈ lw_tbl := tq9 (i := 152) rfl
theorem tw2073 : Cond.methodLink "BrigadePagersModel" (428 : Nat) ({ cls := "BrigadePagersModel", name := "absent", desc := "(II)I" } : MethodName) ∈ lw_tbl := tq9 (i := 153) rfl
theorem tw2075 : Cond.instanceMethod ({ cls := "BrigadePagersModel", name := "absent", desc := "(II)I" } : MethodName) ∈ lw_tbl := tq9 (i := 155) rfl
theorem tw2076 : Cond.code ({ cls := "BrigadePagersModel", name := "absent", desc := "(II)I" } : MethodName) prog_14_method_75_code (5 : Nat) (Option.some .int) ∈ lw_tbl := tq9 (i := 156) rfl
theorem tw2077 : Cond.methodLink "BrigadePagersLaw" (303 : Nat) ({ cls := "BrigadePagersModel", name := "whyStays", desc := "(II)I" } : MethodName) ∈ lw_tbl := tq9 (i := 157) rfl
theorem tw2078 : Cond.instanceMethod ({ cls := "BrigadePagersModel", name := "whyStays", desc := "(II)I" } : MethodName) ∈ lw_tbl := tq9 (i := 158) rfl
theorem tw2079 : Cond.selects "BrigadePagersModel" ({ cls := "BrigadePagersModel", name := "whyStays", desc := "(II)I" } : MethodName) ({ cls := "BrigadePagersModel", name := "whyStays", desc := "(II)I" } : MethodName) ∈ lw_tbl := tq9 (i := 159) rfl
theorem tw2080 : Cond.code ({ cls := "BrigadePagersModel", name := "whyStays", desc := "(II)I" } : MethodName) prog_14_method_85_code (3 : Nat) (Option.some .int) ∈ lw_tbl := tq9 (i := 160) rfl
theorem tw2081 : Cond.methodLink "BrigadePagersModel" (449 : Nat) ({ cls := "BrigadePagersModel", name := "isEngine", desc := "(II)Z" } : MethodName) ∈ lw_tbl := tq9 (i := 161) rfl
theorem tw2083 : Cond.instanceMethod ({ cls := "BrigadePagersModel", name := "isEngine", desc := "(II)Z" } : MethodName) ∈ lw_tbl := tq9 (i := 163) rfl
theorem tw2084 : Cond.code ({ cls := "BrigadePagersModel", name := "isEngine", desc := "(II)Z" } : MethodName) prog_14_method_82_code (3 : Nat) (Option.some .boolean) ∈ lw_tbl := tq9 (i := 164) rfl
theorem tw2085 : Cond.methodLink "BrigadePagersModel" (446 : Nat) ({ cls := "BrigadePagersModel", name := "plans", desc := "(I)V" } : MethodName) ∈ lw_tbl := tq9 (i := 165) rfl
theorem tw2087 : Cond.instanceMethod ({ cls := "BrigadePagersModel", name := "plans", desc := "(I)V" } : MethodName) ∈ lw_tbl := tq9 (i := 167) rfl
theorem tw2088 : Cond.code ({ cls := "BrigadePagersModel", name := "plans", desc := "(I)V" } : MethodName) prog_14_method_80_code (5 : Nat) (Option.none : Option ClassFile.FieldType) ∈ lw_tbl := tq9 (i := 168) rfl
theorem tw2089 : Cond.methodLink "BrigadePagersModel" (434 : Nat) ({ cls := "BrigadePagersModel", name := "isRested", desc := "(I)Z" } : MethodName) ∈ lw_tbl := tq9 (i := 169) rfl
theorem tw2091 : Cond.instanceMethod ({ cls := "BrigadePagersModel", name := "isRested", desc := "(I)Z" } : MethodName) ∈ lw_tbl := tq9 (i := 171) rfl
theorem tw2092 : Cond.code ({ cls := "BrigadePagersModel", name := "isRested", desc := "(I)Z" } : MethodName) prog_14_method_79_code (2 : Nat) (Option.some .boolean) ∈ lw_tbl := tq9 (i := 172) rfl
theorem tw2093 : Cond.methodLink "BrigadePagersModel" (437 : Nat) ({ cls := "BrigadePagersModel", name := "isEngineOut", desc := "(I)Z" } : MethodName) ∈ lw_tbl := tq9 (i := 173) rfl
theorem tw2095 : Cond.instanceMethod ({ cls := "BrigadePagersModel", name := "isEngineOut", desc := "(I)Z" } : MethodName) ∈ lw_tbl := tq9 (i := 175) rfl
theorem tw2096 : Cond.code ({ cls := "BrigadePagersModel", name := "isEngineOut", desc := "(I)Z" } : MethodName) prog_14_method_78_code (2 : Nat) (Option.some .boolean) ∈ lw_tbl := tq9 (i := 176) rfl
theorem tw2097 : Cond.methodLink "BrigadePagersModel" (440 : Nat) ({ cls := "BrigadePagersModel", name := "crewOf", desc := "(II)I" } : MethodName) ∈ lw_tbl := tq9 (i := 177) rfl
theorem tw2099 : Cond.instanceMethod ({ cls := "BrigadePagersModel", name := "crewOf", desc := "(II)I" } : MethodName) ∈ lw_tbl := tq9 (i := 179) rfl
theorem tw2100 : Cond.code ({ cls := "BrigadePagersModel", name := "crewOf", desc := "(II)I" } : MethodName) prog_14_method_77_code (9 : Nat) (Option.some .int) ∈ lw_tbl := tq9 (i := 180) rfl
theorem tw2101 : Cond.methodLink "BrigadePagersModel" (415 : Nat) ({ cls := "BrigadePagersModel", name := "many", desc := "(I)I" } : MethodName) ∈ lw_tbl := tq9 (i := 181) rfl
theorem tw2102 : Cond.static ({ cls := "BrigadePagersModel", name := "many", desc := "(I)I" } : MethodName) ∈ lw_tbl := tq9 (i := 182) rfl
theorem tw2103 : Cond.code ({ cls := "BrigadePagersModel", name := "many", desc := "(I)I" } : MethodName) prog_14_method_73_code (3 : Nat) (Option.some .int) ∈ lw_tbl := tq9 (i := 183) rfl
theorem tw2104 : Cond.methodLink "BrigadePagersModel" (418 : Nat) ({ cls := "BrigadePagersModel", name := "fits", desc := "(III)Z" } : MethodName) ∈ lw_tbl := tq9 (i := 184) rfl
theorem tw2106 : Cond.instanceMethod ({ cls := "BrigadePagersModel", name := "fits", desc := "(III)Z" } : MethodName) ∈ lw_tbl := tq9 (i := 186) rfl
theorem tw2107 : Cond.code ({ cls := "BrigadePagersModel", name := "fits", desc := "(III)Z" } : MethodName) prog_14_method_74_code (5 : Nat) (Option.some .boolean) ∈ lw_tbl := tq9 (i := 187) rfl
theorem tw2108 : Cond.methodLink "BrigadePagersModel" (422 : Nat) ({ cls := "BrigadePagersModel", name := "latest", desc := "(I)I" } : MethodName) ∈ lw_tbl := tq9 (i := 188) rfl
theorem tw2110 : Cond.instanceMethod ({ cls := "BrigadePagersModel", name := "latest", desc := "(I)I" } : MethodName) ∈ lw_tbl := tq9 (i := 190) rfl
theorem tw2111 : Cond.code ({ cls := "BrigadePagersModel", name := "latest", desc := "(I)I" } : MethodName) prog_14_method_76_code (5 : Nat) (Option.some .int) ∈ lw_tbl := tq9 (i := 191) rfl
theorem tw2112 : Cond.methodLink "BrigadePagersLaw" (306 : Nat) ({ cls := "BrigadePagersModel", name := "departure", desc := "(II)I" } : MethodName) ∈ lw_tbl := tq9 (i := 192) rfl
theorem tw2113 : Cond.instanceMethod ({ cls := "BrigadePagersModel", name := "departure", desc := "(II)I" } : MethodName) ∈ lw_tbl := tq9 (i := 193) rfl
theorem tw2114 : Cond.selects "BrigadePagersModel" ({ cls := "BrigadePagersModel", name := "departure", desc := "(II)I" } : MethodName) ({ cls := "BrigadePagersModel", name := "departure", desc := "(II)I" } : MethodName) ∈ lw_tbl := tq9 (i := 194) rfl
theorem tw2115 : Cond.code ({ cls := "BrigadePagersModel", name := "departure", desc := "(II)I" } : MethodName) prog_14_method_86_code (3 : Nat) (Option.some .int) ∈ lw_tbl := tq9 (i := 195) rfl
theorem tw2116 : Cond.methodLink "BrigadePagersLaw" (309 : Nat) ({ cls := "BrigadePagersModel", name := "mans", desc := "(III)I" } : MethodName) ∈ lw_tbl := tq9 (i := 196) rfl
theorem tw2117 : Cond.instanceMethod ({ cls := "BrigadePagersModel", name := "mans", desc := "(III)I" } : MethodName) ∈ lw_tbl := tq9 (i := 197) rfl
theorem tw2118 : Cond.selects "BrigadePagersModel" ({ cls := "BrigadePagersModel", name := "mans", desc := "(III)I" } : MethodName) ({ cls := "BrigadePagersModel", name := "mans", desc := "(III)I" } : MethodName) ∈ lw_tbl := tq9 (i := 198) rfl
theorem tw2119 : Cond.code ({ cls := "BrigadePagersModel", name := "mans", desc := "(III)I" } : MethodName) prog_14_method_87_code (11 : Nat) (Option.some .int) ∈ lw_tbl := tq9 (i := 199) rfl
theorem tw2120 : Cond.methodLink "BrigadePagersLaw" (312 : Nat) ({ cls := "BrigadePagersModel", name := "manned", desc := "(II)I" } : MethodName) ∈ lw_tbl := tq9 (i := 200) rfl
theorem tw2121 : Cond.instanceMethod ({ cls := "BrigadePagersModel", name := "manned", desc := "(II)I" } : MethodName) ∈ lw_tbl := tq9 (i := 201) rfl
theorem tw2122 : Cond.selects "BrigadePagersModel" ({ cls := "BrigadePagersModel", name := "manned", desc := "(II)I" } : MethodName) ({ cls := "BrigadePagersModel", name := "manned", desc := "(II)I" } : MethodName) ∈ lw_tbl := tq9 (i := 202) rfl
theorem tw2123 : Cond.code ({ cls := "BrigadePagersModel", name := "manned", desc := "(II)I" } : MethodName) prog_14_method_90_code (7 : Nat) (Option.some .int) ∈ lw_tbl := tq9 (i := 203) rfl
theorem tw2124 : Cond.methodLink "BrigadePagersModel" (452 : Nat) ({ cls := "BrigadePagersModel", name := "begins", desc := "()V" } : MethodName) ∈ lw_tbl := tq9 (i := 204) rfl
theorem tw2126 : Cond.instanceMethod ({ cls := "BrigadePagersModel", name := "begins", desc := "()V" } : MethodName) ∈ lw_tbl := tq9 (i := 206) rfl
theorem tw2127 : Cond.code ({ cls := "BrigadePagersModel", name := "begins", desc := "()V" } : MethodName) prog_14_method_89_code (2 : Nat) (Option.none : Option ClassFile.FieldType) ∈ lw_tbl := tq9 (i := 207) rfl
theorem tw2128 : Cond.methodLink "BrigadePagersModel" (454 : Nat) ({ cls := "BrigadePagersModel", name := "joins", desc := "(IIIZ)V" } : MethodName) ∈ lw_tbl := tq9 (i := 208) rfl
theorem tw2130 : Cond.instanceMethod ({ cls := "BrigadePagersModel", name := "joins", desc := "(IIIZ)V" } : MethodName) ∈ lw_tbl := tq9 (i := 210) rfl
theorem tw2131 : Cond.code ({ cls := "BrigadePagersModel", name := "joins", desc := "(IIIZ)V" } : MethodName) prog_14_method_88_code (8 : Nat) (Option.none : Option ClassFile.FieldType) ∈ lw_tbl := tq9 (i := 211) rfl
theorem tw2132 : Cond.methodLink "BrigadePagersLaw" (315 : Nat) ({ cls := "BrigadePagersModel", name := "wouldAnswer", desc := "(I)Z" } : MethodName) ∈ lw_tbl := tq9 (i := 212) rfl
theorem tw2133 : Cond.instanceMethod ({ cls := "BrigadePagersModel", name := "wouldAnswer", desc := "(I)Z" } : MethodName) ∈ lw_tbl := tq9 (i := 213) rfl
theorem tw2134 : Cond.selects "BrigadePagersModel" ({ cls := "BrigadePagersModel", name := "wouldAnswer", desc := "(I)Z" } : MethodName) ({ cls := "BrigadePagersModel", name := "wouldAnswer", desc := "(I)Z" } : MethodName) ∈ lw_tbl := tq9 (i := 214) rfl
theorem tw2135 : Cond.code ({ cls := "BrigadePagersModel", name := "wouldAnswer", desc := "(I)Z" } : MethodName) prog_14_method_91_code (2 : Nat) (Option.some .boolean) ∈ lw_tbl := tq9 (i := 215) rfl
theorem tw2136 : Cond.methodLink "BrigadePagersModel" (458 : Nat) ({ cls := "BrigadePagersModel", name := "answers", desc := "(I)Z" } : MethodName) ∈ lw_tbl := tq9 (i := 216) rfl
theorem tw2138 : Cond.instanceMethod ({ cls := "BrigadePagersModel", name := "answers", desc := "(I)Z" } : MethodName) ∈ lw_tbl := tq9 (i := 218) rfl
theorem tw2139 : Cond.code ({ cls := "BrigadePagersModel", name := "answers", desc := "(I)Z" } : MethodName) prog_14_method_83_code (2 : Nat) (Option.some .boolean) ∈ lw_tbl := tq9 (i := 219) rfl
theorem tw2140 : Cond.methodLink "BrigadePagersLaw" (318 : Nat) ({ cls := "BrigadePagersModel", name := "mostEngines", desc := "(I)I" } : MethodName) ∈ lw_tbl := tq9 (i := 220) rfl
theorem tw2141 : Cond.instanceMethod ({ cls := "BrigadePagersModel", name := "mostEngines", desc := "(I)I" } : MethodName) ∈ lw_tbl := tq9 (i := 221) rfl
theorem tw2142 : Cond.selects "BrigadePagersModel" ({ cls := "BrigadePagersModel", name := "mostEngines", desc := "(I)I" } : MethodName) ({ cls := "BrigadePagersModel", name := "mostEngines", desc := "(I)I" } : MethodName) ∈ lw_tbl := tq9 (i := 222) rfl
theorem tw2143 : Cond.code ({ cls := "BrigadePagersModel", name := "mostEngines", desc := "(I)I" } : MethodName) prog_14_method_92_code (9 : Nat) (Option.some .int) ∈ lw_tbl := tq9 (i := 223) rfl
theorem tw2144 : Cond.methodLink "BrigadePagersLaw" (321 : Nat) ({ cls := "BrigadePagersModel", name := "hoursUntilAnswered", desc := "(I)I" } : MethodName) ∈ lw_tbl := tq9 (i := 224) rfl
theorem tw2145 : Cond.instanceMethod ({ cls := "BrigadePagersModel", name := "hoursUntilAnswered", desc := "(I)I" } : MethodName) ∈ lw_tbl := tq9 (i := 225) rfl
theorem tw2146 : Cond.selects "BrigadePagersModel" ({ cls := "BrigadePagersModel", name := "hoursUntilAnswered", desc := "(I)I" } : MethodName) ({ cls := "BrigadePagersModel", name := "hoursUntilAnswered", desc := "(I)I" } : MethodName) ∈ lw_tbl := tq9 (i := 226) rfl
theorem tw2147 : Cond.code ({ cls := "BrigadePagersModel", name := "hoursUntilAnswered", desc := "(I)I" } : MethodName) prog_14_method_93_code (5 : Nat) (Option.some .int) ∈ lw_tbl := tq9 (i := 227) rfl
theorem tw2148 : Cond.methodLink "BrigadePagersLaw" (324 : Nat) ({ cls := "BrigadePagersModel", name := "helpfulPager", desc := "(I)I" } : MethodName) ∈ lw_tbl := tq9 (i := 228) rfl
theorem tw2149 : Cond.instanceMethod ({ cls := "BrigadePagersModel", name := "helpfulPager", desc := "(I)I" } : MethodName) ∈ lw_tbl := tq9 (i := 229) rfl
theorem tw2150 : Cond.selects "BrigadePagersModel" ({ cls := "BrigadePagersModel", name := "helpfulPager", desc := "(I)I" } : MethodName) ({ cls := "BrigadePagersModel", name := "helpfulPager", desc := "(I)I" } : MethodName) ∈ lw_tbl := tq9 (i := 230) rfl
theorem tw2151 : Cond.code ({ cls := "BrigadePagersModel", name := "helpfulPager", desc := "(I)I" } : MethodName) prog_14_method_96_code (2 : Nat) (Option.some .int) ∈ lw_tbl := tq9 (i := 231) rfl
theorem tw2152 : Cond.methodLink "BrigadePagersModel" (464 : Nat) ({ cls := "BrigadePagersModel", name := "helps", desc := "(I)I" } : MethodName) ∈ lw_tbl := tq9 (i := 232) rfl
theorem tw2154 : Cond.instanceMethod ({ cls := "BrigadePagersModel", name := "helps", desc := "(I)I" } : MethodName) ∈ lw_tbl := tq9 (i := 234) rfl
theorem tw2155 : Cond.code ({ cls := "BrigadePagersModel", name := "helps", desc := "(I)I" } : MethodName) prog_14_method_95_code (3 : Nat) (Option.some .int) ∈ lw_tbl := tq9 (i := 235) rfl
theorem tw2156 : Cond.methodLink "BrigadePagersModel" (461 : Nat) ({ cls := "BrigadePagersModel", name := "helpful", desc := "(I)I" } : MethodName) ∈ lw_tbl := tq9 (i := 236) rfl
theorem tw2158 : Cond.instanceMethod ({ cls := "BrigadePagersModel", name := "helpful", desc := "(I)I" } : MethodName) ∈ lw_tbl := tq9 (i := 238) rfl
theorem tw2159 : Cond.code ({ cls := "BrigadePagersModel", name := "helpful", desc := "(I)I" } : MethodName) prog_14_method_94_code (6 : Nat) (Option.some .int) ∈ lw_tbl := tq9 (i := 239) rfl
theorem tw2160 : Cond.methodLink "BrigadePagersLaw" (327 : Nat) ({ cls := "BrigadePagersModel", name := "helpfulPerson", desc := "(I)I" } : MethodName) ∈ lw_tbl := tq10 (i := 0) rfl
theorem tw2161 : Cond.instanceMethod ({ cls := "BrigadePagersModel", name := "helpfulPerson", desc := "(I)I" } : MethodName) ∈ lw_tbl := tq10 (i := 1) rfl
theorem tw2162 : Cond.selects "BrigadePagersModel" ({ cls := "BrigadePagersModel", name := "helpfulPerson", desc := "(I)I" } : MethodName) ({ cls := "BrigadePagersModel", name := "helpfulPerson", desc := "(I)I" } : MethodName) ∈ lw_tbl := tq10 (i := 2) rfl
theorem tw2163 : Cond.code ({ cls := "BrigadePagersModel", name := "helpfulPerson", desc := "(I)I" } : MethodName) prog_14_method_97_code (2 : Nat) (Option.some .int) ∈ lw_tbl := tq10 (i := 3) rfl
theorem tw2164 : Cond.methodLink "BrigadePagersLaw" (272 : Nat) ({ cls := "BrigadePagersModel", name := "returnsAt", desc := "(I)I" } : MethodName) ∈ lw_tbl := tq10 (i := 4) rfl
theorem tw2165 : Cond.instanceMethod ({ cls := "BrigadePagersModel", name := "returnsAt", desc := "(I)I" } : MethodName) ∈ lw_tbl := tq10 (i := 5) rfl
theorem tw2166 : Cond.selects "BrigadePagersModel" ({ cls := "BrigadePagersModel", name := "returnsAt", desc := "(I)I" } : MethodName) ({ cls := "BrigadePagersModel", name := "returnsAt", desc := "(I)I" } : MethodName) ∈ lw_tbl := tq10 (i := 6) rfl
theorem tw2167 : Cond.code ({ cls := "BrigadePagersModel", name := "returnsAt", desc := "(I)I" } : MethodName) prog_14_method_100_code (2 : Nat) (Option.some .int) ∈ lw_tbl := tq10 (i := 7) rfl
theorem tw2168 : Cond.methodLink "BrigadePagersLaw" (275 : Nat) ({ cls := "BrigadePagersModel", name := "cost", desc := "(I)I" } : MethodName) ∈ lw_tbl := tq10 (i := 8) rfl
theorem tw2169 : Cond.instanceMethod ({ cls := "BrigadePagersModel", name := "cost", desc := "(I)I" } : MethodName) ∈ lw_tbl := tq10 (i := 9) rfl
theorem tw2170 : Cond.selects "BrigadePagersModel" ({ cls := "BrigadePagersModel", name := "cost", desc := "(I)I" } : MethodName) ({ cls := "BrigadePagersModel", name := "cost", desc := "(I)I" } : MethodName) ∈ lw_tbl := tq10 (i := 10) rfl
theorem tw2171 : Cond.code ({ cls := "BrigadePagersModel", name := "cost", desc := "(I)I" } : MethodName) prog_14_method_101_code (2 : Nat) (Option.some .int) ∈ lw_tbl := tq10 (i := 11) rfl
theorem tw2172 : Cond.methodLink "BrigadePagersModel" (467 : Nat) ({ cls := "BrigadePagersModel", name := "isCall", desc := "(I)Z" } : MethodName) ∈ lw_tbl := tq10 (i := 12) rfl
theorem tw2174 : Cond.instanceMethod ({ cls := "BrigadePagersModel", name := "isCall", desc := "(I)Z" } : MethodName) ∈ lw_tbl := tq10 (i := 14) rfl
theorem tw2175 : Cond.code ({ cls := "BrigadePagersModel", name := "isCall", desc := "(I)Z" } : MethodName) prog_14_method_98_code (2 : Nat) (Option.some .boolean) ∈ lw_tbl := tq10 (i := 15) rfl
theorem tw2176 : Cond.methodLink "BrigadePagersModel" (470 : Nat) ({ cls := "BrigadePagersModel", name := "callAt", desc := "(II)I" } : MethodName) ∈ lw_tbl := tq10 (i := 16) rfl
theorem tw2178 : Cond.instanceMethod ({ cls := "BrigadePagersModel", name := "callAt", desc := "(II)I" } : MethodName) ∈ lw_tbl := tq10 (i := 18) rfl
theorem tw2179 : Cond.code ({ cls := "BrigadePagersModel", name := "callAt", desc := "(II)I" } : MethodName) prog_14_method_99_code (3 : Nat) (Option.some .int) ∈ lw_tbl := tq10 (i := 19) rfl
theorem tw2180 : Cond.methodLink "BrigadePagersLaw" (278 : Nat) ({ cls := "BrigadePagersModel", name := "isAnswered", desc := "(I)Z" } : MethodName) ∈ lw_tbl := tq10 (i := 20) rfl
theorem tw2181 : Cond.instanceMethod ({ cls := "BrigadePagersModel", name := "isAnswered", desc := "(I)Z" } : MethodName) ∈ lw_tbl := tq10 (i := 21) rfl
theorem tw2182 : Cond.selects "BrigadePagersModel" ({ cls := "BrigadePagersModel", name := "isAnswered", desc := "(I)Z" } : MethodName) ({ cls := "BrigadePagersModel", name := "isAnswered", desc := "(I)Z" } : MethodName) ∈ lw_tbl := tq10 (i := 22) rfl
theorem tw2183 : Cond.code ({ cls := "BrigadePagersModel", name := "isAnswered", desc := "(I)Z" } : MethodName) prog_14_method_102_code (2 : Nat) (Option.some .boolean) ∈ lw_tbl := tq10 (i := 23) rfl
theorem tw2184 : Cond.methodLink "BrigadePagersLaw" (281 : Nat) ({ cls := "BrigadePagersModel", name := "came", desc := "(I)I" } : MethodName) ∈ lw_tbl := tq10 (i := 24) rfl
theorem tw2185 : Cond.instanceMethod ({ cls := "BrigadePagersModel", name := "came", desc := "(I)I" } : MethodName) ∈ lw_tbl := tq10 (i := 25) rfl
theorem tw2186 : Cond.selects "BrigadePagersModel" ({ cls := "BrigadePagersModel", name := "came", desc := "(I)I" } : MethodName) ({ cls := "BrigadePagersModel", name := "came", desc := "(I)I" } : MethodName) ∈ lw_tbl := tq10 (i := 26) rfl
theorem tw2187 : Cond.code ({ cls := "BrigadePagersModel", name := "came", desc := "(I)I" } : MethodName) prog_14_method_103_code (2 : Nat) (Option.some .int) ∈ lw_tbl := tq10 (i := 27) rfl
theorem tw2188 : Cond.methodLink "BrigadePagersLaw" (284 : Nat) ({ cls := "BrigadePagersModel", name := "left", desc := "(I)I" } : MethodName) ∈ lw_tbl := tq10 (i := 28) rfl
theorem tw2189 : Cond.instanceMethod ({ cls := "BrigadePagersModel", name := "left", desc := "(I)I" } : MethodName) ∈ lw_tbl := tq10 (i := 29) rfl
theorem tw2190 : Cond.selects "BrigadePagersModel" ({ cls := "BrigadePagersModel", name := "left", desc := "(I)I" } : MethodName) ({ cls := "BrigadePagersModel", name := "left", desc := "(I)I" } : MethodName) ∈ lw_tbl := tq10 (i := 30) rfl
theorem tw2191 : Cond.code ({ cls := "BrigadePagersModel", name := "left", desc := "(I)I" } : MethodName) prog_14_method_104_code (2 : Nat) (Option.some .int) ∈ lw_tbl := tq10 (i := 31) rfl
theorem tw2192 : Cond.methodLink "BrigadePagersLaw" (287 : Nat) ({ cls := "BrigadePagersModel", name := "engine", desc := "(II)I" } : MethodName) ∈ lw_tbl := tq10 (i := 32) rfl
theorem tw2193 : Cond.instanceMethod ({ cls := "BrigadePagersModel", name := "engine", desc := "(II)I" } : MethodName) ∈ lw_tbl := tq10 (i := 33) rfl
theorem tw2194 : Cond.selects "BrigadePagersModel" ({ cls := "BrigadePagersModel", name := "engine", desc := "(II)I" } : MethodName) ({ cls := "BrigadePagersModel", name := "engine", desc := "(II)I" } : MethodName) ∈ lw_tbl := tq10 (i := 34) rfl
theorem tw2195 : Cond.code ({ cls := "BrigadePagersModel", name := "engine", desc := "(II)I" } : MethodName) prog_14_method_106_code (3 : Nat) (Option.some .int) ∈ lw_tbl := tq10 (i := 35) rfl
theorem tw2196 : Cond.methodLink "BrigadePagersModel" (473 : Nat) ({ cls := "BrigadePagersModel", name := "leavingAt", desc := "(III)I" } : MethodName) ∈ lw_tbl := tq10 (i := 36) rfl
theorem tw2198 : Cond.instanceMethod ({ cls := "BrigadePagersModel", name := "leavingAt", desc := "(III)I" } : MethodName) ∈ lw_tbl := tq10 (i := 38) rfl
theorem tw2199 : Cond.code ({ cls := "BrigadePagersModel", name := "leavingAt", desc := "(III)I" } : MethodName) prog_14_method_105_code (4 : Nat) (Option.some .int) ∈ lw_tbl := tq10 (i := 39) rfl
theorem tw2200 : Cond.methodLink "BrigadePagersLaw" (290 : Nat) ({ cls := "BrigadePagersModel", name := "leftAt", desc := "(II)I" } : MethodName) ∈ lw_tbl := tq10 (i := 40) rfl
theorem tw2201 : Cond.instanceMethod ({ cls := "BrigadePagersModel", name := "leftAt", desc := "(II)I" } : MethodName) ∈ lw_tbl := tq10 (i := 41) rfl
theorem tw2202 : Cond.selects "BrigadePagersModel" ({ cls := "BrigadePagersModel", name := "leftAt", desc := "(II)I" } : MethodName) ({ cls := "BrigadePagersModel", name := "leftAt", desc := "(II)I" } : MethodName) ∈ lw_tbl := tq10 (i := 42) rfl
theorem tw2203 : Cond.code ({ cls := "BrigadePagersModel", name := "leftAt", desc := "(II)I" } : MethodName) prog_14_method_107_code (3 : Nat) (Option.some .int) ∈ lw_tbl := tq10 (i := 43) rfl
theorem tw2204 : Cond.methodLink "BrigadePagersLaw" (293 : Nat) ({ cls := "BrigadePagersModel", name := "member", desc := "(III)I" } : MethodName) ∈ lw_tbl := tq10 (i := 44) rfl
theorem tw2205 : Cond.instanceMethod ({ cls := "BrigadePagersModel", name := "member", desc := "(III)I" } : MethodName) ∈ lw_tbl := tq10 (i := 45) rfl
theorem tw2206 : Cond.selects "BrigadePagersModel" ({ cls := "BrigadePagersModel", name := "member", desc := "(III)I" } : MethodName) ({ cls := "BrigadePagersModel", name := "member", desc := "(III)I" } : MethodName) ∈ lw_tbl := tq10 (i := 46) rfl
theorem tw2207 : Cond.code ({ cls := "BrigadePagersModel", name := "member", desc := "(III)I" } : MethodName) prog_14_method_108_code (7 : Nat) (Option.some .int) ∈ lw_tbl := tq10 (i := 47) rfl
theorem tw2208 : Cond.methodLink "BrigadePagersLaw" (297 : Nat) ({ cls := "BrigadePagersModel", name := "totalCost", desc := "()I" } : MethodName) ∈ lw_tbl := tq10 (i := 48) rfl
theorem tw2209 : Cond.instanceMethod ({ cls := "BrigadePagersModel", name := "totalCost", desc := "()I" } : MethodName) ∈ lw_tbl := tq10 (i := 49) rfl
theorem tw2210 : Cond.selects "BrigadePagersModel" ({ cls := "BrigadePagersModel", name := "totalCost", desc := "()I" } : MethodName) ({ cls := "BrigadePagersModel", name := "totalCost", desc := "()I" } : MethodName) ∈ lw_tbl := tq10 (i := 50) rfl
theorem tw2211 : Cond.code ({ cls := "BrigadePagersModel", name := "totalCost", desc := "()I" } : MethodName) prog_14_method_109_code (3 : Nat) (Option.some .int) ∈ lw_tbl := tq10 (i := 51) rfl
theorem tw2212 : Cond.methodLink "BrigadePagersLaw" (330 : Nat) ({ cls := "BrigadePagersModel", name := "call", desc := "(I)I" } : MethodName) ∈ lw_tbl := tq10 (i := 52) rfl
theorem tw2213 : Cond.instanceMethod ({ cls := "BrigadePagersModel", name := "call", desc := "(I)I" } : MethodName) ∈ lw_tbl := tq10 (i := 53) rfl
theorem tw2214 : Cond.selects "BrigadePagersModel" ({ cls := "BrigadePagersModel", name := "call", desc := "(I)I" } : MethodName) ({ cls := "BrigadePagersModel", name := "call", desc := "(I)I" } : MethodName) ∈ lw_tbl := tq10 (i := 54) rfl
theorem tw2215 : Cond.code ({ cls := "BrigadePagersModel", name := "call", desc := "(I)I" } : MethodName) prog_14_method_112_code (11 : Nat) (Option.some .int) ∈ lw_tbl := tq10 (i := 55) rfl
theorem tw2216 : Cond.methodLink "BrigadePagersModel" (476 : Nat) ({ cls := "BrigadePagersModel", name := "keeps", desc := "()V" } : MethodName) ∈ lw_tbl := tq10 (i := 56) rfl
theorem tw2218 : Cond.instanceMethod ({ cls := "BrigadePagersModel", name := "keeps", desc := "()V" } : MethodName) ∈ lw_tbl := tq10 (i := 58) rfl
theorem tw2219 : Cond.code ({ cls := "BrigadePagersModel", name := "keeps", desc := "()V" } : MethodName) prog_14_method_110_code (2 : Nat) (Option.none : Option ClassFile.FieldType) ∈ lw_tbl := tq10 (i := 59) rfl
theorem tw2220 : Cond.methodLink "BrigadePagersModel" (479 : Nat) ({ cls := "BrigadePagersModel", name := "sends", desc := "(II)I" } : MethodName) ∈ lw_tbl := tq10 (i := 60) rfl
theorem tw2222 : Cond.instanceMethod ({ cls := "BrigadePagersModel", name := "sends", desc := "(II)I" } : MethodName) ∈ lw_tbl := tq10 (i := 62) rfl
theorem tw2223 : Cond.code ({ cls := "BrigadePagersModel", name := "sends", desc := "(II)I" } : MethodName) prog_14_method_111_code (5 : Nat) (Option.some .int) ∈ lw_tbl := tq10 (i := 63) rfl
theorem tw2224 : Cond.methodLink "BrigadePagersLaw" (333 : Nat) ({ cls := "BrigadePagersModel", name := "handOn", desc := "(III)I" } : MethodName) ∈ lw_tbl := tq10 (i := 64) rfl
theorem tw2225 : Cond.instanceMethod ({ cls := "BrigadePagersModel", name := "handOn", desc := "(III)I" } : MethodName) ∈ lw_tbl := tq10 (i := 65) rfl
theorem tw2226 : Cond.selects "BrigadePagersModel" ({ cls := "BrigadePagersModel", name := "handOn", desc := "(III)I" } : MethodName) ({ cls := "BrigadePagersModel", name := "handOn", desc := "(III)I" } : MethodName) ∈ lw_tbl := tq10 (i := 66) rfl
theorem tw2227 : Cond.code ({ cls := "BrigadePagersModel", name := "handOn", desc := "(III)I" } : MethodName) prog_14_method_113_code (4 : Nat) (Option.some .int) ∈ lw_tbl := tq10 (i := 67) rfl
theorem tw2228 : Cond.methodLink "BrigadePagersLaw" (336 : Nat) ({ cls := "BrigadePagersModel", name := "giveBack", desc := "(I)I" } : MethodName) ∈ lw_tbl := tq10 (i := 68) rfl
theorem tw2229 : Cond.instanceMethod ({ cls := "BrigadePagersModel", name := "giveBack", desc := "(I)I" } : MethodName) ∈ lw_tbl := tq10 (i := 69) rfl
theorem tw2230 : Cond.selects "BrigadePagersModel" ({ cls := "BrigadePagersModel", name := "giveBack", desc := "(I)I" } : MethodName) ({ cls := "BrigadePagersModel", name := "giveBack", desc := "(I)I" } : MethodName) ∈ lw_tbl := tq10 (i := 70) rfl
theorem tw2231 : Cond.code ({ cls := "BrigadePagersModel", name := "giveBack", desc := "(I)I" } : MethodName) prog_14_method_114_code (2 : Nat) (Option.some .int) ∈ lw_tbl := tq10 (i := 71) rfl
theorem tw2232 : Cond.methodLink "BrigadePagersLaw" (339 : Nat) ({ cls := "BrigadePagersModel", name := "pass", desc := "(I)I" } : MethodName) ∈ lw_tbl := tq10 (i := 72) rfl
theorem tw2233 : Cond.instanceMethod ({ cls := "BrigadePagersModel", name := "pass", desc := "(I)I" } : MethodName) ∈ lw_tbl := tq10 (i := 73) rfl
theorem tw2234 : Cond.selects "BrigadePagersModel" ({ cls := "BrigadePagersModel", name := "pass", desc := "(I)I" } : MethodName) ({ cls := "BrigadePagersModel", name := "pass", desc := "(I)I" } : MethodName) ∈ lw_tbl := tq10 (i := 74) rfl
theorem tw2235 : Cond.code ({ cls := "BrigadePagersModel", name := "pass", desc := "(I)I" } : MethodName) prog_14_method_115_code (4 : Nat) (Option.some .int) ∈ lw_tbl := tq10 (i := 75) rfl
theorem tw2236 : Cond.methodLink "BrigadePagersLaw" (342 : Nat) ({ cls := "BrigadePagersModel", name := "swapPlaces", desc := "(III)I" } : MethodName) ∈ lw_tbl := tq10 (i := 76) rfl
theorem tw2237 : Cond.instanceMethod ({ cls := "BrigadePagersModel", name := "swapPlaces", desc := "(III)I" } : MethodName) ∈ lw_tbl := tq10 (i := 77) rfl
theorem tw2238 : Cond.selects "BrigadePagersModel" ({ cls := "BrigadePagersModel", name := "swapPlaces", desc := "(III)I" } : MethodName) ({ cls := "BrigadePagersModel", name := "swapPlaces", desc := "(III)I" } : MethodName) ∈ lw_tbl := tq10 (i := 78) rfl
theorem tw2239 : Cond.code ({ cls := "BrigadePagersModel", name := "swapPlaces", desc := "(III)I" } : MethodName) prog_14_method_116_code (8 : Nat) (Option.some .int) ∈ lw_tbl := tq10 (i := 79) rfl
theorem tw2240 : Cond.methodLink "BrigadePagersLaw" (346 : Nat) ({ cls := "BrigadePagersModel", name := "excuse", desc := "(IZ)I" } : MethodName) ∈ lw_tbl := tq10 (i := 80) rfl
theorem tw2241 : Cond.instanceMethod ({ cls := "BrigadePagersModel", name := "excuse", desc := "(IZ)I" } : MethodName) ∈ lw_tbl := tq10 (i := 81) rfl
theorem tw2242 : Cond.selects "BrigadePagersModel" ({ cls := "BrigadePagersModel", name := "excuse", desc := "(IZ)I" } : MethodName) ({ cls := "BrigadePagersModel", name := "excuse", desc := "(IZ)I" } : MethodName) ∈ lw_tbl := tq10 (i := 82) rfl
theorem tw2243 : Cond.code ({ cls := "BrigadePagersModel", name := "excuse", desc := "(IZ)I" } : MethodName) prog_14_method_117_code (5 : Nat) (Option.some .int) ∈ lw_tbl := tq10 (i := 83) rfl
theorem tw2244 : Cond.methodLink "BrigadePagersLaw" (349 : Nat) ({ cls := "BrigadePagersModel", name := "setService", desc := "(IZ)I" } : MethodName) ∈ lw_tbl := tq10 (i := 84) rfl
theorem tw2245 : Cond.instanceMethod ({ cls := "BrigadePagersModel", name := "setService", desc := "(IZ)I" } : MethodName) ∈ lw_tbl := tq10 (i := 85) rfl
theorem tw2246 : Cond.selects "BrigadePagersModel" ({ cls := "BrigadePagersModel", name := "setService", desc := "(IZ)I" } : MethodName) ({ cls := "BrigadePagersModel", name := "setService", desc := "(IZ)I" } : MethodName) ∈ lw_tbl := tq10 (i := 86) rfl
theorem tw2247 : Cond.code ({ cls := "BrigadePagersModel", name := "setService", desc := "(IZ)I" } : MethodName) prog_14_method_118_code (5 : Nat) (Option.some .int) ∈ lw_tbl := tq10 (i := 87) rfl
theorem tw2248 : Cond.methodLink "BrigadePagersLaw" (352 : Nat) ({ cls := "BrigadePagersModel", name := "setTrust", desc := "(III)I" } : MethodName) ∈ lw_tbl := tq10 (i := 88) rfl
theorem tw2249 : Cond.instanceMethod ({ cls := "BrigadePagersModel", name := "setTrust", desc := "(III)I" } : MethodName) ∈ lw_tbl := tq10 (i := 89) rfl
theorem tw2250 : Cond.selects "BrigadePagersModel" ({ cls := "BrigadePagersModel", name := "setTrust", desc := "(III)I" } : MethodName) ({ cls := "BrigadePagersModel", name := "setTrust", desc := "(III)I" } : MethodName) ∈ lw_tbl := tq10 (i := 90) rfl
theorem tw2251 : Cond.code ({ cls := "BrigadePagersModel", name := "setTrust", desc := "(III)I" } : MethodName) prog_14_method_119_code (5 : Nat) (Option.some .int) ∈ lw_tbl := tq10 (i := 91) rfl
theorem tw2252 : Cond.constantLong "BrigadePagersModel" (482 : Nat) (9 : Int64) ∈ lw_tbl := tq10 (i := 92) rfl
theorem tw2253 : Cond.methodLink "BrigadePagersLaw" (355 : Nat) ({ cls := "BrigadePagersModel", name := "undo", desc := "()I" } : MethodName) ∈ lw_tbl := tq10 (i := 93) rfl
theorem tw2254 : Cond.instanceMethod ({ cls := "BrigadePagersModel", name := "undo", desc := "()I" } : MethodName) ∈ lw_tbl := tq10 (i := 94) rfl
theorem tw2255 : Cond.selects "BrigadePagersModel" ({ cls := "BrigadePagersModel", name := "undo", desc := "()I" } : MethodName) ({ cls := "BrigadePagersModel", name := "undo", desc := "()I" } : MethodName) ∈ lw_tbl := tq10 (i := 95) rfl
theorem tw2256 : Cond.code ({ cls := "BrigadePagersModel", name := "undo", desc := "()I" } : MethodName) prog_14_method_120_code (2 : Nat) (Option.some .int) ∈ lw_tbl := tq10 (i := 96) rfl
theorem tw2257 : Cond.methodLink "BrigadePagersLaw" (359 : Nat) ({ cls := "BrigadePagersModel", name := "save", desc := "(I)V" } : MethodName) ∈ lw_tbl := tq10 (i := 97) rfl
theorem tw2258 : Cond.instanceMethod ({ cls := "BrigadePagersModel", name := "save", desc := "(I)V" } : MethodName) ∈ lw_tbl := tq10 (i := 98) rfl
theorem tw2259 : Cond.selects "BrigadePagersModel" ({ cls := "BrigadePagersModel", name := "save", desc := "(I)V" } : MethodName) ({ cls := "BrigadePagersModel", name := "save", desc := "(I)V" } : MethodName) ∈ lw_tbl := tq10 (i := 99) rfl
theorem tw2260 : Cond.code ({ cls := "BrigadePagersModel", name := "save", desc := "(I)V" } : MethodName) prog_14_method_121_code (3 : Nat) (Option.none : Option ClassFile.FieldType) ∈ lw_tbl := tq10 (i := 100) rfl
theorem tw2261 : Cond.methodLink "BrigadePagersLaw" (362 : Nat) ({ cls := "BrigadePagersModel", name := "restore", desc := "(I)V" } : MethodName) ∈ lw_tbl := tq10 (i := 101) rfl
theorem tw2262 : Cond.instanceMethod ({ cls := "BrigadePagersModel", name := "restore", desc := "(I)V" } : MethodName) ∈ lw_tbl := tq10 (i := 102) rfl
theorem tw2263 : Cond.selects "BrigadePagersModel" ({ cls := "BrigadePagersModel", name := "restore", desc := "(I)V" } : MethodName) ({ cls := "BrigadePagersModel", name := "restore", desc := "(I)V" } : MethodName) ∈ lw_tbl := tq10 (i := 103) rfl
theorem tw2264 : Cond.code ({ cls := "BrigadePagersModel", name := "restore", desc := "(I)V" } : MethodName) prog_14_method_122_code (3 : Nat) (Option.none : Option ClassFile.FieldType) ∈ lw_tbl := tq10 (i := 104) rfl
theorem cl0 : CL[0]? = some (RX0, TX0, 8) := rfl
theorem cl1 : CL[1]? = some (RX1, TX1, 5) := rfl
theorem cl2 : CL[2]? = some (RX2, TX2, 4) := rfl
theorem cl3 : CL[3]? = some (RX3, TX3, 8) := rfl
theorem cl4 : CL[4]? = some (RX4, TX4, 11) := rfl
theorem cl5 : CL[5]? = some (RX5, TX5, 4) := rfl
theorem cl6 : CL[6]? = some (RX6, TX6, 5) := rfl
theorem cl7 : CL[7]? = some (RX7, TX7, 3) := rfl
theorem cl8 : CL[8]? = some (RX8, TX8, 12) := rfl
theorem cl9 : CL[9]? = some (RX9, TX9, 11) := rfl
theorem cl10 : CL[10]? = some (RX10, TX10, 16) := rfl
theorem cl11 : CL[11]? = some (RX11, TX11, 9) := rfl
theorem cl12 : CL[12]? = some (RX12, TX12, 71) := rfl
theorem cb_6 : (Int8.ofInt (6)).toInt32 = (6 : Int32) := by decide +kernel
theorem cb_7 : (Int8.ofInt (7)).toInt32 = (7 : Int32) := by decide +kernel
theorem cb_8 : (Int8.ofInt (8)).toInt32 = (8 : Int32) := by decide +kernel
theorem cb_9 : (Int8.ofInt (9)).toInt32 = (9 : Int32) := by decide +kernel
theorem cb_10 : (Int8.ofInt (10)).toInt32 = (10 : Int32) := by decide +kernel
theorem cb_12 : (Int8.ofInt (12)).toInt32 = (12 : Int32) := by decide +kernel
theorem cb_14 : (Int8.ofInt (14)).toInt32 = (14 : Int32) := by decide +kernel
theorem cb_15 : (Int8.ofInt (15)).toInt32 = (15 : Int32) := by decide +kernel
theorem cb_16 : (Int8.ofInt (16)).toInt32 = (16 : Int32) := by decide +kernel
theorem cb_18 : (Int8.ofInt (18)).toInt32 = (18 : Int32) := by decide +kernel
theorem cb_19 : (Int8.ofInt (19)).toInt32 = (19 : Int32) := by decide +kernel
theorem cb_20 : (Int8.ofInt (20)).toInt32 = (20 : Int32) := by decide +kernel
theorem cb_22 : (Int8.ofInt (22)).toInt32 = (22 : Int32) := by decide +kernel
theorem cb_23 : (Int8.ofInt (23)).toInt32 = (23 : Int32) := by decide +kernel
theorem cb_24 : (Int8.ofInt (24)).toInt32 = (24 : Int32) := by decide +kernel
theorem cb_26 : (Int8.ofInt (26)).toInt32 = (26 : Int32) := by decide +kernel
theorem cb_29 : (Int8.ofInt (29)).toInt32 = (29 : Int32) := by decide +kernel
theorem cb_30 : (Int8.ofInt (30)).toInt32 = (30 : Int32) := by decide +kernel
theorem cb_31 : (Int8.ofInt (31)).toInt32 = (31 : Int32) := by decide +kernel
theorem cb_32 : (Int8.ofInt (32)).toInt32 = (32 : Int32) := by decide +kernel
theorem cb_36 : (Int8.ofInt (36)).toInt32 = (36 : Int32) := by decide +kernel
theorem cb_38 : (Int8.ofInt (38)).toInt32 = (38 : Int32) := by decide +kernel
theorem cb_48 : (Int8.ofInt (48)).toInt32 = (48 : Int32) := by decide +kernel
theorem cb_50 : (Int8.ofInt (50)).toInt32 = (50 : Int32) := by decide +kernel
theorem cb_57 : (Int8.ofInt (57)).toInt32 = (57 : Int32) := by decide +kernel
theorem cb_58 : (Int8.ofInt (58)).toInt32 = (58 : Int32) := by decide +kernel
theorem cb_59 : (Int8.ofInt (59)).toInt32 = (59 : Int32) := by decide +kernel
theorem cb_60 : (Int8.ofInt (60)).toInt32 = (60 : Int32) := by decide +kernel
theorem cb_63 : (Int8.ofInt (63)).toInt32 = (63 : Int32) := by decide +kernel
theorem cb_80 : (Int8.ofInt (80)).toInt32 = (80 : Int32) := by decide +kernel
theorem cb_97 : (Int8.ofInt (97)).toInt32 = (97 : Int32) := by decide +kernel
theorem cb_99 : (Int8.ofInt (99)).toInt32 = (99 : Int32) := by decide +kernel
theorem cb_120 : (Int8.ofInt (120)).toInt32 = (120 : Int32) := by decide +kernel
theorem cb_122 : (Int8.ofInt (122)).toInt32 = (122 : Int32) := by decide +kernel
theorem ci_m8 : Int32.ofInt (-8) = (-8 : Int32) := by decide +kernel
theorem ci_m1 : Int32.ofInt (-1) = (-1 : Int32) := by decide +kernel
theorem ci_0 : Int32.ofInt (0) = (0 : Int32) := by decide +kernel
theorem ci_1 : Int32.ofInt (1) = (1 : Int32) := by decide +kernel
theorem ci_2 : Int32.ofInt (2) = (2 : Int32) := by decide +kernel
theorem ci_3 : Int32.ofInt (3) = (3 : Int32) := by decide +kernel
theorem ci_4 : Int32.ofInt (4) = (4 : Int32) := by decide +kernel
theorem ci_5 : Int32.ofInt (5) = (5 : Int32) := by decide +kernel
theorem ci_6 : Int32.ofInt (6) = (6 : Int32) := by decide +kernel
theorem cs_144 : (Int16.ofInt (144)).toInt32 = (144 : Int32) := by decide +kernel
theorem cs_168 : (Int16.ofInt (168)).toInt32 = (168 : Int32) := by decide +kernel
theorem cs_194 : (Int16.ofInt (194)).toInt32 = (194 : Int32) := by decide +kernel
theorem cs_240 : (Int16.ofInt (240)).toInt32 = (240 : Int32) := by decide +kernel
theorem cs_255 : (Int16.ofInt (255)).toInt32 = (255 : Int32) := by decide +kernel
theorem cs_284 : (Int16.ofInt (284)).toInt32 = (284 : Int32) := by decide +kernel
theorem cs_299 : (Int16.ofInt (299)).toInt32 = (299 : Int32) := by decide +kernel
theorem cs_603 : (Int16.ofInt (603)).toInt32 = (603 : Int32) := by decide +kernel
theorem cs_999 : (Int16.ofInt (999)).toInt32 = (999 : Int32) := by decide +kernel
theorem cs_1200 : (Int16.ofInt (1200)).toInt32 = (1200 : Int32) := by decide +kernel
theorem cs_1206 : (Int16.ofInt (1206)).toInt32 = (1206 : Int32) := by decide +kernel
theorem cs_1440 : (Int16.ofInt (1440)).toInt32 = (1440 : Int32) := by decide +kernel
theorem cs_4095 : (Int16.ofInt (4095)).toInt32 = (4095 : Int32) := by decide +kernel
theorem cs_4096 : (Int16.ofInt (4096)).toInt32 = (4096 : Int32) := by decide +kernel
theorem cs_6030 : (Int16.ofInt (6030)).toInt32 = (6030 : Int32) := by decide +kernel
theorem cs_16384 : (Int16.ofInt (16384)).toInt32 = (16384 : Int32) := by decide +kernel
theorem cs_20160 : (Int16.ofInt (20160)).toInt32 = (20160 : Int32) := by decide +kernel
theorem cl_0 : Int64.ofNat ((0 : Fin 2) : Nat) = (0 : Int64) := by decide +kernel
theorem cl_1 : Int64.ofNat ((1 : Fin 2) : Nat) = (1 : Int64) := by decide +kernel
theorem at_0 : atT 0 .int := ⟨Or.inl ⟨by decide, rfl⟩, rfl, by decide⟩
theorem at_1 : atT 1 .byte := ⟨Or.inl ⟨by decide, rfl⟩, rfl, by decide⟩
theorem at_2 : atT 2 .boolean := ⟨Or.inl ⟨by decide, rfl⟩, rfl, by decide⟩
theorem at_3 : atT 3 .long := ⟨Or.inr ⟨rfl, rfl⟩, rfl, by decide⟩
theorem fk490 : fLk "BrigadePagers" 9 (TX11 0) := Or.inl tw490
theorem fk492 : fLk "BrigadePagers" 18 (TX11 2) := Or.inl tw492
theorem fk493 : fLk "BrigadePagers" 25 (TX11 3) := Or.inl tw493
theorem fk494 : fLk "BrigadePagers" 29 (TX11 4) := Or.inl tw494
theorem fk495 : fLk "BrigadePagers" 37 (TX11 5) := Or.inl tw495
theorem fk496 : fLk "BrigadePagers" 41 (TX11 6) := Or.inl tw496
theorem fk497 : fLk "BrigadePagers" 49 (TX11 7) := Or.inl tw497
theorem fk498 : fLk "BrigadePagers" 56 (TX11 8) := Or.inl tw498
theorem fk235 : fLk "BrigadePagers" 60 (TX8 0) := Or.inr ⟨_, tw235⟩
theorem fk491 : fLk "BrigadePagers" 70 (TX11 1) := Or.inl tw491
theorem fk240 : fLk "BrigadePagers" 105 (TX8 1) := Or.inr ⟨_, tw240⟩
theorem fk53 : fLk "BrigadePagers" 108 (TX9 9) := Or.inr ⟨_, tw53⟩
theorem fk55 : fLk "BrigadePagers" 111 (TX9 10) := Or.inr ⟨_, tw55⟩
theorem fk379 : fLk "BrigadePagers" 131 (TX10 14) := Or.inr ⟨_, tw379⟩
theorem fk315 : fLk "BrigadePagers" 135 (TX0 0) := Or.inr ⟨_, tw315⟩
theorem fk351 : fLk "BrigadePagers" 144 (TX10 1) := Or.inr ⟨_, tw351⟩
theorem fk355 : fLk "BrigadePagers" 160 (TX10 3) := Or.inr ⟨_, tw355⟩
theorem fk353 : fLk "BrigadePagers" 164 (TX10 2) := Or.inr ⟨_, tw353⟩
theorem fk357 : fLk "BrigadePagers" 180 (TX10 4) := Or.inr ⟨_, tw357⟩
theorem fk362 : fLk "BrigadePagers" 187 (TX10 6) := Or.inr ⟨_, tw362⟩
theorem fk367 : fLk "BrigadePagers" 199 (TX10 8) := Or.inr ⟨_, tw367⟩
theorem fk364 : fLk "BrigadePagers" 213 (TX10 7) := Or.inr ⟨_, tw364⟩
theorem fk372 : fLk "BrigadePagers" 238 (TX10 11) := Or.inr ⟨_, tw372⟩
theorem fk317 : fLk "BrigadePagers" 244 (TX0 1) := Or.inr ⟨_, tw317⟩
theorem fk319 : fLk "BrigadePagers" 247 (TX0 2) := Or.inr ⟨_, tw319⟩
theorem fk321 : fLk "BrigadePagers" 254 (TX0 3) := Or.inr ⟨_, tw321⟩
theorem fk323 : fLk "BrigadePagers" 257 (TX0 4) := Or.inr ⟨_, tw323⟩
theorem fk325 : fLk "BrigadePagers" 263 (TX0 5) := Or.inr ⟨_, tw325⟩
theorem fk327 : fLk "BrigadePagers" 266 (TX0 6) := Or.inr ⟨_, tw327⟩
theorem fk329 : fLk "BrigadePagers" 269 (TX0 7) := Or.inr ⟨_, tw329⟩
theorem fk273 : fLk "BrigadePagers" 280 (TX8 10) := Or.inr ⟨_, tw273⟩
theorem fk424 : fLk "BrigadePagers" 288 (TX4 2) := Or.inr ⟨_, tw424⟩
theorem fk429 : fLk "BrigadePagers" 294 (TX4 6) := Or.inr ⟨_, tw429⟩
theorem fk435 : fLk "BrigadePagers" 300 (TX4 9) := Or.inr ⟨_, tw435⟩
theorem fk267 : fLk "BrigadePagers" 303 (TX8 8) := Or.inr ⟨_, tw267⟩
theorem fk216 : fLk "BrigadePagers" 306 (TX3 7) := Or.inr ⟨_, tw216⟩
theorem fk175 : fLk "BrigadePagers" 311 (TX1 2) := Or.inr ⟨_, tw175⟩
theorem fk433 : fLk "BrigadePagers" 318 (TX4 8) := Or.inr ⟨_, tw433⟩
theorem fk431 : fLk "BrigadePagers" 323 (TX4 7) := Or.inr ⟨_, tw431⟩
theorem fk255 : fLk "BrigadePagers" 343 (TX8 5) := Or.inr ⟨_, tw255⟩
theorem fk360 : fLk "BrigadePagers" 376 (TX10 5) := Or.inr ⟨_, tw360⟩
theorem fk377 : fLk "BrigadePagers" 386 (TX10 13) := Or.inr ⟨_, tw377⟩
theorem fk470 : fLk "BrigadePagers" 391 (TX2 0) := Or.inr ⟨_, tw470⟩
theorem fk473 : fLk "BrigadePagers" 402 (TX2 2) := Or.inr ⟨_, tw473⟩
theorem fk475 : fLk "BrigadePagers" 406 (TX2 3) := Or.inr ⟨_, tw475⟩
theorem fk259 : fLk "BrigadePagers" 418 (TX8 6) := Or.inr ⟨_, tw259⟩
theorem fk148 : fLk "BrigadePagers" 422 (TX6 3) := Or.inr ⟨_, tw148⟩
theorem fk263 : fLk "BrigadePagers" 429 (TX8 7) := Or.inr ⟨_, tw263⟩
theorem fk270 : fLk "BrigadePagers" 434 (TX8 9) := Or.inr ⟨_, tw270⟩
theorem fk212 : fLk "BrigadePagers" 439 (TX3 6) := Or.inr ⟨_, tw212⟩
theorem fk316 : fLk "BrigadePagers$CallLog" 9 (TX0 1) := Or.inl tw316
theorem fk320 : fLk "BrigadePagers$CallLog" 15 (TX0 3) := Or.inl tw320
theorem fk322 : fLk "BrigadePagers$CallLog" 18 (TX0 4) := Or.inl tw322
theorem fk324 : fLk "BrigadePagers$CallLog" 21 (TX0 5) := Or.inl tw324
theorem fk326 : fLk "BrigadePagers$CallLog" 24 (TX0 6) := Or.inl tw326
theorem fk328 : fLk "BrigadePagers$CallLog" 27 (TX0 7) := Or.inl tw328
theorem fk313 : fLk "BrigadePagers$CallLog" 30 (TX0 0) := Or.inl tw313
theorem fk318 : fLk "BrigadePagers$CallLog" 38 (TX0 2) := Or.inl tw318
theorem fk176 : fLk "BrigadePagers$Engine" 9 (TX1 3) := Or.inl tw176
theorem fk178 : fLk "BrigadePagers$Engine" 15 (TX1 4) := Or.inl tw178
theorem fk172 : fLk "BrigadePagers$Engine" 18 (TX1 2) := Or.inl tw172
theorem fk471 : fLk "BrigadePagers$History" 11 (TX2 1) := Or.inl tw471
theorem fk472 : fLk "BrigadePagers$History" 17 (TX2 2) := Or.inl tw472
theorem fk474 : fLk "BrigadePagers$History" 20 (TX2 3) := Or.inl tw474
theorem fk469 : fLk "BrigadePagers$History" 27 (TX2 0) := Or.inl tw469
theorem fk207 : fLk "BrigadePagers$Kind" 9 (TX3 5) := Or.inl tw207
theorem fk213 : fLk "BrigadePagers$Kind" 15 (TX3 7) := Or.inl tw213
theorem fk423 : fLk "BrigadePagers$Muster" 9 (TX4 2) := Or.inl tw423
theorem fk425 : fLk "BrigadePagers$Muster" 15 (TX4 3) := Or.inl tw425
theorem fk428 : fLk "BrigadePagers$Muster" 18 (TX4 6) := Or.inl tw428
theorem fk430 : fLk "BrigadePagers$Muster" 21 (TX4 7) := Or.inl tw430
theorem fk432 : fLk "BrigadePagers$Muster" 24 (TX4 8) := Or.inl tw432
theorem fk434 : fLk "BrigadePagers$Muster" 27 (TX4 9) := Or.inl tw434
theorem fk436 : fLk "BrigadePagers$Muster" 30 (TX4 10) := Or.inl tw436
theorem fk421 : fLk "BrigadePagers$Muster" 33 (TX4 0) := Or.inl tw421
theorem fk347 : fLk "BrigadePagers$Muster" 37 (TX10 0) := Or.inr ⟨_, tw347⟩
theorem fk422 : fLk "BrigadePagers$Muster" 43 (TX4 1) := Or.inl tw422
theorem fk426 : fLk "BrigadePagers$Muster" 48 (TX4 4) := Or.inl tw426
theorem fk427 : fLk "BrigadePagers$Muster" 52 (TX4 5) := Or.inl tw427
theorem fk210 : fLk "BrigadePagers$Muster" 55 (TX3 6) := Or.inr ⟨_, tw210⟩
theorem fk214 : fLk "BrigadePagers$Muster" 60 (TX3 7) := Or.inr ⟨_, tw214⟩
theorem fk203 : fLk "BrigadePagers$Muster" 67 (TX3 3) := Or.inr ⟨_, tw203⟩
theorem fk205 : fLk "BrigadePagers$Muster" 70 (TX3 4) := Or.inr ⟨_, tw205⟩
theorem fk208 : fLk "BrigadePagers$Muster" 73 (TX3 5) := Or.inr ⟨_, tw208⟩
theorem fk350 : fLk "BrigadePagers$Muster" 76 (TX10 1) := Or.inr ⟨_, tw350⟩
theorem fk239 : fLk "BrigadePagers$Muster" 83 (TX8 1) := Or.inr ⟨_, tw239⟩
theorem fk201 : fLk "BrigadePagers$Muster" 96 (TX3 2) := Or.inr ⟨_, tw201⟩
theorem fk359 : fLk "BrigadePagers$Muster" 102 (TX10 5) := Or.inr ⟨_, tw359⟩
theorem fk265 : fLk "BrigadePagers$Muster" 112 (TX8 8) := Or.inr ⟨_, tw265⟩
theorem fk179 : fLk "BrigadePagers$Muster" 115 (TX1 4) := Or.inr ⟨_, tw179⟩
theorem fk376 : fLk "BrigadePagers$Muster" 124 (TX10 13) := Or.inr ⟨_, tw376⟩
theorem fk173 : fLk "BrigadePagers$Muster" 130 (TX1 2) := Or.inr ⟨_, tw173⟩
theorem fk177 : fLk "BrigadePagers$Muster" 148 (TX1 3) := Or.inr ⟨_, tw177⟩
theorem fk275 : fLk "BrigadePagers$Muster" 154 (TX8 11) := Or.inr ⟨_, tw275⟩
theorem fk380 : fLk "BrigadePagers$Muster" 175 (TX10 14) := Or.inr ⟨_, tw380⟩
theorem fk245 : fLk "BrigadePagers$Muster" 189 (TX8 2) := Or.inr ⟨_, tw245⟩
theorem fk123 : fLk "BrigadePagers$Muster" 193 (TX7 1) := Or.inr ⟨_, tw123⟩
theorem fk366 : fLk "BrigadePagers$Muster" 205 (TX10 8) := Or.inr ⟨_, tw366⟩
theorem fk170 : fLk "BrigadePagers$Muster" 215 (TX1 1) := Or.inr ⟨_, tw170⟩
theorem fk199 : fLk "BrigadePagers$Muster" 218 (TX3 1) := Or.inr ⟨_, tw199⟩
theorem fk371 : fLk "BrigadePagers$Muster" 221 (TX10 11) := Or.inr ⟨_, tw371⟩
theorem fk374 : fLk "BrigadePagers$Muster" 224 (TX10 12) := Or.inr ⟨_, tw374⟩
theorem fk92 : fLk "BrigadePagers$Night" 9 (TX5 0) := Or.inl tw92
theorem fk93 : fLk "BrigadePagers$Night" 15 (TX5 1) := Or.inl tw93
theorem fk94 : fLk "BrigadePagers$Night" 18 (TX5 2) := Or.inl tw94
theorem fk96 : fLk "BrigadePagers$Night" 21 (TX5 3) := Or.inl tw96
theorem fk149 : fLk "BrigadePagers$Pager" 9 (TX6 4) := Or.inl tw149
theorem fk234 : fLk "BrigadePagers$Plan" 12 (TX8 0) := Or.inl tw234
theorem fk243 : fLk "BrigadePagers$Plan" 20 (TX8 2) := Or.inl tw243
theorem fk249 : fLk "BrigadePagers$Plan" 24 (TX8 4) := Or.inl tw249
theorem fk256 : fLk "BrigadePagers$Plan" 30 (TX8 6) := Or.inl tw256
theorem fk264 : fLk "BrigadePagers$Plan" 36 (TX8 8) := Or.inl tw264
theorem fk271 : fLk "BrigadePagers$Plan" 42 (TX8 10) := Or.inl tw271
theorem fk274 : fLk "BrigadePagers$Plan" 46 (TX8 11) := Or.inl tw274
theorem fk238 : fLk "BrigadePagers$Plan" 53 (TX8 1) := Or.inl tw238
theorem fk247 : fLk "BrigadePagers$Plan" 57 (TX8 3) := Or.inl tw247
theorem fk252 : fLk "BrigadePagers$Plan" 66 (TX8 5) := Or.inl tw252
theorem fk260 : fLk "BrigadePagers$Plan" 69 (TX8 7) := Or.inl tw260
theorem fk268 : fLk "BrigadePagers$Plan" 72 (TX8 9) := Or.inl tw268
theorem fk120 : fLk "BrigadePagers$Plan" 75 (TX7 0) := Or.inr ⟨_, tw120⟩
theorem fk140 : fLk "BrigadePagers$Plan" 79 (TX6 0) := Or.inr ⟨_, tw140⟩
theorem fk168 : fLk "BrigadePagers$Plan" 80 (TX1 0) := Or.inr ⟨_, tw168⟩
theorem fk197 : fLk "BrigadePagers$Plan" 81 (TX3 0) := Or.inr ⟨_, tw197⟩
theorem fk125 : fLk "BrigadePagers$Plan" 90 (TX7 2) := Or.inr ⟨_, tw125⟩
theorem fk54 : fLk "BrigadePagers$Reader" 9 (TX9 10) := Or.inl tw54
theorem fk43 : fLk "BrigadePagers$Reader" 15 (TX9 0) := Or.inl tw43
theorem fk44 : fLk "BrigadePagers$Reader" 25 (TX9 1) := Or.inl tw44
theorem fk45 : fLk "BrigadePagers$Reader" 28 (TX9 2) := Or.inl tw45
theorem fk48 : fLk "BrigadePagers$Reader" 32 (TX9 5) := Or.inl tw48
theorem fk52 : fLk "BrigadePagers$Reader" 35 (TX9 9) := Or.inl tw52
theorem fk46 : fLk "BrigadePagers$Reader" 50 (TX9 3) := Or.inl tw46
theorem fk47 : fLk "BrigadePagers$Reader" 88 (TX9 4) := Or.inl tw47
theorem fk49 : fLk "BrigadePagers$Reader" 91 (TX9 6) := Or.inl tw49
theorem fk50 : fLk "BrigadePagers$Reader" 109 (TX9 7) := Or.inl tw50
theorem fk51 : fLk "BrigadePagers$Reader" 112 (TX9 8) := Or.inl tw51
theorem fk237 : fLk "BrigadePagers$Reader" 132 (TX8 0) := Or.inr ⟨_, tw237⟩
theorem fk242 : fLk "BrigadePagers$Reader" 155 (TX8 1) := Or.inr ⟨_, tw242⟩
theorem fk246 : fLk "BrigadePagers$Reader" 158 (TX8 2) := Or.inr ⟨_, tw246⟩
theorem fk121 : fLk "BrigadePagers$Reader" 165 (TX7 0) := Or.inr ⟨_, tw121⟩
theorem fk124 : fLk "BrigadePagers$Reader" 170 (TX7 1) := Or.inr ⟨_, tw124⟩
theorem fk126 : fLk "BrigadePagers$Reader" 173 (TX7 2) := Or.inr ⟨_, tw126⟩
theorem fk248 : fLk "BrigadePagers$Reader" 190 (TX8 3) := Or.inr ⟨_, tw248⟩
theorem fk251 : fLk "BrigadePagers$Reader" 196 (TX8 4) := Or.inr ⟨_, tw251⟩
theorem fk254 : fLk "BrigadePagers$Reader" 202 (TX8 5) := Or.inr ⟨_, tw254⟩
theorem fk258 : fLk "BrigadePagers$Reader" 205 (TX8 6) := Or.inr ⟨_, tw258⟩
theorem fk141 : fLk "BrigadePagers$Reader" 209 (TX6 0) := Or.inr ⟨_, tw141⟩
theorem fk143 : fLk "BrigadePagers$Reader" 212 (TX6 1) := Or.inr ⟨_, tw143⟩
theorem fk145 : fLk "BrigadePagers$Reader" 215 (TX6 2) := Or.inr ⟨_, tw145⟩
theorem fk147 : fLk "BrigadePagers$Reader" 218 (TX6 3) := Or.inr ⟨_, tw147⟩
theorem fk151 : fLk "BrigadePagers$Reader" 221 (TX6 4) := Or.inr ⟨_, tw151⟩
theorem fk262 : fLk "BrigadePagers$Reader" 224 (TX8 7) := Or.inr ⟨_, tw262⟩
theorem fk266 : fLk "BrigadePagers$Reader" 227 (TX8 8) := Or.inr ⟨_, tw266⟩
theorem fk169 : fLk "BrigadePagers$Reader" 231 (TX1 0) := Or.inr ⟨_, tw169⟩
theorem fk171 : fLk "BrigadePagers$Reader" 234 (TX1 1) := Or.inr ⟨_, tw171⟩
theorem fk174 : fLk "BrigadePagers$Reader" 237 (TX1 2) := Or.inr ⟨_, tw174⟩
theorem fk180 : fLk "BrigadePagers$Reader" 240 (TX1 4) := Or.inr ⟨_, tw180⟩
theorem fk269 : fLk "BrigadePagers$Reader" 254 (TX8 9) := Or.inr ⟨_, tw269⟩
theorem fk272 : fLk "BrigadePagers$Reader" 257 (TX8 10) := Or.inr ⟨_, tw272⟩
theorem fk198 : fLk "BrigadePagers$Reader" 261 (TX3 0) := Or.inr ⟨_, tw198⟩
theorem fk200 : fLk "BrigadePagers$Reader" 264 (TX3 1) := Or.inr ⟨_, tw200⟩
theorem fk202 : fLk "BrigadePagers$Reader" 267 (TX3 2) := Or.inr ⟨_, tw202⟩
theorem fk204 : fLk "BrigadePagers$Reader" 270 (TX3 3) := Or.inr ⟨_, tw204⟩
theorem fk209 : fLk "BrigadePagers$Reader" 273 (TX3 5) := Or.inr ⟨_, tw209⟩
theorem fk206 : fLk "BrigadePagers$Reader" 280 (TX3 4) := Or.inr ⟨_, tw206⟩
theorem fk215 : fLk "BrigadePagers$Reader" 282 (TX3 7) := Or.inr ⟨_, tw215⟩
theorem fk211 : fLk "BrigadePagers$Reader" 285 (TX3 6) := Or.inr ⟨_, tw211⟩
theorem fk352 : fLk "BrigadePagers$State" 9 (TX10 2) := Or.inl tw352
theorem fk354 : fLk "BrigadePagers$State" 15 (TX10 3) := Or.inl tw354
theorem fk356 : fLk "BrigadePagers$State" 18 (TX10 4) := Or.inl tw356
theorem fk361 : fLk "BrigadePagers$State" 21 (TX10 6) := Or.inl tw361
theorem fk363 : fLk "BrigadePagers$State" 24 (TX10 7) := Or.inl tw363
theorem fk365 : fLk "BrigadePagers$State" 27 (TX10 8) := Or.inl tw365
theorem fk368 : fLk "BrigadePagers$State" 30 (TX10 9) := Or.inl tw368
theorem fk369 : fLk "BrigadePagers$State" 33 (TX10 10) := Or.inl tw369
theorem fk370 : fLk "BrigadePagers$State" 36 (TX10 11) := Or.inl tw370
theorem fk373 : fLk "BrigadePagers$State" 39 (TX10 12) := Or.inl tw373
theorem fk378 : fLk "BrigadePagers$State" 45 (TX10 14) := Or.inl tw378
theorem fk381 : fLk "BrigadePagers$State" 49 (TX10 15) := Or.inl tw381
theorem fk348 : fLk "BrigadePagers$State" 52 (TX10 0) := Or.inl tw348
theorem fk349 : fLk "BrigadePagers$State" 56 (TX10 1) := Or.inl tw349
theorem fk358 : fLk "BrigadePagers$State" 66 (TX10 5) := Or.inl tw358
theorem fk250 : fLk "BrigadePagers$State" 69 (TX8 4) := Or.inr ⟨_, tw250⟩
theorem fk253 : fLk "BrigadePagers$State" 78 (TX8 5) := Or.inr ⟨_, tw253⟩
theorem fk257 : fLk "BrigadePagers$State" 81 (TX8 6) := Or.inr ⟨_, tw257⟩
theorem fk150 : fLk "BrigadePagers$State" 85 (TX6 4) := Or.inr ⟨_, tw150⟩
theorem fk261 : fLk "BrigadePagers$State" 94 (TX8 7) := Or.inr ⟨_, tw261⟩
theorem fk375 : fLk "BrigadePagers$State" 97 (TX10 13) := Or.inl tw375
theorem fk314 : fLk "BrigadePagers$State" 100 (TX0 0) := Or.inr ⟨_, tw314⟩
theorem fk236 : fLk "BrigadePagers$State" 111 (TX8 0) := Or.inr ⟨_, tw236⟩
theorem fk97 : fLk "BrigadePagers$State" 115 (TX5 3) := Or.inr ⟨_, tw97⟩
theorem fk244 : fLk "BrigadePagers$State" 133 (TX8 2) := Or.inr ⟨_, tw244⟩
theorem fk122 : fLk "BrigadePagers$State" 137 (TX7 1) := Or.inr ⟨_, tw122⟩
theorem fk95 : fLk "BrigadePagers$State" 145 (TX5 2) := Or.inr ⟨_, tw95⟩
theorem fk241 : fLk "BrigadePagers$State" 148 (TX8 1) := Or.inr ⟨_, tw241⟩
theorem fk144 : fLk "BrigadePagers$State" 154 (TX6 2) := Or.inr ⟨_, tw144⟩
theorem fk146 : fLk "BrigadePagers$State" 157 (TX6 3) := Or.inr ⟨_, tw146⟩
theorem fk142 : fLk "BrigadePagers$State" 169 (TX6 1) := Or.inr ⟨_, tw142⟩
theorem fk1552 : fLk "BrigadePagersModel" 7 (TX12 1) := Or.inl tw1552
theorem fk1553 : fLk "BrigadePagersModel" 13 (TX12 2) := Or.inl tw1553
theorem fk1554 : fLk "BrigadePagersModel" 16 (TX12 3) := Or.inl tw1554
theorem fk1555 : fLk "BrigadePagersModel" 19 (TX12 4) := Or.inl tw1555
theorem fk1556 : fLk "BrigadePagersModel" 22 (TX12 5) := Or.inl tw1556
theorem fk1558 : fLk "BrigadePagersModel" 26 (TX12 7) := Or.inl tw1558
theorem fk1563 : fLk "BrigadePagersModel" 29 (TX12 12) := Or.inl tw1563
theorem fk1564 : fLk "BrigadePagersModel" 33 (TX12 13) := Or.inl tw1564
theorem fk1565 : fLk "BrigadePagersModel" 36 (TX12 14) := Or.inl tw1565
theorem fk1566 : fLk "BrigadePagersModel" 39 (TX12 15) := Or.inl tw1566
theorem fk1567 : fLk "BrigadePagersModel" 42 (TX12 16) := Or.inl tw1567
theorem fk1568 : fLk "BrigadePagersModel" 45 (TX12 17) := Or.inl tw1568
theorem fk1569 : fLk "BrigadePagersModel" 48 (TX12 18) := Or.inl tw1569
theorem fk1570 : fLk "BrigadePagersModel" 51 (TX12 19) := Or.inl tw1570
theorem fk1571 : fLk "BrigadePagersModel" 54 (TX12 20) := Or.inl tw1571
theorem fk1572 : fLk "BrigadePagersModel" 57 (TX12 21) := Or.inl tw1572
theorem fk1573 : fLk "BrigadePagersModel" 60 (TX12 22) := Or.inl tw1573
theorem fk1574 : fLk "BrigadePagersModel" 63 (TX12 23) := Or.inl tw1574
theorem fk1575 : fLk "BrigadePagersModel" 66 (TX12 24) := Or.inl tw1575
theorem fk1576 : fLk "BrigadePagersModel" 69 (TX12 25) := Or.inl tw1576
theorem fk1577 : fLk "BrigadePagersModel" 72 (TX12 26) := Or.inl tw1577
theorem fk1578 : fLk "BrigadePagersModel" 75 (TX12 27) := Or.inl tw1578
theorem fk1579 : fLk "BrigadePagersModel" 78 (TX12 28) := Or.inl tw1579
theorem fk1583 : fLk "BrigadePagersModel" 81 (TX12 32) := Or.inl tw1583
theorem fk1589 : fLk "BrigadePagersModel" 85 (TX12 38) := Or.inl tw1589
theorem fk1595 : fLk "BrigadePagersModel" 88 (TX12 44) := Or.inl tw1595
theorem fk1596 : fLk "BrigadePagersModel" 91 (TX12 45) := Or.inl tw1596
theorem fk1597 : fLk "BrigadePagersModel" 94 (TX12 46) := Or.inl tw1597
theorem fk1598 : fLk "BrigadePagersModel" 97 (TX12 47) := Or.inl tw1598
theorem fk1599 : fLk "BrigadePagersModel" 100 (TX12 48) := Or.inl tw1599
theorem fk1600 : fLk "BrigadePagersModel" 103 (TX12 49) := Or.inl tw1600
theorem fk1601 : fLk "BrigadePagersModel" 106 (TX12 50) := Or.inl tw1601
theorem fk1602 : fLk "BrigadePagersModel" 109 (TX12 51) := Or.inl tw1602
theorem fk1603 : fLk "BrigadePagersModel" 112 (TX12 52) := Or.inl tw1603
theorem fk1604 : fLk "BrigadePagersModel" 115 (TX12 53) := Or.inl tw1604
theorem fk1605 : fLk "BrigadePagersModel" 118 (TX12 54) := Or.inl tw1605
theorem fk1606 : fLk "BrigadePagersModel" 121 (TX12 55) := Or.inl tw1606
theorem fk1607 : fLk "BrigadePagersModel" 124 (TX12 56) := Or.inl tw1607
theorem fk1608 : fLk "BrigadePagersModel" 127 (TX12 57) := Or.inl tw1608
theorem fk1609 : fLk "BrigadePagersModel" 130 (TX12 58) := Or.inl tw1609
theorem fk1610 : fLk "BrigadePagersModel" 133 (TX12 59) := Or.inl tw1610
theorem fk1611 : fLk "BrigadePagersModel" 136 (TX12 60) := Or.inl tw1611
theorem fk1612 : fLk "BrigadePagersModel" 139 (TX12 61) := Or.inl tw1612
theorem fk1613 : fLk "BrigadePagersModel" 142 (TX12 62) := Or.inl tw1613
theorem fk1615 : fLk "BrigadePagersModel" 145 (TX12 64) := Or.inl tw1615
theorem fk1616 : fLk "BrigadePagersModel" 148 (TX12 65) := Or.inl tw1616
theorem fk1617 : fLk "BrigadePagersModel" 151 (TX12 66) := Or.inl tw1617
theorem fk1618 : fLk "BrigadePagersModel" 154 (TX12 67) := Or.inl tw1618
theorem fk1620 : fLk "BrigadePagersModel" 157 (TX12 69) := Or.inl tw1620
theorem fk1621 : fLk "BrigadePagersModel" 160 (TX12 70) := Or.inl tw1621
theorem fk1551 : fLk "BrigadePagersModel" 166 (TX12 0) := Or.inl tw1551
theorem fk1580 : fLk "BrigadePagersModel" 169 (TX12 29) := Or.inl tw1580
theorem fk1584 : fLk "BrigadePagersModel" 180 (TX12 33) := Or.inl tw1584
theorem fk1582 : fLk "BrigadePagersModel" 184 (TX12 31) := Or.inl tw1582
theorem fk1581 : fLk "BrigadePagersModel" 187 (TX12 30) := Or.inl tw1581
theorem fk1588 : fLk "BrigadePagersModel" 201 (TX12 37) := Or.inl tw1588
theorem fk1586 : fLk "BrigadePagersModel" 224 (TX12 35) := Or.inl tw1586
theorem fk1585 : fLk "BrigadePagersModel" 227 (TX12 34) := Or.inl tw1585
theorem fk1587 : fLk "BrigadePagersModel" 233 (TX12 36) := Or.inl tw1587
theorem fk1590 : fLk "BrigadePagersModel" 256 (TX12 39) := Or.inl tw1590
theorem fk1591 : fLk "BrigadePagersModel" 273 (TX12 40) := Or.inl tw1591
theorem fk1592 : fLk "BrigadePagersModel" 276 (TX12 41) := Or.inl tw1592
theorem fk1593 : fLk "BrigadePagersModel" 279 (TX12 42) := Or.inl tw1593
theorem fk1594 : fLk "BrigadePagersModel" 284 (TX12 43) := Or.inl tw1594
theorem fk1559 : fLk "BrigadePagersModel" 325 (TX12 8) := Or.inl tw1559
theorem fk1560 : fLk "BrigadePagersModel" 328 (TX12 9) := Or.inl tw1560
theorem fk1561 : fLk "BrigadePagersModel" 331 (TX12 10) := Or.inl tw1561
theorem fk1562 : fLk "BrigadePagersModel" 334 (TX12 11) := Or.inl tw1562
theorem fk1557 : fLk "BrigadePagersModel" 337 (TX12 6) := Or.inl tw1557
theorem fk1614 : fLk "BrigadePagersModel" 425 (TX12 63) := Or.inl tw1614
theorem fk1619 : fLk "BrigadePagersModel" 431 (TX12 68) := Or.inl tw1619
theorem y_J0_charAt_5068e : yV "java/lang/String" yJ0_charAt_5068e (.code yJ0_charAt_5068e cJ0_charAt_5068e 2 (some .char)) 1 := ⟨tw692, tw21, ⟨by decide +kernel, by decide +kernel, by decide +kernel⟩, tw690, tw691⟩
theorem y_J0_length_8abf5 : yV "java/lang/String" yJ0_length_8abf5 (.code yJ0_length_8abf5 cJ0_length_8abf5 1 (some .int)) 0 := ⟨tw682, tw21, ⟨by decide +kernel, by decide +kernel, by decide +kernel⟩, tw680, tw681⟩
theorem y_J6_bitCount_0f7a4 : yS yJ6_bitCount_0f7a4 (.code yJ6_bitCount_0f7a4 cJ6_bitCount_0f7a4 1 (some .int)) 1 := ⟨tw1251, tw28, ⟨by decide +kernel, by decide +kernel, by decide +kernel⟩, tw1250⟩
theorem y_J7_fill_53178 : yS yJ7_fill_53178 (.code yJ7_fill_53178 cJ7_fill_53178 4 none) 2 := ⟨tw659, tw20, ⟨by decide +kernel, by decide +kernel, by decide +kernel⟩, tw658⟩
theorem y_L_append : yS yL_append (.codeWith yL_append cL_append 8 (some .int) [(0, 16, 19, 13)]) 7 := ⟨tw536, tw0, ⟨by decide +kernel, by decide +kernel, by decide +kernel⟩, tw535⟩
theorem y_L_arrival : yS yL_arrival (.codeWith yL_arrival cL_arrival 4 (some .int) [(0, 9, 12, 19)]) 3 := ⟨tw974, tw0, ⟨by decide +kernel, by decide +kernel, by decide +kernel⟩, tw973⟩
theorem y_L_call : yS yL_call (.codeWith yL_call cL_call 4 (some .int) [(0, 9, 12, 19), (0, 9, 15, 13)]) 3 := ⟨tw1406, tw0, ⟨by decide +kernel, by decide +kernel, by decide +kernel⟩, tw1405⟩
theorem y_L_came : yS yL_came (.codeWith yL_came cL_came 4 (some .int) [(0, 9, 12, 19)]) 3 := ⟨tw1170, tw0, ⟨by decide +kernel, by decide +kernel, by decide +kernel⟩, tw1169⟩
theorem y_L_chain : yS yL_chain (.codeWith yL_chain cL_chain 5 (some .int) [(0, 10, 13, 19)]) 4 := ⟨tw1021, tw0, ⟨by decide +kernel, by decide +kernel, by decide +kernel⟩, tw1020⟩
theorem y_L_cost : yS yL_cost (.codeWith yL_cost cL_cost 4 (some .int) [(0, 9, 12, 19)]) 3 := ⟨tw1150, tw0, ⟨by decide +kernel, by decide +kernel, by decide +kernel⟩, tw1149⟩
theorem y_L_count : yS yL_count (.codeWith yL_count cL_count 4 (some .int) [(0, 9, 12, 25)]) 3 := ⟨tw894, tw0, ⟨by decide +kernel, by decide +kernel, by decide +kernel⟩, tw893⟩
theorem y_L_departure : yS yL_departure (.codeWith yL_departure cL_departure 5 (some .int) [(0, 10, 13, 19), (0, 10, 17, 13)]) 4 := ⟨tw1283, tw0, ⟨by decide +kernel, by decide +kernel, by decide +kernel⟩, tw1282⟩
theorem y_L_dutyMinutes : yS yL_dutyMinutes (.codeWith yL_dutyMinutes cL_dutyMinutes 5 (some .int) [(0, 10, 13, 19), (0, 10, 17, 25)]) 4 := ⟨tw1088, tw0, ⟨by decide +kernel, by decide +kernel, by decide +kernel⟩, tw1087⟩
theorem y_L_engine : yS yL_engine (.codeWith yL_engine cL_engine 5 (some .int) [(0, 10, 13, 19)]) 4 := ⟨tw1184, tw0, ⟨by decide +kernel, by decide +kernel, by decide +kernel⟩, tw1183⟩
theorem y_L_excuse : yS yL_excuse (.codeWith yL_excuse cL_excuse 5 (some .int) [(0, 10, 13, 19)]) 4 := ⟨tw1487, tw0, ⟨by decide +kernel, by decide +kernel, by decide +kernel⟩, tw1486⟩
theorem y_L_find : yS yL_find (.codeWith yL_find cL_find 4 (some .int) [(0, 9, 12, 25), (0, 9, 15, 30)]) 3 := ⟨tw863, tw0, ⟨by decide +kernel, by decide +kernel, by decide +kernel⟩, tw862⟩
theorem y_L_giveBack : yS yL_giveBack (.codeWith yL_giveBack cL_giveBack 4 (some .int) [(0, 9, 12, 19), (0, 9, 15, 13)]) 3 := ⟨tw1461, tw0, ⟨by decide +kernel, by decide +kernel, by decide +kernel⟩, tw1460⟩
theorem y_L_handOn : yS yL_handOn (.codeWith yL_handOn cL_handOn 6 (some .int) [(0, 12, 15, 19), (0, 12, 19, 13)]) 5 := ⟨tw1453, tw0, ⟨by decide +kernel, by decide +kernel, by decide +kernel⟩, tw1452⟩
theorem y_L_handOns : yS yL_handOns (.codeWith yL_handOns cL_handOns 4 (some .int) [(0, 9, 12, 19)]) 3 := ⟨tw1042, tw0, ⟨by decide +kernel, by decide +kernel, by decide +kernel⟩, tw1041⟩
theorem y_L_helpfulPager : yS yL_helpfulPager (.codeWith yL_helpfulPager cL_helpfulPager 4 (some .int) [(0, 9, 12, 19), (0, 9, 15, 13), (0, 9, 18, 30)]) 3 := ⟨tw1378, tw0, ⟨by decide +kernel, by decide +kernel, by decide +kernel⟩, tw1377⟩
theorem y_L_helpfulPerson : yS yL_helpfulPerson (.codeWith yL_helpfulPerson cL_helpfulPerson 4 (some .int) [(0, 9, 12, 19), (0, 9, 15, 13), (0, 9, 18, 30)]) 3 := ⟨tw1399, tw0, ⟨by decide +kernel, by decide +kernel, by decide +kernel⟩, tw1398⟩
theorem y_L_holderAt : yS yL_holderAt (.codeWith yL_holderAt cL_holderAt 5 (some .int) [(0, 10, 13, 19), (0, 10, 17, 25)]) 4 := ⟨tw1076, tw0, ⟨by decide +kernel, by decide +kernel, by decide +kernel⟩, tw1075⟩
theorem y_L_holdingEnd : yS yL_holdingEnd (.codeWith yL_holdingEnd cL_holdingEnd 4 (some .int) [(0, 9, 12, 19)]) 3 := ⟨tw1049, tw0, ⟨by decide +kernel, by decide +kernel, by decide +kernel⟩, tw1048⟩
theorem y_L_hoursUntilAnswered : yS yL_hoursUntilAnswered (.codeWith yL_hoursUntilAnswered cL_hoursUntilAnswered 4 (some .int) [(0, 9, 12, 19), (0, 9, 15, 30)]) 3 := ⟨tw1347, tw0, ⟨by decide +kernel, by decide +kernel, by decide +kernel⟩, tw1346⟩
theorem y_L_isAnswered : yS yL_isAnswered (.codeWith yL_isAnswered cL_isAnswered 4 (some .int) [(0, 16, 19, 19)]) 3 := ⟨tw1162, tw0, ⟨by decide +kernel, by decide +kernel, by decide +kernel⟩, tw1161⟩
theorem y_L_left : yS yL_left (.codeWith yL_left cL_left 4 (some .int) [(0, 9, 12, 19)]) 3 := ⟨tw1177, tw0, ⟨by decide +kernel, by decide +kernel, by decide +kernel⟩, tw1176⟩
theorem y_L_leftAt : yS yL_leftAt (.codeWith yL_leftAt cL_leftAt 5 (some .int) [(0, 10, 13, 19)]) 4 := ⟨tw1196, tw0, ⟨by decide +kernel, by decide +kernel, by decide +kernel⟩, tw1195⟩
theorem y_L_load : yS yL_load (.codeWith yL_load cL_load 3 (some .int) [(0, 8, 11, 25)]) 2 := ⟨tw640, tw0, ⟨by decide +kernel, by decide +kernel, by decide +kernel⟩, tw639⟩
theorem y_L_lostSleep : yS yL_lostSleep (.codeWith yL_lostSleep cL_lostSleep 4 (some .int) [(0, 9, 12, 19)]) 3 := ⟨tw936, tw0, ⟨by decide +kernel, by decide +kernel, by decide +kernel⟩, tw935⟩
theorem y_L_lostSleepAfter : yS yL_lostSleepAfter (.codeWith yL_lostSleepAfter cL_lostSleepAfter 5 (some .int) [(0, 10, 13, 19), (0, 10, 17, 25)]) 4 := ⟨tw943, tw0, ⟨by decide +kernel, by decide +kernel, by decide +kernel⟩, tw942⟩
theorem y_L_manned : yS yL_manned (.codeWith yL_manned cL_manned 5 (some .int) [(0, 10, 13, 19)]) 4 := ⟨tw1316, tw0, ⟨by decide +kernel, by decide +kernel, by decide +kernel⟩, tw1315⟩
theorem y_L_mans : yS yL_mans (.codeWith yL_mans cL_mans 6 (some .int) [(0, 12, 15, 19), (0, 12, 19, 13)]) 5 := ⟨tw1295, tw0, ⟨by decide +kernel, by decide +kernel, by decide +kernel⟩, tw1294⟩
theorem y_L_member : yS yL_member (.codeWith yL_member cL_member 6 (some .int) [(0, 12, 15, 19)]) 5 := ⟨tw1203, tw0, ⟨by decide +kernel, by decide +kernel, by decide +kernel⟩, tw1202⟩
theorem y_L_mostEngines : yS yL_mostEngines (.codeWith yL_mostEngines cL_mostEngines 4 (some .int) [(0, 9, 12, 19)]) 3 := ⟨tw1330, tw0, ⟨by decide +kernel, by decide +kernel, by decide +kernel⟩, tw1329⟩
theorem y_L_nightMinutes : yS yL_nightMinutes (.codeWith yL_nightMinutes cL_nightMinutes 5 (some .int) [(0, 10, 13, 25)]) 4 := ⟨tw902, tw0, ⟨by decide +kernel, by decide +kernel, by decide +kernel⟩, tw901⟩
theorem y_L_outUntil : yS yL_outUntil (.codeWith yL_outUntil cL_outUntil 4 (some .int) [(0, 9, 12, 19)]) 3 := ⟨tw920, tw0, ⟨by decide +kernel, by decide +kernel, by decide +kernel⟩, tw919⟩
theorem y_L_pass : yS yL_pass (.codeWith yL_pass cL_pass 4 (some .int) [(0, 9, 12, 25), (0, 9, 15, 13)]) 3 := ⟨tw1469, tw0, ⟨by decide +kernel, by decide +kernel, by decide +kernel⟩, tw1468⟩
theorem y_L_pay : yS yL_pay (.codeWith yL_pay cL_pay 4 (some .int) [(0, 9, 12, 19)]) 3 := ⟨tw989, tw0, ⟨by decide +kernel, by decide +kernel, by decide +kernel⟩, tw988⟩
theorem y_L_restedAt : yS yL_restedAt (.codeWith yL_restedAt cL_restedAt 4 (some .int) [(0, 9, 12, 19), (0, 9, 15, 30)]) 3 := ⟨tw957, tw0, ⟨by decide +kernel, by decide +kernel, by decide +kernel⟩, tw956⟩
theorem y_L_restore : yS yL_restore (.codeWith yL_restore cL_restore 3 (some .int) [(0, 5, 8, 19), (0, 5, 11, 30)]) 2 := ⟨tw1535, tw0, ⟨by decide +kernel, by decide +kernel, by decide +kernel⟩, tw1534⟩
theorem y_L_returnsAt : yS yL_returnsAt (.codeWith yL_returnsAt cL_returnsAt 4 (some .int) [(0, 9, 12, 19)]) 3 := ⟨tw1134, tw0, ⟨by decide +kernel, by decide +kernel, by decide +kernel⟩, tw1133⟩
theorem y_L_rotation : yS yL_rotation (.codeWith yL_rotation cL_rotation 5 (some .int) [(0, 10, 13, 19)]) 4 := ⟨tw1064, tw0, ⟨by decide +kernel, by decide +kernel, by decide +kernel⟩, tw1063⟩
theorem y_L_save : yS yL_save (.codeWith yL_save cL_save 3 (some .int) [(0, 5, 8, 19)]) 2 := ⟨tw1523, tw0, ⟨by decide +kernel, by decide +kernel, by decide +kernel⟩, tw1522⟩
theorem y_L_setService : yS yL_setService (.codeWith yL_setService cL_setService 5 (some .int) [(0, 10, 13, 19), (0, 10, 17, 13)]) 4 := ⟨tw1495, tw0, ⟨by decide +kernel, by decide +kernel, by decide +kernel⟩, tw1494⟩
theorem y_L_setTrust : yS yL_setTrust (.codeWith yL_setTrust cL_setTrust 6 (some .int) [(0, 12, 15, 19), (0, 12, 19, 25)]) 5 := ⟨tw1503, tw0, ⟨by decide +kernel, by decide +kernel, by decide +kernel⟩, tw1502⟩
theorem y_L_steps : yS yL_steps (.codeWith yL_steps cL_steps 5 (some .int) [(0, 10, 13, 19), (0, 10, 17, 30)]) 4 := ⟨tw1126, tw0, ⟨by decide +kernel, by decide +kernel, by decide +kernel⟩, tw1125⟩
theorem y_L_swapPlaces : yS yL_swapPlaces (.codeWith yL_swapPlaces cL_swapPlaces 6 (some .int) [(0, 12, 15, 19), (0, 12, 19, 25), (0, 12, 23, 13)]) 5 := ⟨tw1477, tw0, ⟨by decide +kernel, by decide +kernel, by decide +kernel⟩, tw1476⟩
theorem y_L_truncate : yS yL_truncate (.codeWith yL_truncate cL_truncate 4 (some .int) [(0, 9, 12, 19)]) 3 := ⟨tw616, tw0, ⟨by decide +kernel, by decide +kernel, by decide +kernel⟩, tw615⟩
theorem y_L_trust : yS yL_trust (.codeWith yL_trust cL_trust 5 (some .int) [(0, 10, 13, 19), (0, 10, 17, 25)]) 4 := ⟨tw996, tw0, ⟨by decide +kernel, by decide +kernel, by decide +kernel⟩, tw995⟩
theorem y_L_trustPath : yS yL_trustPath (.codeWith yL_trustPath cL_trustPath 5 (some .int) [(0, 10, 13, 19), (0, 10, 17, 25)]) 4 := ⟨tw1009, tw0, ⟨by decide +kernel, by decide +kernel, by decide +kernel⟩, tw1008⟩
theorem y_L_undo : yS yL_undo (.codeWith yL_undo cL_undo 3 (some .int) [(0, 8, 11, 13)]) 2 := ⟨tw1511, tw0, ⟨by decide +kernel, by decide +kernel, by decide +kernel⟩, tw1510⟩
theorem y_L_whyAbsent : yS yL_whyAbsent (.codeWith yL_whyAbsent cL_whyAbsent 5 (some .int) [(0, 10, 13, 19)]) 4 := ⟨tw1214, tw0, ⟨by decide +kernel, by decide +kernel, by decide +kernel⟩, tw1213⟩
theorem y_L_whyNotHandOn : yS yL_whyNotHandOn (.codeWith yL_whyNotHandOn cL_whyNotHandOn 6 (some .int) [(0, 12, 15, 19)]) 5 := ⟨tw1102, tw0, ⟨by decide +kernel, by decide +kernel, by decide +kernel⟩, tw1101⟩
theorem y_L_whyStays : yS yL_whyStays (.codeWith yL_whyStays cL_whyStays 5 (some .int) [(0, 10, 13, 19)]) 4 := ⟨tw1271, tw0, ⟨by decide +kernel, by decide +kernel, by decide +kernel⟩, tw1270⟩
theorem y_L_wouldAnswer : yS yL_wouldAnswer (.codeWith yL_wouldAnswer cL_wouldAnswer 4 (some .int) [(0, 16, 19, 19)]) 3 := ⟨tw1323, tw0, ⟨by decide +kernel, by decide +kernel, by decide +kernel⟩, tw1322⟩
theorem y_X0_addLeaver : yV "BrigadePagers$CallLog" yX0_addLeaver (.code yX0_addLeaver cX0_addLeaver 5 none) 3 := ⟨tw1442, tw10, ⟨by decide +kernel, by decide +kernel, by decide +kernel⟩, tw1441, (List.mem_append_left _ (List.mem_of_getElem? (i := 87) (by decide +kernel)))⟩
theorem y_X0_close : yV "BrigadePagers$CallLog" yX0_close (.code yX0_close cX0_close 3 (some .int)) 2 := ⟨tw1450, tw10, ⟨by decide +kernel, by decide +kernel, by decide +kernel⟩, tw1449, (List.mem_append_left _ (List.mem_of_getElem? (i := 89) (by decide +kernel)))⟩
theorem y_X0_copyFrom : yV "BrigadePagers$CallLog" yX0_copyFrom (.code yX0_copyFrom cX0_copyFrom 2 none) 1 := ⟨tw1360, tw10, ⟨by decide +kernel, by decide +kernel, by decide +kernel⟩, tw1359, (List.mem_append_left _ (List.mem_of_getElem? (i := 74) (by decide +kernel)))⟩
theorem y_X0_init : yI yX0_init (.code yX0_init cX0_init 1 none) 0 := ⟨tw311, tw10, ⟨by decide +kernel, by decide +kernel, by decide +kernel⟩, tw310, rfl⟩
theorem y_X0_open : yV "BrigadePagers$CallLog" yX0_open (.code yX0_open cX0_open 2 none) 1 := ⟨tw1434, tw10, ⟨by decide +kernel, by decide +kernel, by decide +kernel⟩, tw1433, (List.mem_append_left _ (List.mem_of_getElem? (i := 85) (by decide +kernel)))⟩
theorem y_X10_addHandOn : yV "BrigadePagers$State" yX10_addHandOn (.code yX10_addHandOn cX10_addHandOn 4 none) 3 := ⟨tw1391, tw9, ⟨by decide +kernel, by decide +kernel, by decide +kernel⟩, tw1390, (List.mem_append_left _ (List.mem_of_getElem? (i := 79) (by decide +kernel)))⟩
theorem y_X10_advance : yV "BrigadePagers$State" yX10_advance (.code yX10_advance cX10_advance 5 (some .int)) 1 := ⟨tw1365, tw9, ⟨by decide +kernel, by decide +kernel, by decide +kernel⟩, tw1364, (List.mem_append_left _ (List.mem_of_getElem? (i := 75) (by decide +kernel)))⟩
theorem y_X10_arrivalOf : yV "BrigadePagers$State" yX10_arrivalOf (.code yX10_arrivalOf cX10_arrivalOf 2 (some .int)) 1 := ⟨tw982, tw9, ⟨by decide +kernel, by decide +kernel, by decide +kernel⟩, tw981, (List.mem_append_left _ (List.mem_of_getElem? (i := 39) (by decide +kernel)))⟩
theorem y_X10_begin : yV "BrigadePagers$State" yX10_begin (.code yX10_begin cX10_begin 3 none) 1 := ⟨tw849, tw9, ⟨by decide +kernel, by decide +kernel, by decide +kernel⟩, tw848, (List.mem_append_left _ (List.mem_of_getElem? (i := 29) (by decide +kernel)))⟩
theorem y_X10_bestRow : yV "BrigadePagers$State" yX10_bestRow (.code yX10_bestRow cX10_bestRow 7 (some .int)) 2 := ⟨tw1017, tw9, ⟨by decide +kernel, by decide +kernel, by decide +kernel⟩, tw1016, (List.mem_append_left _ (List.mem_of_getElem? (i := 42) (by decide +kernel)))⟩
theorem y_X10_chainPerson : yV "BrigadePagers$State" yX10_chainPerson (.code yX10_chainPerson cX10_chainPerson 3 (some .int)) 2 := ⟨tw1035, tw9, ⟨by decide +kernel, by decide +kernel, by decide +kernel⟩, tw1034, (List.mem_append_left _ (List.mem_of_getElem? (i := 44) (by decide +kernel)))⟩
theorem y_X10_copyFrom : yV "BrigadePagers$State" yX10_copyFrom (.code yX10_copyFrom cX10_copyFrom 2 none) 1 := ⟨tw1355, tw9, ⟨by decide +kernel, by decide +kernel, by decide +kernel⟩, tw1354, (List.mem_append_left _ (List.mem_of_getElem? (i := 73) (by decide +kernel)))⟩
theorem y_X10_dropHandOn : yV "BrigadePagers$State" yX10_dropHandOn (.code yX10_dropHandOn cX10_dropHandOn 2 none) 1 := ⟨tw1395, tw9, ⟨by decide +kernel, by decide +kernel, by decide +kernel⟩, tw1394, (List.mem_append_left _ (List.mem_of_getElem? (i := 80) (by decide +kernel)))⟩
theorem y_X10_dutyUpTo : yV "BrigadePagers$State" yX10_dutyUpTo (.code yX10_dutyUpTo cX10_dutyUpTo 9 (some .int)) 2 := ⟨tw1097, tw9, ⟨by decide +kernel, by decide +kernel, by decide +kernel⟩, tw1096, (List.mem_append_left _ (List.mem_of_getElem? (i := 50) (by decide +kernel)))⟩
theorem y_X10_endAt : yV "BrigadePagers$State" yX10_endAt (.code yX10_endAt cX10_endAt 5 (some .int)) 2 := ⟨tw1057, tw9, ⟨by decide +kernel, by decide +kernel, by decide +kernel⟩, tw1056, (List.mem_append_left _ (List.mem_of_getElem? (i := 46) (by decide +kernel)))⟩
theorem y_X10_firstRested : yV "BrigadePagers$State" yX10_firstRested (.code yX10_firstRested cX10_firstRested 5 (some .int)) 1 := ⟨tw965, tw9, ⟨by decide +kernel, by decide +kernel, by decide +kernel⟩, tw964, (List.mem_append_left _ (List.mem_of_getElem? (i := 37) (by decide +kernel)))⟩
theorem y_X10_growTrustIn : yV "BrigadePagers$State" yX10_growTrustIn (.code yX10_growTrustIn cX10_growTrustIn 4 none) 1 := ⟨tw1370, tw9, ⟨by decide +kernel, by decide +kernel, by decide +kernel⟩, tw1369, (List.mem_append_left _ (List.mem_of_getElem? (i := 76) (by decide +kernel)))⟩
theorem y_X10_handOnsAt : yV "BrigadePagers$State" yX10_handOnsAt (.code yX10_handOnsAt cX10_handOnsAt 5 (some .int)) 2 := ⟨tw1061, tw9, ⟨by decide +kernel, by decide +kernel, by decide +kernel⟩, tw1060, (List.mem_append_left _ (List.mem_of_getElem? (i := 47) (by decide +kernel)))⟩
theorem y_X10_holderThen : yV "BrigadePagers$State" yX10_holderThen (.code yX10_holderThen cX10_holderThen 4 (some .int)) 2 := ⟨tw1085, tw9, ⟨by decide +kernel, by decide +kernel, by decide +kernel⟩, tw1084, (List.mem_append_left _ (List.mem_of_getElem? (i := 49) (by decide +kernel)))⟩
theorem y_X10_init : yI yX10_init (.code yX10_init cX10_init 2 none) 1 := ⟨tw305, tw9, ⟨by decide +kernel, by decide +kernel, by decide +kernel⟩, tw304, rfl⟩
theorem y_X10_isEngineOut : yV "BrigadePagers$State" yX10_isEngineOut (.code yX10_isEngineOut cX10_isEngineOut 2 (some .boolean)) 1 := ⟨tw1147, tw9, ⟨by decide +kernel, by decide +kernel, by decide +kernel⟩, tw1146, (List.mem_append_left _ (List.mem_of_getElem? (i := 55) (by decide +kernel)))⟩
theorem y_X10_isInChain : yV "BrigadePagers$State" yX10_isInChain (.code yX10_isInChain cX10_isInChain 4 (some .boolean)) 2 := ⟨tw1116, tw9, ⟨by decide +kernel, by decide +kernel, by decide +kernel⟩, tw1115, (List.mem_append_left _ (List.mem_of_getElem? (i := 52) (by decide +kernel)))⟩
theorem y_X10_isOut : yV "BrigadePagers$State" yX10_isOut (.code yX10_isOut cX10_isOut 2 (some .boolean)) 1 := ⟨tw933, tw9, ⟨by decide +kernel, by decide +kernel, by decide +kernel⟩, tw932, (List.mem_append_left _ (List.mem_of_getElem? (i := 35) (by decide +kernel)))⟩
theorem y_X10_isTired : yV "BrigadePagers$State" yX10_isTired (.code yX10_isTired cX10_isTired 2 (some .boolean)) 1 := ⟨tw969, tw9, ⟨by decide +kernel, by decide +kernel, by decide +kernel⟩, tw968, (List.mem_append_left _ (List.mem_of_getElem? (i := 38) (by decide +kernel)))⟩
theorem y_X10_isTrustedByChain : yV "BrigadePagers$State" yX10_isTrustedByChain (.code yX10_isTrustedByChain cX10_isTrustedByChain 4 (some .boolean)) 2 := ⟨tw1123, tw9, ⟨by decide +kernel, by decide +kernel, by decide +kernel⟩, tw1122, (List.mem_append_left _ (List.mem_of_getElem? (i := 53) (by decide +kernel)))⟩
theorem y_X10_lostAt : yV "BrigadePagers$State" yX10_lostAt (.code yX10_lostAt cX10_lostAt 6 (some .int)) 2 := ⟨tw952, tw9, ⟨by decide +kernel, by decide +kernel, by decide +kernel⟩, tw951, (List.mem_append_left _ (List.mem_of_getElem? (i := 36) (by decide +kernel)))⟩
theorem y_X10_placeAt : yV "BrigadePagers$State" yX10_placeAt (.code yX10_placeAt cX10_placeAt 4 (some .int)) 2 := ⟨tw1039, tw9, ⟨by decide +kernel, by decide +kernel, by decide +kernel⟩, tw1038, (List.mem_append_left _ (List.mem_of_getElem? (i := 45) (by decide +kernel)))⟩
theorem y_X10_reasonAgainst : yV "BrigadePagers$State" yX10_reasonAgainst (.code yX10_reasonAgainst cX10_reasonAgainst 4 (some .int)) 3 := ⟨tw1110, tw9, ⟨by decide +kernel, by decide +kernel, by decide +kernel⟩, tw1109, (List.mem_append_left _ (List.mem_of_getElem? (i := 51) (by decide +kernel)))⟩
theorem y_X10_sendAway : yV "BrigadePagers$State" yX10_sendAway (.code yX10_sendAway cX10_sendAway 4 (some .int)) 2 := ⟨tw1446, tw9, ⟨by decide +kernel, by decide +kernel, by decide +kernel⟩, tw1445, (List.mem_append_left _ (List.mem_of_getElem? (i := 88) (by decide +kernel)))⟩
theorem y_X10_shiftTrust : yV "BrigadePagers$State" yX10_shiftTrust (.code yX10_shiftTrust cX10_shiftTrust 5 none) 3 := ⟨tw1374, tw9, ⟨by decide +kernel, by decide +kernel, by decide +kernel⟩, tw1373, (List.mem_append_left _ (List.mem_of_getElem? (i := 77) (by decide +kernel)))⟩
theorem y_X11_append : yV "BrigadePagers" yX11_append (.code yX11_append cX11_append 6 (some .int)) 5 := ⟨tw541, tw1, ⟨by decide +kernel, by decide +kernel, by decide +kernel⟩, tw539, tw540⟩
theorem y_X11_arrival : yV "BrigadePagers" yX11_arrival (.code yX11_arrival cX11_arrival 2 (some .int)) 1 := ⟨tw978, tw1, ⟨by decide +kernel, by decide +kernel, by decide +kernel⟩, tw976, tw977⟩
theorem y_X11_call : yV "BrigadePagers" yX11_call (.code yX11_call cX11_call 2 (some .int)) 1 := ⟨tw1410, tw1, ⟨by decide +kernel, by decide +kernel, by decide +kernel⟩, tw1408, tw1409⟩
theorem y_X11_came : yV "BrigadePagers" yX11_came (.code yX11_came cX11_came 2 (some .int)) 1 := ⟨tw1174, tw1, ⟨by decide +kernel, by decide +kernel, by decide +kernel⟩, tw1172, tw1173⟩
theorem y_X11_chain : yV "BrigadePagers" yX11_chain (.code yX11_chain cX11_chain 3 (some .int)) 2 := ⟨tw1025, tw1, ⟨by decide +kernel, by decide +kernel, by decide +kernel⟩, tw1023, tw1024⟩
theorem y_X11_copyAll : yS yX11_copyAll (.code yX11_copyAll cX11_copyAll 2 none) 2 := ⟨tw1307, tw1, ⟨by decide +kernel, by decide +kernel, by decide +kernel⟩, tw1306⟩
theorem y_X11_cost : yV "BrigadePagers" yX11_cost (.code yX11_cost cX11_cost 2 (some .int)) 1 := ⟨tw1154, tw1, ⟨by decide +kernel, by decide +kernel, by decide +kernel⟩, tw1152, tw1153⟩
theorem y_X11_count : yV "BrigadePagers" yX11_count (.code yX11_count cX11_count 2 (some .int)) 1 := ⟨tw898, tw1, ⟨by decide +kernel, by decide +kernel, by decide +kernel⟩, tw896, tw897⟩
theorem y_X11_departure : yV "BrigadePagers" yX11_departure (.code yX11_departure cX11_departure 3 (some .int)) 2 := ⟨tw1287, tw1, ⟨by decide +kernel, by decide +kernel, by decide +kernel⟩, tw1285, tw1286⟩
theorem y_X11_dutyMinutes : yV "BrigadePagers" yX11_dutyMinutes (.code yX11_dutyMinutes cX11_dutyMinutes 3 (some .int)) 2 := ⟨tw1092, tw1, ⟨by decide +kernel, by decide +kernel, by decide +kernel⟩, tw1090, tw1091⟩
theorem y_X11_engine : yV "BrigadePagers" yX11_engine (.code yX11_engine cX11_engine 3 (some .int)) 2 := ⟨tw1188, tw1, ⟨by decide +kernel, by decide +kernel, by decide +kernel⟩, tw1186, tw1187⟩
theorem y_X11_errorCode : yV "BrigadePagers" yX11_errorCode (.code yX11_errorCode cX11_errorCode 1 (some .int)) 0 := ⟨tw521, tw1, ⟨by decide +kernel, by decide +kernel, by decide +kernel⟩, tw519, tw520⟩
theorem y_X11_errorPosition : yV "BrigadePagers" yX11_errorPosition (.code yX11_errorPosition cX11_errorPosition 1 (some .int)) 0 := ⟨tw525, tw1, ⟨by decide +kernel, by decide +kernel, by decide +kernel⟩, tw523, tw524⟩
theorem y_X11_excuse : yV "BrigadePagers" yX11_excuse (.code yX11_excuse cX11_excuse 3 (some .int)) 2 := ⟨tw1491, tw1, ⟨by decide +kernel, by decide +kernel, by decide +kernel⟩, tw1489, tw1490⟩
theorem y_X11_find : yV "BrigadePagers" yX11_find (.code yX11_find cX11_find 5 (some .int)) 1 := ⟨tw868, tw1, ⟨by decide +kernel, by decide +kernel, by decide +kernel⟩, tw866, tw867⟩
theorem y_X11_giveBack : yV "BrigadePagers" yX11_giveBack (.code yX11_giveBack cX11_giveBack 2 (some .int)) 1 := ⟨tw1465, tw1, ⟨by decide +kernel, by decide +kernel, by decide +kernel⟩, tw1463, tw1464⟩
theorem y_X11_handOn : yV "BrigadePagers" yX11_handOn (.code yX11_handOn cX11_handOn 4 (some .int)) 3 := ⟨tw1457, tw1, ⟨by decide +kernel, by decide +kernel, by decide +kernel⟩, tw1455, tw1456⟩
theorem y_X11_handOns : yV "BrigadePagers" yX11_handOns (.code yX11_handOns cX11_handOns 2 (some .int)) 1 := ⟨tw1046, tw1, ⟨by decide +kernel, by decide +kernel, by decide +kernel⟩, tw1044, tw1045⟩
theorem y_X11_has : yS yX11_has (.code yX11_has cX11_has 2 (some .boolean)) 2 := ⟨tw1119, tw1, ⟨by decide +kernel, by decide +kernel, by decide +kernel⟩, tw1118⟩
theorem y_X11_helpfulHandOn : yV "BrigadePagers" yX11_helpfulHandOn (.code yX11_helpfulHandOn cX11_helpfulHandOn 6 (some .int)) 1 := ⟨tw1386, tw1, ⟨by decide +kernel, by decide +kernel, by decide +kernel⟩, tw1385, (List.mem_append_left _ (List.mem_of_getElem? (i := 78) (by decide +kernel)))⟩
theorem y_X11_helpfulPager : yV "BrigadePagers" yX11_helpfulPager (.code yX11_helpfulPager cX11_helpfulPager 2 (some .int)) 1 := ⟨tw1382, tw1, ⟨by decide +kernel, by decide +kernel, by decide +kernel⟩, tw1380, tw1381⟩
theorem y_X11_helpfulPerson : yV "BrigadePagers" yX11_helpfulPerson (.code yX11_helpfulPerson cX11_helpfulPerson 2 (some .int)) 1 := ⟨tw1403, tw1, ⟨by decide +kernel, by decide +kernel, by decide +kernel⟩, tw1401, tw1402⟩
theorem y_X11_holderAt : yV "BrigadePagers" yX11_holderAt (.code yX11_holderAt cX11_holderAt 3 (some .int)) 2 := ⟨tw1080, tw1, ⟨by decide +kernel, by decide +kernel, by decide +kernel⟩, tw1078, tw1079⟩
theorem y_X11_holdingEnd : yV "BrigadePagers" yX11_holdingEnd (.code yX11_holdingEnd cX11_holdingEnd 2 (some .int)) 1 := ⟨tw1053, tw1, ⟨by decide +kernel, by decide +kernel, by decide +kernel⟩, tw1051, tw1052⟩
theorem y_X11_hoursUntilAnswered : yV "BrigadePagers" yX11_hoursUntilAnswered (.code yX11_hoursUntilAnswered cX11_hoursUntilAnswered 3 (some .int)) 1 := ⟨tw1351, tw1, ⟨by decide +kernel, by decide +kernel, by decide +kernel⟩, tw1349, tw1350⟩
theorem y_X11_init : yI yX11_init (.code yX11_init cX11_init 1 none) 0 := ⟨tw33, tw1, ⟨by decide +kernel, by decide +kernel, by decide +kernel⟩, tw32, rfl⟩
theorem y_X11_isAnswered : yV "BrigadePagers" yX11_isAnswered (.code yX11_isAnswered cX11_isAnswered 2 (some .boolean)) 1 := ⟨tw1166, tw1, ⟨by decide +kernel, by decide +kernel, by decide +kernel⟩, tw1164, tw1165⟩
theorem y_X11_left : yV "BrigadePagers" yX11_left (.code yX11_left cX11_left 2 (some .int)) 1 := ⟨tw1181, tw1, ⟨by decide +kernel, by decide +kernel, by decide +kernel⟩, tw1179, tw1180⟩
theorem y_X11_leftAt : yV "BrigadePagers" yX11_leftAt (.code yX11_leftAt cX11_leftAt 3 (some .int)) 2 := ⟨tw1200, tw1, ⟨by decide +kernel, by decide +kernel, by decide +kernel⟩, tw1198, tw1199⟩
theorem y_X11_load : yV "BrigadePagers" yX11_load (.code yX11_load cX11_load 3 (some .int)) 0 := ⟨tw645, tw1, ⟨by decide +kernel, by decide +kernel, by decide +kernel⟩, tw643, tw644⟩
theorem y_X11_lostSleep : yV "BrigadePagers" yX11_lostSleep (.code yX11_lostSleep cX11_lostSleep 2 (some .int)) 1 := ⟨tw940, tw1, ⟨by decide +kernel, by decide +kernel, by decide +kernel⟩, tw938, tw939⟩
theorem y_X11_lostSleepAfter : yV "BrigadePagers" yX11_lostSleepAfter (.code yX11_lostSleepAfter cX11_lostSleepAfter 3 (some .int)) 2 := ⟨tw947, tw1, ⟨by decide +kernel, by decide +kernel, by decide +kernel⟩, tw945, tw946⟩
theorem y_X11_manned : yV "BrigadePagers" yX11_manned (.code yX11_manned cX11_manned 3 (some .int)) 2 := ⟨tw1320, tw1, ⟨by decide +kernel, by decide +kernel, by decide +kernel⟩, tw1318, tw1319⟩
theorem y_X11_mans : yV "BrigadePagers" yX11_mans (.code yX11_mans cX11_mans 5 (some .int)) 3 := ⟨tw1299, tw1, ⟨by decide +kernel, by decide +kernel, by decide +kernel⟩, tw1297, tw1298⟩
theorem y_X11_member : yV "BrigadePagers" yX11_member (.code yX11_member cX11_member 5 (some .int)) 3 := ⟨tw1207, tw1, ⟨by decide +kernel, by decide +kernel, by decide +kernel⟩, tw1205, tw1206⟩
theorem y_X11_mostEngines : yV "BrigadePagers" yX11_mostEngines (.code yX11_mostEngines cX11_mostEngines 2 (some .int)) 1 := ⟨tw1334, tw1, ⟨by decide +kernel, by decide +kernel, by decide +kernel⟩, tw1332, tw1333⟩
theorem y_X11_needCall : yV "BrigadePagers" yX11_needCall (.code yX11_needCall cX11_needCall 2 none) 1 := ⟨tw1158, tw1, ⟨by decide +kernel, by decide +kernel, by decide +kernel⟩, tw1157, (List.mem_append_left _ (List.mem_of_getElem? (i := 56) (by decide +kernel)))⟩
theorem y_X11_needEngine : yV "BrigadePagers" yX11_needEngine (.code yX11_needEngine cX11_needEngine 2 none) 1 := ⟨tw1142, tw1, ⟨by decide +kernel, by decide +kernel, by decide +kernel⟩, tw1141, (List.mem_append_left _ (List.mem_of_getElem? (i := 54) (by decide +kernel)))⟩
theorem y_X11_needKind : yV "BrigadePagers" yX11_needKind (.code yX11_needKind cX11_needKind 2 none) 1 := ⟨tw1222, tw1, ⟨by decide +kernel, by decide +kernel, by decide +kernel⟩, tw1221, (List.mem_append_left _ (List.mem_of_getElem? (i := 58) (by decide +kernel)))⟩
theorem y_X11_needKindEngine : yV "BrigadePagers" yX11_needKindEngine (.code yX11_needKindEngine cX11_needKindEngine 3 none) 2 := ⟨tw1279, tw1, ⟨by decide +kernel, by decide +kernel, by decide +kernel⟩, tw1278, (List.mem_append_left _ (List.mem_of_getElem? (i := 67) (by decide +kernel)))⟩
theorem y_X11_needLeaver : yV "BrigadePagers" yX11_needLeaver (.code yX11_needLeaver cX11_needLeaver 3 none) 2 := ⟨tw1192, tw1, ⟨by decide +kernel, by decide +kernel, by decide +kernel⟩, tw1191, (List.mem_append_left _ (List.mem_of_getElem? (i := 57) (by decide +kernel)))⟩
theorem y_X11_needLeaving : yV "BrigadePagers" yX11_needLeaving (.code yX11_needLeaving cX11_needLeaving 2 none) 1 := ⟨tw1291, tw1, ⟨by decide +kernel, by decide +kernel, by decide +kernel⟩, tw1290, (List.mem_append_left _ (List.mem_of_getElem? (i := 68) (by decide +kernel)))⟩
theorem y_X11_needPager : yV "BrigadePagers" yX11_needPager (.code yX11_needPager cX11_needPager 2 none) 1 := ⟨tw1029, tw1, ⟨by decide +kernel, by decide +kernel, by decide +kernel⟩, tw1028, (List.mem_append_left _ (List.mem_of_getElem? (i := 43) (by decide +kernel)))⟩
theorem y_X11_needPerson : yV "BrigadePagers" yX11_needPerson (.code yX11_needPerson cX11_needPerson 2 none) 1 := ⟨tw928, tw1, ⟨by decide +kernel, by decide +kernel, by decide +kernel⟩, tw927, (List.mem_append_left _ (List.mem_of_getElem? (i := 34) (by decide +kernel)))⟩
theorem y_X11_needPlace : yV "BrigadePagers" yX11_needPlace (.code yX11_needPlace cX11_needPlace 3 none) 2 := ⟨tw1072, tw1, ⟨by decide +kernel, by decide +kernel, by decide +kernel⟩, tw1071, (List.mem_append_left _ (List.mem_of_getElem? (i := 48) (by decide +kernel)))⟩
theorem y_X11_needSlot : yV "BrigadePagers" yX11_needSlot (.code yX11_needSlot cX11_needSlot 2 none) 1 := ⟨tw1531, tw1, ⟨by decide +kernel, by decide +kernel, by decide +kernel⟩, tw1530, (List.mem_append_left _ (List.mem_of_getElem? (i := 91) (by decide +kernel)))⟩
theorem y_X11_needTwoPersons : yV "BrigadePagers" yX11_needTwoPersons (.code yX11_needTwoPersons cX11_needTwoPersons 3 none) 2 := ⟨tw1004, tw1, ⟨by decide +kernel, by decide +kernel, by decide +kernel⟩, tw1003, (List.mem_append_left _ (List.mem_of_getElem? (i := 41) (by decide +kernel)))⟩
theorem y_X11_nightMinutes : yV "BrigadePagers" yX11_nightMinutes (.code yX11_nightMinutes cX11_nightMinutes 3 (some .int)) 2 := ⟨tw906, tw1, ⟨by decide +kernel, by decide +kernel, by decide +kernel⟩, tw904, tw905⟩
theorem y_X11_nthOf : yS yX11_nthOf (.code yX11_nthOf cX11_nthOf 4 (some .int)) 2 := ⟨tw1210, tw1, ⟨by decide +kernel, by decide +kernel, by decide +kernel⟩, tw1209⟩
theorem y_X11_outUntil : yV "BrigadePagers" yX11_outUntil (.code yX11_outUntil cX11_outUntil 2 (some .int)) 1 := ⟨tw924, tw1, ⟨by decide +kernel, by decide +kernel, by decide +kernel⟩, tw922, tw923⟩
theorem y_X11_pair : yS yX11_pair (.code yX11_pair cX11_pair 2 (some .int)) 2 := ⟨tw807, tw1, ⟨by decide +kernel, by decide +kernel, by decide +kernel⟩, tw806⟩
theorem y_X11_pass : yV "BrigadePagers" yX11_pass (.code yX11_pass cX11_pass 2 (some .int)) 1 := ⟨tw1473, tw1, ⟨by decide +kernel, by decide +kernel, by decide +kernel⟩, tw1471, tw1472⟩
theorem y_X11_pay : yV "BrigadePagers" yX11_pay (.code yX11_pay cX11_pay 2 (some .int)) 1 := ⟨tw993, tw1, ⟨by decide +kernel, by decide +kernel, by decide +kernel⟩, tw991, tw992⟩
theorem y_X11_putFourBytes : yV "BrigadePagers" yX11_putFourBytes (.code yX11_putFourBytes cX11_putFourBytes 3 none) 1 := ⟨tw613, tw1, ⟨by decide +kernel, by decide +kernel, by decide +kernel⟩, tw612, (List.mem_append_left _ (List.mem_of_getElem? (i := 2) (by decide +kernel)))⟩
theorem y_X11_restedAt : yV "BrigadePagers" yX11_restedAt (.code yX11_restedAt cX11_restedAt 3 (some .int)) 1 := ⟨tw961, tw1, ⟨by decide +kernel, by decide +kernel, by decide +kernel⟩, tw959, tw960⟩
theorem y_X11_restore : yV "BrigadePagers" yX11_restore (.code yX11_restore cX11_restore 2 none) 1 := ⟨tw1539, tw1, ⟨by decide +kernel, by decide +kernel, by decide +kernel⟩, tw1537, tw1538⟩
theorem y_X11_returnsAt : yV "BrigadePagers" yX11_returnsAt (.code yX11_returnsAt cX11_returnsAt 2 (some .int)) 1 := ⟨tw1138, tw1, ⟨by decide +kernel, by decide +kernel, by decide +kernel⟩, tw1136, tw1137⟩
theorem y_X11_rotation : yV "BrigadePagers" yX11_rotation (.code yX11_rotation cX11_rotation 3 (some .int)) 2 := ⟨tw1068, tw1, ⟨by decide +kernel, by decide +kernel, by decide +kernel⟩, tw1066, tw1067⟩
theorem y_X11_save : yV "BrigadePagers" yX11_save (.code yX11_save cX11_save 2 none) 1 := ⟨tw1527, tw1, ⟨by decide +kernel, by decide +kernel, by decide +kernel⟩, tw1525, tw1526⟩
theorem y_X11_setService : yV "BrigadePagers" yX11_setService (.code yX11_setService cX11_setService 3 (some .int)) 2 := ⟨tw1499, tw1, ⟨by decide +kernel, by decide +kernel, by decide +kernel⟩, tw1497, tw1498⟩
theorem y_X11_setTrust : yV "BrigadePagers" yX11_setTrust (.code yX11_setTrust cX11_setTrust 5 (some .int)) 3 := ⟨tw1507, tw1, ⟨by decide +kernel, by decide +kernel, by decide +kernel⟩, tw1505, tw1506⟩
theorem y_X11_steps : yV "BrigadePagers" yX11_steps (.code yX11_steps cX11_steps 3 (some .int)) 2 := ⟨tw1130, tw1, ⟨by decide +kernel, by decide +kernel, by decide +kernel⟩, tw1128, tw1129⟩
theorem y_X11_swapPlaces : yV "BrigadePagers" yX11_swapPlaces (.code yX11_swapPlaces cX11_swapPlaces 8 (some .int)) 3 := ⟨tw1481, tw1, ⟨by decide +kernel, by decide +kernel, by decide +kernel⟩, tw1479, tw1480⟩
theorem y_X11_time : yV "BrigadePagers" yX11_time (.code yX11_time cX11_time 1 (some .int)) 0 := ⟨tw529, tw1, ⟨by decide +kernel, by decide +kernel, by decide +kernel⟩, tw527, tw528⟩
theorem y_X11_totalCost : yV "BrigadePagers" yX11_totalCost (.code yX11_totalCost cX11_totalCost 3 (some .int)) 0 := ⟨tw533, tw1, ⟨by decide +kernel, by decide +kernel, by decide +kernel⟩, tw531, tw532⟩
theorem y_X11_truncate : yV "BrigadePagers" yX11_truncate (.code yX11_truncate cX11_truncate 2 (some .int)) 1 := ⟨tw621, tw1, ⟨by decide +kernel, by decide +kernel, by decide +kernel⟩, tw619, tw620⟩
theorem y_X11_trust : yV "BrigadePagers" yX11_trust (.code yX11_trust cX11_trust 3 (some .int)) 2 := ⟨tw1000, tw1, ⟨by decide +kernel, by decide +kernel, by decide +kernel⟩, tw998, tw999⟩
theorem y_X11_trustPath : yV "BrigadePagers" yX11_trustPath (.code yX11_trustPath cX11_trustPath 3 (some .int)) 2 := ⟨tw1013, tw1, ⟨by decide +kernel, by decide +kernel, by decide +kernel⟩, tw1011, tw1012⟩
theorem y_X11_undo : yV "BrigadePagers" yX11_undo (.code yX11_undo cX11_undo 1 (some .int)) 0 := ⟨tw1515, tw1, ⟨by decide +kernel, by decide +kernel, by decide +kernel⟩, tw1513, tw1514⟩
theorem y_X11_whyAbsent : yV "BrigadePagers" yX11_whyAbsent (.code yX11_whyAbsent cX11_whyAbsent 3 (some .int)) 2 := ⟨tw1218, tw1, ⟨by decide +kernel, by decide +kernel, by decide +kernel⟩, tw1216, tw1217⟩
theorem y_X11_whyNotHandOn : yV "BrigadePagers" yX11_whyNotHandOn (.code yX11_whyNotHandOn cX11_whyNotHandOn 4 (some .int)) 3 := ⟨tw1106, tw1, ⟨by decide +kernel, by decide +kernel, by decide +kernel⟩, tw1104, tw1105⟩
theorem y_X11_whyStays : yV "BrigadePagers" yX11_whyStays (.code yX11_whyStays cX11_whyStays 3 (some .int)) 2 := ⟨tw1275, tw1, ⟨by decide +kernel, by decide +kernel, by decide +kernel⟩, tw1273, tw1274⟩
theorem y_X11_wouldAnswer : yV "BrigadePagers" yX11_wouldAnswer (.code yX11_wouldAnswer cX11_wouldAnswer 2 (some .boolean)) 1 := ⟨tw1327, tw1, ⟨by decide +kernel, by decide +kernel, by decide +kernel⟩, tw1325, tw1326⟩
theorem y_X12_absent : yV "BrigadePagersModel" yX12_absent (.code yX12_absent cX12_absent 5 (some .int)) 2 := ⟨tw2076, tw13, ⟨by decide +kernel, by decide +kernel, by decide +kernel⟩, tw2075, (List.mem_append_left _ (List.mem_of_getElem? (i := 136) (by decide +kernel)))⟩
theorem y_X12_against : yV "BrigadePagersModel" yX12_against (.code yX12_against cX12_against 8 (some .int)) 3 := ⟨tw2052, tw13, ⟨by decide +kernel, by decide +kernel, by decide +kernel⟩, tw2051, (List.mem_append_left _ (List.mem_of_getElem? (i := 132) (by decide +kernel)))⟩
theorem y_X12_answers : yV "BrigadePagersModel" yX12_answers (.code yX12_answers cX12_answers 2 (some .boolean)) 1 := ⟨tw2139, tw13, ⟨by decide +kernel, by decide +kernel, by decide +kernel⟩, tw2138, (List.mem_append_left _ (List.mem_of_getElem? (i := 146) (by decide +kernel)))⟩
theorem y_X12_append : yV "BrigadePagersModel" yX12_append (.code yX12_append cX12_append 6 (some .int)) 5 := ⟨tw1773, tw13, ⟨by decide +kernel, by decide +kernel, by decide +kernel⟩, tw1771, tw1772⟩
theorem y_X12_arrival : yV "BrigadePagersModel" yX12_arrival (.code yX12_arrival cX12_arrival 2 (some .int)) 1 := ⟨tw1971, tw13, ⟨by decide +kernel, by decide +kernel, by decide +kernel⟩, tw1969, tw1970⟩
theorem y_X12_arrivalOf : yV "BrigadePagersModel" yX12_arrivalOf (.code yX12_arrivalOf cX12_arrivalOf 2 (some .int)) 1 := ⟨tw1975, tw13, ⟨by decide +kernel, by decide +kernel, by decide +kernel⟩, tw1974, (List.mem_append_left _ (List.mem_of_getElem? (i := 123) (by decide +kernel)))⟩
theorem y_X12_begins : yV "BrigadePagersModel" yX12_begins (.code yX12_begins cX12_begins 6 (some .boolean)) 3 := ⟨tw1844, tw13, ⟨by decide +kernel, by decide +kernel, by decide +kernel⟩, tw1843, (List.mem_append_left _ (List.mem_of_getElem? (i := 105) (by decide +kernel)))⟩
theorem y_X12_begins_ : yV "BrigadePagersModel" yX12_begins_ (.code yX12_begins_ cX12_begins_ 2 none) 0 := ⟨tw2127, tw13, ⟨by decide +kernel, by decide +kernel, by decide +kernel⟩, tw2126, (List.mem_append_left _ (List.mem_of_getElem? (i := 144) (by decide +kernel)))⟩
theorem y_X12_blanks : yV "BrigadePagersModel" yX12_blanks (.code yX12_blanks cX12_blanks 1 none) 0 := ⟨tw1796, tw13, ⟨by decide +kernel, by decide +kernel, by decide +kernel⟩, tw1795, (List.mem_append_left _ (List.mem_of_getElem? (i := 95) (by decide +kernel)))⟩
theorem y_X12_bytes : yV "BrigadePagersModel" yX12_bytes (.code yX12_bytes cX12_bytes 3 none) 1 := ⟨tw1777, tw13, ⟨by decide +kernel, by decide +kernel, by decide +kernel⟩, tw1776, (List.mem_append_left _ (List.mem_of_getElem? (i := 93) (by decide +kernel)))⟩
theorem y_X12_call : yV "BrigadePagersModel" yX12_call (.code yX12_call cX12_call 11 (some .int)) 1 := ⟨tw2215, tw13, ⟨by decide +kernel, by decide +kernel, by decide +kernel⟩, tw2213, tw2214⟩
theorem y_X12_callAt : yV "BrigadePagersModel" yX12_callAt (.code yX12_callAt cX12_callAt 3 (some .int)) 2 := ⟨tw2179, tw13, ⟨by decide +kernel, by decide +kernel, by decide +kernel⟩, tw2178, (List.mem_append_left _ (List.mem_of_getElem? (i := 150) (by decide +kernel)))⟩
theorem y_X12_came : yV "BrigadePagersModel" yX12_came (.code yX12_came cX12_came 2 (some .int)) 1 := ⟨tw2187, tw13, ⟨by decide +kernel, by decide +kernel, by decide +kernel⟩, tw2185, tw2186⟩
theorem y_X12_chain : yV "BrigadePagersModel" yX12_chain (.code yX12_chain cX12_chain 3 (some .int)) 2 := ⟨tw1995, tw13, ⟨by decide +kernel, by decide +kernel, by decide +kernel⟩, tw1993, tw1994⟩
theorem y_X12_cost : yV "BrigadePagersModel" yX12_cost (.code yX12_cost cX12_cost 2 (some .int)) 1 := ⟨tw2171, tw13, ⟨by decide +kernel, by decide +kernel, by decide +kernel⟩, tw2169, tw2170⟩
theorem y_X12_count : yV "BrigadePagersModel" yX12_count (.code yX12_count cX12_count 2 (some .int)) 1 := ⟨tw1909, tw13, ⟨by decide +kernel, by decide +kernel, by decide +kernel⟩, tw1907, tw1908⟩
theorem y_X12_crewOf : yV "BrigadePagersModel" yX12_crewOf (.code yX12_crewOf cX12_crewOf 9 (some .int)) 2 := ⟨tw2100, tw13, ⟨by decide +kernel, by decide +kernel, by decide +kernel⟩, tw2099, (List.mem_append_left _ (List.mem_of_getElem? (i := 141) (by decide +kernel)))⟩
theorem y_X12_departure : yV "BrigadePagersModel" yX12_departure (.code yX12_departure cX12_departure 3 (some .int)) 2 := ⟨tw2115, tw13, ⟨by decide +kernel, by decide +kernel, by decide +kernel⟩, tw2113, tw2114⟩
theorem y_X12_dutyMinutes : yV "BrigadePagersModel" yX12_dutyMinutes (.code yX12_dutyMinutes cX12_dutyMinutes 7 (some .int)) 2 := ⟨tw2044, tw13, ⟨by decide +kernel, by decide +kernel, by decide +kernel⟩, tw2042, tw2043⟩
theorem y_X12_endOf : yV "BrigadePagersModel" yX12_endOf (.code yX12_endOf cX12_endOf 3 (some .int)) 1 := ⟨tw2027, tw13, ⟨by decide +kernel, by decide +kernel, by decide +kernel⟩, tw2026, (List.mem_append_left _ (List.mem_of_getElem? (i := 130) (by decide +kernel)))⟩
theorem y_X12_engine : yV "BrigadePagersModel" yX12_engine (.code yX12_engine cX12_engine 4 none) 0 := ⟨tw1886, tw13, ⟨by decide +kernel, by decide +kernel, by decide +kernel⟩, tw1885, (List.mem_append_left _ (List.mem_of_getElem? (i := 113) (by decide +kernel)))⟩
theorem y_X12_engine_ : yV "BrigadePagersModel" yX12_engine_ (.code yX12_engine_ cX12_engine_ 3 (some .int)) 2 := ⟨tw2195, tw13, ⟨by decide +kernel, by decide +kernel, by decide +kernel⟩, tw2193, tw2194⟩
theorem y_X12_errorCode : yV "BrigadePagersModel" yX12_errorCode (.code yX12_errorCode cX12_errorCode 1 (some .int)) 0 := ⟨tw1896, tw13, ⟨by decide +kernel, by decide +kernel, by decide +kernel⟩, tw1894, tw1895⟩
theorem y_X12_errorPosition : yV "BrigadePagersModel" yX12_errorPosition (.code yX12_errorPosition cX12_errorPosition 1 (some .int)) 0 := ⟨tw1900, tw13, ⟨by decide +kernel, by decide +kernel, by decide +kernel⟩, tw1898, tw1899⟩
theorem y_X12_excuse : yV "BrigadePagersModel" yX12_excuse (.code yX12_excuse cX12_excuse 5 (some .int)) 2 := ⟨tw2243, tw13, ⟨by decide +kernel, by decide +kernel, by decide +kernel⟩, tw2241, tw2242⟩
theorem y_X12_fault : yV "BrigadePagersModel" yX12_fault (.code yX12_fault cX12_fault 3 none) 2 := ⟨tw1817, tw13, ⟨by decide +kernel, by decide +kernel, by decide +kernel⟩, tw1816, (List.mem_append_left _ (List.mem_of_getElem? (i := 99) (by decide +kernel)))⟩
theorem y_X12_find : yV "BrigadePagersModel" yX12_find (.code yX12_find cX12_find 7 (some .int)) 1 := ⟨tw1904, tw13, ⟨by decide +kernel, by decide +kernel, by decide +kernel⟩, tw1902, tw1903⟩
theorem y_X12_fits : yV "BrigadePagersModel" yX12_fits (.code yX12_fits cX12_fits 5 (some .boolean)) 3 := ⟨tw2107, tw13, ⟨by decide +kernel, by decide +kernel, by decide +kernel⟩, tw2106, (List.mem_append_left _ (List.mem_of_getElem? (i := 142) (by decide +kernel)))⟩
theorem y_X12_giveBack : yV "BrigadePagersModel" yX12_giveBack (.code yX12_giveBack cX12_giveBack 2 (some .int)) 1 := ⟨tw2231, tw13, ⟨by decide +kernel, by decide +kernel, by decide +kernel⟩, tw2229, tw2230⟩
theorem y_X12_grows : yV "BrigadePagersModel" yX12_grows (.code yX12_grows cX12_grows 5 none) 1 := ⟨tw1955, tw13, ⟨by decide +kernel, by decide +kernel, by decide +kernel⟩, tw1954, (List.mem_append_left _ (List.mem_of_getElem? (i := 120) (by decide +kernel)))⟩
theorem y_X12_handOn : yV "BrigadePagersModel" yX12_handOn (.code yX12_handOn cX12_handOn 4 (some .int)) 3 := ⟨tw2227, tw13, ⟨by decide +kernel, by decide +kernel, by decide +kernel⟩, tw2225, tw2226⟩
theorem y_X12_handOns : yV "BrigadePagersModel" yX12_handOns (.code yX12_handOns cX12_handOns 2 (some .int)) 1 := ⟨tw2019, tw13, ⟨by decide +kernel, by decide +kernel, by decide +kernel⟩, tw2017, tw2018⟩
theorem y_X12_hands : yV "BrigadePagersModel" yX12_hands (.code yX12_hands cX12_hands 2 (some .int)) 1 := ⟨tw2003, tw13, ⟨by decide +kernel, by decide +kernel, by decide +kernel⟩, tw2002, (List.mem_append_left _ (List.mem_of_getElem? (i := 126) (by decide +kernel)))⟩
theorem y_X12_hands_ : yV "BrigadePagersModel" yX12_hands_ (.code yX12_hands_ cX12_hands_ 5 none) 3 := ⟨tw2064, tw13, ⟨by decide +kernel, by decide +kernel, by decide +kernel⟩, tw2063, (List.mem_append_left _ (List.mem_of_getElem? (i := 134) (by decide +kernel)))⟩
theorem y_X12_helpful : yV "BrigadePagersModel" yX12_helpful (.code yX12_helpful cX12_helpful 6 (some .int)) 1 := ⟨tw2159, tw13, ⟨by decide +kernel, by decide +kernel, by decide +kernel⟩, tw2158, (List.mem_append_left _ (List.mem_of_getElem? (i := 148) (by decide +kernel)))⟩
theorem y_X12_helpfulPager : yV "BrigadePagersModel" yX12_helpfulPager (.code yX12_helpfulPager cX12_helpfulPager 2 (some .int)) 1 := ⟨tw2151, tw13, ⟨by decide +kernel, by decide +kernel, by decide +kernel⟩, tw2149, tw2150⟩
theorem y_X12_helpfulPerson : yV "BrigadePagersModel" yX12_helpfulPerson (.code yX12_helpfulPerson cX12_helpfulPerson 2 (some .int)) 1 := ⟨tw2163, tw13, ⟨by decide +kernel, by decide +kernel, by decide +kernel⟩, tw2161, tw2162⟩
theorem y_X12_helps : yV "BrigadePagersModel" yX12_helps (.code yX12_helps cX12_helps 3 (some .int)) 1 := ⟨tw2155, tw13, ⟨by decide +kernel, by decide +kernel, by decide +kernel⟩, tw2154, (List.mem_append_left _ (List.mem_of_getElem? (i := 147) (by decide +kernel)))⟩
theorem y_X12_holder : yV "BrigadePagersModel" yX12_holder (.code yX12_holder cX12_holder 2 (some .int)) 1 := ⟨tw2056, tw13, ⟨by decide +kernel, by decide +kernel, by decide +kernel⟩, tw2055, (List.mem_append_left _ (List.mem_of_getElem? (i := 133) (by decide +kernel)))⟩
theorem y_X12_holderAt : yV "BrigadePagersModel" yX12_holderAt (.code yX12_holderAt cX12_holderAt 3 (some .int)) 2 := ⟨tw2035, tw13, ⟨by decide +kernel, by decide +kernel, by decide +kernel⟩, tw2033, tw2034⟩
theorem y_X12_holderThen : yV "BrigadePagersModel" yX12_holderThen (.code yX12_holderThen cX12_holderThen 4 (some .int)) 2 := ⟨tw2040, tw13, ⟨by decide +kernel, by decide +kernel, by decide +kernel⟩, tw2039, (List.mem_append_left _ (List.mem_of_getElem? (i := 131) (by decide +kernel)))⟩
theorem y_X12_holdingEnd : yV "BrigadePagersModel" yX12_holdingEnd (.code yX12_holdingEnd cX12_holdingEnd 2 (some .int)) 1 := ⟨tw2023, tw13, ⟨by decide +kernel, by decide +kernel, by decide +kernel⟩, tw2021, tw2022⟩
theorem y_X12_hoursUntilAnswered : yV "BrigadePagersModel" yX12_hoursUntilAnswered (.code yX12_hoursUntilAnswered cX12_hoursUntilAnswered 5 (some .int)) 1 := ⟨tw2147, tw13, ⟨by decide +kernel, by decide +kernel, by decide +kernel⟩, tw2145, tw2146⟩
theorem y_X12_in : yS yX12_in (.code yX12_in cX12_in 6 (some .boolean)) 3 := ⟨tw1784, tw13, ⟨by decide +kernel, by decide +kernel, by decide +kernel⟩, tw1783⟩
theorem y_X12_init : yI yX12_init (.code yX12_init cX12_init 1 none) 0 := ⟨tw1545, tw13, ⟨by decide +kernel, by decide +kernel, by decide +kernel⟩, tw1544, rfl⟩
theorem y_X12_isAnswered : yV "BrigadePagersModel" yX12_isAnswered (.code yX12_isAnswered cX12_isAnswered 2 (some .boolean)) 1 := ⟨tw2183, tw13, ⟨by decide +kernel, by decide +kernel, by decide +kernel⟩, tw2181, tw2182⟩
theorem y_X12_isCall : yV "BrigadePagersModel" yX12_isCall (.code yX12_isCall cX12_isCall 2 (some .boolean)) 1 := ⟨tw2175, tw13, ⟨by decide +kernel, by decide +kernel, by decide +kernel⟩, tw2174, (List.mem_append_left _ (List.mem_of_getElem? (i := 149) (by decide +kernel)))⟩
theorem y_X12_isCouple : yV "BrigadePagersModel" yX12_isCouple (.code yX12_isCouple cX12_isCouple 3 (some .boolean)) 2 := ⟨tw1987, tw13, ⟨by decide +kernel, by decide +kernel, by decide +kernel⟩, tw1986, (List.mem_append_left _ (List.mem_of_getElem? (i := 124) (by decide +kernel)))⟩
theorem y_X12_isDigit : yV "BrigadePagersModel" yX12_isDigit (.code yX12_isDigit cX12_isDigit 2 (some .boolean)) 1 := ⟨tw1825, tw13, ⟨by decide +kernel, by decide +kernel, by decide +kernel⟩, tw1824, (List.mem_append_left _ (List.mem_of_getElem? (i := 101) (by decide +kernel)))⟩
theorem y_X12_isEngine : yV "BrigadePagersModel" yX12_isEngine (.code yX12_isEngine cX12_isEngine 3 (some .boolean)) 2 := ⟨tw2084, tw13, ⟨by decide +kernel, by decide +kernel, by decide +kernel⟩, tw2083, (List.mem_append_left _ (List.mem_of_getElem? (i := 137) (by decide +kernel)))⟩
theorem y_X12_isEngineOut : yV "BrigadePagersModel" yX12_isEngineOut (.code yX12_isEngineOut cX12_isEngineOut 2 (some .boolean)) 1 := ⟨tw2096, tw13, ⟨by decide +kernel, by decide +kernel, by decide +kernel⟩, tw2095, (List.mem_append_left _ (List.mem_of_getElem? (i := 140) (by decide +kernel)))⟩
theorem y_X12_isKind : yV "BrigadePagersModel" yX12_isKind (.code yX12_isKind cX12_isKind 2 (some .boolean)) 1 := ⟨tw2072, tw13, ⟨by decide +kernel, by decide +kernel, by decide +kernel⟩, tw2071, (List.mem_append_left _ (List.mem_of_getElem? (i := 135) (by decide +kernel)))⟩
theorem y_X12_isLetter : yV "BrigadePagersModel" yX12_isLetter (.code yX12_isLetter cX12_isLetter 2 (some .boolean)) 1 := ⟨tw1809, tw13, ⟨by decide +kernel, by decide +kernel, by decide +kernel⟩, tw1808, (List.mem_append_left _ (List.mem_of_getElem? (i := 98) (by decide +kernel)))⟩
theorem y_X12_isNext : yV "BrigadePagersModel" yX12_isNext (.code yX12_isNext cX12_isNext 2 (some .boolean)) 1 := ⟨tw1839, tw13, ⟨by decide +kernel, by decide +kernel, by decide +kernel⟩, tw1838, (List.mem_append_left _ (List.mem_of_getElem? (i := 104) (by decide +kernel)))⟩
theorem y_X12_isNight : yV "BrigadePagersModel" yX12_isNight (.code yX12_isNight cX12_isNight 3 (some .boolean)) 1 := ⟨tw1922, tw13, ⟨by decide +kernel, by decide +kernel, by decide +kernel⟩, tw1921, (List.mem_append_left _ (List.mem_of_getElem? (i := 115) (by decide +kernel)))⟩
theorem y_X12_isOut : yV "BrigadePagersModel" yX12_isOut (.code yX12_isOut cX12_isOut 2 (some .boolean)) 1 := ⟨tw1934, tw13, ⟨by decide +kernel, by decide +kernel, by decide +kernel⟩, tw1933, (List.mem_append_left _ (List.mem_of_getElem? (i := 117) (by decide +kernel)))⟩
theorem y_X12_isPager : yV "BrigadePagersModel" yX12_isPager (.code yX12_isPager cX12_isPager 2 (some .boolean)) 1 := ⟨tw1999, tw13, ⟨by decide +kernel, by decide +kernel, by decide +kernel⟩, tw1998, (List.mem_append_left _ (List.mem_of_getElem? (i := 125) (by decide +kernel)))⟩
theorem y_X12_isPerson : yV "BrigadePagersModel" yX12_isPerson (.code yX12_isPerson cX12_isPerson 2 (some .boolean)) 1 := ⟨tw1930, tw13, ⟨by decide +kernel, by decide +kernel, by decide +kernel⟩, tw1929, (List.mem_append_left _ (List.mem_of_getElem? (i := 116) (by decide +kernel)))⟩
theorem y_X12_isRested : yV "BrigadePagersModel" yX12_isRested (.code yX12_isRested cX12_isRested 2 (some .boolean)) 1 := ⟨tw2092, tw13, ⟨by decide +kernel, by decide +kernel, by decide +kernel⟩, tw2091, (List.mem_append_left _ (List.mem_of_getElem? (i := 139) (by decide +kernel)))⟩
theorem y_X12_isTired : yV "BrigadePagersModel" yX12_isTired (.code yX12_isTired cX12_isTired 2 (some .boolean)) 1 := ⟨tw1967, tw13, ⟨by decide +kernel, by decide +kernel, by decide +kernel⟩, tw1966, (List.mem_append_left _ (List.mem_of_getElem? (i := 122) (by decide +kernel)))⟩
theorem y_X12_joins : yV "BrigadePagersModel" yX12_joins (.code yX12_joins cX12_joins 8 none) 4 := ⟨tw2131, tw13, ⟨by decide +kernel, by decide +kernel, by decide +kernel⟩, tw2130, (List.mem_append_left _ (List.mem_of_getElem? (i := 145) (by decide +kernel)))⟩
theorem y_X12_keeps : yV "BrigadePagersModel" yX12_keeps (.code yX12_keeps cX12_keeps 2 none) 0 := ⟨tw2219, tw13, ⟨by decide +kernel, by decide +kernel, by decide +kernel⟩, tw2218, (List.mem_append_left _ (List.mem_of_getElem? (i := 152) (by decide +kernel)))⟩
theorem y_X12_kind : yV "BrigadePagersModel" yX12_kind (.code yX12_kind cX12_kind 4 none) 0 := ⟨tw1892, tw13, ⟨by decide +kernel, by decide +kernel, by decide +kernel⟩, tw1891, (List.mem_append_left _ (List.mem_of_getElem? (i := 114) (by decide +kernel)))⟩
theorem y_X12_latest : yV "BrigadePagersModel" yX12_latest (.code yX12_latest cX12_latest 5 (some .int)) 1 := ⟨tw2111, tw13, ⟨by decide +kernel, by decide +kernel, by decide +kernel⟩, tw2110, (List.mem_append_left _ (List.mem_of_getElem? (i := 143) (by decide +kernel)))⟩
theorem y_X12_lays : yV "BrigadePagersModel" yX12_lays (.code yX12_lays cX12_lays 2 none) 0 := ⟨tw1947, tw13, ⟨by decide +kernel, by decide +kernel, by decide +kernel⟩, tw1946, (List.mem_append_left _ (List.mem_of_getElem? (i := 118) (by decide +kernel)))⟩
theorem y_X12_leavingAt : yV "BrigadePagersModel" yX12_leavingAt (.code yX12_leavingAt cX12_leavingAt 4 (some .int)) 3 := ⟨tw2199, tw13, ⟨by decide +kernel, by decide +kernel, by decide +kernel⟩, tw2198, (List.mem_append_left _ (List.mem_of_getElem? (i := 151) (by decide +kernel)))⟩
theorem y_X12_left : yV "BrigadePagersModel" yX12_left (.code yX12_left cX12_left 2 (some .int)) 1 := ⟨tw2191, tw13, ⟨by decide +kernel, by decide +kernel, by decide +kernel⟩, tw2189, tw2190⟩
theorem y_X12_leftAt : yV "BrigadePagersModel" yX12_leftAt (.code yX12_leftAt cX12_leftAt 3 (some .int)) 2 := ⟨tw2203, tw13, ⟨by decide +kernel, by decide +kernel, by decide +kernel⟩, tw2201, tw2202⟩
theorem y_X12_link : yV "BrigadePagersModel" yX12_link (.code yX12_link cX12_link 3 (some .int)) 2 := ⟨tw2007, tw13, ⟨by decide +kernel, by decide +kernel, by decide +kernel⟩, tw2006, (List.mem_append_left _ (List.mem_of_getElem? (i := 127) (by decide +kernel)))⟩
theorem y_X12_load : yV "BrigadePagersModel" yX12_load (.code yX12_load cX12_load 1 (some .int)) 0 := ⟨tw1788, tw13, ⟨by decide +kernel, by decide +kernel, by decide +kernel⟩, tw1786, tw1787⟩
theorem y_X12_lostSleep : yV "BrigadePagersModel" yX12_lostSleep (.code yX12_lostSleep cX12_lostSleep 2 (some .int)) 1 := ⟨tw1938, tw13, ⟨by decide +kernel, by decide +kernel, by decide +kernel⟩, tw1936, tw1937⟩
theorem y_X12_lostSleepAfter : yV "BrigadePagersModel" yX12_lostSleepAfter (.code yX12_lostSleepAfter cX12_lostSleepAfter 4 (some .int)) 2 := ⟨tw1942, tw13, ⟨by decide +kernel, by decide +kernel, by decide +kernel⟩, tw1940, tw1941⟩
theorem y_X12_manned : yV "BrigadePagersModel" yX12_manned (.code yX12_manned cX12_manned 7 (some .int)) 2 := ⟨tw2123, tw13, ⟨by decide +kernel, by decide +kernel, by decide +kernel⟩, tw2121, tw2122⟩
theorem y_X12_mans : yV "BrigadePagersModel" yX12_mans (.code yX12_mans cX12_mans 11 (some .int)) 3 := ⟨tw2119, tw13, ⟨by decide +kernel, by decide +kernel, by decide +kernel⟩, tw2117, tw2118⟩
theorem y_X12_many : yS yX12_many (.code yX12_many cX12_many 3 (some .int)) 1 := ⟨tw2103, tw13, ⟨by decide +kernel, by decide +kernel, by decide +kernel⟩, tw2102⟩
theorem y_X12_member : yV "BrigadePagersModel" yX12_member (.code yX12_member cX12_member 7 (some .int)) 3 := ⟨tw2207, tw13, ⟨by decide +kernel, by decide +kernel, by decide +kernel⟩, tw2205, tw2206⟩
theorem y_X12_minute : yV "BrigadePagersModel" yX12_minute (.code yX12_minute cX12_minute 5 (some .int)) 0 := ⟨tw1951, tw13, ⟨by decide +kernel, by decide +kernel, by decide +kernel⟩, tw1950, (List.mem_append_left _ (List.mem_of_getElem? (i := 119) (by decide +kernel)))⟩
theorem y_X12_mostEngines : yV "BrigadePagersModel" yX12_mostEngines (.code yX12_mostEngines cX12_mostEngines 9 (some .int)) 1 := ⟨tw2143, tw13, ⟨by decide +kernel, by decide +kernel, by decide +kernel⟩, tw2141, tw2142⟩
theorem y_X12_name : yV "BrigadePagersModel" yX12_name (.code yX12_name cX12_name 1 (some .long)) 0 := ⟨tw1856, tw13, ⟨by decide +kernel, by decide +kernel, by decide +kernel⟩, tw1855, (List.mem_append_left _ (List.mem_of_getElem? (i := 108) (by decide +kernel)))⟩
theorem y_X12_named : yV "BrigadePagersModel" yX12_named (.code yX12_named cX12_named 6 (some .int)) 2 := ⟨tw1876, tw13, ⟨by decide +kernel, by decide +kernel, by decide +kernel⟩, tw1875, (List.mem_append_left _ (List.mem_of_getElem? (i := 111) (by decide +kernel)))⟩
theorem y_X12_newName : yV "BrigadePagersModel" yX12_newName (.code yX12_newName cX12_newName 5 none) 2 := ⟨tw1852, tw13, ⟨by decide +kernel, by decide +kernel, by decide +kernel⟩, tw1851, (List.mem_append_left _ (List.mem_of_getElem? (i := 107) (by decide +kernel)))⟩
theorem y_X12_nightMinutes : yV "BrigadePagersModel" yX12_nightMinutes (.code yX12_nightMinutes cX12_nightMinutes 5 (some .int)) 2 := ⟨tw1918, tw13, ⟨by decide +kernel, by decide +kernel, by decide +kernel⟩, tw1916, tw1917⟩
theorem y_X12_number : yV "BrigadePagersModel" yX12_number (.code yX12_number cX12_number 4 (some .int)) 2 := ⟨tw1821, tw13, ⟨by decide +kernel, by decide +kernel, by decide +kernel⟩, tw1820, (List.mem_append_left _ (List.mem_of_getElem? (i := 100) (by decide +kernel)))⟩
theorem y_X12_outUntil : yV "BrigadePagersModel" yX12_outUntil (.code yX12_outUntil cX12_outUntil 2 (some .int)) 1 := ⟨tw1926, tw13, ⟨by decide +kernel, by decide +kernel, by decide +kernel⟩, tw1924, tw1925⟩
theorem y_X12_ownerAt : yV "BrigadePagersModel" yX12_ownerAt (.code yX12_ownerAt cX12_ownerAt 3 (some .int)) 2 := ⟨tw2011, tw13, ⟨by decide +kernel, by decide +kernel, by decide +kernel⟩, tw2010, (List.mem_append_left _ (List.mem_of_getElem? (i := 128) (by decide +kernel)))⟩
theorem y_X12_pager : yV "BrigadePagersModel" yX12_pager (.code yX12_pager cX12_pager 3 none) 0 := ⟨tw1881, tw13, ⟨by decide +kernel, by decide +kernel, by decide +kernel⟩, tw1880, (List.mem_append_left _ (List.mem_of_getElem? (i := 112) (by decide +kernel)))⟩
theorem y_X12_pass : yV "BrigadePagersModel" yX12_pass (.code yX12_pass cX12_pass 4 (some .int)) 1 := ⟨tw2235, tw13, ⟨by decide +kernel, by decide +kernel, by decide +kernel⟩, tw2233, tw2234⟩
theorem y_X12_pay : yV "BrigadePagersModel" yX12_pay (.code yX12_pay cX12_pay 2 (some .int)) 1 := ⟨tw1979, tw13, ⟨by decide +kernel, by decide +kernel, by decide +kernel⟩, tw1977, tw1978⟩
theorem y_X12_person : yV "BrigadePagersModel" yX12_person (.code yX12_person cX12_person 2 none) 0 := ⟨tw1848, tw13, ⟨by decide +kernel, by decide +kernel, by decide +kernel⟩, tw1847, (List.mem_append_left _ (List.mem_of_getElem? (i := 106) (by decide +kernel)))⟩
theorem y_X12_place : yV "BrigadePagersModel" yX12_place (.code yX12_place cX12_place 6 (some .int)) 3 := ⟨tw1860, tw13, ⟨by decide +kernel, by decide +kernel, by decide +kernel⟩, tw1859, (List.mem_append_left _ (List.mem_of_getElem? (i := 109) (by decide +kernel)))⟩
theorem y_X12_plans : yV "BrigadePagersModel" yX12_plans (.code yX12_plans cX12_plans 5 none) 1 := ⟨tw2088, tw13, ⟨by decide +kernel, by decide +kernel, by decide +kernel⟩, tw2087, (List.mem_append_left _ (List.mem_of_getElem? (i := 138) (by decide +kernel)))⟩
theorem y_X12_readsText : yV "BrigadePagersModel" yX12_readsText (.code yX12_readsText cX12_readsText 2 none) 0 := ⟨tw1792, tw13, ⟨by decide +kernel, by decide +kernel, by decide +kernel⟩, tw1791, (List.mem_append_left _ (List.mem_of_getElem? (i := 94) (by decide +kernel)))⟩
theorem y_X12_restedAt : yV "BrigadePagersModel" yX12_restedAt (.code yX12_restedAt cX12_restedAt 3 (some .int)) 1 := ⟨tw1963, tw13, ⟨by decide +kernel, by decide +kernel, by decide +kernel⟩, tw1961, tw1962⟩
theorem y_X12_restore : yV "BrigadePagersModel" yX12_restore (.code yX12_restore cX12_restore 3 none) 1 := ⟨tw2264, tw13, ⟨by decide +kernel, by decide +kernel, by decide +kernel⟩, tw2262, tw2263⟩
theorem y_X12_returnsAt : yV "BrigadePagersModel" yX12_returnsAt (.code yX12_returnsAt cX12_returnsAt 2 (some .int)) 1 := ⟨tw2167, tw13, ⟨by decide +kernel, by decide +kernel, by decide +kernel⟩, tw2165, tw2166⟩
theorem y_X12_rotation : yV "BrigadePagersModel" yX12_rotation (.code yX12_rotation cX12_rotation 3 (some .int)) 2 := ⟨tw2031, tw13, ⟨by decide +kernel, by decide +kernel, by decide +kernel⟩, tw2029, tw2030⟩
theorem y_X12_save : yV "BrigadePagersModel" yX12_save (.code yX12_save cX12_save 3 none) 1 := ⟨tw2260, tw13, ⟨by decide +kernel, by decide +kernel, by decide +kernel⟩, tw2258, tw2259⟩
theorem y_X12_says : yV "BrigadePagersModel" yX12_says (.code yX12_says cX12_says 5 (some .boolean)) 1 := ⟨tw1801, tw13, ⟨by decide +kernel, by decide +kernel, by decide +kernel⟩, tw1800, (List.mem_append_left _ (List.mem_of_getElem? (i := 96) (by decide +kernel)))⟩
theorem y_X12_semicolon : yV "BrigadePagersModel" yX12_semicolon (.code yX12_semicolon cX12_semicolon 1 none) 0 := ⟨tw1831, tw13, ⟨by decide +kernel, by decide +kernel, by decide +kernel⟩, tw1830, (List.mem_append_left _ (List.mem_of_getElem? (i := 102) (by decide +kernel)))⟩
theorem y_X12_sends : yV "BrigadePagersModel" yX12_sends (.code yX12_sends cX12_sends 5 (some .int)) 2 := ⟨tw2223, tw13, ⟨by decide +kernel, by decide +kernel, by decide +kernel⟩, tw2222, (List.mem_append_left _ (List.mem_of_getElem? (i := 153) (by decide +kernel)))⟩
theorem y_X12_setService : yV "BrigadePagersModel" yX12_setService (.code yX12_setService cX12_setService 5 (some .int)) 2 := ⟨tw2247, tw13, ⟨by decide +kernel, by decide +kernel, by decide +kernel⟩, tw2245, tw2246⟩
theorem y_X12_setTrust : yV "BrigadePagersModel" yX12_setTrust (.code yX12_setTrust cX12_setTrust 5 (some .int)) 3 := ⟨tw2251, tw13, ⟨by decide +kernel, by decide +kernel, by decide +kernel⟩, tw2249, tw2250⟩
theorem y_X12_sign : yV "BrigadePagersModel" yX12_sign (.code yX12_sign cX12_sign 2 none) 1 := ⟨tw1835, tw13, ⟨by decide +kernel, by decide +kernel, by decide +kernel⟩, tw1834, (List.mem_append_left _ (List.mem_of_getElem? (i := 103) (by decide +kernel)))⟩
theorem y_X12_skillOf : yS yX12_skillOf (.code yX12_skillOf cX12_skillOf 2 (some .int)) 1 := ⟨tw1863, tw13, ⟨by decide +kernel, by decide +kernel, by decide +kernel⟩, tw1862⟩
theorem y_X12_steps : yV "BrigadePagersModel" yX12_steps (.code yX12_steps cX12_steps 9 (some .int)) 2 := ⟨tw2060, tw13, ⟨by decide +kernel, by decide +kernel, by decide +kernel⟩, tw2058, tw2059⟩
theorem y_X12_swapPlaces : yV "BrigadePagersModel" yX12_swapPlaces (.code yX12_swapPlaces cX12_swapPlaces 8 (some .int)) 3 := ⟨tw2239, tw13, ⟨by decide +kernel, by decide +kernel, by decide +kernel⟩, tw2237, tw2238⟩
theorem y_X12_takes : yV "BrigadePagersModel" yX12_takes (.code yX12_takes cX12_takes 2 none) 0 := ⟨tw1959, tw13, ⟨by decide +kernel, by decide +kernel, by decide +kernel⟩, tw1958, (List.mem_append_left _ (List.mem_of_getElem? (i := 121) (by decide +kernel)))⟩
theorem y_X12_takesText : yV "BrigadePagersModel" yX12_takesText (.code yX12_takesText cX12_takesText 3 none) 0 := ⟨tw1550, tw13, ⟨by decide +kernel, by decide +kernel, by decide +kernel⟩, tw1549, (List.mem_append_left _ (List.mem_of_getElem? (i := 92) (by decide +kernel)))⟩
theorem y_X12_takesWord : yV "BrigadePagersModel" yX12_takesWord (.code yX12_takesWord cX12_takesWord 4 (some .long)) 0 := ⟨tw1805, tw13, ⟨by decide +kernel, by decide +kernel, by decide +kernel⟩, tw1804, (List.mem_append_left _ (List.mem_of_getElem? (i := 97) (by decide +kernel)))⟩
theorem y_X12_thrown : yV "BrigadePagersModel" yX12_thrown (.code yX12_thrown cX12_thrown 1 (some .int)) 0 := ⟨tw1769, tw13, ⟨by decide +kernel, by decide +kernel, by decide +kernel⟩, tw1767, tw1768⟩
theorem y_X12_time : yV "BrigadePagersModel" yX12_time (.code yX12_time cX12_time 1 (some .int)) 0 := ⟨tw1914, tw13, ⟨by decide +kernel, by decide +kernel, by decide +kernel⟩, tw1912, tw1913⟩
theorem y_X12_totalCost : yV "BrigadePagersModel" yX12_totalCost (.code yX12_totalCost cX12_totalCost 3 (some .int)) 0 := ⟨tw2211, tw13, ⟨by decide +kernel, by decide +kernel, by decide +kernel⟩, tw2209, tw2210⟩
theorem y_X12_truncate : yV "BrigadePagersModel" yX12_truncate (.code yX12_truncate cX12_truncate 2 (some .int)) 1 := ⟨tw1781, tw13, ⟨by decide +kernel, by decide +kernel, by decide +kernel⟩, tw1779, tw1780⟩
theorem y_X12_trust : yV "BrigadePagersModel" yX12_trust (.code yX12_trust cX12_trust 3 none) 0 := ⟨tw1872, tw13, ⟨by decide +kernel, by decide +kernel, by decide +kernel⟩, tw1871, (List.mem_append_left _ (List.mem_of_getElem? (i := 110) (by decide +kernel)))⟩
theorem y_X12_trustPath : yV "BrigadePagersModel" yX12_trustPath (.code yX12_trustPath cX12_trustPath 9 (some .int)) 2 := ⟨tw1991, tw13, ⟨by decide +kernel, by decide +kernel, by decide +kernel⟩, tw1989, tw1990⟩
theorem y_X12_trust_ : yV "BrigadePagersModel" yX12_trust_ (.code yX12_trust_ cX12_trust_ 3 (some .int)) 2 := ⟨tw1983, tw13, ⟨by decide +kernel, by decide +kernel, by decide +kernel⟩, tw1981, tw1982⟩
theorem y_X12_turnAt : yV "BrigadePagersModel" yX12_turnAt (.code yX12_turnAt cX12_turnAt 3 (some .int)) 2 := ⟨tw2015, tw13, ⟨by decide +kernel, by decide +kernel, by decide +kernel⟩, tw2014, (List.mem_append_left _ (List.mem_of_getElem? (i := 129) (by decide +kernel)))⟩
theorem y_X12_undo : yV "BrigadePagersModel" yX12_undo (.code yX12_undo cX12_undo 2 (some .int)) 0 := ⟨tw2256, tw13, ⟨by decide +kernel, by decide +kernel, by decide +kernel⟩, tw2254, tw2255⟩
theorem y_X12_whyAbsent : yV "BrigadePagersModel" yX12_whyAbsent (.code yX12_whyAbsent cX12_whyAbsent 3 (some .int)) 2 := ⟨tw2068, tw13, ⟨by decide +kernel, by decide +kernel, by decide +kernel⟩, tw2066, tw2067⟩
theorem y_X12_whyNotHandOn : yV "BrigadePagersModel" yX12_whyNotHandOn (.code yX12_whyNotHandOn cX12_whyNotHandOn 4 (some .int)) 3 := ⟨tw2048, tw13, ⟨by decide +kernel, by decide +kernel, by decide +kernel⟩, tw2046, tw2047⟩
theorem y_X12_whyStays : yV "BrigadePagersModel" yX12_whyStays (.code yX12_whyStays cX12_whyStays 3 (some .int)) 2 := ⟨tw2080, tw13, ⟨by decide +kernel, by decide +kernel, by decide +kernel⟩, tw2078, tw2079⟩
theorem y_X12_wouldAnswer : yV "BrigadePagersModel" yX12_wouldAnswer (.code yX12_wouldAnswer cX12_wouldAnswer 2 (some .boolean)) 1 := ⟨tw2135, tw13, ⟨by decide +kernel, by decide +kernel, by decide +kernel⟩, tw2133, tw2134⟩
theorem y_X1_addPost : yV "BrigadePagers$Engine" yX1_addPost (.code yX1_addPost cX1_addPost 3 none) 1 := ⟨tw821, tw7, ⟨by decide +kernel, by decide +kernel, by decide +kernel⟩, tw820, (List.mem_append_left _ (List.mem_of_getElem? (i := 26) (by decide +kernel)))⟩
theorem y_X1_init : yI yX1_init (.code yX1_init cX1_init 1 none) 0 := ⟨tw166, tw7, ⟨by decide +kernel, by decide +kernel, by decide +kernel⟩, tw165, rfl⟩
theorem y_X2_clear : yV "BrigadePagers$History" yX2_clear (.code yX2_clear cX2_clear 2 none) 0 := ⟨tw860, tw12, ⟨by decide +kernel, by decide +kernel, by decide +kernel⟩, tw859, (List.mem_append_left _ (List.mem_of_getElem? (i := 30) (by decide +kernel)))⟩
theorem y_X2_forgetOldest : yV "BrigadePagers$History" yX2_forgetOldest (.code yX2_forgetOldest cX2_forgetOldest 3 none) 0 := ⟨tw1419, tw12, ⟨by decide +kernel, by decide +kernel, by decide +kernel⟩, tw1418, (List.mem_append_left _ (List.mem_of_getElem? (i := 82) (by decide +kernel)))⟩
theorem y_X2_init : yI yX2_init (.code yX2_init cX2_init 3 none) 1 := ⟨tw464, tw12, ⟨by decide +kernel, by decide +kernel, by decide +kernel⟩, tw463, rfl⟩
theorem y_X2_keep : yV "BrigadePagers$History" yX2_keep (.code yX2_keep cX2_keep 2 none) 1 := ⟨tw1415, tw12, ⟨by decide +kernel, by decide +kernel, by decide +kernel⟩, tw1414, (List.mem_append_left _ (List.mem_of_getElem? (i := 81) (by decide +kernel)))⟩
theorem y_X2_takeBack : yV "BrigadePagers$History" yX2_takeBack (.code yX2_takeBack cX2_takeBack 2 none) 1 := ⟨tw1520, tw12, ⟨by decide +kernel, by decide +kernel, by decide +kernel⟩, tw1519, (List.mem_append_left _ (List.mem_of_getElem? (i := 90) (by decide +kernel)))⟩
theorem y_X3_init : yI yX3_init (.code yX3_init cX3_init 1 none) 0 := ⟨tw195, tw8, ⟨by decide +kernel, by decide +kernel, by decide +kernel⟩, tw194, rfl⟩
theorem y_X4_absenceOfHolder : yV "BrigadePagers$Muster" yX4_absenceOfHolder (.code yX4_absenceOfHolder cX4_absenceOfHolder 3 (some .int)) 2 := ⟨tw1238, tw11, ⟨by decide +kernel, by decide +kernel, by decide +kernel⟩, tw1237, (List.mem_append_left _ (List.mem_of_getElem? (i := 61) (by decide +kernel)))⟩
theorem y_X4_alert : yV "BrigadePagers$Muster" yX4_alert (.code yX4_alert cX4_alert 4 none) 1 := ⟨tw1231, tw11, ⟨by decide +kernel, by decide +kernel, by decide +kernel⟩, tw1230, (List.mem_append_left _ (List.mem_of_getElem? (i := 60) (by decide +kernel)))⟩
theorem y_X4_carryOut : yV "BrigadePagers$Muster" yX4_carryOut (.code yX4_carryOut cX4_carryOut 6 (some .int)) 1 := ⟨tw1424, tw11, ⟨by decide +kernel, by decide +kernel, by decide +kernel⟩, tw1423, (List.mem_append_left _ (List.mem_of_getElem? (i := 83) (by decide +kernel)))⟩
theorem y_X4_couldLeaveTogether : yV "BrigadePagers$Muster" yX4_couldLeaveTogether (.code yX4_couldLeaveTogether cX4_couldLeaveTogether 6 (some .boolean)) 2 := ⟨tw1343, tw11, ⟨by decide +kernel, by decide +kernel, by decide +kernel⟩, tw1342, (List.mem_append_left _ (List.mem_of_getElem? (i := 72) (by decide +kernel)))⟩
theorem y_X4_earliestDeparture : yV "BrigadePagers$Muster" yX4_earliestDeparture (.code yX4_earliestDeparture cX4_earliestDeparture 5 (some .int)) 1 := ⟨tw1260, tw11, ⟨by decide +kernel, by decide +kernel, by decide +kernel⟩, tw1259, (List.mem_append_left _ (List.mem_of_getElem? (i := 64) (by decide +kernel)))⟩
theorem y_X4_firstCrew : yV "BrigadePagers$Muster" yX4_firstCrew (.code yX4_firstCrew cX4_firstCrew 7 (some .int)) 2 := ⟨tw1268, tw11, ⟨by decide +kernel, by decide +kernel, by decide +kernel⟩, tw1267, (List.mem_append_left _ (List.mem_of_getElem? (i := 66) (by decide +kernel)))⟩
theorem y_X4_foresee : yV "BrigadePagers$Muster" yX4_foresee (.code yX4_foresee cX4_foresee 5 (some .boolean)) 2 := ⟨tw1227, tw11, ⟨by decide +kernel, by decide +kernel, by decide +kernel⟩, tw1226, (List.mem_append_left _ (List.mem_of_getElem? (i := 59) (by decide +kernel)))⟩
theorem y_X4_freeWithin : yV "BrigadePagers$Muster" yX4_freeWithin (.code yX4_freeWithin cX4_freeWithin 4 (some .int)) 1 := ⟨tw1264, tw11, ⟨by decide +kernel, by decide +kernel, by decide +kernel⟩, tw1263, (List.mem_append_left _ (List.mem_of_getElem? (i := 65) (by decide +kernel)))⟩
theorem y_X4_init : yI yX4_init (.code yX4_init cX4_init 2 none) 1 := ⟨tw419, tw11, ⟨by decide +kernel, by decide +kernel, by decide +kernel⟩, tw418, rfl⟩
theorem y_X4_lookAtEngine : yV "BrigadePagers$Muster" yX4_lookAtEngine (.code yX4_lookAtEngine cX4_lookAtEngine 4 none) 2 := ⟨tw1244, tw11, ⟨by decide +kernel, by decide +kernel, by decide +kernel⟩, tw1243, (List.mem_append_left _ (List.mem_of_getElem? (i := 62) (by decide +kernel)))⟩
theorem y_X4_loseTrust : yV "BrigadePagers$Muster" yX4_loseTrust (.code yX4_loseTrust cX4_loseTrust 6 none) 1 := ⟨tw1428, tw11, ⟨by decide +kernel, by decide +kernel, by decide +kernel⟩, tw1427, (List.mem_append_left _ (List.mem_of_getElem? (i := 84) (by decide +kernel)))⟩
theorem y_X4_lowestFor : yV "BrigadePagers$Muster" yX4_lowestFor (.code yX4_lowestFor cX4_lowestFor 5 (some .int)) 2 := ⟨tw1313, tw11, ⟨by decide +kernel, by decide +kernel, by decide +kernel⟩, tw1312, (List.mem_append_left _ (List.mem_of_getElem? (i := 70) (by decide +kernel)))⟩
theorem y_X4_mostTogether : yV "BrigadePagers$Muster" yX4_mostTogether (.code yX4_mostTogether cX4_mostTogether 4 (some .int)) 1 := ⟨tw1338, tw11, ⟨by decide +kernel, by decide +kernel, by decide +kernel⟩, tw1337, (List.mem_append_left _ (List.mem_of_getElem? (i := 71) (by decide +kernel)))⟩
theorem y_X4_personAt : yV "BrigadePagers$Muster" yX4_personAt (.code yX4_personAt cX4_personAt 9 (some .int)) 3 := ⟨tw1304, tw11, ⟨by decide +kernel, by decide +kernel, by decide +kernel⟩, tw1303, (List.mem_append_left _ (List.mem_of_getElem? (i := 69) (by decide +kernel)))⟩
theorem y_X4_sendEngine : yV "BrigadePagers$Muster" yX4_sendEngine (.code yX4_sendEngine cX4_sendEngine 8 (some .int)) 2 := ⟨tw1438, tw11, ⟨by decide +kernel, by decide +kernel, by decide +kernel⟩, tw1437, (List.mem_append_left _ (List.mem_of_getElem? (i := 86) (by decide +kernel)))⟩
theorem y_X5_covers : yV "BrigadePagers$Night" yX5_covers (.code yX5_covers cX5_covers 3 (some .boolean)) 1 := ⟨tw986, tw4, ⟨by decide +kernel, by decide +kernel, by decide +kernel⟩, tw985, (List.mem_append_left _ (List.mem_of_getElem? (i := 40) (by decide +kernel)))⟩
theorem y_X5_init : yI yX5_init (.code yX5_init cX5_init 1 none) 0 := ⟨tw90, tw4, ⟨by decide +kernel, by decide +kernel, by decide +kernel⟩, tw89, rfl⟩
theorem y_X5_minutesBefore : yV "BrigadePagers$Night" yX5_minutesBefore (.code yX5_minutesBefore cX5_minutesBefore 5 (some .int)) 1 := ⟨tw915, tw4, ⟨by decide +kernel, by decide +kernel, by decide +kernel⟩, tw914, (List.mem_append_left _ (List.mem_of_getElem? (i := 33) (by decide +kernel)))⟩
theorem y_X5_minutesIn : yV "BrigadePagers$Night" yX5_minutesIn (.code yX5_minutesIn cX5_minutesIn 3 (some .int)) 2 := ⟨tw911, tw4, ⟨by decide +kernel, by decide +kernel, by decide +kernel⟩, tw910, (List.mem_append_left _ (List.mem_of_getElem? (i := 32) (by decide +kernel)))⟩
theorem y_X5_set : yV "BrigadePagers$Night" yX5_set (.code yX5_set cX5_set 5 none) 4 := ⟨tw489, tw4, ⟨by decide +kernel, by decide +kernel, by decide +kernel⟩, tw488, (List.mem_append_left _ (List.mem_of_getElem? (i := 0) (by decide +kernel)))⟩
theorem y_X6_init : yI yX6_init (.code yX6_init cX6_init 1 none) 0 := ⟨tw138, tw6, ⟨by decide +kernel, by decide +kernel, by decide +kernel⟩, tw137, rfl⟩
theorem y_X7_init : yI yX7_init (.code yX7_init cX7_init 1 none) 0 := ⟨tw118, tw5, ⟨by decide +kernel, by decide +kernel, by decide +kernel⟩, tw117, rfl⟩
theorem y_X8_addPerson : yV "BrigadePagers$Plan" yX8_addPerson (.code yX8_addPerson cX8_addPerson 2 none) 0 := ⟨tw796, tw3, ⟨by decide +kernel, by decide +kernel, by decide +kernel⟩, tw795, (List.mem_append_left _ (List.mem_of_getElem? (i := 21) (by decide +kernel)))⟩
theorem y_X8_clear : yV "BrigadePagers$Plan" yX8_clear (.code yX8_clear cX8_clear 1 none) 0 := ⟨tw656, tw3, ⟨by decide +kernel, by decide +kernel, by decide +kernel⟩, tw655, (List.mem_append_left _ (List.mem_of_getElem? (i := 4) (by decide +kernel)))⟩
theorem y_X8_init : yI yX8_init (.code yX8_init cX8_init 2 none) 0 := ⟨tw84, tw3, ⟨by decide +kernel, by decide +kernel, by decide +kernel⟩, tw83, rfl⟩
theorem y_X8_mostManned : yV "BrigadePagers$Plan" yX8_mostManned (.code yX8_mostManned cX8_mostManned 6 (some .int)) 2 := ⟨tw1248, tw3, ⟨by decide +kernel, by decide +kernel, by decide +kernel⟩, tw1247, (List.mem_append_left _ (List.mem_of_getElem? (i := 63) (by decide +kernel)))⟩
theorem y_X8_nameOf : yV "BrigadePagers$Plan" yX8_nameOf (.code yX8_nameOf cX8_nameOf 3 (some .long)) 2 := ⟨tw784, tw3, ⟨by decide +kernel, by decide +kernel, by decide +kernel⟩, tw783, (List.mem_append_left _ (List.mem_of_getElem? (i := 19) (by decide +kernel)))⟩
theorem y_X8_numberOf : yV "BrigadePagers$Plan" yX8_numberOf (.code yX8_numberOf cX8_numberOf 5 (some .int)) 2 := ⟨tw776, tw3, ⟨by decide +kernel, by decide +kernel, by decide +kernel⟩, tw775, (List.mem_append_left _ (List.mem_of_getElem? (i := 17) (by decide +kernel)))⟩
theorem y_X8_sizeOf : yV "BrigadePagers$Plan" yX8_sizeOf (.code yX8_sizeOf cX8_sizeOf 2 (some .int)) 1 := ⟨tw780, tw3, ⟨by decide +kernel, by decide +kernel, by decide +kernel⟩, tw779, (List.mem_append_left _ (List.mem_of_getElem? (i := 18) (by decide +kernel)))⟩
theorem y_X9_fails : yV "BrigadePagers$Reader" yX9_fails (.code yX9_fails cX9_fails 2 (some .boolean)) 1 := ⟨tw730, tw2, ⟨by decide +kernel, by decide +kernel, by decide +kernel⟩, tw729, (List.mem_append_left _ (List.mem_of_getElem? (i := 8) (by decide +kernel)))⟩
theorem y_X9_failsAt : yV "BrigadePagers$Reader" yX9_failsAt (.code yX9_failsAt cX9_failsAt 3 (some .boolean)) 2 := ⟨tw734, tw2, ⟨by decide +kernel, by decide +kernel, by decide +kernel⟩, tw733, (List.mem_append_left _ (List.mem_of_getElem? (i := 9) (by decide +kernel)))⟩
theorem y_X9_init : yI yX9_init (.code yX9_init cX9_init 2 none) 1 := ⟨tw41, tw2, ⟨by decide +kernel, by decide +kernel, by decide +kernel⟩, tw40, rfl⟩
theorem y_X9_isDigit : yS yX9_isDigit (.code yX9_isDigit cX9_isDigit 1 (some .boolean)) 1 := ⟨tw669, tw2, ⟨by decide +kernel, by decide +kernel, by decide +kernel⟩, tw668⟩
theorem y_X9_isLetter : yS yX9_isLetter (.code yX9_isLetter cX9_isLetter 1 (some .boolean)) 1 := ⟨tw666, tw2, ⟨by decide +kernel, by decide +kernel, by decide +kernel⟩, tw665⟩
theorem y_X9_isWord : yV "BrigadePagers$Reader" yX9_isWord (.code yX9_isWord cX9_isWord 3 (some .boolean)) 1 := ⟨tw678, tw2, ⟨by decide +kernel, by decide +kernel, by decide +kernel⟩, tw677, (List.mem_append_left _ (List.mem_of_getElem? (i := 7) (by decide +kernel)))⟩
theorem y_X9_nameIn : yV "BrigadePagers$Reader" yX9_nameIn (.code yX9_nameIn cX9_nameIn 6 (some .long)) 2 := ⟨tw771, tw2, ⟨by decide +kernel, by decide +kernel, by decide +kernel⟩, tw770, (List.mem_append_left _ (List.mem_of_getElem? (i := 16) (by decide +kernel)))⟩
theorem y_X9_readDifferent : yV "BrigadePagers$Reader" yX9_readDifferent (.code yX9_readDifferent cX9_readDifferent 6 (some .int)) 2 := ⟨tw829, tw2, ⟨by decide +kernel, by decide +kernel, by decide +kernel⟩, tw828, (List.mem_append_left _ (List.mem_of_getElem? (i := 28) (by decide +kernel)))⟩
theorem y_X9_reads : yV "BrigadePagers$Reader" yX9_reads (.code yX9_reads cX9_reads 7 (some .boolean)) 2 := ⟨tw649, tw2, ⟨by decide +kernel, by decide +kernel, by decide +kernel⟩, tw648, (List.mem_append_left _ (List.mem_of_getElem? (i := 3) (by decide +kernel)))⟩
theorem y_X9_readsEngine : yV "BrigadePagers$Reader" yX9_readsEngine (.code yX9_readsEngine cX9_readsEngine 4 (some .boolean)) 0 := ⟨tw815, tw2, ⟨by decide +kernel, by decide +kernel, by decide +kernel⟩, tw814, (List.mem_append_left _ (List.mem_of_getElem? (i := 25) (by decide +kernel)))⟩
theorem y_X9_readsKind : yV "BrigadePagers$Reader" yX9_readsKind (.code yX9_readsKind cX9_readsKind 2 (some .boolean)) 0 := ⟨tw825, tw2, ⟨by decide +kernel, by decide +kernel, by decide +kernel⟩, tw824, (List.mem_append_left _ (List.mem_of_getElem? (i := 27) (by decide +kernel)))⟩
theorem y_X9_readsNight : yV "BrigadePagers$Reader" yX9_readsNight (.code yX9_readsNight cX9_readsNight 4 (some .boolean)) 0 := ⟨tw673, tw2, ⟨by decide +kernel, by decide +kernel, by decide +kernel⟩, tw672, (List.mem_append_left _ (List.mem_of_getElem? (i := 6) (by decide +kernel)))⟩
theorem y_X9_readsPager : yV "BrigadePagers$Reader" yX9_readsPager (.code yX9_readsPager cX9_readsPager 3 (some .boolean)) 0 := ⟨tw811, tw2, ⟨by decide +kernel, by decide +kernel, by decide +kernel⟩, tw810, (List.mem_append_left _ (List.mem_of_getElem? (i := 24) (by decide +kernel)))⟩
theorem y_X9_readsPerson : yV "BrigadePagers$Reader" yX9_readsPerson (.code yX9_readsPerson cX9_readsPerson 4 (some .boolean)) 0 := ⟨tw759, tw2, ⟨by decide +kernel, by decide +kernel, by decide +kernel⟩, tw758, (List.mem_append_left _ (List.mem_of_getElem? (i := 13) (by decide +kernel)))⟩
theorem y_X9_readsTrust : yV "BrigadePagers$Reader" yX9_readsTrust (.code yX9_readsTrust cX9_readsTrust 3 (some .boolean)) 0 := ⟨tw800, tw2, ⟨by decide +kernel, by decide +kernel, by decide +kernel⟩, tw799, (List.mem_append_left _ (List.mem_of_getElem? (i := 22) (by decide +kernel)))⟩
theorem y_X9_sectionOfWord : yV "BrigadePagers$Reader" yX9_sectionOfWord (.code yX9_sectionOfWord cX9_sectionOfWord 2 (some .int)) 0 := ⟨tw747, tw2, ⟨by decide +kernel, by decide +kernel, by decide +kernel⟩, tw746, (List.mem_append_left _ (List.mem_of_getElem? (i := 12) (by decide +kernel)))⟩
theorem y_X9_sectionWord : yS yX9_sectionWord (.code yX9_sectionWord cX9_sectionWord 1 (some (.object "java/lang/String"))) 1 := ⟨tw750, tw2, ⟨by decide +kernel, by decide +kernel, by decide +kernel⟩, tw749⟩
theorem y_X9_skillOfWord : yV "BrigadePagers$Reader" yX9_skillOfWord (.code yX9_skillOfWord cX9_skillOfWord 1 (some .int)) 0 := ⟨tw788, tw2, ⟨by decide +kernel, by decide +kernel, by decide +kernel⟩, tw787, (List.mem_append_left _ (List.mem_of_getElem? (i := 20) (by decide +kernel)))⟩
theorem y_X9_take : yV "BrigadePagers$Reader" yX9_take (.code yX9_take cX9_take 1 none) 0 := ⟨tw663, tw2, ⟨by decide +kernel, by decide +kernel, by decide +kernel⟩, tw662, (List.mem_append_left _ (List.mem_of_getElem? (i := 5) (by decide +kernel)))⟩
theorem y_X9_takesName : yV "BrigadePagers$Reader" yX9_takesName (.code yX9_takesName cX9_takesName 3 (some .boolean)) 0 := ⟨tw767, tw2, ⟨by decide +kernel, by decide +kernel, by decide +kernel⟩, tw766, (List.mem_append_left _ (List.mem_of_getElem? (i := 15) (by decide +kernel)))⟩
theorem y_X9_takesNameOf : yV "BrigadePagers$Reader" yX9_takesNameOf (.code yX9_takesNameOf cX9_takesNameOf 2 (some .boolean)) 1 := ⟨tw804, tw2, ⟨by decide +kernel, by decide +kernel, by decide +kernel⟩, tw803, (List.mem_append_left _ (List.mem_of_getElem? (i := 23) (by decide +kernel)))⟩
theorem y_X9_takesNewName : yV "BrigadePagers$Reader" yX9_takesNewName (.code yX9_takesNewName cX9_takesNewName 2 (some .boolean)) 1 := ⟨tw763, tw2, ⟨by decide +kernel, by decide +kernel, by decide +kernel⟩, tw762, (List.mem_append_left _ (List.mem_of_getElem? (i := 14) (by decide +kernel)))⟩
theorem y_X9_takesNumber : yV "BrigadePagers$Reader" yX9_takesNumber (.code yX9_takesNumber cX9_takesNumber 5 (some .boolean)) 2 := ⟨tw738, tw2, ⟨by decide +kernel, by decide +kernel, by decide +kernel⟩, tw737, (List.mem_append_left _ (List.mem_of_getElem? (i := 10) (by decide +kernel)))⟩
theorem y_X9_takesSymbol : yV "BrigadePagers$Reader" yX9_takesSymbol (.code yX9_takesSymbol cX9_takesSymbol 2 (some .boolean)) 1 := ⟨tw743, tw2, ⟨by decide +kernel, by decide +kernel, by decide +kernel⟩, tw742, (List.mem_append_left _ (List.mem_of_getElem? (i := 11) (by decide +kernel)))⟩
theorem y_X9_wholeAsName : yV "BrigadePagers$Reader" yX9_wholeAsName (.code yX9_wholeAsName cX9_wholeAsName 3 (some .long)) 1 := ⟨tw872, tw2, ⟨by decide +kernel, by decide +kernel, by decide +kernel⟩, tw871, (List.mem_append_left _ (List.mem_of_getElem? (i := 31) (by decide +kernel)))⟩

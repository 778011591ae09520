theorem kw_0 : (Jvm.Cond.initialized "BorderDeskLaw") ∈ kw_T := kw_p1 0 rfl rfl
theorem kw_1 : (Jvm.Cond.initialized "BorderDesk") ∈ kw_T := kw_p1 1 rfl rfl
theorem kw_2 : (Jvm.Cond.initialized "BorderDesk$Tariff") ∈ kw_T := kw_p1 2 rfl rfl
theorem kw_3 : (Jvm.Cond.initialized "BorderDesk$Rates") ∈ kw_T := kw_p1 3 rfl rfl
theorem kw_4 : (Jvm.Cond.initialized "BorderDesk$Quotas") ∈ kw_T := kw_p1 4 rfl rfl
theorem kw_5 : (Jvm.Cond.initialized "BorderDesk$Origins") ∈ kw_T := kw_p1 5 rfl rfl
theorem kw_6 : (Jvm.Cond.initialized "BorderDesk$Declarations") ∈ kw_T := kw_p1 6 rfl rfl
theorem kw_7 : (Jvm.Cond.initialized "BorderDesk$Assessor") ∈ kw_T := kw_p1 7 rfl rfl
theorem kw_8 : (Jvm.Cond.initialized "BorderDesk$Lots") ∈ kw_T := kw_p1 8 rfl rfl
theorem kw_9 : (Jvm.Cond.initialized "BorderDesk$Ledger") ∈ kw_T := kw_p1 9 rfl rfl
theorem kw_10 : (Jvm.Cond.initialized "BorderDeskModel") ∈ kw_T := kw_p1 10 rfl rfl
theorem kw_14 : (Jvm.Cond.initialized "java/lang/IllegalArgumentException") ∈ kw_T := kw_p1 14 rfl rfl
theorem kw_15 : (Jvm.Cond.initialized "java/lang/IllegalStateException") ∈ kw_T := kw_p1 15 rfl rfl
theorem kw_16 : (Jvm.Cond.initialized "java/lang/Math") ∈ kw_T := kw_p1 16 rfl rfl
theorem kw_17 : (Jvm.Cond.initialized "java/lang/Integer") ∈ kw_T := kw_p1 17 rfl rfl
theorem kw_18 : (Jvm.Cond.initialized "java/util/NoSuchElementException") ∈ kw_T := kw_p1 18 rfl rfl
theorem kw_19 : (Jvm.Cond.initialized "java/lang/System") ∈ kw_T := kw_p1 19 rfl rfl
theorem kw_20 : (Jvm.Cond.initialized "java/lang/UnsupportedOperationException") ∈ kw_T := kw_p1 20 rfl rfl
theorem kw_21 : (Jvm.Cond.classLink "BorderDeskLaw" (8 : Nat) "BorderDesk") ∈ kw_T := kw_p1 21 rfl rfl
theorem kw_22 : (Jvm.Cond.instantiable "BorderDesk" (8 : Nat)) ∈ kw_T := kw_p1 22 rfl rfl
theorem kw_23 : (Jvm.Cond.methodLink "BorderDeskLaw" (103 : Nat) ({ cls := "BorderDesk", name := "<init>", desc := "()V" } : Jvm.MethodName)) ∈ kw_T := kw_p1 23 rfl rfl
theorem kw_24 : (Jvm.Cond.instanceMethod ({ cls := "BorderDesk", name := "<init>", desc := "()V" } : Jvm.MethodName)) ∈ kw_T := kw_p1 24 rfl rfl
theorem kw_25 : (Jvm.Cond.code ({ cls := "BorderDesk", name := "<init>", desc := "()V" } : Jvm.MethodName) prog_1_method_1_code (1 : Nat) (Option.none : Option Jvm.ClassFile.FieldType)) ∈ kw_T := kw_p1 25 rfl rfl
theorem kw_26 : (Jvm.Cond.methodLink "BorderDesk" (1 : Nat) ({ cls := "java/lang/Object", name := "<init>", desc := "()V" } : Jvm.MethodName)) ∈ kw_T := kw_p1 26 rfl rfl
theorem kw_27 : (Jvm.Cond.instanceMethod ({ cls := "java/lang/Object", name := "<init>", desc := "()V" } : Jvm.MethodName)) ∈ kw_T := kw_p1 27 rfl rfl
theorem kw_28 : (Jvm.Cond.code ({ cls := "java/lang/Object", name := "<init>", desc := "()V" } : Jvm.MethodName) object_method_1_code (1 : Nat) (Option.none : Option Jvm.ClassFile.FieldType)) ∈ kw_T := kw_p1 28 rfl rfl
theorem kw_29 : (Jvm.Cond.classLink "BorderDesk" (7 : Nat) "BorderDesk$Tariff") ∈ kw_T := kw_p1 29 rfl rfl
theorem kw_30 : (Jvm.Cond.instantiable "BorderDesk$Tariff" (13 : Nat)) ∈ kw_T := kw_p1 30 rfl rfl
theorem kw_32 : (Jvm.Cond.instanceMethod ({ cls := "BorderDesk$Tariff", name := "<init>", desc := "()V" } : Jvm.MethodName)) ∈ kw_T := kw_p1 32 rfl rfl
theorem kw_33 : (Jvm.Cond.code ({ cls := "BorderDesk$Tariff", name := "<init>", desc := "()V" } : Jvm.MethodName) prog_9_method_1_code (1 : Nat) (Option.none : Option Jvm.ClassFile.FieldType)) ∈ kw_T := kw_p1 33 rfl rfl
theorem kw_34 : (Jvm.Cond.methodLink "BorderDesk$Tariff" (3 : Nat) ({ cls := "java/lang/Object", name := "<init>", desc := "()V" } : Jvm.MethodName)) ∈ kw_T := kw_p1 34 rfl rfl
theorem kw_35 : (Jvm.Cond.classLink "BorderDesk$Tariff" (36 : Nat) "[[I") ∈ kw_T := kw_p1 35 rfl rfl
theorem kw_37 : (Jvm.Cond.fieldLink "BorderDesk" (77 : Nat) "BorderDesk$Tariff" "headings" "I") ∈ kw_T := kw_p1 37 rfl rfl
theorem kw_38 : (Jvm.Cond.fieldLink "BorderDesk$Tariff" (48 : Nat) "BorderDesk$Tariff" "headings" "I") ∈ kw_T := kw_p1 38 rfl rfl
theorem kw_39 : (Jvm.Cond.fieldLink "BorderDesk$Tariff" (11 : Nat) "BorderDesk$Tariff" "parent" "[I") ∈ kw_T := kw_p1 39 rfl rfl
theorem kw_40 : (Jvm.Cond.fieldLink "BorderDesk$Rates" (47 : Nat) "BorderDesk$Tariff" "parent" "[I") ∈ kw_T := kw_p1 40 rfl rfl
theorem kw_41 : (Jvm.Cond.fieldLink "BorderDesk$Tariff" (15 : Nat) "BorderDesk$Tariff" "depth" "[I") ∈ kw_T := kw_p1 41 rfl rfl
theorem kw_42 : (Jvm.Cond.fieldLink "BorderDesk$Tariff" (18 : Nat) "BorderDesk$Tariff" "ruleKind" "[I") ∈ kw_T := kw_p1 42 rfl rfl
theorem kw_43 : (Jvm.Cond.fieldLink "BorderDesk$Origins" (58 : Nat) "BorderDesk$Tariff" "ruleKind" "[I") ∈ kw_T := kw_p1 43 rfl rfl
theorem kw_44 : (Jvm.Cond.fieldLink "BorderDesk" (158 : Nat) "BorderDesk$Tariff" "ruleKind" "[I") ∈ kw_T := kw_p1 44 rfl rfl
theorem kw_45 : (Jvm.Cond.fieldLink "BorderDesk$Tariff" (21 : Nat) "BorderDesk$Tariff" "ruleLimit" "[I") ∈ kw_T := kw_p1 45 rfl rfl
theorem kw_46 : (Jvm.Cond.fieldLink "BorderDesk$Origins" (65 : Nat) "BorderDesk$Tariff" "ruleLimit" "[I") ∈ kw_T := kw_p1 46 rfl rfl
theorem kw_47 : (Jvm.Cond.fieldLink "BorderDesk" (161 : Nat) "BorderDesk$Tariff" "ruleLimit" "[I") ∈ kw_T := kw_p1 47 rfl rfl
theorem kw_48 : (Jvm.Cond.fieldLink "BorderDesk" (98 : Nat) "BorderDesk$Tariff" "notes" "I") ∈ kw_T := kw_p1 48 rfl rfl
theorem kw_49 : (Jvm.Cond.fieldLink "BorderDesk$Tariff" (56 : Nat) "BorderDesk$Tariff" "notes" "I") ∈ kw_T := kw_p1 49 rfl rfl
theorem kw_50 : (Jvm.Cond.fieldLink "BorderDesk$Tariff" (24 : Nat) "BorderDesk$Tariff" "noteHeading" "[I") ∈ kw_T := kw_p1 50 rfl rfl
theorem kw_51 : (Jvm.Cond.fieldLink "BorderDesk$Tariff" (27 : Nat) "BorderDesk$Tariff" "noteKind" "[I") ∈ kw_T := kw_p1 51 rfl rfl
theorem kw_52 : (Jvm.Cond.fieldLink "BorderDesk$Tariff" (30 : Nat) "BorderDesk$Tariff" "noteFact" "[I") ∈ kw_T := kw_p1 52 rfl rfl
theorem kw_53 : (Jvm.Cond.fieldLink "BorderDesk$Tariff" (33 : Nat) "BorderDesk$Tariff" "noteAmount" "[I") ∈ kw_T := kw_p1 53 rfl rfl
theorem kw_54 : (Jvm.Cond.fieldLink "BorderDesk$Tariff" (38 : Nat) "BorderDesk$Tariff" "amounts" "[[I") ∈ kw_T := kw_p1 54 rfl rfl
theorem kw_55 : (Jvm.Cond.fieldLink "BorderDesk" (108 : Nat) "BorderDesk$Tariff" "amounts" "[[I") ∈ kw_T := kw_p1 55 rfl rfl
theorem kw_56 : (Jvm.Cond.fieldLink "BorderDesk$Tariff" (41 : Nat) "BorderDesk$Tariff" "fits" "[Z") ∈ kw_T := kw_p1 56 rfl rfl
theorem kw_57 : (Jvm.Cond.fieldLink "BorderDesk$Tariff" (45 : Nat) "BorderDesk$Tariff" "share" "[I") ∈ kw_T := kw_p1 57 rfl rfl
theorem kw_85 : (Jvm.Cond.arrayClass Jvm.ClassFile.FieldType.int) ∈ kw_T := kw_p1 85 rfl rfl
theorem kw_86 : (Jvm.Cond.arrayClass Jvm.ClassFile.FieldType.boolean) ∈ kw_T := kw_p1 86 rfl rfl
theorem kw_87 : (Jvm.Cond.classLink "BorderDesk" (16 : Nat) "BorderDesk$Rates") ∈ kw_T := kw_p1 87 rfl rfl
theorem kw_88 : (Jvm.Cond.instantiable "BorderDesk$Rates" (9 : Nat)) ∈ kw_T := kw_p1 88 rfl rfl
theorem kw_89 : (Jvm.Cond.methodLink "BorderDesk" (18 : Nat) ({ cls := "BorderDesk$Rates", name := "<init>", desc := "(LBorderDesk$Tariff;)V" } : Jvm.MethodName)) ∈ kw_T := kw_p1 89 rfl rfl
theorem kw_90 : (Jvm.Cond.instanceMethod ({ cls := "BorderDesk$Rates", name := "<init>", desc := "(LBorderDesk$Tariff;)V" } : Jvm.MethodName)) ∈ kw_T := kw_p1 90 rfl rfl
theorem kw_91 : (Jvm.Cond.code ({ cls := "BorderDesk$Rates", name := "<init>", desc := "(LBorderDesk$Tariff;)V" } : Jvm.MethodName) prog_8_method_1_code (2 : Nat) (Option.none : Option Jvm.ClassFile.FieldType)) ∈ kw_T := kw_p1 91 rfl rfl
theorem kw_92 : (Jvm.Cond.methodLink "BorderDesk$Rates" (3 : Nat) ({ cls := "java/lang/Object", name := "<init>", desc := "()V" } : Jvm.MethodName)) ∈ kw_T := kw_p1 92 rfl rfl
theorem kw_93 : (Jvm.Cond.fieldLink "BorderDesk$Rates" (33 : Nat) "BorderDesk$Rates" "tariff" "LBorderDesk$Tariff;") ∈ kw_T := kw_p1 93 rfl rfl
theorem kw_94 : (Jvm.Cond.fieldLink "BorderDesk$Rates" (37 : Nat) "BorderDesk$Rates" "count" "I") ∈ kw_T := kw_p1 94 rfl rfl
theorem kw_95 : (Jvm.Cond.fieldLink "BorderDesk" (121 : Nat) "BorderDesk$Rates" "count" "I") ∈ kw_T := kw_p1 95 rfl rfl
theorem kw_96 : (Jvm.Cond.fieldLink "BorderDesk$Rates" (11 : Nat) "BorderDesk$Rates" "headingOf" "[I") ∈ kw_T := kw_p1 96 rfl rfl
theorem kw_97 : (Jvm.Cond.fieldLink "BorderDesk$Rates" (15 : Nat) "BorderDesk$Rates" "landOf" "[I") ∈ kw_T := kw_p1 97 rfl rfl
theorem kw_98 : (Jvm.Cond.fieldLink "BorderDesk$Rates" (18 : Nat) "BorderDesk$Rates" "kindOf" "[I") ∈ kw_T := kw_p1 98 rfl rfl
theorem kw_99 : (Jvm.Cond.fieldLink "BorderDesk$Rates" (21 : Nat) "BorderDesk$Rates" "partOfValue" "[I") ∈ kw_T := kw_p1 99 rfl rfl
theorem kw_100 : (Jvm.Cond.fieldLink "BorderDesk$Rates" (24 : Nat) "BorderDesk$Rates" "centsPerKilogram" "[I") ∈ kw_T := kw_p1 100 rfl rfl
theorem kw_101 : (Jvm.Cond.fieldLink "BorderDesk$Rates" (27 : Nat) "BorderDesk$Rates" "firstDay" "[I") ∈ kw_T := kw_p1 101 rfl rfl
theorem kw_102 : (Jvm.Cond.fieldLink "BorderDesk$Rates" (30 : Nat) "BorderDesk$Rates" "lastDay" "[I") ∈ kw_T := kw_p1 102 rfl rfl
theorem kw_122 : (Jvm.Cond.classLink "BorderDesk" (25 : Nat) "BorderDesk$Quotas") ∈ kw_T := kw_p1 122 rfl rfl
theorem kw_123 : (Jvm.Cond.instantiable "BorderDesk$Quotas" (8 : Nat)) ∈ kw_T := kw_p1 123 rfl rfl
theorem kw_124 : (Jvm.Cond.methodLink "BorderDesk" (27 : Nat) ({ cls := "BorderDesk$Quotas", name := "<init>", desc := "(LBorderDesk$Tariff;)V" } : Jvm.MethodName)) ∈ kw_T := kw_p1 124 rfl rfl
theorem kw_125 : (Jvm.Cond.instanceMethod ({ cls := "BorderDesk$Quotas", name := "<init>", desc := "(LBorderDesk$Tariff;)V" } : Jvm.MethodName)) ∈ kw_T := kw_p1 125 rfl rfl
theorem kw_126 : (Jvm.Cond.code ({ cls := "BorderDesk$Quotas", name := "<init>", desc := "(LBorderDesk$Tariff;)V" } : Jvm.MethodName) prog_7_method_1_code (2 : Nat) (Option.none : Option Jvm.ClassFile.FieldType)) ∈ kw_T := kw_p1 126 rfl rfl
theorem kw_127 : (Jvm.Cond.methodLink "BorderDesk$Quotas" (3 : Nat) ({ cls := "java/lang/Object", name := "<init>", desc := "()V" } : Jvm.MethodName)) ∈ kw_T := kw_p1 127 rfl rfl
theorem kw_128 : (Jvm.Cond.fieldLink "BorderDesk$Quotas" (30 : Nat) "BorderDesk$Quotas" "tariff" "LBorderDesk$Tariff;") ∈ kw_T := kw_p1 128 rfl rfl
theorem kw_129 : (Jvm.Cond.fieldLink "BorderDesk$Quotas" (34 : Nat) "BorderDesk$Quotas" "count" "I") ∈ kw_T := kw_p1 129 rfl rfl
theorem kw_130 : (Jvm.Cond.fieldLink "BorderDesk" (133 : Nat) "BorderDesk$Quotas" "count" "I") ∈ kw_T := kw_p1 130 rfl rfl
theorem kw_131 : (Jvm.Cond.fieldLink "BorderDesk$Quotas" (11 : Nat) "BorderDesk$Quotas" "left" "[I") ∈ kw_T := kw_p1 131 rfl rfl
theorem kw_132 : (Jvm.Cond.fieldLink "BorderDesk$Assessor" (109 : Nat) "BorderDesk$Quotas" "left" "[I") ∈ kw_T := kw_p1 132 rfl rfl
theorem kw_133 : (Jvm.Cond.fieldLink "BorderDesk" (141 : Nat) "BorderDesk$Quotas" "left" "[I") ∈ kw_T := kw_p1 133 rfl rfl
theorem kw_134 : (Jvm.Cond.fieldLink "BorderDesk$Quotas" (15 : Nat) "BorderDesk$Quotas" "partOfValue" "[I") ∈ kw_T := kw_p1 134 rfl rfl
theorem kw_135 : (Jvm.Cond.fieldLink "BorderDesk$Assessor" (135 : Nat) "BorderDesk$Quotas" "partOfValue" "[I") ∈ kw_T := kw_p1 135 rfl rfl
theorem kw_136 : (Jvm.Cond.fieldLink "BorderDesk$Quotas" (18 : Nat) "BorderDesk$Quotas" "headingOf" "[I") ∈ kw_T := kw_p1 136 rfl rfl
theorem kw_137 : (Jvm.Cond.fieldLink "BorderDesk$Quotas" (21 : Nat) "BorderDesk$Quotas" "landOf" "[I") ∈ kw_T := kw_p1 137 rfl rfl
theorem kw_138 : (Jvm.Cond.fieldLink "BorderDesk$Quotas" (24 : Nat) "BorderDesk$Quotas" "firstDay" "[I") ∈ kw_T := kw_p1 138 rfl rfl
theorem kw_139 : (Jvm.Cond.fieldLink "BorderDesk$Quotas" (27 : Nat) "BorderDesk$Quotas" "lastDay" "[I") ∈ kw_T := kw_p1 139 rfl rfl
theorem kw_157 : (Jvm.Cond.classLink "BorderDesk" (32 : Nat) "BorderDesk$Origins") ∈ kw_T := kw_p1 157 rfl rfl
theorem kw_158 : (Jvm.Cond.instantiable "BorderDesk$Origins" (7 : Nat)) ∈ kw_T := kw_p1 158 rfl rfl
theorem kw_159 : (Jvm.Cond.methodLink "BorderDesk" (34 : Nat) ({ cls := "BorderDesk$Origins", name := "<init>", desc := "(LBorderDesk$Tariff;)V" } : Jvm.MethodName)) ∈ kw_T := kw_p1 159 rfl rfl
theorem kw_160 : (Jvm.Cond.instanceMethod ({ cls := "BorderDesk$Origins", name := "<init>", desc := "(LBorderDesk$Tariff;)V" } : Jvm.MethodName)) ∈ kw_T := kw_p1 160 rfl rfl
theorem kw_161 : (Jvm.Cond.code ({ cls := "BorderDesk$Origins", name := "<init>", desc := "(LBorderDesk$Tariff;)V" } : Jvm.MethodName) prog_6_method_1_code (2 : Nat) (Option.none : Option Jvm.ClassFile.FieldType)) ∈ kw_T := kw_p1 161 rfl rfl
theorem kw_162 : (Jvm.Cond.methodLink "BorderDesk$Origins" (3 : Nat) ({ cls := "java/lang/Object", name := "<init>", desc := "()V" } : Jvm.MethodName)) ∈ kw_T := kw_p1 162 rfl rfl
theorem kw_163 : (Jvm.Cond.classLink "BorderDesk$Origins" (18 : Nat) "[[I") ∈ kw_T := kw_p1 163 rfl rfl
theorem kw_164 : (Jvm.Cond.fieldLink "BorderDesk$Origins" (32 : Nat) "BorderDesk$Origins" "tariff" "LBorderDesk$Tariff;") ∈ kw_T := kw_p1 164 rfl rfl
theorem kw_165 : (Jvm.Cond.fieldLink "BorderDesk$Origins" (9 : Nat) "BorderDesk$Origins" "zoneLands" "[I") ∈ kw_T := kw_p1 165 rfl rfl
theorem kw_166 : (Jvm.Cond.fieldLink "BorderDesk" (155 : Nat) "BorderDesk$Origins" "zoneLands" "[I") ∈ kw_T := kw_p1 166 rfl rfl
theorem kw_167 : (Jvm.Cond.fieldLink "BorderDesk$Origins" (15 : Nat) "BorderDesk$Origins" "parts" "[I") ∈ kw_T := kw_p1 167 rfl rfl
theorem kw_168 : (Jvm.Cond.fieldLink "BorderDesk" (149 : Nat) "BorderDesk$Origins" "parts" "[I") ∈ kw_T := kw_p1 168 rfl rfl
theorem kw_169 : (Jvm.Cond.fieldLink "BorderDesk$Origins" (20 : Nat) "BorderDesk$Origins" "partGood" "[[I") ∈ kw_T := kw_p1 169 rfl rfl
theorem kw_170 : (Jvm.Cond.fieldLink "BorderDesk$Origins" (23 : Nat) "BorderDesk$Origins" "partValue" "[[I") ∈ kw_T := kw_p1 170 rfl rfl
theorem kw_171 : (Jvm.Cond.fieldLink "BorderDesk$Origins" (26 : Nat) "BorderDesk$Origins" "partLand" "[[I") ∈ kw_T := kw_p1 171 rfl rfl
theorem kw_172 : (Jvm.Cond.fieldLink "BorderDesk$Origins" (29 : Nat) "BorderDesk$Origins" "inside" "[I") ∈ kw_T := kw_p1 172 rfl rfl
theorem kw_188 : (Jvm.Cond.classLink "BorderDesk" (39 : Nat) "BorderDesk$Declarations") ∈ kw_T := kw_p1 188 rfl rfl
theorem kw_189 : (Jvm.Cond.instantiable "BorderDesk$Declarations" (16 : Nat)) ∈ kw_T := kw_p1 189 rfl rfl
theorem kw_191 : (Jvm.Cond.instanceMethod ({ cls := "BorderDesk$Declarations", name := "<init>", desc := "()V" } : Jvm.MethodName)) ∈ kw_T := kw_p1 191 rfl rfl
theorem kw_192 : (Jvm.Cond.code ({ cls := "BorderDesk$Declarations", name := "<init>", desc := "()V" } : Jvm.MethodName) prog_3_method_1_code (1 : Nat) (Option.none : Option Jvm.ClassFile.FieldType)) ∈ kw_T := kw_p1 192 rfl rfl
theorem kw_193 : (Jvm.Cond.methodLink "BorderDesk$Declarations" (3 : Nat) ({ cls := "java/lang/Object", name := "<init>", desc := "()V" } : Jvm.MethodName)) ∈ kw_T := kw_p1 193 rfl rfl
theorem kw_194 : (Jvm.Cond.classLink "BorderDesk$Declarations" (21 : Nat) "[[I") ∈ kw_T := kw_p1 194 rfl rfl
theorem kw_195 : (Jvm.Cond.fieldLink "BorderDesk$Declarations" (67 : Nat) "BorderDesk$Declarations" "count" "I") ∈ kw_T := kw_p1 195 rfl rfl
theorem kw_196 : (Jvm.Cond.fieldLink "BorderDesk" (167 : Nat) "BorderDesk$Declarations" "count" "I") ∈ kw_T := kw_p1 196 rfl rfl
theorem kw_197 : (Jvm.Cond.fieldLink "BorderDesk$Declarations" (11 : Nat) "BorderDesk$Declarations" "day" "[I") ∈ kw_T := kw_p1 197 rfl rfl
theorem kw_198 : (Jvm.Cond.fieldLink "BorderDesk$Assessor" (60 : Nat) "BorderDesk$Declarations" "day" "[I") ∈ kw_T := kw_p1 198 rfl rfl
theorem kw_199 : (Jvm.Cond.fieldLink "BorderDesk$Declarations" (15 : Nat) "BorderDesk$Declarations" "minute" "[I") ∈ kw_T := kw_p1 199 rfl rfl
theorem kw_200 : (Jvm.Cond.fieldLink "BorderDesk$Declarations" (18 : Nat) "BorderDesk$Declarations" "lines" "[I") ∈ kw_T := kw_p1 200 rfl rfl
theorem kw_201 : (Jvm.Cond.fieldLink "BorderDesk$Assessor" (57 : Nat) "BorderDesk$Declarations" "lines" "[I") ∈ kw_T := kw_p1 201 rfl rfl
theorem kw_202 : (Jvm.Cond.fieldLink "BorderDesk" (181 : Nat) "BorderDesk$Declarations" "lines" "[I") ∈ kw_T := kw_p1 202 rfl rfl
theorem kw_203 : (Jvm.Cond.fieldLink "BorderDesk$Declarations" (23 : Nat) "BorderDesk$Declarations" "charges" "[[I") ∈ kw_T := kw_p1 203 rfl rfl
theorem kw_204 : (Jvm.Cond.fieldLink "BorderDesk$Assessor" (153 : Nat) "BorderDesk$Declarations" "charges" "[[I") ∈ kw_T := kw_p1 204 rfl rfl
theorem kw_205 : (Jvm.Cond.fieldLink "BorderDesk" (189 : Nat) "BorderDesk$Declarations" "charges" "[[I") ∈ kw_T := kw_p1 205 rfl rfl
theorem kw_206 : (Jvm.Cond.fieldLink "BorderDesk$Declarations" (26 : Nat) "BorderDesk$Declarations" "accepted" "[Z") ∈ kw_T := kw_p1 206 rfl rfl
theorem kw_207 : (Jvm.Cond.fieldLink "BorderDesk" (177 : Nat) "BorderDesk$Declarations" "accepted" "[Z") ∈ kw_T := kw_p1 207 rfl rfl
theorem kw_208 : (Jvm.Cond.fieldLink "BorderDesk$Declarations" (30 : Nat) "BorderDesk$Declarations" "firstLot" "[I") ∈ kw_T := kw_p1 208 rfl rfl
theorem kw_209 : (Jvm.Cond.fieldLink "BorderDesk" (294 : Nat) "BorderDesk$Declarations" "firstLot" "[I") ∈ kw_T := kw_p1 209 rfl rfl
theorem kw_210 : (Jvm.Cond.fieldLink "BorderDesk$Declarations" (33 : Nat) "BorderDesk$Declarations" "good" "[I") ∈ kw_T := kw_p1 210 rfl rfl
theorem kw_211 : (Jvm.Cond.fieldLink "BorderDesk$Assessor" (70 : Nat) "BorderDesk$Declarations" "good" "[I") ∈ kw_T := kw_p1 211 rfl rfl
theorem kw_212 : (Jvm.Cond.fieldLink "BorderDesk" (298 : Nat) "BorderDesk$Declarations" "good" "[I") ∈ kw_T := kw_p1 212 rfl rfl
theorem kw_213 : (Jvm.Cond.fieldLink "BorderDesk$Declarations" (36 : Nat) "BorderDesk$Declarations" "land" "[I") ∈ kw_T := kw_p1 213 rfl rfl
theorem kw_214 : (Jvm.Cond.fieldLink "BorderDesk$Assessor" (67 : Nat) "BorderDesk$Declarations" "land" "[I") ∈ kw_T := kw_p1 214 rfl rfl
theorem kw_215 : (Jvm.Cond.fieldLink "BorderDesk$Declarations" (39 : Nat) "BorderDesk$Declarations" "units" "[I") ∈ kw_T := kw_p1 215 rfl rfl
theorem kw_216 : (Jvm.Cond.fieldLink "BorderDesk$Assessor" (89 : Nat) "BorderDesk$Declarations" "units" "[I") ∈ kw_T := kw_p1 216 rfl rfl
theorem kw_217 : (Jvm.Cond.fieldLink "BorderDesk" (299 : Nat) "BorderDesk$Declarations" "units" "[I") ∈ kw_T := kw_p1 217 rfl rfl
theorem kw_218 : (Jvm.Cond.fieldLink "BorderDesk$Declarations" (42 : Nat) "BorderDesk$Declarations" "kilograms" "[I") ∈ kw_T := kw_p1 218 rfl rfl
theorem kw_219 : (Jvm.Cond.fieldLink "BorderDesk$Assessor" (128 : Nat) "BorderDesk$Declarations" "kilograms" "[I") ∈ kw_T := kw_p1 219 rfl rfl
theorem kw_220 : (Jvm.Cond.fieldLink "BorderDesk$Declarations" (45 : Nat) "BorderDesk$Declarations" "price" "[I") ∈ kw_T := kw_p1 220 rfl rfl
theorem kw_221 : (Jvm.Cond.fieldLink "BorderDesk$Assessor" (146 : Nat) "BorderDesk$Declarations" "price" "[I") ∈ kw_T := kw_p1 221 rfl rfl
theorem kw_222 : (Jvm.Cond.fieldLink "BorderDesk$Declarations" (48 : Nat) "BorderDesk$Declarations" "held" "[Z") ∈ kw_T := kw_p1 222 rfl rfl
theorem kw_223 : (Jvm.Cond.fieldLink "BorderDesk" (297 : Nat) "BorderDesk$Declarations" "held" "[Z") ∈ kw_T := kw_p1 223 rfl rfl
theorem kw_224 : (Jvm.Cond.fieldLink "BorderDesk$Declarations" (51 : Nat) "BorderDesk$Declarations" "quotaTaken" "[I") ∈ kw_T := kw_p1 224 rfl rfl
theorem kw_225 : (Jvm.Cond.fieldLink "BorderDesk$Assessor" (101 : Nat) "BorderDesk$Declarations" "quotaTaken" "[I") ∈ kw_T := kw_p1 225 rfl rfl
theorem kw_226 : (Jvm.Cond.fieldLink "BorderDesk$Declarations" (54 : Nat) "BorderDesk$Declarations" "reduced" "[I") ∈ kw_T := kw_p1 226 rfl rfl
theorem kw_227 : (Jvm.Cond.fieldLink "BorderDesk$Assessor" (100 : Nat) "BorderDesk$Declarations" "reduced" "[I") ∈ kw_T := kw_p1 227 rfl rfl
theorem kw_228 : (Jvm.Cond.fieldLink "BorderDesk" (202 : Nat) "BorderDesk$Declarations" "reduced" "[I") ∈ kw_T := kw_p1 228 rfl rfl
theorem kw_229 : (Jvm.Cond.fieldLink "BorderDesk$Declarations" (57 : Nat) "BorderDesk$Declarations" "duty" "[J") ∈ kw_T := kw_p1 229 rfl rfl
theorem kw_230 : (Jvm.Cond.fieldLink "BorderDesk$Assessor" (108 : Nat) "BorderDesk$Declarations" "duty" "[J") ∈ kw_T := kw_p1 230 rfl rfl
theorem kw_231 : (Jvm.Cond.fieldLink "BorderDesk" (205 : Nat) "BorderDesk$Declarations" "duty" "[J") ∈ kw_T := kw_p1 231 rfl rfl
theorem kw_265 : (Jvm.Cond.arrayClass Jvm.ClassFile.FieldType.long) ∈ kw_T := kw_p2 25 rfl rfl
theorem kw_266 : (Jvm.Cond.classLink "BorderDesk" (46 : Nat) "BorderDesk$Assessor") ∈ kw_T := kw_p2 26 rfl rfl
theorem kw_267 : (Jvm.Cond.instantiable "BorderDesk$Assessor" (12 : Nat)) ∈ kw_T := kw_p2 27 rfl rfl
theorem kw_268 : (Jvm.Cond.methodLink "BorderDesk" (48 : Nat) ({ cls := "BorderDesk$Assessor", name := "<init>", desc := "(LBorderDesk$Tariff;LBorderDesk$Rates;LBorderDesk$Quotas;LBorderDesk$Declarations;)V" } : Jvm.MethodName)) ∈ kw_T := kw_p2 28 rfl rfl
theorem kw_269 : (Jvm.Cond.instanceMethod ({ cls := "BorderDesk$Assessor", name := "<init>", desc := "(LBorderDesk$Tariff;LBorderDesk$Rates;LBorderDesk$Quotas;LBorderDesk$Declarations;)V" } : Jvm.MethodName)) ∈ kw_T := kw_p2 29 rfl rfl
theorem kw_270 : (Jvm.Cond.code ({ cls := "BorderDesk$Assessor", name := "<init>", desc := "(LBorderDesk$Tariff;LBorderDesk$Rates;LBorderDesk$Quotas;LBorderDesk$Declarations;)V" } : Jvm.MethodName) prog_2_method_1_code (5 : Nat) (Option.none : Option Jvm.ClassFile.FieldType)) ∈ kw_T := kw_p2 30 rfl rfl
theorem kw_271 : (Jvm.Cond.methodLink "BorderDesk$Assessor" (5 : Nat) ({ cls := "java/lang/Object", name := "<init>", desc := "()V" } : Jvm.MethodName)) ∈ kw_T := kw_p2 31 rfl rfl
theorem kw_272 : (Jvm.Cond.fieldLink "BorderDesk$Assessor" (41 : Nat) "BorderDesk$Assessor" "tariff" "LBorderDesk$Tariff;") ∈ kw_T := kw_p2 32 rfl rfl
theorem kw_273 : (Jvm.Cond.fieldLink "BorderDesk$Assessor" (45 : Nat) "BorderDesk$Assessor" "rates" "LBorderDesk$Rates;") ∈ kw_T := kw_p2 33 rfl rfl
theorem kw_274 : (Jvm.Cond.fieldLink "BorderDesk$Assessor" (49 : Nat) "BorderDesk$Assessor" "quotas" "LBorderDesk$Quotas;") ∈ kw_T := kw_p2 34 rfl rfl
theorem kw_275 : (Jvm.Cond.fieldLink "BorderDesk$Assessor" (53 : Nat) "BorderDesk$Assessor" "declarations" "LBorderDesk$Declarations;") ∈ kw_T := kw_p2 35 rfl rfl
theorem kw_276 : (Jvm.Cond.fieldLink "BorderDesk$Assessor" (13 : Nat) "BorderDesk$Assessor" "reduced" "[I") ∈ kw_T := kw_p2 36 rfl rfl
theorem kw_277 : (Jvm.Cond.fieldLink "BorderDesk" (219 : Nat) "BorderDesk$Assessor" "reduced" "[I") ∈ kw_T := kw_p2 37 rfl rfl
theorem kw_278 : (Jvm.Cond.fieldLink "BorderDesk$Assessor" (17 : Nat) "BorderDesk$Assessor" "duty" "[J") ∈ kw_T := kw_p2 38 rfl rfl
theorem kw_279 : (Jvm.Cond.fieldLink "BorderDesk" (220 : Nat) "BorderDesk$Assessor" "duty" "[J") ∈ kw_T := kw_p2 39 rfl rfl
theorem kw_280 : (Jvm.Cond.fieldLink "BorderDesk$Assessor" (21 : Nat) "BorderDesk$Assessor" "value" "[J") ∈ kw_T := kw_p2 40 rfl rfl
theorem kw_281 : (Jvm.Cond.fieldLink "BorderDesk$Assessor" (24 : Nat) "BorderDesk$Assessor" "rateFound" "[I") ∈ kw_T := kw_p2 41 rfl rfl
theorem kw_282 : (Jvm.Cond.fieldLink "BorderDesk$Assessor" (27 : Nat) "BorderDesk$Assessor" "quotaFound" "[I") ∈ kw_T := kw_p2 42 rfl rfl
theorem kw_283 : (Jvm.Cond.fieldLink "BorderDesk$Assessor" (32 : Nat) "BorderDesk$Assessor" "left" "[I") ∈ kw_T := kw_p2 43 rfl rfl
theorem kw_284 : (Jvm.Cond.fieldLink "BorderDesk$Assessor" (35 : Nat) "BorderDesk$Assessor" "weight" "[J") ∈ kw_T := kw_p2 44 rfl rfl
theorem kw_285 : (Jvm.Cond.fieldLink "BorderDesk$Assessor" (38 : Nat) "BorderDesk$Assessor" "remainder" "[J") ∈ kw_T := kw_p2 45 rfl rfl
theorem kw_311 : (Jvm.Cond.classLink "BorderDesk" (55 : Nat) "BorderDesk$Lots") ∈ kw_T := kw_p2 71 rfl rfl
theorem kw_312 : (Jvm.Cond.instantiable "BorderDesk$Lots" (7 : Nat)) ∈ kw_T := kw_p2 72 rfl rfl
theorem kw_314 : (Jvm.Cond.instanceMethod ({ cls := "BorderDesk$Lots", name := "<init>", desc := "()V" } : Jvm.MethodName)) ∈ kw_T := kw_p2 74 rfl rfl
theorem kw_315 : (Jvm.Cond.code ({ cls := "BorderDesk$Lots", name := "<init>", desc := "()V" } : Jvm.MethodName) prog_5_method_1_code (1 : Nat) (Option.none : Option Jvm.ClassFile.FieldType)) ∈ kw_T := kw_p2 75 rfl rfl
theorem kw_316 : (Jvm.Cond.methodLink "BorderDesk$Lots" (1 : Nat) ({ cls := "java/lang/Object", name := "<init>", desc := "()V" } : Jvm.MethodName)) ∈ kw_T := kw_p2 76 rfl rfl
theorem kw_317 : (Jvm.Cond.fieldLink "BorderDesk$Lots" (30 : Nat) "BorderDesk$Lots" "count" "I") ∈ kw_T := kw_p2 77 rfl rfl
theorem kw_318 : (Jvm.Cond.fieldLink "BorderDesk" (224 : Nat) "BorderDesk$Lots" "count" "I") ∈ kw_T := kw_p2 78 rfl rfl
theorem kw_319 : (Jvm.Cond.fieldLink "BorderDesk$Lots" (9 : Nat) "BorderDesk$Lots" "good" "[I") ∈ kw_T := kw_p2 79 rfl rfl
theorem kw_320 : (Jvm.Cond.fieldLink "BorderDesk" (278 : Nat) "BorderDesk$Lots" "good" "[I") ∈ kw_T := kw_p2 80 rfl rfl
theorem kw_321 : (Jvm.Cond.fieldLink "BorderDesk$Lots" (13 : Nat) "BorderDesk$Lots" "units" "[I") ∈ kw_T := kw_p2 81 rfl rfl
theorem kw_322 : (Jvm.Cond.fieldLink "BorderDesk" (281 : Nat) "BorderDesk$Lots" "units" "[I") ∈ kw_T := kw_p2 82 rfl rfl
theorem kw_323 : (Jvm.Cond.fieldLink "BorderDesk$Lots" (16 : Nat) "BorderDesk$Lots" "gone" "[I") ∈ kw_T := kw_p2 83 rfl rfl
theorem kw_324 : (Jvm.Cond.fieldLink "BorderDesk" (284 : Nat) "BorderDesk$Lots" "gone" "[I") ∈ kw_T := kw_p2 84 rfl rfl
theorem kw_325 : (Jvm.Cond.fieldLink "BorderDesk$Lots" (19 : Nat) "BorderDesk$Lots" "duty" "[J") ∈ kw_T := kw_p2 85 rfl rfl
theorem kw_326 : (Jvm.Cond.fieldLink "BorderDesk" (287 : Nat) "BorderDesk$Lots" "duty" "[J") ∈ kw_T := kw_p2 86 rfl rfl
theorem kw_327 : (Jvm.Cond.fieldLink "BorderDesk$Lots" (23 : Nat) "BorderDesk$Lots" "held" "[Z") ∈ kw_T := kw_p2 87 rfl rfl
theorem kw_328 : (Jvm.Cond.fieldLink "BorderDesk" (288 : Nat) "BorderDesk$Lots" "held" "[Z") ∈ kw_T := kw_p2 88 rfl rfl
theorem kw_329 : (Jvm.Cond.fieldLink "BorderDesk$Lots" (27 : Nat) "BorderDesk$Lots" "byWorking" "[Z") ∈ kw_T := kw_p2 89 rfl rfl
theorem kw_345 : (Jvm.Cond.classLink "BorderDesk" (62 : Nat) "BorderDesk$Ledger") ∈ kw_T := kw_p2 105 rfl rfl
theorem kw_346 : (Jvm.Cond.instantiable "BorderDesk$Ledger" (5 : Nat)) ∈ kw_T := kw_p2 106 rfl rfl
theorem kw_348 : (Jvm.Cond.instanceMethod ({ cls := "BorderDesk$Ledger", name := "<init>", desc := "()V" } : Jvm.MethodName)) ∈ kw_T := kw_p2 108 rfl rfl
theorem kw_349 : (Jvm.Cond.code ({ cls := "BorderDesk$Ledger", name := "<init>", desc := "()V" } : Jvm.MethodName) prog_4_method_1_code (1 : Nat) (Option.none : Option Jvm.ClassFile.FieldType)) ∈ kw_T := kw_p2 109 rfl rfl
theorem kw_350 : (Jvm.Cond.methodLink "BorderDesk$Ledger" (3 : Nat) ({ cls := "java/lang/Object", name := "<init>", desc := "()V" } : Jvm.MethodName)) ∈ kw_T := kw_p2 110 rfl rfl
theorem kw_351 : (Jvm.Cond.fieldLink "BorderDesk" (259 : Nat) "BorderDesk$Ledger" "paid" "J") ∈ kw_T := kw_p2 111 rfl rfl
theorem kw_352 : (Jvm.Cond.fieldLink "BorderDesk" (266 : Nat) "BorderDesk$Ledger" "paidBack" "J") ∈ kw_T := kw_p2 112 rfl rfl
theorem kw_353 : (Jvm.Cond.fieldLink "BorderDesk$Ledger" (9 : Nat) "BorderDesk$Ledger" "released" "[I") ∈ kw_T := kw_p2 113 rfl rfl
theorem kw_354 : (Jvm.Cond.fieldLink "BorderDesk" (263 : Nat) "BorderDesk$Ledger" "released" "[I") ∈ kw_T := kw_p2 114 rfl rfl
theorem kw_355 : (Jvm.Cond.fieldLink "BorderDesk$Ledger" (15 : Nat) "BorderDesk$Ledger" "worked" "[I") ∈ kw_T := kw_p2 115 rfl rfl
theorem kw_356 : (Jvm.Cond.fieldLink "BorderDesk" (269 : Nat) "BorderDesk$Ledger" "worked" "[I") ∈ kw_T := kw_p2 116 rfl rfl
theorem kw_357 : (Jvm.Cond.fieldLink "BorderDesk$Ledger" (18 : Nat) "BorderDesk$Ledger" "lost" "[I") ∈ kw_T := kw_p2 117 rfl rfl
theorem kw_358 : (Jvm.Cond.fieldLink "BorderDesk" (272 : Nat) "BorderDesk$Ledger" "lost" "[I") ∈ kw_T := kw_p2 118 rfl rfl
theorem kw_370 : (Jvm.Cond.fieldLink "BorderDesk" (10 : Nat) "BorderDesk" "tariff" "LBorderDesk$Tariff;") ∈ kw_T := kw_p2 130 rfl rfl
theorem kw_371 : (Jvm.Cond.fieldLink "BorderDesk" (21 : Nat) "BorderDesk" "rates" "LBorderDesk$Rates;") ∈ kw_T := kw_p2 131 rfl rfl
theorem kw_372 : (Jvm.Cond.fieldLink "BorderDesk" (28 : Nat) "BorderDesk" "quotas" "LBorderDesk$Quotas;") ∈ kw_T := kw_p2 132 rfl rfl
theorem kw_373 : (Jvm.Cond.fieldLink "BorderDesk" (35 : Nat) "BorderDesk" "origins" "LBorderDesk$Origins;") ∈ kw_T := kw_p2 133 rfl rfl
theorem kw_374 : (Jvm.Cond.fieldLink "BorderDesk" (42 : Nat) "BorderDesk" "declarations" "LBorderDesk$Declarations;") ∈ kw_T := kw_p2 134 rfl rfl
theorem kw_375 : (Jvm.Cond.fieldLink "BorderDesk" (51 : Nat) "BorderDesk" "assessor" "LBorderDesk$Assessor;") ∈ kw_T := kw_p2 135 rfl rfl
theorem kw_376 : (Jvm.Cond.fieldLink "BorderDesk" (58 : Nat) "BorderDesk" "lots" "LBorderDesk$Lots;") ∈ kw_T := kw_p2 136 rfl rfl
theorem kw_377 : (Jvm.Cond.fieldLink "BorderDesk" (65 : Nat) "BorderDesk" "ledger" "LBorderDesk$Ledger;") ∈ kw_T := kw_p2 137 rfl rfl
theorem kw_395 : (Jvm.Cond.methodLink "BorderDeskLaw" (107 : Nat) ({ cls := "BorderDeskLaw", name := "heading", desc := "(LBorderDesk;I[J)I" } : Jvm.MethodName)) ∈ kw_T := kw_p2 155 rfl rfl
theorem kw_396 : (Jvm.Cond.static ({ cls := "BorderDeskLaw", name := "heading", desc := "(LBorderDesk;I[J)I" } : Jvm.MethodName)) ∈ kw_T := kw_p2 156 rfl rfl
theorem kw_397 : (Jvm.Cond.codeWith ({ cls := "BorderDeskLaw", name := "heading", desc := "(LBorderDesk;I[J)I" } : Jvm.MethodName) method_3_code (4 : Nat) (Option.some Jvm.ClassFile.FieldType.int) [((0 : Nat), (9 : Nat), (12 : Nat), (13 : Nat)), ((0 : Nat), (9 : Nat), (15 : Nat), (15 : Nat))]) ∈ kw_T := kw_p2 157 rfl rfl
theorem kw_398 : (Jvm.Cond.classLink "BorderDeskLaw" (13 : Nat) "java/lang/IllegalArgumentException") ∈ kw_T := kw_p2 158 rfl rfl
theorem kw_399 : (Jvm.Cond.classLink "BorderDeskLaw" (15 : Nat) "java/lang/IllegalStateException") ∈ kw_T := kw_p2 159 rfl rfl
theorem kw_400 : (Jvm.Cond.methodLink "BorderDeskLaw" (7 : Nat) ({ cls := "BorderDesk", name := "heading", desc := "(I)I" } : Jvm.MethodName)) ∈ kw_T := kw_p2 160 rfl rfl
theorem kw_401 : (Jvm.Cond.instanceMethod ({ cls := "BorderDesk", name := "heading", desc := "(I)I" } : Jvm.MethodName)) ∈ kw_T := kw_p2 161 rfl rfl
theorem kw_402 : (Jvm.Cond.selects "BorderDesk" ({ cls := "BorderDesk", name := "heading", desc := "(I)I" } : Jvm.MethodName) ({ cls := "BorderDesk", name := "heading", desc := "(I)I" } : Jvm.MethodName)) ∈ kw_T := kw_p2 162 rfl rfl
theorem kw_403 : (Jvm.Cond.code ({ cls := "BorderDesk", name := "heading", desc := "(I)I" } : Jvm.MethodName) prog_1_method_2_code (2 : Nat) (Option.some Jvm.ClassFile.FieldType.int)) ∈ kw_T := kw_p2 163 rfl rfl
theorem kw_404 : (Jvm.Cond.methodLink "BorderDesk" (69 : Nat) ({ cls := "BorderDesk", name := "isHeading", desc := "(I)Z" } : Jvm.MethodName)) ∈ kw_T := kw_p2 164 rfl rfl
theorem kw_406 : (Jvm.Cond.instanceMethod ({ cls := "BorderDesk", name := "isHeading", desc := "(I)Z" } : Jvm.MethodName)) ∈ kw_T := kw_p2 166 rfl rfl
theorem kw_407 : (Jvm.Cond.code ({ cls := "BorderDesk", name := "isHeading", desc := "(I)Z" } : Jvm.MethodName) prog_1_method_29_code (2 : Nat) (Option.some Jvm.ClassFile.FieldType.boolean)) ∈ kw_T := kw_p2 167 rfl rfl
theorem kw_408 : (Jvm.Cond.methodLink "BorderDesk" (137 : Nat) ({ cls := "BorderDesk", name := "isBelow", desc := "(II)Z" } : Jvm.MethodName)) ∈ kw_T := kw_p2 168 rfl rfl
theorem kw_409 : (Jvm.Cond.static ({ cls := "BorderDesk", name := "isBelow", desc := "(II)Z" } : Jvm.MethodName)) ∈ kw_T := kw_p2 169 rfl rfl
theorem kw_410 : (Jvm.Cond.code ({ cls := "BorderDesk", name := "isBelow", desc := "(II)Z" } : Jvm.MethodName) prog_1_method_36_code (2 : Nat) (Option.some Jvm.ClassFile.FieldType.boolean)) ∈ kw_T := kw_p2 170 rfl rfl
theorem kw_411 : (Jvm.Cond.methodLink "BorderDesk" (73 : Nat) ({ cls := "BorderDesk", name := "requireArgument", desc := "(Z)V" } : Jvm.MethodName)) ∈ kw_T := kw_p2 171 rfl rfl
theorem kw_412 : (Jvm.Cond.static ({ cls := "BorderDesk", name := "requireArgument", desc := "(Z)V" } : Jvm.MethodName)) ∈ kw_T := kw_p2 172 rfl rfl
theorem kw_413 : (Jvm.Cond.code ({ cls := "BorderDesk", name := "requireArgument", desc := "(Z)V" } : Jvm.MethodName) prog_1_method_38_code (1 : Nat) (Option.none : Option Jvm.ClassFile.FieldType)) ∈ kw_T := kw_p2 173 rfl rfl
theorem kw_414 : (Jvm.Cond.classLink "BorderDesk" (300 : Nat) "java/lang/IllegalArgumentException") ∈ kw_T := kw_p2 174 rfl rfl
theorem kw_478 : (Jvm.Cond.methodLink "BorderDesk" (81 : Nat) ({ cls := "BorderDesk", name := "requireState", desc := "(Z)V" } : Jvm.MethodName)) ∈ kw_T := kw_p2 238 rfl rfl
theorem kw_479 : (Jvm.Cond.static ({ cls := "BorderDesk", name := "requireState", desc := "(Z)V" } : Jvm.MethodName)) ∈ kw_T := kw_p2 239 rfl rfl
theorem kw_480 : (Jvm.Cond.code ({ cls := "BorderDesk", name := "requireState", desc := "(Z)V" } : Jvm.MethodName) prog_1_method_39_code (1 : Nat) (Option.none : Option Jvm.ClassFile.FieldType)) ∈ kw_T := kw_p3 0 rfl rfl
theorem kw_481 : (Jvm.Cond.classLink "BorderDesk" (303 : Nat) "java/lang/IllegalStateException") ∈ kw_T := kw_p3 1 rfl rfl
theorem kw_496 : (Jvm.Cond.methodLink "BorderDesk" (84 : Nat) ({ cls := "BorderDesk$Tariff", name := "depthUnder", desc := "(I)I" } : Jvm.MethodName)) ∈ kw_T := kw_p3 16 rfl rfl
theorem kw_497 : (Jvm.Cond.instanceMethod ({ cls := "BorderDesk$Tariff", name := "depthUnder", desc := "(I)I" } : Jvm.MethodName)) ∈ kw_T := kw_p3 17 rfl rfl
theorem kw_498 : (Jvm.Cond.selects "BorderDesk$Tariff" ({ cls := "BorderDesk$Tariff", name := "depthUnder", desc := "(I)I" } : Jvm.MethodName) ({ cls := "BorderDesk$Tariff", name := "depthUnder", desc := "(I)I" } : Jvm.MethodName)) ∈ kw_T := kw_p3 18 rfl rfl
theorem kw_499 : (Jvm.Cond.code ({ cls := "BorderDesk$Tariff", name := "depthUnder", desc := "(I)I" } : Jvm.MethodName) prog_9_method_2_code (2 : Nat) (Option.some Jvm.ClassFile.FieldType.int)) ∈ kw_T := kw_p3 19 rfl rfl
theorem kw_500 : (Jvm.Cond.methodLink "BorderDesk" (88 : Nat) ({ cls := "BorderDesk$Tariff", name := "addHeading", desc := "(I)I" } : Jvm.MethodName)) ∈ kw_T := kw_p3 20 rfl rfl
theorem kw_501 : (Jvm.Cond.instanceMethod ({ cls := "BorderDesk$Tariff", name := "addHeading", desc := "(I)I" } : Jvm.MethodName)) ∈ kw_T := kw_p3 21 rfl rfl
theorem kw_502 : (Jvm.Cond.selects "BorderDesk$Tariff" ({ cls := "BorderDesk$Tariff", name := "addHeading", desc := "(I)I" } : Jvm.MethodName) ({ cls := "BorderDesk$Tariff", name := "addHeading", desc := "(I)I" } : Jvm.MethodName)) ∈ kw_T := kw_p3 22 rfl rfl
theorem kw_503 : (Jvm.Cond.code ({ cls := "BorderDesk$Tariff", name := "addHeading", desc := "(I)I" } : Jvm.MethodName) prog_9_method_3_code (3 : Nat) (Option.some Jvm.ClassFile.FieldType.int)) ∈ kw_T := kw_p3 23 rfl rfl
theorem kw_504 : (Jvm.Cond.methodLink "BorderDesk$Tariff" (52 : Nat) ({ cls := "BorderDesk$Tariff", name := "depthUnder", desc := "(I)I" } : Jvm.MethodName)) ∈ kw_T := kw_p3 24 rfl rfl
theorem kw_505 : (Jvm.Cond.methodLink "BorderDeskLaw" (113 : Nat) ({ cls := "BorderDeskLaw", name := "note", desc := "(LBorderDesk;IIII[J)I" } : Jvm.MethodName)) ∈ kw_T := kw_p3 25 rfl rfl
theorem kw_506 : (Jvm.Cond.static ({ cls := "BorderDeskLaw", name := "note", desc := "(LBorderDesk;IIII[J)I" } : Jvm.MethodName)) ∈ kw_T := kw_p3 26 rfl rfl
theorem kw_507 : (Jvm.Cond.codeWith ({ cls := "BorderDeskLaw", name := "note", desc := "(LBorderDesk;IIII[J)I" } : Jvm.MethodName) method_4_code (7 : Nat) (Option.some Jvm.ClassFile.FieldType.int) [((0 : Nat), (14 : Nat), (17 : Nat), (13 : Nat)), ((0 : Nat), (14 : Nat), (21 : Nat), (15 : Nat))]) ∈ kw_T := kw_p3 27 rfl rfl
theorem kw_508 : (Jvm.Cond.methodLink "BorderDeskLaw" (17 : Nat) ({ cls := "BorderDesk", name := "note", desc := "(IIII)I" } : Jvm.MethodName)) ∈ kw_T := kw_p3 28 rfl rfl
theorem kw_509 : (Jvm.Cond.instanceMethod ({ cls := "BorderDesk", name := "note", desc := "(IIII)I" } : Jvm.MethodName)) ∈ kw_T := kw_p3 29 rfl rfl
theorem kw_510 : (Jvm.Cond.selects "BorderDesk" ({ cls := "BorderDesk", name := "note", desc := "(IIII)I" } : Jvm.MethodName) ({ cls := "BorderDesk", name := "note", desc := "(IIII)I" } : Jvm.MethodName)) ∈ kw_T := kw_p3 30 rfl rfl
theorem kw_511 : (Jvm.Cond.code ({ cls := "BorderDesk", name := "note", desc := "(IIII)I" } : Jvm.MethodName) prog_1_method_3_code (5 : Nat) (Option.some Jvm.ClassFile.FieldType.int)) ∈ kw_T := kw_p3 31 rfl rfl
theorem kw_512 : (Jvm.Cond.methodLink "BorderDesk" (91 : Nat) ({ cls := "BorderDesk", name := "isFact", desc := "(I)Z" } : Jvm.MethodName)) ∈ kw_T := kw_p3 32 rfl rfl
theorem kw_513 : (Jvm.Cond.static ({ cls := "BorderDesk", name := "isFact", desc := "(I)Z" } : Jvm.MethodName)) ∈ kw_T := kw_p3 33 rfl rfl
theorem kw_514 : (Jvm.Cond.code ({ cls := "BorderDesk", name := "isFact", desc := "(I)Z" } : Jvm.MethodName) prog_1_method_35_code (1 : Nat) (Option.some Jvm.ClassFile.FieldType.boolean)) ∈ kw_T := kw_p3 34 rfl rfl
theorem kw_515 : (Jvm.Cond.methodLink "BorderDesk" (94 : Nat) ({ cls := "BorderDesk", name := "isWithin", desc := "(III)Z" } : Jvm.MethodName)) ∈ kw_T := kw_p3 35 rfl rfl
theorem kw_516 : (Jvm.Cond.static ({ cls := "BorderDesk", name := "isWithin", desc := "(III)Z" } : Jvm.MethodName)) ∈ kw_T := kw_p3 36 rfl rfl
theorem kw_517 : (Jvm.Cond.code ({ cls := "BorderDesk", name := "isWithin", desc := "(III)Z" } : Jvm.MethodName) prog_1_method_37_code (3 : Nat) (Option.some Jvm.ClassFile.FieldType.boolean)) ∈ kw_T := kw_p3 37 rfl rfl
theorem kw_518 : (Jvm.Cond.methodLink "BorderDesk" (101 : Nat) ({ cls := "BorderDesk$Tariff", name := "addNote", desc := "(IIII)I" } : Jvm.MethodName)) ∈ kw_T := kw_p3 38 rfl rfl
theorem kw_519 : (Jvm.Cond.instanceMethod ({ cls := "BorderDesk$Tariff", name := "addNote", desc := "(IIII)I" } : Jvm.MethodName)) ∈ kw_T := kw_p3 39 rfl rfl
theorem kw_520 : (Jvm.Cond.selects "BorderDesk$Tariff" ({ cls := "BorderDesk$Tariff", name := "addNote", desc := "(IIII)I" } : Jvm.MethodName) ({ cls := "BorderDesk$Tariff", name := "addNote", desc := "(IIII)I" } : Jvm.MethodName)) ∈ kw_T := kw_p3 40 rfl rfl
theorem kw_521 : (Jvm.Cond.code ({ cls := "BorderDesk$Tariff", name := "addNote", desc := "(IIII)I" } : Jvm.MethodName) prog_9_method_4_code (6 : Nat) (Option.some Jvm.ClassFile.FieldType.int)) ∈ kw_T := kw_p3 41 rfl rfl
theorem kw_522 : (Jvm.Cond.methodLink "BorderDeskLaw" (117 : Nat) ({ cls := "BorderDeskLaw", name := "fact", desc := "(LBorderDesk;III[J)I" } : Jvm.MethodName)) ∈ kw_T := kw_p3 42 rfl rfl
theorem kw_523 : (Jvm.Cond.static ({ cls := "BorderDeskLaw", name := "fact", desc := "(LBorderDesk;III[J)I" } : Jvm.MethodName)) ∈ kw_T := kw_p3 43 rfl rfl
theorem kw_524 : (Jvm.Cond.codeWith ({ cls := "BorderDeskLaw", name := "fact", desc := "(LBorderDesk;III[J)I" } : Jvm.MethodName) method_5_code (6 : Nat) (Option.some Jvm.ClassFile.FieldType.int) [((0 : Nat), (12 : Nat), (15 : Nat), (13 : Nat))]) ∈ kw_T := kw_p3 44 rfl rfl
theorem kw_525 : (Jvm.Cond.methodLink "BorderDeskLaw" (21 : Nat) ({ cls := "BorderDesk", name := "fact", desc := "(III)I" } : Jvm.MethodName)) ∈ kw_T := kw_p3 45 rfl rfl
theorem kw_526 : (Jvm.Cond.instanceMethod ({ cls := "BorderDesk", name := "fact", desc := "(III)I" } : Jvm.MethodName)) ∈ kw_T := kw_p3 46 rfl rfl
theorem kw_527 : (Jvm.Cond.selects "BorderDesk" ({ cls := "BorderDesk", name := "fact", desc := "(III)I" } : Jvm.MethodName) ({ cls := "BorderDesk", name := "fact", desc := "(III)I" } : Jvm.MethodName)) ∈ kw_T := kw_p3 47 rfl rfl
theorem kw_528 : (Jvm.Cond.code ({ cls := "BorderDesk", name := "fact", desc := "(III)I" } : Jvm.MethodName) prog_1_method_4_code (5 : Nat) (Option.some Jvm.ClassFile.FieldType.int)) ∈ kw_T := kw_p3 48 rfl rfl
theorem kw_529 : (Jvm.Cond.methodLink "BorderDesk" (105 : Nat) ({ cls := "BorderDesk", name := "isGood", desc := "(I)Z" } : Jvm.MethodName)) ∈ kw_T := kw_p3 49 rfl rfl
theorem kw_530 : (Jvm.Cond.static ({ cls := "BorderDesk", name := "isGood", desc := "(I)Z" } : Jvm.MethodName)) ∈ kw_T := kw_p3 50 rfl rfl
theorem kw_531 : (Jvm.Cond.code ({ cls := "BorderDesk", name := "isGood", desc := "(I)Z" } : Jvm.MethodName) prog_1_method_32_code (1 : Nat) (Option.some Jvm.ClassFile.FieldType.boolean)) ∈ kw_T := kw_p3 51 rfl rfl
theorem kw_532 : (Jvm.Cond.methodLink "BorderDeskLaw" (121 : Nat) ({ cls := "BorderDeskLaw", name := "classify", desc := "(LBorderDesk;I[J)I" } : Jvm.MethodName)) ∈ kw_T := kw_p3 52 rfl rfl
theorem kw_533 : (Jvm.Cond.static ({ cls := "BorderDeskLaw", name := "classify", desc := "(LBorderDesk;I[J)I" } : Jvm.MethodName)) ∈ kw_T := kw_p3 53 rfl rfl
theorem kw_534 : (Jvm.Cond.codeWith ({ cls := "BorderDeskLaw", name := "classify", desc := "(LBorderDesk;I[J)I" } : Jvm.MethodName) method_6_code (4 : Nat) (Option.some Jvm.ClassFile.FieldType.int) [((0 : Nat), (9 : Nat), (12 : Nat), (13 : Nat))]) ∈ kw_T := kw_p3 54 rfl rfl
theorem kw_535 : (Jvm.Cond.methodLink "BorderDeskLaw" (25 : Nat) ({ cls := "BorderDesk", name := "classify", desc := "(I)I" } : Jvm.MethodName)) ∈ kw_T := kw_p3 55 rfl rfl
theorem kw_536 : (Jvm.Cond.instanceMethod ({ cls := "BorderDesk", name := "classify", desc := "(I)I" } : Jvm.MethodName)) ∈ kw_T := kw_p3 56 rfl rfl
theorem kw_537 : (Jvm.Cond.selects "BorderDesk" ({ cls := "BorderDesk", name := "classify", desc := "(I)I" } : Jvm.MethodName) ({ cls := "BorderDesk", name := "classify", desc := "(I)I" } : Jvm.MethodName)) ∈ kw_T := kw_p3 57 rfl rfl
theorem kw_538 : (Jvm.Cond.code ({ cls := "BorderDesk", name := "classify", desc := "(I)I" } : Jvm.MethodName) prog_1_method_5_code (2 : Nat) (Option.some Jvm.ClassFile.FieldType.int)) ∈ kw_T := kw_p3 58 rfl rfl
theorem kw_539 : (Jvm.Cond.methodLink "BorderDesk" (112 : Nat) ({ cls := "BorderDesk$Tariff", name := "classOf", desc := "(I)I" } : Jvm.MethodName)) ∈ kw_T := kw_p3 59 rfl rfl
theorem kw_540 : (Jvm.Cond.instanceMethod ({ cls := "BorderDesk$Tariff", name := "classOf", desc := "(I)I" } : Jvm.MethodName)) ∈ kw_T := kw_p3 60 rfl rfl
theorem kw_541 : (Jvm.Cond.selects "BorderDesk$Tariff" ({ cls := "BorderDesk$Tariff", name := "classOf", desc := "(I)I" } : Jvm.MethodName) ({ cls := "BorderDesk$Tariff", name := "classOf", desc := "(I)I" } : Jvm.MethodName)) ∈ kw_T := kw_p3 61 rfl rfl
theorem kw_542 : (Jvm.Cond.code ({ cls := "BorderDesk$Tariff", name := "classOf", desc := "(I)I" } : Jvm.MethodName) prog_9_method_5_code (4 : Nat) (Option.some Jvm.ClassFile.FieldType.int)) ∈ kw_T := kw_p3 62 rfl rfl
theorem kw_543 : (Jvm.Cond.methodLink "BorderDesk$Tariff" (59 : Nat) ({ cls := "BorderDesk$Tariff", name := "judgeByOwnNotes", desc := "(I)V" } : Jvm.MethodName)) ∈ kw_T := kw_p3 63 rfl rfl
theorem kw_545 : (Jvm.Cond.instanceMethod ({ cls := "BorderDesk$Tariff", name := "judgeByOwnNotes", desc := "(I)V" } : Jvm.MethodName)) ∈ kw_T := kw_p3 65 rfl rfl
theorem kw_546 : (Jvm.Cond.code ({ cls := "BorderDesk$Tariff", name := "judgeByOwnNotes", desc := "(I)V" } : Jvm.MethodName) prog_9_method_6_code (6 : Nat) (Option.none : Option Jvm.ClassFile.FieldType)) ∈ kw_T := kw_p3 66 rfl rfl
theorem kw_547 : (Jvm.Cond.methodLink "BorderDesk$Tariff" (70 : Nat) ({ cls := "BorderDesk$Tariff", name := "greatestMaterial", desc := "(I)I" } : Jvm.MethodName)) ∈ kw_T := kw_p3 67 rfl rfl
theorem kw_549 : (Jvm.Cond.instanceMethod ({ cls := "BorderDesk$Tariff", name := "greatestMaterial", desc := "(I)I" } : Jvm.MethodName)) ∈ kw_T := kw_p3 69 rfl rfl
theorem kw_550 : (Jvm.Cond.code ({ cls := "BorderDesk$Tariff", name := "greatestMaterial", desc := "(I)I" } : Jvm.MethodName) prog_9_method_10_code (4 : Nat) (Option.some Jvm.ClassFile.FieldType.int)) ∈ kw_T := kw_p3 70 rfl rfl
theorem kw_551 : (Jvm.Cond.methodLink "BorderDesk$Tariff" (77 : Nat) ({ cls := "java/lang/Math", name := "max", desc := "(II)I" } : Jvm.MethodName)) ∈ kw_T := kw_p3 71 rfl rfl
theorem kw_552 : (Jvm.Cond.static ({ cls := "java/lang/Math", name := "max", desc := "(II)I" } : Jvm.MethodName)) ∈ kw_T := kw_p3 72 rfl rfl
theorem kw_553 : (Jvm.Cond.code ({ cls := "java/lang/Math", name := "max", desc := "(II)I" } : Jvm.MethodName) prog_16_method_65_code (2 : Nat) (Option.some Jvm.ClassFile.FieldType.int)) ∈ kw_T := kw_p3 73 rfl rfl
theorem kw_554 : (Jvm.Cond.methodLink "BorderDesk$Tariff" (73 : Nat) ({ cls := "BorderDesk$Tariff", name := "holds", desc := "(III)Z" } : Jvm.MethodName)) ∈ kw_T := kw_p3 74 rfl rfl
theorem kw_556 : (Jvm.Cond.instanceMethod ({ cls := "BorderDesk$Tariff", name := "holds", desc := "(III)Z" } : Jvm.MethodName)) ∈ kw_T := kw_p3 76 rfl rfl
theorem kw_557 : (Jvm.Cond.code ({ cls := "BorderDesk$Tariff", name := "holds", desc := "(III)Z" } : Jvm.MethodName) prog_9_method_9_code (4 : Nat) (Option.some Jvm.ClassFile.FieldType.boolean)) ∈ kw_T := kw_p3 77 rfl rfl
theorem kw_558 : (Jvm.Cond.methodLink "BorderDesk$Tariff" (63 : Nat) ({ cls := "BorderDesk$Tariff", name := "inheritFromParent", desc := "(I)V" } : Jvm.MethodName)) ∈ kw_T := kw_p3 78 rfl rfl
theorem kw_560 : (Jvm.Cond.instanceMethod ({ cls := "BorderDesk$Tariff", name := "inheritFromParent", desc := "(I)V" } : Jvm.MethodName)) ∈ kw_T := kw_p3 80 rfl rfl
theorem kw_561 : (Jvm.Cond.code ({ cls := "BorderDesk$Tariff", name := "inheritFromParent", desc := "(I)V" } : Jvm.MethodName) prog_9_method_7_code (3 : Nat) (Option.none : Option Jvm.ClassFile.FieldType)) ∈ kw_T := kw_p3 81 rfl rfl
theorem kw_562 : (Jvm.Cond.methodLink "BorderDesk$Tariff" (66 : Nat) ({ cls := "BorderDesk$Tariff", name := "isAsGood", desc := "(II)Z" } : Jvm.MethodName)) ∈ kw_T := kw_p3 82 rfl rfl
theorem kw_564 : (Jvm.Cond.instanceMethod ({ cls := "BorderDesk$Tariff", name := "isAsGood", desc := "(II)Z" } : Jvm.MethodName)) ∈ kw_T := kw_p3 84 rfl rfl
theorem kw_565 : (Jvm.Cond.code ({ cls := "BorderDesk$Tariff", name := "isAsGood", desc := "(II)Z" } : Jvm.MethodName) prog_9_method_8_code (3 : Nat) (Option.some Jvm.ClassFile.FieldType.boolean)) ∈ kw_T := kw_p3 85 rfl rfl
theorem kw_566 : (Jvm.Cond.methodLink "BorderDeskLaw" (124 : Nat) ({ cls := "BorderDeskLaw", name := "rate", desc := "(LBorderDesk;IIIIIII[J)I" } : Jvm.MethodName)) ∈ kw_T := kw_p3 86 rfl rfl
theorem kw_567 : (Jvm.Cond.static ({ cls := "BorderDeskLaw", name := "rate", desc := "(LBorderDesk;IIIIIII[J)I" } : Jvm.MethodName)) ∈ kw_T := kw_p3 87 rfl rfl
theorem kw_568 : (Jvm.Cond.codeWith ({ cls := "BorderDeskLaw", name := "rate", desc := "(LBorderDesk;IIIIIII[J)I" } : Jvm.MethodName) method_7_code (10 : Nat) (Option.some Jvm.ClassFile.FieldType.int) [((0 : Nat), (20 : Nat), (23 : Nat), (13 : Nat)), ((0 : Nat), (20 : Nat), (27 : Nat), (15 : Nat))]) ∈ kw_T := kw_p3 88 rfl rfl
theorem kw_569 : (Jvm.Cond.methodLink "BorderDeskLaw" (28 : Nat) ({ cls := "BorderDesk", name := "rate", desc := "(IIIIIII)I" } : Jvm.MethodName)) ∈ kw_T := kw_p3 89 rfl rfl
theorem kw_570 : (Jvm.Cond.instanceMethod ({ cls := "BorderDesk", name := "rate", desc := "(IIIIIII)I" } : Jvm.MethodName)) ∈ kw_T := kw_p3 90 rfl rfl
theorem kw_571 : (Jvm.Cond.selects "BorderDesk" ({ cls := "BorderDesk", name := "rate", desc := "(IIIIIII)I" } : Jvm.MethodName) ({ cls := "BorderDesk", name := "rate", desc := "(IIIIIII)I" } : Jvm.MethodName)) ∈ kw_T := kw_p3 91 rfl rfl
theorem kw_572 : (Jvm.Cond.code ({ cls := "BorderDesk", name := "rate", desc := "(IIIIIII)I" } : Jvm.MethodName) prog_1_method_6_code (8 : Nat) (Option.some Jvm.ClassFile.FieldType.int)) ∈ kw_T := kw_p3 92 rfl rfl
theorem kw_573 : (Jvm.Cond.methodLink "BorderDesk" (115 : Nat) ({ cls := "BorderDesk", name := "isLand", desc := "(I)Z" } : Jvm.MethodName)) ∈ kw_T := kw_p3 93 rfl rfl
theorem kw_574 : (Jvm.Cond.static ({ cls := "BorderDesk", name := "isLand", desc := "(I)Z" } : Jvm.MethodName)) ∈ kw_T := kw_p3 94 rfl rfl
theorem kw_575 : (Jvm.Cond.code ({ cls := "BorderDesk", name := "isLand", desc := "(I)Z" } : Jvm.MethodName) prog_1_method_33_code (1 : Nat) (Option.some Jvm.ClassFile.FieldType.boolean)) ∈ kw_T := kw_p3 95 rfl rfl
theorem kw_576 : (Jvm.Cond.methodLink "BorderDesk" (118 : Nat) ({ cls := "BorderDesk", name := "isDay", desc := "(I)Z" } : Jvm.MethodName)) ∈ kw_T := kw_p3 96 rfl rfl
theorem kw_577 : (Jvm.Cond.static ({ cls := "BorderDesk", name := "isDay", desc := "(I)Z" } : Jvm.MethodName)) ∈ kw_T := kw_p3 97 rfl rfl
theorem kw_578 : (Jvm.Cond.code ({ cls := "BorderDesk", name := "isDay", desc := "(I)Z" } : Jvm.MethodName) prog_1_method_34_code (1 : Nat) (Option.some Jvm.ClassFile.FieldType.boolean)) ∈ kw_T := kw_p3 98 rfl rfl
theorem kw_579 : (Jvm.Cond.methodLink "BorderDesk" (124 : Nat) ({ cls := "BorderDesk$Rates", name := "add", desc := "(IIIIIII)I" } : Jvm.MethodName)) ∈ kw_T := kw_p3 99 rfl rfl
theorem kw_580 : (Jvm.Cond.instanceMethod ({ cls := "BorderDesk$Rates", name := "add", desc := "(IIIIIII)I" } : Jvm.MethodName)) ∈ kw_T := kw_p3 100 rfl rfl
theorem kw_581 : (Jvm.Cond.selects "BorderDesk$Rates" ({ cls := "BorderDesk$Rates", name := "add", desc := "(IIIIIII)I" } : Jvm.MethodName) ({ cls := "BorderDesk$Rates", name := "add", desc := "(IIIIIII)I" } : Jvm.MethodName)) ∈ kw_T := kw_p3 101 rfl rfl
theorem kw_582 : (Jvm.Cond.code ({ cls := "BorderDesk$Rates", name := "add", desc := "(IIIIIII)I" } : Jvm.MethodName) prog_8_method_2_code (9 : Nat) (Option.some Jvm.ClassFile.FieldType.int)) ∈ kw_T := kw_p3 102 rfl rfl
theorem kw_583 : (Jvm.Cond.methodLink "BorderDeskLaw" (128 : Nat) ({ cls := "BorderDeskLaw", name := "rateFor", desc := "(LBorderDesk;III[J)I" } : Jvm.MethodName)) ∈ kw_T := kw_p3 103 rfl rfl
theorem kw_584 : (Jvm.Cond.static ({ cls := "BorderDeskLaw", name := "rateFor", desc := "(LBorderDesk;III[J)I" } : Jvm.MethodName)) ∈ kw_T := kw_p3 104 rfl rfl
theorem kw_585 : (Jvm.Cond.codeWith ({ cls := "BorderDeskLaw", name := "rateFor", desc := "(LBorderDesk;III[J)I" } : Jvm.MethodName) method_8_code (6 : Nat) (Option.some Jvm.ClassFile.FieldType.int) [((0 : Nat), (12 : Nat), (15 : Nat), (13 : Nat))]) ∈ kw_T := kw_p3 105 rfl rfl
theorem kw_586 : (Jvm.Cond.methodLink "BorderDeskLaw" (32 : Nat) ({ cls := "BorderDesk", name := "rateFor", desc := "(III)I" } : Jvm.MethodName)) ∈ kw_T := kw_p3 106 rfl rfl
theorem kw_587 : (Jvm.Cond.instanceMethod ({ cls := "BorderDesk", name := "rateFor", desc := "(III)I" } : Jvm.MethodName)) ∈ kw_T := kw_p3 107 rfl rfl
theorem kw_588 : (Jvm.Cond.selects "BorderDesk" ({ cls := "BorderDesk", name := "rateFor", desc := "(III)I" } : Jvm.MethodName) ({ cls := "BorderDesk", name := "rateFor", desc := "(III)I" } : Jvm.MethodName)) ∈ kw_T := kw_p3 108 rfl rfl
theorem kw_589 : (Jvm.Cond.code ({ cls := "BorderDesk", name := "rateFor", desc := "(III)I" } : Jvm.MethodName) prog_1_method_7_code (4 : Nat) (Option.some Jvm.ClassFile.FieldType.int)) ∈ kw_T := kw_p3 109 rfl rfl
theorem kw_590 : (Jvm.Cond.methodLink "BorderDesk" (128 : Nat) ({ cls := "BorderDesk$Rates", name := "find", desc := "(III)I" } : Jvm.MethodName)) ∈ kw_T := kw_p3 110 rfl rfl
theorem kw_591 : (Jvm.Cond.instanceMethod ({ cls := "BorderDesk$Rates", name := "find", desc := "(III)I" } : Jvm.MethodName)) ∈ kw_T := kw_p3 111 rfl rfl
theorem kw_592 : (Jvm.Cond.selects "BorderDesk$Rates" ({ cls := "BorderDesk$Rates", name := "find", desc := "(III)I" } : Jvm.MethodName) ({ cls := "BorderDesk$Rates", name := "find", desc := "(III)I" } : Jvm.MethodName)) ∈ kw_T := kw_p3 112 rfl rfl
theorem kw_593 : (Jvm.Cond.code ({ cls := "BorderDesk$Rates", name := "find", desc := "(III)I" } : Jvm.MethodName) prog_8_method_3_code (7 : Nat) (Option.some Jvm.ClassFile.FieldType.int)) ∈ kw_T := kw_p3 113 rfl rfl
theorem kw_594 : (Jvm.Cond.methodLink "BorderDesk$Rates" (43 : Nat) ({ cls := "BorderDesk$Rates", name := "lastOwn", desc := "(III)I" } : Jvm.MethodName)) ∈ kw_T := kw_p3 114 rfl rfl
theorem kw_596 : (Jvm.Cond.instanceMethod ({ cls := "BorderDesk$Rates", name := "lastOwn", desc := "(III)I" } : Jvm.MethodName)) ∈ kw_T := kw_p3 116 rfl rfl
theorem kw_597 : (Jvm.Cond.code ({ cls := "BorderDesk$Rates", name := "lastOwn", desc := "(III)I" } : Jvm.MethodName) prog_8_method_4_code (5 : Nat) (Option.some Jvm.ClassFile.FieldType.int)) ∈ kw_T := kw_p3 117 rfl rfl
theorem kw_599 : (Jvm.Cond.methodLink "BorderDeskLaw" (131 : Nat) ({ cls := "BorderDeskLaw", name := "quota", desc := "(LBorderDesk;IIIIII[J)I" } : Jvm.MethodName)) ∈ kw_T := kw_p3 119 rfl rfl
theorem kw_600 : (Jvm.Cond.static ({ cls := "BorderDeskLaw", name := "quota", desc := "(LBorderDesk;IIIIII[J)I" } : Jvm.MethodName)) ∈ kw_T := kw_p3 120 rfl rfl
theorem kw_601 : (Jvm.Cond.codeWith ({ cls := "BorderDeskLaw", name := "quota", desc := "(LBorderDesk;IIIIII[J)I" } : Jvm.MethodName) method_9_code (9 : Nat) (Option.some Jvm.ClassFile.FieldType.int) [((0 : Nat), (18 : Nat), (21 : Nat), (13 : Nat)), ((0 : Nat), (18 : Nat), (25 : Nat), (15 : Nat))]) ∈ kw_T := kw_p3 121 rfl rfl
theorem kw_602 : (Jvm.Cond.methodLink "BorderDeskLaw" (35 : Nat) ({ cls := "BorderDesk", name := "quota", desc := "(IIIIII)I" } : Jvm.MethodName)) ∈ kw_T := kw_p3 122 rfl rfl
theorem kw_603 : (Jvm.Cond.instanceMethod ({ cls := "BorderDesk", name := "quota", desc := "(IIIIII)I" } : Jvm.MethodName)) ∈ kw_T := kw_p3 123 rfl rfl
theorem kw_604 : (Jvm.Cond.selects "BorderDesk" ({ cls := "BorderDesk", name := "quota", desc := "(IIIIII)I" } : Jvm.MethodName) ({ cls := "BorderDesk", name := "quota", desc := "(IIIIII)I" } : Jvm.MethodName)) ∈ kw_T := kw_p3 124 rfl rfl
theorem kw_605 : (Jvm.Cond.code ({ cls := "BorderDesk", name := "quota", desc := "(IIIIII)I" } : Jvm.MethodName) prog_1_method_8_code (7 : Nat) (Option.some Jvm.ClassFile.FieldType.int)) ∈ kw_T := kw_p3 125 rfl rfl
theorem kw_606 : (Jvm.Cond.constant "BorderDesk" (132 : Nat) (100000 : Int32)) ∈ kw_T := kw_p3 126 rfl rfl
theorem kw_607 : (Jvm.Cond.methodLink "BorderDesk" (134 : Nat) ({ cls := "BorderDesk$Quotas", name := "add", desc := "(IIIIII)I" } : Jvm.MethodName)) ∈ kw_T := kw_p3 127 rfl rfl
theorem kw_608 : (Jvm.Cond.instanceMethod ({ cls := "BorderDesk$Quotas", name := "add", desc := "(IIIIII)I" } : Jvm.MethodName)) ∈ kw_T := kw_p3 128 rfl rfl
theorem kw_609 : (Jvm.Cond.selects "BorderDesk$Quotas" ({ cls := "BorderDesk$Quotas", name := "add", desc := "(IIIIII)I" } : Jvm.MethodName) ({ cls := "BorderDesk$Quotas", name := "add", desc := "(IIIIII)I" } : Jvm.MethodName)) ∈ kw_T := kw_p3 129 rfl rfl
theorem kw_610 : (Jvm.Cond.code ({ cls := "BorderDesk$Quotas", name := "add", desc := "(IIIIII)I" } : Jvm.MethodName) prog_7_method_2_code (8 : Nat) (Option.some Jvm.ClassFile.FieldType.int)) ∈ kw_T := kw_p3 130 rfl rfl
theorem kw_611 : (Jvm.Cond.methodLink "BorderDeskLaw" (139 : Nat) ({ cls := "BorderDeskLaw", name := "quotaLeft", desc := "(LBorderDesk;I[J)I" } : Jvm.MethodName)) ∈ kw_T := kw_p3 131 rfl rfl
theorem kw_612 : (Jvm.Cond.static ({ cls := "BorderDeskLaw", name := "quotaLeft", desc := "(LBorderDesk;I[J)I" } : Jvm.MethodName)) ∈ kw_T := kw_p3 132 rfl rfl
theorem kw_613 : (Jvm.Cond.codeWith ({ cls := "BorderDeskLaw", name := "quotaLeft", desc := "(LBorderDesk;I[J)I" } : Jvm.MethodName) method_10_code (4 : Nat) (Option.some Jvm.ClassFile.FieldType.int) [((0 : Nat), (9 : Nat), (12 : Nat), (13 : Nat))]) ∈ kw_T := kw_p3 133 rfl rfl
theorem kw_614 : (Jvm.Cond.methodLink "BorderDeskLaw" (39 : Nat) ({ cls := "BorderDesk", name := "quotaLeft", desc := "(I)I" } : Jvm.MethodName)) ∈ kw_T := kw_p3 134 rfl rfl
theorem kw_615 : (Jvm.Cond.instanceMethod ({ cls := "BorderDesk", name := "quotaLeft", desc := "(I)I" } : Jvm.MethodName)) ∈ kw_T := kw_p3 135 rfl rfl
theorem kw_616 : (Jvm.Cond.selects "BorderDesk" ({ cls := "BorderDesk", name := "quotaLeft", desc := "(I)I" } : Jvm.MethodName) ({ cls := "BorderDesk", name := "quotaLeft", desc := "(I)I" } : Jvm.MethodName)) ∈ kw_T := kw_p3 136 rfl rfl
theorem kw_617 : (Jvm.Cond.code ({ cls := "BorderDesk", name := "quotaLeft", desc := "(I)I" } : Jvm.MethodName) prog_1_method_9_code (2 : Nat) (Option.some Jvm.ClassFile.FieldType.int)) ∈ kw_T := kw_p3 137 rfl rfl
theorem kw_618 : (Jvm.Cond.methodLink "BorderDeskLaw" (142 : Nat) ({ cls := "BorderDeskLaw", name := "part", desc := "(LBorderDesk;IIII[J)I" } : Jvm.MethodName)) ∈ kw_T := kw_p3 138 rfl rfl
theorem kw_619 : (Jvm.Cond.static ({ cls := "BorderDeskLaw", name := "part", desc := "(LBorderDesk;IIII[J)I" } : Jvm.MethodName)) ∈ kw_T := kw_p3 139 rfl rfl
theorem kw_620 : (Jvm.Cond.codeWith ({ cls := "BorderDeskLaw", name := "part", desc := "(LBorderDesk;IIII[J)I" } : Jvm.MethodName) method_11_code (7 : Nat) (Option.some Jvm.ClassFile.FieldType.int) [((0 : Nat), (14 : Nat), (17 : Nat), (13 : Nat)), ((0 : Nat), (14 : Nat), (21 : Nat), (15 : Nat))]) ∈ kw_T := kw_p3 140 rfl rfl
theorem kw_621 : (Jvm.Cond.methodLink "BorderDeskLaw" (42 : Nat) ({ cls := "BorderDesk", name := "part", desc := "(IIII)I" } : Jvm.MethodName)) ∈ kw_T := kw_p3 141 rfl rfl
theorem kw_622 : (Jvm.Cond.instanceMethod ({ cls := "BorderDesk", name := "part", desc := "(IIII)I" } : Jvm.MethodName)) ∈ kw_T := kw_p3 142 rfl rfl
theorem kw_623 : (Jvm.Cond.selects "BorderDesk" ({ cls := "BorderDesk", name := "part", desc := "(IIII)I" } : Jvm.MethodName) ({ cls := "BorderDesk", name := "part", desc := "(IIII)I" } : Jvm.MethodName)) ∈ kw_T := kw_p3 143 rfl rfl
theorem kw_624 : (Jvm.Cond.code ({ cls := "BorderDesk", name := "part", desc := "(IIII)I" } : Jvm.MethodName) prog_1_method_10_code (5 : Nat) (Option.some Jvm.ClassFile.FieldType.int)) ∈ kw_T := kw_p3 144 rfl rfl
theorem kw_625 : (Jvm.Cond.constant "BorderDesk" (145 : Nat) (1000000 : Int32)) ∈ kw_T := kw_p3 145 rfl rfl
theorem kw_626 : (Jvm.Cond.methodLink "BorderDesk" (146 : Nat) ({ cls := "BorderDesk$Origins", name := "wouldComeRound", desc := "(II)Z" } : Jvm.MethodName)) ∈ kw_T := kw_p3 146 rfl rfl
theorem kw_627 : (Jvm.Cond.instanceMethod ({ cls := "BorderDesk$Origins", name := "wouldComeRound", desc := "(II)Z" } : Jvm.MethodName)) ∈ kw_T := kw_p3 147 rfl rfl
theorem kw_628 : (Jvm.Cond.selects "BorderDesk$Origins" ({ cls := "BorderDesk$Origins", name := "wouldComeRound", desc := "(II)Z" } : Jvm.MethodName) ({ cls := "BorderDesk$Origins", name := "wouldComeRound", desc := "(II)Z" } : Jvm.MethodName)) ∈ kw_T := kw_p3 148 rfl rfl
theorem kw_629 : (Jvm.Cond.code ({ cls := "BorderDesk$Origins", name := "wouldComeRound", desc := "(II)Z" } : Jvm.MethodName) prog_6_method_2_code (3 : Nat) (Option.some Jvm.ClassFile.FieldType.boolean)) ∈ kw_T := kw_p3 149 rfl rfl
theorem kw_630 : (Jvm.Cond.methodLink "BorderDesk$Origins" (36 : Nat) ({ cls := "BorderDesk$Origins", name := "has", desc := "(II)Z" } : Jvm.MethodName)) ∈ kw_T := kw_p3 150 rfl rfl
theorem kw_631 : (Jvm.Cond.static ({ cls := "BorderDesk$Origins", name := "has", desc := "(II)Z" } : Jvm.MethodName)) ∈ kw_T := kw_p3 151 rfl rfl
theorem kw_632 : (Jvm.Cond.code ({ cls := "BorderDesk$Origins", name := "has", desc := "(II)Z" } : Jvm.MethodName) prog_6_method_9_code (2 : Nat) (Option.some Jvm.ClassFile.FieldType.boolean)) ∈ kw_T := kw_p3 152 rfl rfl
theorem kw_633 : (Jvm.Cond.methodLink "BorderDesk" (152 : Nat) ({ cls := "BorderDesk$Origins", name := "addPart", desc := "(IIII)I" } : Jvm.MethodName)) ∈ kw_T := kw_p3 153 rfl rfl
theorem kw_634 : (Jvm.Cond.instanceMethod ({ cls := "BorderDesk$Origins", name := "addPart", desc := "(IIII)I" } : Jvm.MethodName)) ∈ kw_T := kw_p3 154 rfl rfl
theorem kw_635 : (Jvm.Cond.selects "BorderDesk$Origins" ({ cls := "BorderDesk$Origins", name := "addPart", desc := "(IIII)I" } : Jvm.MethodName) ({ cls := "BorderDesk$Origins", name := "addPart", desc := "(IIII)I" } : Jvm.MethodName)) ∈ kw_T := kw_p3 155 rfl rfl
theorem kw_636 : (Jvm.Cond.code ({ cls := "BorderDesk$Origins", name := "addPart", desc := "(IIII)I" } : Jvm.MethodName) prog_6_method_3_code (8 : Nat) (Option.some Jvm.ClassFile.FieldType.int)) ∈ kw_T := kw_p3 156 rfl rfl
theorem kw_637 : (Jvm.Cond.methodLink "BorderDeskLaw" (145 : Nat) ({ cls := "BorderDeskLaw", name := "zone", desc := "(LBorderDesk;II)I" } : Jvm.MethodName)) ∈ kw_T := kw_p3 157 rfl rfl
theorem kw_638 : (Jvm.Cond.static ({ cls := "BorderDeskLaw", name := "zone", desc := "(LBorderDesk;II)I" } : Jvm.MethodName)) ∈ kw_T := kw_p3 158 rfl rfl
theorem kw_639 : (Jvm.Cond.codeWith ({ cls := "BorderDeskLaw", name := "zone", desc := "(LBorderDesk;II)I" } : Jvm.MethodName) method_12_code (4 : Nat) (Option.some Jvm.ClassFile.FieldType.int) [((0 : Nat), (6 : Nat), (9 : Nat), (13 : Nat))]) ∈ kw_T := kw_p3 159 rfl rfl
theorem kw_640 : (Jvm.Cond.methodLink "BorderDeskLaw" (45 : Nat) ({ cls := "BorderDesk", name := "zone", desc := "(II)V" } : Jvm.MethodName)) ∈ kw_T := kw_p3 160 rfl rfl
theorem kw_641 : (Jvm.Cond.instanceMethod ({ cls := "BorderDesk", name := "zone", desc := "(II)V" } : Jvm.MethodName)) ∈ kw_T := kw_p3 161 rfl rfl
theorem kw_642 : (Jvm.Cond.selects "BorderDesk" ({ cls := "BorderDesk", name := "zone", desc := "(II)V" } : Jvm.MethodName) ({ cls := "BorderDesk", name := "zone", desc := "(II)V" } : Jvm.MethodName)) ∈ kw_T := kw_p3 162 rfl rfl
theorem kw_643 : (Jvm.Cond.code ({ cls := "BorderDesk", name := "zone", desc := "(II)V" } : Jvm.MethodName) prog_1_method_11_code (3 : Nat) (Option.none : Option Jvm.ClassFile.FieldType)) ∈ kw_T := kw_p3 163 rfl rfl
theorem kw_644 : (Jvm.Cond.methodLink "BorderDeskLaw" (149 : Nat) ({ cls := "BorderDeskLaw", name := "rule", desc := "(LBorderDesk;III)I" } : Jvm.MethodName)) ∈ kw_T := kw_p3 164 rfl rfl
theorem kw_645 : (Jvm.Cond.static ({ cls := "BorderDeskLaw", name := "rule", desc := "(LBorderDesk;III)I" } : Jvm.MethodName)) ∈ kw_T := kw_p3 165 rfl rfl
theorem kw_646 : (Jvm.Cond.codeWith ({ cls := "BorderDeskLaw", name := "rule", desc := "(LBorderDesk;III)I" } : Jvm.MethodName) method_13_code (5 : Nat) (Option.some Jvm.ClassFile.FieldType.int) [((0 : Nat), (7 : Nat), (10 : Nat), (13 : Nat))]) ∈ kw_T := kw_p3 166 rfl rfl
theorem kw_647 : (Jvm.Cond.methodLink "BorderDeskLaw" (49 : Nat) ({ cls := "BorderDesk", name := "rule", desc := "(III)V" } : Jvm.MethodName)) ∈ kw_T := kw_p3 167 rfl rfl
theorem kw_648 : (Jvm.Cond.instanceMethod ({ cls := "BorderDesk", name := "rule", desc := "(III)V" } : Jvm.MethodName)) ∈ kw_T := kw_p3 168 rfl rfl
theorem kw_649 : (Jvm.Cond.selects "BorderDesk" ({ cls := "BorderDesk", name := "rule", desc := "(III)V" } : Jvm.MethodName) ({ cls := "BorderDesk", name := "rule", desc := "(III)V" } : Jvm.MethodName)) ∈ kw_T := kw_p3 169 rfl rfl
theorem kw_650 : (Jvm.Cond.code ({ cls := "BorderDesk", name := "rule", desc := "(III)V" } : Jvm.MethodName) prog_1_method_12_code (4 : Nat) (Option.none : Option Jvm.ClassFile.FieldType)) ∈ kw_T := kw_p3 170 rfl rfl
theorem kw_651 : (Jvm.Cond.methodLink "BorderDeskLaw" (153 : Nat) ({ cls := "BorderDeskLaw", name := "madeIn", desc := "(LBorderDesk;II[J)I" } : Jvm.MethodName)) ∈ kw_T := kw_p3 171 rfl rfl
theorem kw_652 : (Jvm.Cond.static ({ cls := "BorderDeskLaw", name := "madeIn", desc := "(LBorderDesk;II[J)I" } : Jvm.MethodName)) ∈ kw_T := kw_p3 172 rfl rfl
theorem kw_653 : (Jvm.Cond.codeWith ({ cls := "BorderDeskLaw", name := "madeIn", desc := "(LBorderDesk;II[J)I" } : Jvm.MethodName) method_14_code (5 : Nat) (Option.some Jvm.ClassFile.FieldType.int) [((0 : Nat), (17 : Nat), (20 : Nat), (13 : Nat))]) ∈ kw_T := kw_p3 173 rfl rfl
theorem kw_654 : (Jvm.Cond.methodLink "BorderDeskLaw" (53 : Nat) ({ cls := "BorderDesk", name := "madeIn", desc := "(II)Z" } : Jvm.MethodName)) ∈ kw_T := kw_p3 174 rfl rfl
theorem kw_655 : (Jvm.Cond.instanceMethod ({ cls := "BorderDesk", name := "madeIn", desc := "(II)Z" } : Jvm.MethodName)) ∈ kw_T := kw_p3 175 rfl rfl
theorem kw_656 : (Jvm.Cond.selects "BorderDesk" ({ cls := "BorderDesk", name := "madeIn", desc := "(II)Z" } : Jvm.MethodName) ({ cls := "BorderDesk", name := "madeIn", desc := "(II)Z" } : Jvm.MethodName)) ∈ kw_T := kw_p3 176 rfl rfl
theorem kw_657 : (Jvm.Cond.code ({ cls := "BorderDesk", name := "madeIn", desc := "(II)Z" } : Jvm.MethodName) prog_1_method_13_code (3 : Nat) (Option.some Jvm.ClassFile.FieldType.boolean)) ∈ kw_T := kw_p3 177 rfl rfl
theorem kw_658 : (Jvm.Cond.methodLink "BorderDesk" (164 : Nat) ({ cls := "BorderDesk$Origins", name := "isMadeIn", desc := "(II)Z" } : Jvm.MethodName)) ∈ kw_T := kw_p3 178 rfl rfl
theorem kw_659 : (Jvm.Cond.instanceMethod ({ cls := "BorderDesk$Origins", name := "isMadeIn", desc := "(II)Z" } : Jvm.MethodName)) ∈ kw_T := kw_p3 179 rfl rfl
theorem kw_660 : (Jvm.Cond.selects "BorderDesk$Origins" ({ cls := "BorderDesk$Origins", name := "isMadeIn", desc := "(II)Z" } : Jvm.MethodName) ({ cls := "BorderDesk$Origins", name := "isMadeIn", desc := "(II)Z" } : Jvm.MethodName)) ∈ kw_T := kw_p3 180 rfl rfl
theorem kw_661 : (Jvm.Cond.code ({ cls := "BorderDesk$Origins", name := "isMadeIn", desc := "(II)Z" } : Jvm.MethodName) prog_6_method_4_code (7 : Nat) (Option.some Jvm.ClassFile.FieldType.boolean)) ∈ kw_T := kw_p3 181 rfl rfl
theorem kw_662 : (Jvm.Cond.methodLink "BorderDesk$Origins" (40 : Nat) ({ cls := "java/lang/Integer", name := "bitCount", desc := "(I)I" } : Jvm.MethodName)) ∈ kw_T := kw_p3 182 rfl rfl
theorem kw_663 : (Jvm.Cond.static ({ cls := "java/lang/Integer", name := "bitCount", desc := "(I)I" } : Jvm.MethodName)) ∈ kw_T := kw_p3 183 rfl rfl
theorem kw_664 : (Jvm.Cond.code ({ cls := "java/lang/Integer", name := "bitCount", desc := "(I)I" } : Jvm.MethodName) prog_15_method_49_code (1 : Nat) (Option.some Jvm.ClassFile.FieldType.int)) ∈ kw_T := kw_p3 184 rfl rfl
theorem kw_665 : (Jvm.Cond.constant "java/lang/Integer" (265 : Nat) (1431655765 : Int32)) ∈ kw_T := kw_p3 185 rfl rfl
theorem kw_666 : (Jvm.Cond.constant "java/lang/Integer" (266 : Nat) (858993459 : Int32)) ∈ kw_T := kw_p3 186 rfl rfl
theorem kw_667 : (Jvm.Cond.constant "java/lang/Integer" (267 : Nat) (252645135 : Int32)) ∈ kw_T := kw_p3 187 rfl rfl
theorem kw_668 : (Jvm.Cond.methodLink "BorderDesk$Origins" (46 : Nat) ({ cls := "BorderDesk$Origins", name := "meetsRule", desc := "(III)Z" } : Jvm.MethodName)) ∈ kw_T := kw_p3 188 rfl rfl
theorem kw_670 : (Jvm.Cond.instanceMethod ({ cls := "BorderDesk$Origins", name := "meetsRule", desc := "(III)Z" } : Jvm.MethodName)) ∈ kw_T := kw_p3 190 rfl rfl
theorem kw_671 : (Jvm.Cond.code ({ cls := "BorderDesk$Origins", name := "meetsRule", desc := "(III)Z" } : Jvm.MethodName) prog_6_method_5_code (6 : Nat) (Option.some Jvm.ClassFile.FieldType.boolean)) ∈ kw_T := kw_p3 191 rfl rfl
theorem kw_672 : (Jvm.Cond.methodLink "BorderDesk$Origins" (50 : Nat) ({ cls := "BorderDesk$Tariff", name := "classOf", desc := "(I)I" } : Jvm.MethodName)) ∈ kw_T := kw_p3 192 rfl rfl
theorem kw_673 : (Jvm.Cond.methodLink "BorderDesk$Origins" (55 : Nat) ({ cls := "BorderDesk$Tariff", name := "headingWithRule", desc := "(I)I" } : Jvm.MethodName)) ∈ kw_T := kw_p3 193 rfl rfl
theorem kw_674 : (Jvm.Cond.instanceMethod ({ cls := "BorderDesk$Tariff", name := "headingWithRule", desc := "(I)I" } : Jvm.MethodName)) ∈ kw_T := kw_p3 194 rfl rfl
theorem kw_675 : (Jvm.Cond.selects "BorderDesk$Tariff" ({ cls := "BorderDesk$Tariff", name := "headingWithRule", desc := "(I)I" } : Jvm.MethodName) ({ cls := "BorderDesk$Tariff", name := "headingWithRule", desc := "(I)I" } : Jvm.MethodName)) ∈ kw_T := kw_p3 195 rfl rfl
theorem kw_676 : (Jvm.Cond.code ({ cls := "BorderDesk$Tariff", name := "headingWithRule", desc := "(I)I" } : Jvm.MethodName) prog_9_method_12_code (4 : Nat) (Option.some Jvm.ClassFile.FieldType.int)) ∈ kw_T := kw_p3 196 rfl rfl
theorem kw_677 : (Jvm.Cond.methodLink "BorderDesk$Origins" (61 : Nat) ({ cls := "BorderDesk$Origins", name := "meetsChange", desc := "(IIII)Z" } : Jvm.MethodName)) ∈ kw_T := kw_p3 197 rfl rfl
theorem kw_679 : (Jvm.Cond.instanceMethod ({ cls := "BorderDesk$Origins", name := "meetsChange", desc := "(IIII)Z" } : Jvm.MethodName)) ∈ kw_T := kw_p3 199 rfl rfl
theorem kw_680 : (Jvm.Cond.code ({ cls := "BorderDesk$Origins", name := "meetsChange", desc := "(IIII)Z" } : Jvm.MethodName) prog_6_method_6_code (6 : Nat) (Option.some Jvm.ClassFile.FieldType.boolean)) ∈ kw_T := kw_p3 200 rfl rfl
theorem kw_681 : (Jvm.Cond.methodLink "BorderDesk$Origins" (71 : Nat) ({ cls := "BorderDesk$Origins", name := "isForeign", desc := "(IIII)Z" } : Jvm.MethodName)) ∈ kw_T := kw_p3 201 rfl rfl
theorem kw_683 : (Jvm.Cond.instanceMethod ({ cls := "BorderDesk$Origins", name := "isForeign", desc := "(IIII)Z" } : Jvm.MethodName)) ∈ kw_T := kw_p3 203 rfl rfl
theorem kw_684 : (Jvm.Cond.code ({ cls := "BorderDesk$Origins", name := "isForeign", desc := "(IIII)Z" } : Jvm.MethodName) prog_6_method_8_code (6 : Nat) (Option.some Jvm.ClassFile.FieldType.boolean)) ∈ kw_T := kw_p3 204 rfl rfl
theorem kw_685 : (Jvm.Cond.methodLink "BorderDesk$Origins" (68 : Nat) ({ cls := "BorderDesk$Origins", name := "meetsShare", desc := "(IIII)Z" } : Jvm.MethodName)) ∈ kw_T := kw_p3 205 rfl rfl
theorem kw_687 : (Jvm.Cond.instanceMethod ({ cls := "BorderDesk$Origins", name := "meetsShare", desc := "(IIII)Z" } : Jvm.MethodName)) ∈ kw_T := kw_p3 207 rfl rfl
theorem kw_688 : (Jvm.Cond.code ({ cls := "BorderDesk$Origins", name := "meetsShare", desc := "(IIII)Z" } : Jvm.MethodName) prog_6_method_7_code (11 : Nat) (Option.some Jvm.ClassFile.FieldType.boolean)) ∈ kw_T := kw_p3 208 rfl rfl
theorem kw_689 : (Jvm.Cond.constantLong "BorderDesk$Origins" (74 : Nat) (1000 : Int64)) ∈ kw_T := kw_p3 209 rfl rfl
theorem kw_690 : (Jvm.Cond.methodLink "BorderDeskLaw" (157 : Nat) ({ cls := "BorderDeskLaw", name := "declare", desc := "(LBorderDesk;II[J)I" } : Jvm.MethodName)) ∈ kw_T := kw_p3 210 rfl rfl
theorem kw_691 : (Jvm.Cond.static ({ cls := "BorderDeskLaw", name := "declare", desc := "(LBorderDesk;II[J)I" } : Jvm.MethodName)) ∈ kw_T := kw_p3 211 rfl rfl
theorem kw_692 : (Jvm.Cond.codeWith ({ cls := "BorderDeskLaw", name := "declare", desc := "(LBorderDesk;II[J)I" } : Jvm.MethodName) method_15_code (5 : Nat) (Option.some Jvm.ClassFile.FieldType.int) [((0 : Nat), (10 : Nat), (13 : Nat), (13 : Nat)), ((0 : Nat), (10 : Nat), (17 : Nat), (15 : Nat))]) ∈ kw_T := kw_p3 212 rfl rfl
theorem kw_693 : (Jvm.Cond.methodLink "BorderDeskLaw" (57 : Nat) ({ cls := "BorderDesk", name := "declare", desc := "(II)I" } : Jvm.MethodName)) ∈ kw_T := kw_p3 213 rfl rfl
theorem kw_694 : (Jvm.Cond.instanceMethod ({ cls := "BorderDesk", name := "declare", desc := "(II)I" } : Jvm.MethodName)) ∈ kw_T := kw_p3 214 rfl rfl
theorem kw_695 : (Jvm.Cond.selects "BorderDesk" ({ cls := "BorderDesk", name := "declare", desc := "(II)I" } : Jvm.MethodName) ({ cls := "BorderDesk", name := "declare", desc := "(II)I" } : Jvm.MethodName)) ∈ kw_T := kw_p3 215 rfl rfl
theorem kw_696 : (Jvm.Cond.code ({ cls := "BorderDesk", name := "declare", desc := "(II)I" } : Jvm.MethodName) prog_1_method_14_code (3 : Nat) (Option.some Jvm.ClassFile.FieldType.int)) ∈ kw_T := kw_p3 216 rfl rfl
theorem kw_697 : (Jvm.Cond.methodLink "BorderDesk" (168 : Nat) ({ cls := "BorderDesk$Declarations", name := "add", desc := "(II)I" } : Jvm.MethodName)) ∈ kw_T := kw_p3 217 rfl rfl
theorem kw_698 : (Jvm.Cond.instanceMethod ({ cls := "BorderDesk$Declarations", name := "add", desc := "(II)I" } : Jvm.MethodName)) ∈ kw_T := kw_p3 218 rfl rfl
theorem kw_699 : (Jvm.Cond.selects "BorderDesk$Declarations" ({ cls := "BorderDesk$Declarations", name := "add", desc := "(II)I" } : Jvm.MethodName) ({ cls := "BorderDesk$Declarations", name := "add", desc := "(II)I" } : Jvm.MethodName)) ∈ kw_T := kw_p3 219 rfl rfl
theorem kw_700 : (Jvm.Cond.code ({ cls := "BorderDesk$Declarations", name := "add", desc := "(II)I" } : Jvm.MethodName) prog_3_method_4_code (4 : Nat) (Option.some Jvm.ClassFile.FieldType.int)) ∈ kw_T := kw_p3 220 rfl rfl
theorem kw_701 : (Jvm.Cond.methodLink "BorderDeskLaw" (160 : Nat) ({ cls := "BorderDeskLaw", name := "line", desc := "(LBorderDesk;IIIIIIZ[J)I" } : Jvm.MethodName)) ∈ kw_T := kw_p3 221 rfl rfl
theorem kw_702 : (Jvm.Cond.static ({ cls := "BorderDeskLaw", name := "line", desc := "(LBorderDesk;IIIIIIZ[J)I" } : Jvm.MethodName)) ∈ kw_T := kw_p3 222 rfl rfl
theorem kw_703 : (Jvm.Cond.codeWith ({ cls := "BorderDeskLaw", name := "line", desc := "(LBorderDesk;IIIIIIZ[J)I" } : Jvm.MethodName) method_16_code (10 : Nat) (Option.some Jvm.ClassFile.FieldType.int) [((0 : Nat), (20 : Nat), (23 : Nat), (13 : Nat)), ((0 : Nat), (20 : Nat), (27 : Nat), (15 : Nat))]) ∈ kw_T := kw_p3 223 rfl rfl
theorem kw_704 : (Jvm.Cond.methodLink "BorderDeskLaw" (61 : Nat) ({ cls := "BorderDesk", name := "line", desc := "(IIIIIIZ)I" } : Jvm.MethodName)) ∈ kw_T := kw_p3 224 rfl rfl
theorem kw_705 : (Jvm.Cond.instanceMethod ({ cls := "BorderDesk", name := "line", desc := "(IIIIIIZ)I" } : Jvm.MethodName)) ∈ kw_T := kw_p3 225 rfl rfl
theorem kw_706 : (Jvm.Cond.selects "BorderDesk" ({ cls := "BorderDesk", name := "line", desc := "(IIIIIIZ)I" } : Jvm.MethodName) ({ cls := "BorderDesk", name := "line", desc := "(IIIIIIZ)I" } : Jvm.MethodName)) ∈ kw_T := kw_p3 226 rfl rfl
theorem kw_707 : (Jvm.Cond.code ({ cls := "BorderDesk", name := "line", desc := "(IIIIIIZ)I" } : Jvm.MethodName) prog_1_method_15_code (8 : Nat) (Option.some Jvm.ClassFile.FieldType.int)) ∈ kw_T := kw_p3 227 rfl rfl
theorem kw_708 : (Jvm.Cond.methodLink "BorderDesk" (171 : Nat) ({ cls := "BorderDesk", name := "isDeclaration", desc := "(I)Z" } : Jvm.MethodName)) ∈ kw_T := kw_p3 228 rfl rfl
theorem kw_710 : (Jvm.Cond.instanceMethod ({ cls := "BorderDesk", name := "isDeclaration", desc := "(I)Z" } : Jvm.MethodName)) ∈ kw_T := kw_p3 230 rfl rfl
theorem kw_711 : (Jvm.Cond.code ({ cls := "BorderDesk", name := "isDeclaration", desc := "(I)Z" } : Jvm.MethodName) prog_1_method_30_code (2 : Nat) (Option.some Jvm.ClassFile.FieldType.boolean)) ∈ kw_T := kw_p3 231 rfl rfl
theorem kw_712 : (Jvm.Cond.methodLink "BorderDesk" (174 : Nat) ({ cls := "BorderDesk$Declarations", name := "isInBounds", desc := "(II)Z" } : Jvm.MethodName)) ∈ kw_T := kw_p3 232 rfl rfl
theorem kw_713 : (Jvm.Cond.static ({ cls := "BorderDesk$Declarations", name := "isInBounds", desc := "(II)Z" } : Jvm.MethodName)) ∈ kw_T := kw_p3 233 rfl rfl
theorem kw_714 : (Jvm.Cond.code ({ cls := "BorderDesk$Declarations", name := "isInBounds", desc := "(II)Z" } : Jvm.MethodName) prog_3_method_3_code (2 : Nat) (Option.some Jvm.ClassFile.FieldType.boolean)) ∈ kw_T := kw_p3 234 rfl rfl
theorem kw_716 : (Jvm.Cond.constant "BorderDesk$Declarations" (65 : Nat) (1000000 : Int32)) ∈ kw_T := kw_p3 236 rfl rfl
theorem kw_717 : (Jvm.Cond.constant "BorderDesk$Declarations" (66 : Nat) (100000000 : Int32)) ∈ kw_T := kw_p3 237 rfl rfl
theorem kw_718 : (Jvm.Cond.methodLink "BorderDesk" (184 : Nat) ({ cls := "BorderDesk$Declarations", name := "addLine", desc := "(IIIIIIZ)I" } : Jvm.MethodName)) ∈ kw_T := kw_p3 238 rfl rfl
theorem kw_719 : (Jvm.Cond.instanceMethod ({ cls := "BorderDesk$Declarations", name := "addLine", desc := "(IIIIIIZ)I" } : Jvm.MethodName)) ∈ kw_T := kw_p3 239 rfl rfl
theorem kw_720 : (Jvm.Cond.selects "BorderDesk$Declarations" ({ cls := "BorderDesk$Declarations", name := "addLine", desc := "(IIIIIIZ)I" } : Jvm.MethodName) ({ cls := "BorderDesk$Declarations", name := "addLine", desc := "(IIIIIIZ)I" } : Jvm.MethodName)) ∈ kw_T := kw_p4 0 rfl rfl
theorem kw_721 : (Jvm.Cond.code ({ cls := "BorderDesk$Declarations", name := "addLine", desc := "(IIIIIIZ)I" } : Jvm.MethodName) prog_3_method_5_code (10 : Nat) (Option.some Jvm.ClassFile.FieldType.int)) ∈ kw_T := kw_p4 1 rfl rfl
theorem kw_722 : (Jvm.Cond.methodLink "BorderDesk$Declarations" (71 : Nat) ({ cls := "BorderDesk$Declarations", name := "rowOf", desc := "(II)I" } : Jvm.MethodName)) ∈ kw_T := kw_p4 2 rfl rfl
theorem kw_723 : (Jvm.Cond.static ({ cls := "BorderDesk$Declarations", name := "rowOf", desc := "(II)I" } : Jvm.MethodName)) ∈ kw_T := kw_p4 3 rfl rfl
theorem kw_724 : (Jvm.Cond.code ({ cls := "BorderDesk$Declarations", name := "rowOf", desc := "(II)I" } : Jvm.MethodName) prog_3_method_2_code (2 : Nat) (Option.some Jvm.ClassFile.FieldType.int)) ∈ kw_T := kw_p4 4 rfl rfl
theorem kw_725 : (Jvm.Cond.methodLink "BorderDeskLaw" (164 : Nat) ({ cls := "BorderDeskLaw", name := "charge", desc := "(LBorderDesk;III)I" } : Jvm.MethodName)) ∈ kw_T := kw_p4 5 rfl rfl
theorem kw_726 : (Jvm.Cond.static ({ cls := "BorderDeskLaw", name := "charge", desc := "(LBorderDesk;III)I" } : Jvm.MethodName)) ∈ kw_T := kw_p4 6 rfl rfl
theorem kw_727 : (Jvm.Cond.codeWith ({ cls := "BorderDeskLaw", name := "charge", desc := "(LBorderDesk;III)I" } : Jvm.MethodName) method_17_code (5 : Nat) (Option.some Jvm.ClassFile.FieldType.int) [((0 : Nat), (7 : Nat), (10 : Nat), (13 : Nat)), ((0 : Nat), (7 : Nat), (14 : Nat), (15 : Nat))]) ∈ kw_T := kw_p4 7 rfl rfl
theorem kw_728 : (Jvm.Cond.methodLink "BorderDeskLaw" (65 : Nat) ({ cls := "BorderDesk", name := "charge", desc := "(III)V" } : Jvm.MethodName)) ∈ kw_T := kw_p4 8 rfl rfl
theorem kw_729 : (Jvm.Cond.instanceMethod ({ cls := "BorderDesk", name := "charge", desc := "(III)V" } : Jvm.MethodName)) ∈ kw_T := kw_p4 9 rfl rfl
theorem kw_730 : (Jvm.Cond.selects "BorderDesk" ({ cls := "BorderDesk", name := "charge", desc := "(III)V" } : Jvm.MethodName) ({ cls := "BorderDesk", name := "charge", desc := "(III)V" } : Jvm.MethodName)) ∈ kw_T := kw_p4 10 rfl rfl
theorem kw_731 : (Jvm.Cond.code ({ cls := "BorderDesk", name := "charge", desc := "(III)V" } : Jvm.MethodName) prog_1_method_16_code (4 : Nat) (Option.none : Option Jvm.ClassFile.FieldType)) ∈ kw_T := kw_p4 11 rfl rfl
theorem kw_732 : (Jvm.Cond.constant "BorderDesk" (188 : Nat) (10000000 : Int32)) ∈ kw_T := kw_p4 12 rfl rfl
theorem kw_733 : (Jvm.Cond.methodLink "BorderDeskLaw" (167 : Nat) ({ cls := "BorderDeskLaw", name := "lineOf", desc := "(LBorderDesk;III[J)I" } : Jvm.MethodName)) ∈ kw_T := kw_p4 13 rfl rfl
theorem kw_734 : (Jvm.Cond.static ({ cls := "BorderDeskLaw", name := "lineOf", desc := "(LBorderDesk;III[J)I" } : Jvm.MethodName)) ∈ kw_T := kw_p4 14 rfl rfl
theorem kw_735 : (Jvm.Cond.codeWith ({ cls := "BorderDeskLaw", name := "lineOf", desc := "(LBorderDesk;III[J)I" } : Jvm.MethodName) method_18_code (6 : Nat) (Option.some Jvm.ClassFile.FieldType.int) [((0 : Nat), (11 : Nat), (14 : Nat), (13 : Nat)), ((0 : Nat), (11 : Nat), (18 : Nat), (72 : Nat))]) ∈ kw_T := kw_p4 15 rfl rfl
theorem kw_736 : (Jvm.Cond.classLink "BorderDeskLaw" (72 : Nat) "java/util/NoSuchElementException") ∈ kw_T := kw_p4 16 rfl rfl
theorem kw_737 : (Jvm.Cond.methodLink "BorderDeskLaw" (68 : Nat) ({ cls := "BorderDesk", name := "lineOf", desc := "(III)J" } : Jvm.MethodName)) ∈ kw_T := kw_p4 17 rfl rfl
theorem kw_738 : (Jvm.Cond.instanceMethod ({ cls := "BorderDesk", name := "lineOf", desc := "(III)J" } : Jvm.MethodName)) ∈ kw_T := kw_p4 18 rfl rfl
theorem kw_739 : (Jvm.Cond.selects "BorderDesk" ({ cls := "BorderDesk", name := "lineOf", desc := "(III)J" } : Jvm.MethodName) ({ cls := "BorderDesk", name := "lineOf", desc := "(III)J" } : Jvm.MethodName)) ∈ kw_T := kw_p4 19 rfl rfl
theorem kw_740 : (Jvm.Cond.code ({ cls := "BorderDesk", name := "lineOf", desc := "(III)J" } : Jvm.MethodName) prog_1_method_17_code (5 : Nat) (Option.some Jvm.ClassFile.FieldType.long)) ∈ kw_T := kw_p4 20 rfl rfl
theorem kw_741 : (Jvm.Cond.methodLink "BorderDesk" (192 : Nat) ({ cls := "BorderDesk", name := "isLine", desc := "(II)Z" } : Jvm.MethodName)) ∈ kw_T := kw_p4 21 rfl rfl
theorem kw_743 : (Jvm.Cond.instanceMethod ({ cls := "BorderDesk", name := "isLine", desc := "(II)Z" } : Jvm.MethodName)) ∈ kw_T := kw_p4 23 rfl rfl
theorem kw_744 : (Jvm.Cond.code ({ cls := "BorderDesk", name := "isLine", desc := "(II)Z" } : Jvm.MethodName) prog_1_method_31_code (3 : Nat) (Option.some Jvm.ClassFile.FieldType.boolean)) ∈ kw_T := kw_p4 24 rfl rfl
theorem kw_745 : (Jvm.Cond.methodLink "BorderDesk" (195 : Nat) ({ cls := "BorderDesk$Assessor", name := "valueOf", desc := "(II)J" } : Jvm.MethodName)) ∈ kw_T := kw_p4 25 rfl rfl
theorem kw_746 : (Jvm.Cond.instanceMethod ({ cls := "BorderDesk$Assessor", name := "valueOf", desc := "(II)J" } : Jvm.MethodName)) ∈ kw_T := kw_p4 26 rfl rfl
theorem kw_747 : (Jvm.Cond.selects "BorderDesk$Assessor" ({ cls := "BorderDesk$Assessor", name := "valueOf", desc := "(II)J" } : Jvm.MethodName) ({ cls := "BorderDesk$Assessor", name := "valueOf", desc := "(II)J" } : Jvm.MethodName)) ∈ kw_T := kw_p4 27 rfl rfl
theorem kw_748 : (Jvm.Cond.code ({ cls := "BorderDesk$Assessor", name := "valueOf", desc := "(II)J" } : Jvm.MethodName) prog_2_method_6_code (3 : Nat) (Option.some Jvm.ClassFile.FieldType.long)) ∈ kw_T := kw_p4 28 rfl rfl
theorem kw_749 : (Jvm.Cond.methodLink "BorderDesk$Assessor" (116 : Nat) ({ cls := "BorderDesk$Assessor", name := "findValues", desc := "(I)V" } : Jvm.MethodName)) ∈ kw_T := kw_p4 29 rfl rfl
theorem kw_751 : (Jvm.Cond.instanceMethod ({ cls := "BorderDesk$Assessor", name := "findValues", desc := "(I)V" } : Jvm.MethodName)) ∈ kw_T := kw_p4 31 rfl rfl
theorem kw_752 : (Jvm.Cond.code ({ cls := "BorderDesk$Assessor", name := "findValues", desc := "(I)V" } : Jvm.MethodName) prog_2_method_13_code (3 : Nat) (Option.none : Option Jvm.ClassFile.FieldType)) ∈ kw_T := kw_p4 32 rfl rfl
theorem kw_753 : (Jvm.Cond.methodLink "BorderDesk$Assessor" (63 : Nat) ({ cls := "BorderDesk$Declarations", name := "rowOf", desc := "(II)I" } : Jvm.MethodName)) ∈ kw_T := kw_p4 33 rfl rfl
theorem kw_754 : (Jvm.Cond.methodLink "BorderDesk$Assessor" (149 : Nat) ({ cls := "BorderDesk$Assessor", name := "spread", desc := "(II[I)V" } : Jvm.MethodName)) ∈ kw_T := kw_p4 34 rfl rfl
theorem kw_756 : (Jvm.Cond.instanceMethod ({ cls := "BorderDesk$Assessor", name := "spread", desc := "(II[I)V" } : Jvm.MethodName)) ∈ kw_T := kw_p4 36 rfl rfl
theorem kw_757 : (Jvm.Cond.code ({ cls := "BorderDesk$Assessor", name := "spread", desc := "(II[I)V" } : Jvm.MethodName) prog_2_method_14_code (14 : Nat) (Option.none : Option Jvm.ClassFile.FieldType)) ∈ kw_T := kw_p4 37 rfl rfl
theorem kw_758 : (Jvm.Cond.methodLink "BorderDesk$Assessor" (157 : Nat) ({ cls := "BorderDesk$Assessor", name := "findWeights", desc := "(I[I)J" } : Jvm.MethodName)) ∈ kw_T := kw_p4 38 rfl rfl
theorem kw_760 : (Jvm.Cond.instanceMethod ({ cls := "BorderDesk$Assessor", name := "findWeights", desc := "(I[I)J" } : Jvm.MethodName)) ∈ kw_T := kw_p4 40 rfl rfl
theorem kw_761 : (Jvm.Cond.code ({ cls := "BorderDesk$Assessor", name := "findWeights", desc := "(I[I)J" } : Jvm.MethodName) prog_2_method_15_code (7 : Nat) (Option.some Jvm.ClassFile.FieldType.long)) ∈ kw_T := kw_p4 41 rfl rfl
theorem kw_762 : (Jvm.Cond.methodLink "BorderDesk$Assessor" (161 : Nat) ({ cls := "BorderDesk$Assessor", name := "greatestRemainder", desc := "(I)I" } : Jvm.MethodName)) ∈ kw_T := kw_p4 42 rfl rfl
theorem kw_764 : (Jvm.Cond.instanceMethod ({ cls := "BorderDesk$Assessor", name := "greatestRemainder", desc := "(I)I" } : Jvm.MethodName)) ∈ kw_T := kw_p4 44 rfl rfl
theorem kw_765 : (Jvm.Cond.code ({ cls := "BorderDesk$Assessor", name := "greatestRemainder", desc := "(I)I" } : Jvm.MethodName) prog_2_method_16_code (4 : Nat) (Option.some Jvm.ClassFile.FieldType.int)) ∈ kw_T := kw_p4 45 rfl rfl
theorem kw_766 : (Jvm.Cond.constantLong "BorderDesk$Assessor" (164 : Nat) (-1 : Int64)) ∈ kw_T := kw_p4 46 rfl rfl
theorem kw_767 : (Jvm.Cond.methodLink "BorderDesk" (199 : Nat) ({ cls := "BorderDesk$Declarations", name := "rowOf", desc := "(II)I" } : Jvm.MethodName)) ∈ kw_T := kw_p4 47 rfl rfl
theorem kw_768 : (Jvm.Cond.methodLink "BorderDesk" (209 : Nat) ({ cls := "BorderDesk$Assessor", name := "canAssess", desc := "(I)Z" } : Jvm.MethodName)) ∈ kw_T := kw_p4 48 rfl rfl
theorem kw_769 : (Jvm.Cond.instanceMethod ({ cls := "BorderDesk$Assessor", name := "canAssess", desc := "(I)Z" } : Jvm.MethodName)) ∈ kw_T := kw_p4 49 rfl rfl
theorem kw_770 : (Jvm.Cond.selects "BorderDesk$Assessor" ({ cls := "BorderDesk$Assessor", name := "canAssess", desc := "(I)Z" } : Jvm.MethodName) ({ cls := "BorderDesk$Assessor", name := "canAssess", desc := "(I)Z" } : Jvm.MethodName)) ∈ kw_T := kw_p4 50 rfl rfl
theorem kw_771 : (Jvm.Cond.code ({ cls := "BorderDesk$Assessor", name := "canAssess", desc := "(I)Z" } : Jvm.MethodName) prog_2_method_2_code (8 : Nat) (Option.some Jvm.ClassFile.FieldType.boolean)) ∈ kw_T := kw_p4 51 rfl rfl
theorem kw_772 : (Jvm.Cond.methodLink "BorderDesk$Assessor" (73 : Nat) ({ cls := "BorderDesk$Tariff", name := "classOf", desc := "(I)I" } : Jvm.MethodName)) ∈ kw_T := kw_p4 52 rfl rfl
theorem kw_773 : (Jvm.Cond.methodLink "BorderDesk$Assessor" (79 : Nat) ({ cls := "BorderDesk$Rates", name := "find", desc := "(III)I" } : Jvm.MethodName)) ∈ kw_T := kw_p4 53 rfl rfl
theorem kw_774 : (Jvm.Cond.methodLink "BorderDesk$Assessor" (85 : Nat) ({ cls := "BorderDesk$Quotas", name := "find", desc := "(III)I" } : Jvm.MethodName)) ∈ kw_T := kw_p4 54 rfl rfl
theorem kw_775 : (Jvm.Cond.instanceMethod ({ cls := "BorderDesk$Quotas", name := "find", desc := "(III)I" } : Jvm.MethodName)) ∈ kw_T := kw_p4 55 rfl rfl
theorem kw_776 : (Jvm.Cond.selects "BorderDesk$Quotas" ({ cls := "BorderDesk$Quotas", name := "find", desc := "(III)I" } : Jvm.MethodName) ({ cls := "BorderDesk$Quotas", name := "find", desc := "(III)I" } : Jvm.MethodName)) ∈ kw_T := kw_p4 56 rfl rfl
theorem kw_777 : (Jvm.Cond.code ({ cls := "BorderDesk$Quotas", name := "find", desc := "(III)I" } : Jvm.MethodName) prog_7_method_3_code (5 : Nat) (Option.some Jvm.ClassFile.FieldType.int)) ∈ kw_T := kw_p4 57 rfl rfl
theorem kw_779 : (Jvm.Cond.methodLink "BorderDesk$Quotas" (42 : Nat) ({ cls := "BorderDesk$Tariff", name := "isSameOrAbove", desc := "(II)Z" } : Jvm.MethodName)) ∈ kw_T := kw_p4 59 rfl rfl
theorem kw_780 : (Jvm.Cond.instanceMethod ({ cls := "BorderDesk$Tariff", name := "isSameOrAbove", desc := "(II)Z" } : Jvm.MethodName)) ∈ kw_T := kw_p4 60 rfl rfl
theorem kw_781 : (Jvm.Cond.selects "BorderDesk$Tariff" ({ cls := "BorderDesk$Tariff", name := "isSameOrAbove", desc := "(II)Z" } : Jvm.MethodName) ({ cls := "BorderDesk$Tariff", name := "isSameOrAbove", desc := "(II)Z" } : Jvm.MethodName)) ∈ kw_T := kw_p4 61 rfl rfl
theorem kw_782 : (Jvm.Cond.code ({ cls := "BorderDesk$Tariff", name := "isSameOrAbove", desc := "(II)Z" } : Jvm.MethodName) prog_9_method_11_code (5 : Nat) (Option.some Jvm.ClassFile.FieldType.boolean)) ∈ kw_T := kw_p4 62 rfl rfl
theorem kw_783 : (Jvm.Cond.methodLink "BorderDesk" (212 : Nat) ({ cls := "BorderDesk", name := "requireElement", desc := "(Z)V" } : Jvm.MethodName)) ∈ kw_T := kw_p4 63 rfl rfl
theorem kw_784 : (Jvm.Cond.static ({ cls := "BorderDesk", name := "requireElement", desc := "(Z)V" } : Jvm.MethodName)) ∈ kw_T := kw_p4 64 rfl rfl
theorem kw_785 : (Jvm.Cond.code ({ cls := "BorderDesk", name := "requireElement", desc := "(Z)V" } : Jvm.MethodName) prog_1_method_40_code (1 : Nat) (Option.none : Option Jvm.ClassFile.FieldType)) ∈ kw_T := kw_p4 65 rfl rfl
theorem kw_786 : (Jvm.Cond.classLink "BorderDesk" (306 : Nat) "java/util/NoSuchElementException") ∈ kw_T := kw_p4 66 rfl rfl
theorem kw_801 : (Jvm.Cond.methodLink "BorderDesk" (215 : Nat) ({ cls := "BorderDesk$Assessor", name := "assess", desc := "(I)V" } : Jvm.MethodName)) ∈ kw_T := kw_p4 81 rfl rfl
theorem kw_802 : (Jvm.Cond.instanceMethod ({ cls := "BorderDesk$Assessor", name := "assess", desc := "(I)V" } : Jvm.MethodName)) ∈ kw_T := kw_p4 82 rfl rfl
theorem kw_803 : (Jvm.Cond.selects "BorderDesk$Assessor" ({ cls := "BorderDesk$Assessor", name := "assess", desc := "(I)V" } : Jvm.MethodName) ({ cls := "BorderDesk$Assessor", name := "assess", desc := "(I)V" } : Jvm.MethodName)) ∈ kw_T := kw_p4 83 rfl rfl
theorem kw_804 : (Jvm.Cond.code ({ cls := "BorderDesk$Assessor", name := "assess", desc := "(I)V" } : Jvm.MethodName) prog_2_method_3_code (3 : Nat) (Option.none : Option Jvm.ClassFile.FieldType)) ∈ kw_T := kw_p4 84 rfl rfl
theorem kw_805 : (Jvm.Cond.methodLink "BorderDesk$Assessor" (86 : Nat) ({ cls := "BorderDesk$Assessor", name := "copyQuotasLeft", desc := "()V" } : Jvm.MethodName)) ∈ kw_T := kw_p4 85 rfl rfl
theorem kw_807 : (Jvm.Cond.instanceMethod ({ cls := "BorderDesk$Assessor", name := "copyQuotasLeft", desc := "()V" } : Jvm.MethodName)) ∈ kw_T := kw_p4 87 rfl rfl
theorem kw_808 : (Jvm.Cond.code ({ cls := "BorderDesk$Assessor", name := "copyQuotasLeft", desc := "()V" } : Jvm.MethodName) prog_2_method_7_code (1 : Nat) (Option.none : Option Jvm.ClassFile.FieldType)) ∈ kw_T := kw_p4 88 rfl rfl
theorem kw_809 : (Jvm.Cond.methodLink "BorderDesk$Assessor" (110 : Nat) ({ cls := "java/lang/System", name := "arraycopy", desc := "(Ljava/lang/Object;ILjava/lang/Object;II)V" } : Jvm.MethodName)) ∈ kw_T := kw_p4 89 rfl rfl
theorem kw_810 : (Jvm.Cond.static ({ cls := "java/lang/System", name := "arraycopy", desc := "(Ljava/lang/Object;ILjava/lang/Object;II)V" } : Jvm.MethodName)) ∈ kw_T := kw_p4 90 rfl rfl
theorem kw_811 : (Jvm.Cond.native ({ cls := "java/lang/System", name := "arraycopy", desc := "(Ljava/lang/Object;ILjava/lang/Object;II)V" } : Jvm.MethodName)) ∈ kw_T := kw_p4 91 rfl rfl
theorem kw_812 : (Jvm.Cond.methodLink "BorderDesk$Assessor" (92 : Nat) ({ cls := "BorderDesk$Assessor", name := "takeMore", desc := "(II)V" } : Jvm.MethodName)) ∈ kw_T := kw_p4 92 rfl rfl
theorem kw_814 : (Jvm.Cond.instanceMethod ({ cls := "BorderDesk$Assessor", name := "takeMore", desc := "(II)V" } : Jvm.MethodName)) ∈ kw_T := kw_p4 94 rfl rfl
theorem kw_815 : (Jvm.Cond.code ({ cls := "BorderDesk$Assessor", name := "takeMore", desc := "(II)V" } : Jvm.MethodName) prog_2_method_8_code (5 : Nat) (Option.none : Option Jvm.ClassFile.FieldType)) ∈ kw_T := kw_p4 95 rfl rfl
theorem kw_816 : (Jvm.Cond.methodLink "BorderDesk$Assessor" (119 : Nat) ({ cls := "java/lang/Math", name := "min", desc := "(II)I" } : Jvm.MethodName)) ∈ kw_T := kw_p4 96 rfl rfl
theorem kw_817 : (Jvm.Cond.static ({ cls := "java/lang/Math", name := "min", desc := "(II)I" } : Jvm.MethodName)) ∈ kw_T := kw_p4 97 rfl rfl
theorem kw_818 : (Jvm.Cond.code ({ cls := "java/lang/Math", name := "min", desc := "(II)I" } : Jvm.MethodName) prog_16_method_69_code (2 : Nat) (Option.some Jvm.ClassFile.FieldType.int)) ∈ kw_T := kw_p4 98 rfl rfl
theorem kw_819 : (Jvm.Cond.methodLink "BorderDesk$Assessor" (96 : Nat) ({ cls := "BorderDesk$Assessor", name := "findDuties", desc := "(I)V" } : Jvm.MethodName)) ∈ kw_T := kw_p4 99 rfl rfl
theorem kw_821 : (Jvm.Cond.instanceMethod ({ cls := "BorderDesk$Assessor", name := "findDuties", desc := "(I)V" } : Jvm.MethodName)) ∈ kw_T := kw_p4 101 rfl rfl
theorem kw_822 : (Jvm.Cond.code ({ cls := "BorderDesk$Assessor", name := "findDuties", desc := "(I)V" } : Jvm.MethodName) prog_2_method_10_code (3 : Nat) (Option.none : Option Jvm.ClassFile.FieldType)) ∈ kw_T := kw_p4 102 rfl rfl
theorem kw_823 : (Jvm.Cond.methodLink "BorderDesk$Assessor" (124 : Nat) ({ cls := "BorderDesk$Assessor", name := "dutyOf", desc := "(II)J" } : Jvm.MethodName)) ∈ kw_T := kw_p4 103 rfl rfl
theorem kw_825 : (Jvm.Cond.instanceMethod ({ cls := "BorderDesk$Assessor", name := "dutyOf", desc := "(II)J" } : Jvm.MethodName)) ∈ kw_T := kw_p4 105 rfl rfl
theorem kw_826 : (Jvm.Cond.code ({ cls := "BorderDesk$Assessor", name := "dutyOf", desc := "(II)J" } : Jvm.MethodName) prog_2_method_11_code (12 : Nat) (Option.some Jvm.ClassFile.FieldType.long)) ∈ kw_T := kw_p4 106 rfl rfl
theorem kw_827 : (Jvm.Cond.methodLink "BorderDesk$Assessor" (131 : Nat) ({ cls := "BorderDesk$Rates", name := "exactDuty", desc := "(IJJ)J" } : Jvm.MethodName)) ∈ kw_T := kw_p4 107 rfl rfl
theorem kw_828 : (Jvm.Cond.instanceMethod ({ cls := "BorderDesk$Rates", name := "exactDuty", desc := "(IJJ)J" } : Jvm.MethodName)) ∈ kw_T := kw_p4 108 rfl rfl
theorem kw_829 : (Jvm.Cond.selects "BorderDesk$Rates" ({ cls := "BorderDesk$Rates", name := "exactDuty", desc := "(IJJ)J" } : Jvm.MethodName) ({ cls := "BorderDesk$Rates", name := "exactDuty", desc := "(IJJ)J" } : Jvm.MethodName)) ∈ kw_T := kw_p4 109 rfl rfl
theorem kw_830 : (Jvm.Cond.code ({ cls := "BorderDesk$Rates", name := "exactDuty", desc := "(IJJ)J" } : Jvm.MethodName) prog_8_method_5_code (10 : Nat) (Option.some Jvm.ClassFile.FieldType.long)) ∈ kw_T := kw_p4 110 rfl rfl
theorem kw_831 : (Jvm.Cond.constantLong "BorderDesk$Rates" (54 : Nat) (10000 : Int64)) ∈ kw_T := kw_p4 111 rfl rfl
theorem kw_832 : (Jvm.Cond.methodLink "BorderDesk$Rates" (56 : Nat) ({ cls := "java/lang/Math", name := "max", desc := "(JJ)J" } : Jvm.MethodName)) ∈ kw_T := kw_p4 112 rfl rfl
theorem kw_833 : (Jvm.Cond.static ({ cls := "java/lang/Math", name := "max", desc := "(JJ)J" } : Jvm.MethodName)) ∈ kw_T := kw_p4 113 rfl rfl
theorem kw_834 : (Jvm.Cond.code ({ cls := "java/lang/Math", name := "max", desc := "(JJ)J" } : Jvm.MethodName) prog_16_method_66_code (4 : Nat) (Option.some Jvm.ClassFile.FieldType.long)) ∈ kw_T := kw_p4 114 rfl rfl
theorem kw_835 : (Jvm.Cond.constantLong "BorderDesk$Assessor" (138 : Nat) (10000 : Int64)) ∈ kw_T := kw_p4 115 rfl rfl
theorem kw_836 : (Jvm.Cond.methodLink "BorderDesk$Assessor" (140 : Nat) ({ cls := "BorderDesk$Assessor", name := "roundHalvesUp", desc := "(JJ)J" } : Jvm.MethodName)) ∈ kw_T := kw_p4 116 rfl rfl
theorem kw_837 : (Jvm.Cond.static ({ cls := "BorderDesk$Assessor", name := "roundHalvesUp", desc := "(JJ)J" } : Jvm.MethodName)) ∈ kw_T := kw_p4 117 rfl rfl
theorem kw_838 : (Jvm.Cond.code ({ cls := "BorderDesk$Assessor", name := "roundHalvesUp", desc := "(JJ)J" } : Jvm.MethodName) prog_2_method_12_code (4 : Nat) (Option.some Jvm.ClassFile.FieldType.long)) ∈ kw_T := kw_p4 118 rfl rfl
theorem kw_839 : (Jvm.Cond.constantLong "BorderDesk$Assessor" (144 : Nat) (2 : Int64)) ∈ kw_T := kw_p4 119 rfl rfl
theorem kw_840 : (Jvm.Cond.methodLink "BorderDeskLaw" (170 : Nat) ({ cls := "BorderDeskLaw", name := "accept", desc := "(LBorderDesk;I[J)I" } : Jvm.MethodName)) ∈ kw_T := kw_p4 120 rfl rfl
theorem kw_841 : (Jvm.Cond.static ({ cls := "BorderDeskLaw", name := "accept", desc := "(LBorderDesk;I[J)I" } : Jvm.MethodName)) ∈ kw_T := kw_p4 121 rfl rfl
theorem kw_842 : (Jvm.Cond.codeWith ({ cls := "BorderDeskLaw", name := "accept", desc := "(LBorderDesk;I[J)I" } : Jvm.MethodName) method_19_code (4 : Nat) (Option.some Jvm.ClassFile.FieldType.int) [((0 : Nat), (8 : Nat), (11 : Nat), (13 : Nat)), ((0 : Nat), (8 : Nat), (14 : Nat), (15 : Nat)), ((0 : Nat), (8 : Nat), (17 : Nat), (72 : Nat)), ((0 : Nat), (8 : Nat), (20 : Nat), (78 : Nat))]) ∈ kw_T := kw_p4 122 rfl rfl
theorem kw_843 : (Jvm.Cond.classLink "BorderDeskLaw" (78 : Nat) "java/lang/UnsupportedOperationException") ∈ kw_T := kw_p4 123 rfl rfl
theorem kw_844 : (Jvm.Cond.methodLink "BorderDeskLaw" (74 : Nat) ({ cls := "BorderDesk", name := "accept", desc := "(I)J" } : Jvm.MethodName)) ∈ kw_T := kw_p4 124 rfl rfl
theorem kw_845 : (Jvm.Cond.instanceMethod ({ cls := "BorderDesk", name := "accept", desc := "(I)J" } : Jvm.MethodName)) ∈ kw_T := kw_p4 125 rfl rfl
theorem kw_846 : (Jvm.Cond.selects "BorderDesk" ({ cls := "BorderDesk", name := "accept", desc := "(I)J" } : Jvm.MethodName) ({ cls := "BorderDesk", name := "accept", desc := "(I)J" } : Jvm.MethodName)) ∈ kw_T := kw_p4 126 rfl rfl
theorem kw_847 : (Jvm.Cond.code ({ cls := "BorderDesk", name := "accept", desc := "(I)J" } : Jvm.MethodName) prog_1_method_18_code (2 : Nat) (Option.some Jvm.ClassFile.FieldType.long)) ∈ kw_T := kw_p4 127 rfl rfl
theorem kw_848 : (Jvm.Cond.methodLink "BorderDesk" (221 : Nat) ({ cls := "BorderDesk$Declarations", name := "isLaterAccepted", desc := "(I)Z" } : Jvm.MethodName)) ∈ kw_T := kw_p4 128 rfl rfl
theorem kw_849 : (Jvm.Cond.instanceMethod ({ cls := "BorderDesk$Declarations", name := "isLaterAccepted", desc := "(I)Z" } : Jvm.MethodName)) ∈ kw_T := kw_p4 129 rfl rfl
theorem kw_850 : (Jvm.Cond.selects "BorderDesk$Declarations" ({ cls := "BorderDesk$Declarations", name := "isLaterAccepted", desc := "(I)Z" } : Jvm.MethodName) ({ cls := "BorderDesk$Declarations", name := "isLaterAccepted", desc := "(I)Z" } : Jvm.MethodName)) ∈ kw_T := kw_p4 130 rfl rfl
theorem kw_851 : (Jvm.Cond.code ({ cls := "BorderDesk$Declarations", name := "isLaterAccepted", desc := "(I)Z" } : Jvm.MethodName) prog_3_method_7_code (3 : Nat) (Option.some Jvm.ClassFile.FieldType.boolean)) ∈ kw_T := kw_p4 131 rfl rfl
theorem kw_852 : (Jvm.Cond.methodLink "BorderDesk$Declarations" (75 : Nat) ({ cls := "BorderDesk$Declarations", name := "isLater", desc := "(II)Z" } : Jvm.MethodName)) ∈ kw_T := kw_p4 132 rfl rfl
theorem kw_854 : (Jvm.Cond.instanceMethod ({ cls := "BorderDesk$Declarations", name := "isLater", desc := "(II)Z" } : Jvm.MethodName)) ∈ kw_T := kw_p4 134 rfl rfl
theorem kw_855 : (Jvm.Cond.code ({ cls := "BorderDesk$Declarations", name := "isLater", desc := "(II)Z" } : Jvm.MethodName) prog_3_method_8_code (3 : Nat) (Option.some Jvm.ClassFile.FieldType.boolean)) ∈ kw_T := kw_p4 135 rfl rfl
theorem kw_856 : (Jvm.Cond.methodLink "BorderDesk" (225 : Nat) ({ cls := "BorderDesk", name := "requireRoom", desc := "(I)V" } : Jvm.MethodName)) ∈ kw_T := kw_p4 136 rfl rfl
theorem kw_857 : (Jvm.Cond.static ({ cls := "BorderDesk", name := "requireRoom", desc := "(I)V" } : Jvm.MethodName)) ∈ kw_T := kw_p4 137 rfl rfl
theorem kw_858 : (Jvm.Cond.code ({ cls := "BorderDesk", name := "requireRoom", desc := "(I)V" } : Jvm.MethodName) prog_1_method_41_code (1 : Nat) (Option.none : Option Jvm.ClassFile.FieldType)) ∈ kw_T := kw_p4 138 rfl rfl
theorem kw_859 : (Jvm.Cond.classLink "BorderDesk" (309 : Nat) "java/lang/UnsupportedOperationException") ∈ kw_T := kw_p4 139 rfl rfl
theorem kw_874 : (Jvm.Cond.methodLink "BorderDesk" (228 : Nat) ({ cls := "BorderDesk$Assessor", name := "book", desc := "(I)V" } : Jvm.MethodName)) ∈ kw_T := kw_p4 154 rfl rfl
theorem kw_875 : (Jvm.Cond.instanceMethod ({ cls := "BorderDesk$Assessor", name := "book", desc := "(I)V" } : Jvm.MethodName)) ∈ kw_T := kw_p4 155 rfl rfl
theorem kw_876 : (Jvm.Cond.selects "BorderDesk$Assessor" ({ cls := "BorderDesk$Assessor", name := "book", desc := "(I)V" } : Jvm.MethodName) ({ cls := "BorderDesk$Assessor", name := "book", desc := "(I)V" } : Jvm.MethodName)) ∈ kw_T := kw_p4 156 rfl rfl
theorem kw_877 : (Jvm.Cond.code ({ cls := "BorderDesk$Assessor", name := "book", desc := "(I)V" } : Jvm.MethodName) prog_2_method_5_code (4 : Nat) (Option.none : Option Jvm.ClassFile.FieldType)) ∈ kw_T := kw_p4 157 rfl rfl
theorem kw_878 : (Jvm.Cond.methodLink "BorderDesk" (231 : Nat) ({ cls := "BorderDesk", name := "makeLots", desc := "(I)V" } : Jvm.MethodName)) ∈ kw_T := kw_p4 158 rfl rfl
theorem kw_880 : (Jvm.Cond.instanceMethod ({ cls := "BorderDesk", name := "makeLots", desc := "(I)V" } : Jvm.MethodName)) ∈ kw_T := kw_p4 160 rfl rfl
theorem kw_881 : (Jvm.Cond.code ({ cls := "BorderDesk", name := "makeLots", desc := "(I)V" } : Jvm.MethodName) prog_1_method_26_code (7 : Nat) (Option.none : Option Jvm.ClassFile.FieldType)) ∈ kw_T := kw_p4 161 rfl rfl
theorem kw_882 : (Jvm.Cond.methodLink "BorderDesk" (275 : Nat) ({ cls := "BorderDesk$Lots", name := "add", desc := "(IIJZZ)I" } : Jvm.MethodName)) ∈ kw_T := kw_p4 162 rfl rfl
theorem kw_883 : (Jvm.Cond.instanceMethod ({ cls := "BorderDesk$Lots", name := "add", desc := "(IIJZZ)I" } : Jvm.MethodName)) ∈ kw_T := kw_p4 163 rfl rfl
theorem kw_884 : (Jvm.Cond.selects "BorderDesk$Lots" ({ cls := "BorderDesk$Lots", name := "add", desc := "(IIJZZ)I" } : Jvm.MethodName) ({ cls := "BorderDesk$Lots", name := "add", desc := "(IIJZZ)I" } : Jvm.MethodName)) ∈ kw_T := kw_p4 164 rfl rfl
theorem kw_885 : (Jvm.Cond.code ({ cls := "BorderDesk$Lots", name := "add", desc := "(IIJZZ)I" } : Jvm.MethodName) prog_5_method_2_code (8 : Nat) (Option.some Jvm.ClassFile.FieldType.int)) ∈ kw_T := kw_p4 165 rfl rfl
theorem kw_886 : (Jvm.Cond.methodLink "BorderDesk" (234 : Nat) ({ cls := "BorderDesk$Declarations", name := "dutyOfAll", desc := "(I)J" } : Jvm.MethodName)) ∈ kw_T := kw_p4 166 rfl rfl
theorem kw_887 : (Jvm.Cond.instanceMethod ({ cls := "BorderDesk$Declarations", name := "dutyOfAll", desc := "(I)J" } : Jvm.MethodName)) ∈ kw_T := kw_p4 167 rfl rfl
theorem kw_888 : (Jvm.Cond.selects "BorderDesk$Declarations" ({ cls := "BorderDesk$Declarations", name := "dutyOfAll", desc := "(I)J" } : Jvm.MethodName) ({ cls := "BorderDesk$Declarations", name := "dutyOfAll", desc := "(I)J" } : Jvm.MethodName)) ∈ kw_T := kw_p4 168 rfl rfl
theorem kw_889 : (Jvm.Cond.code ({ cls := "BorderDesk$Declarations", name := "dutyOfAll", desc := "(I)J" } : Jvm.MethodName) prog_3_method_9_code (5 : Nat) (Option.some Jvm.ClassFile.FieldType.long)) ∈ kw_T := kw_p4 169 rfl rfl
theorem kw_890 : (Jvm.Cond.methodLink "BorderDeskLaw" (173 : Nat) ({ cls := "BorderDeskLaw", name := "amend", desc := "(LBorderDesk;IIII[J)I" } : Jvm.MethodName)) ∈ kw_T := kw_p4 170 rfl rfl
theorem kw_891 : (Jvm.Cond.static ({ cls := "BorderDeskLaw", name := "amend", desc := "(LBorderDesk;IIII[J)I" } : Jvm.MethodName)) ∈ kw_T := kw_p4 171 rfl rfl
theorem kw_892 : (Jvm.Cond.codeWith ({ cls := "BorderDeskLaw", name := "amend", desc := "(LBorderDesk;IIII[J)I" } : Jvm.MethodName) method_20_code (7 : Nat) (Option.some Jvm.ClassFile.FieldType.int) [((0 : Nat), (13 : Nat), (16 : Nat), (13 : Nat)), ((0 : Nat), (13 : Nat), (20 : Nat), (15 : Nat)), ((0 : Nat), (13 : Nat), (24 : Nat), (72 : Nat))]) ∈ kw_T := kw_p4 172 rfl rfl
theorem kw_893 : (Jvm.Cond.methodLink "BorderDeskLaw" (80 : Nat) ({ cls := "BorderDesk", name := "amend", desc := "(IIII)J" } : Jvm.MethodName)) ∈ kw_T := kw_p4 173 rfl rfl
theorem kw_894 : (Jvm.Cond.instanceMethod ({ cls := "BorderDesk", name := "amend", desc := "(IIII)J" } : Jvm.MethodName)) ∈ kw_T := kw_p4 174 rfl rfl
theorem kw_895 : (Jvm.Cond.selects "BorderDesk" ({ cls := "BorderDesk", name := "amend", desc := "(IIII)J" } : Jvm.MethodName) ({ cls := "BorderDesk", name := "amend", desc := "(IIII)J" } : Jvm.MethodName)) ∈ kw_T := kw_p4 175 rfl rfl
theorem kw_896 : (Jvm.Cond.code ({ cls := "BorderDesk", name := "amend", desc := "(IIII)J" } : Jvm.MethodName) prog_1_method_19_code (7 : Nat) (Option.some Jvm.ClassFile.FieldType.long)) ∈ kw_T := kw_p4 176 rfl rfl
theorem kw_897 : (Jvm.Cond.methodLink "BorderDesk" (238 : Nat) ({ cls := "BorderDesk", name := "hasGoneUnits", desc := "(I)Z" } : Jvm.MethodName)) ∈ kw_T := kw_p4 177 rfl rfl
theorem kw_899 : (Jvm.Cond.instanceMethod ({ cls := "BorderDesk", name := "hasGoneUnits", desc := "(I)Z" } : Jvm.MethodName)) ∈ kw_T := kw_p4 179 rfl rfl
theorem kw_900 : (Jvm.Cond.code ({ cls := "BorderDesk", name := "hasGoneUnits", desc := "(I)Z" } : Jvm.MethodName) prog_1_method_28_code (3 : Nat) (Option.some Jvm.ClassFile.FieldType.boolean)) ∈ kw_T := kw_p4 180 rfl rfl
theorem kw_901 : (Jvm.Cond.methodLink "BorderDesk" (241 : Nat) ({ cls := "BorderDesk$Declarations", name := "setField", desc := "(III)V" } : Jvm.MethodName)) ∈ kw_T := kw_p4 181 rfl rfl
theorem kw_902 : (Jvm.Cond.instanceMethod ({ cls := "BorderDesk$Declarations", name := "setField", desc := "(III)V" } : Jvm.MethodName)) ∈ kw_T := kw_p4 182 rfl rfl
theorem kw_903 : (Jvm.Cond.selects "BorderDesk$Declarations" ({ cls := "BorderDesk$Declarations", name := "setField", desc := "(III)V" } : Jvm.MethodName) ({ cls := "BorderDesk$Declarations", name := "setField", desc := "(III)V" } : Jvm.MethodName)) ∈ kw_T := kw_p4 183 rfl rfl
theorem kw_904 : (Jvm.Cond.code ({ cls := "BorderDesk$Declarations", name := "setField", desc := "(III)V" } : Jvm.MethodName) prog_3_method_6_code (4 : Nat) (Option.none : Option Jvm.ClassFile.FieldType)) ∈ kw_T := kw_p4 184 rfl rfl
theorem kw_905 : (Jvm.Cond.methodLink "BorderDesk" (245 : Nat) ({ cls := "BorderDesk$Assessor", name := "assessAnew", desc := "(I)V" } : Jvm.MethodName)) ∈ kw_T := kw_p4 185 rfl rfl
theorem kw_906 : (Jvm.Cond.instanceMethod ({ cls := "BorderDesk$Assessor", name := "assessAnew", desc := "(I)V" } : Jvm.MethodName)) ∈ kw_T := kw_p4 186 rfl rfl
theorem kw_907 : (Jvm.Cond.selects "BorderDesk$Assessor" ({ cls := "BorderDesk$Assessor", name := "assessAnew", desc := "(I)V" } : Jvm.MethodName) ({ cls := "BorderDesk$Assessor", name := "assessAnew", desc := "(I)V" } : Jvm.MethodName)) ∈ kw_T := kw_p4 187 rfl rfl
theorem kw_908 : (Jvm.Cond.code ({ cls := "BorderDesk$Assessor", name := "assessAnew", desc := "(I)V" } : Jvm.MethodName) prog_2_method_4_code (4 : Nat) (Option.none : Option Jvm.ClassFile.FieldType)) ∈ kw_T := kw_p4 188 rfl rfl
theorem kw_909 : (Jvm.Cond.methodLink "BorderDesk$Assessor" (104 : Nat) ({ cls := "BorderDesk$Assessor", name := "giveBack", desc := "(III)V" } : Jvm.MethodName)) ∈ kw_T := kw_p4 189 rfl rfl
theorem kw_911 : (Jvm.Cond.instanceMethod ({ cls := "BorderDesk$Assessor", name := "giveBack", desc := "(III)V" } : Jvm.MethodName)) ∈ kw_T := kw_p4 191 rfl rfl
theorem kw_912 : (Jvm.Cond.code ({ cls := "BorderDesk$Assessor", name := "giveBack", desc := "(III)V" } : Jvm.MethodName) prog_2_method_9_code (4 : Nat) (Option.none : Option Jvm.ClassFile.FieldType)) ∈ kw_T := kw_p4 192 rfl rfl
theorem kw_913 : (Jvm.Cond.methodLink "BorderDesk" (248 : Nat) ({ cls := "BorderDesk", name := "changeLots", desc := "(I)V" } : Jvm.MethodName)) ∈ kw_T := kw_p4 193 rfl rfl
theorem kw_915 : (Jvm.Cond.instanceMethod ({ cls := "BorderDesk", name := "changeLots", desc := "(I)V" } : Jvm.MethodName)) ∈ kw_T := kw_p4 195 rfl rfl
theorem kw_916 : (Jvm.Cond.code ({ cls := "BorderDesk", name := "changeLots", desc := "(I)V" } : Jvm.MethodName) prog_1_method_27_code (5 : Nat) (Option.none : Option Jvm.ClassFile.FieldType)) ∈ kw_T := kw_p4 196 rfl rfl
theorem kw_917 : (Jvm.Cond.methodLink "BorderDeskLaw" (176 : Nat) ({ cls := "BorderDeskLaw", name := "release", desc := "(LBorderDesk;II[J)I" } : Jvm.MethodName)) ∈ kw_T := kw_p4 197 rfl rfl
theorem kw_918 : (Jvm.Cond.static ({ cls := "BorderDeskLaw", name := "release", desc := "(LBorderDesk;II[J)I" } : Jvm.MethodName)) ∈ kw_T := kw_p4 198 rfl rfl
theorem kw_919 : (Jvm.Cond.codeWith ({ cls := "BorderDeskLaw", name := "release", desc := "(LBorderDesk;II[J)I" } : Jvm.MethodName) method_21_code (5 : Nat) (Option.some Jvm.ClassFile.FieldType.int) [((0 : Nat), (9 : Nat), (12 : Nat), (13 : Nat)), ((0 : Nat), (9 : Nat), (16 : Nat), (15 : Nat))]) ∈ kw_T := kw_p4 199 rfl rfl
theorem kw_920 : (Jvm.Cond.methodLink "BorderDeskLaw" (84 : Nat) ({ cls := "BorderDesk", name := "release", desc := "(II)J" } : Jvm.MethodName)) ∈ kw_T := kw_p4 200 rfl rfl
theorem kw_921 : (Jvm.Cond.instanceMethod ({ cls := "BorderDesk", name := "release", desc := "(II)J" } : Jvm.MethodName)) ∈ kw_T := kw_p4 201 rfl rfl
theorem kw_922 : (Jvm.Cond.selects "BorderDesk" ({ cls := "BorderDesk", name := "release", desc := "(II)J" } : Jvm.MethodName) ({ cls := "BorderDesk", name := "release", desc := "(II)J" } : Jvm.MethodName)) ∈ kw_T := kw_p4 202 rfl rfl
theorem kw_923 : (Jvm.Cond.code ({ cls := "BorderDesk", name := "release", desc := "(II)J" } : Jvm.MethodName) prog_1_method_20_code (5 : Nat) (Option.some Jvm.ClassFile.FieldType.long)) ∈ kw_T := kw_p4 203 rfl rfl
theorem kw_924 : (Jvm.Cond.methodLink "BorderDesk" (251 : Nat) ({ cls := "BorderDesk$Lots", name := "unitsLeft", desc := "(IZ)I" } : Jvm.MethodName)) ∈ kw_T := kw_p4 204 rfl rfl
theorem kw_925 : (Jvm.Cond.instanceMethod ({ cls := "BorderDesk$Lots", name := "unitsLeft", desc := "(IZ)I" } : Jvm.MethodName)) ∈ kw_T := kw_p4 205 rfl rfl
theorem kw_926 : (Jvm.Cond.selects "BorderDesk$Lots" ({ cls := "BorderDesk$Lots", name := "unitsLeft", desc := "(IZ)I" } : Jvm.MethodName) ({ cls := "BorderDesk$Lots", name := "unitsLeft", desc := "(IZ)I" } : Jvm.MethodName)) ∈ kw_T := kw_p4 206 rfl rfl
theorem kw_927 : (Jvm.Cond.code ({ cls := "BorderDesk$Lots", name := "unitsLeft", desc := "(IZ)I" } : Jvm.MethodName) prog_5_method_3_code (5 : Nat) (Option.some Jvm.ClassFile.FieldType.int)) ∈ kw_T := kw_p4 207 rfl rfl
theorem kw_928 : (Jvm.Cond.methodLink "BorderDesk" (255 : Nat) ({ cls := "BorderDesk$Lots", name := "takeUnits", desc := "(IIZ)J" } : Jvm.MethodName)) ∈ kw_T := kw_p4 208 rfl rfl
theorem kw_929 : (Jvm.Cond.instanceMethod ({ cls := "BorderDesk$Lots", name := "takeUnits", desc := "(IIZ)J" } : Jvm.MethodName)) ∈ kw_T := kw_p4 209 rfl rfl
theorem kw_930 : (Jvm.Cond.selects "BorderDesk$Lots" ({ cls := "BorderDesk$Lots", name := "takeUnits", desc := "(IIZ)J" } : Jvm.MethodName) ({ cls := "BorderDesk$Lots", name := "takeUnits", desc := "(IIZ)J" } : Jvm.MethodName)) ∈ kw_T := kw_p4 210 rfl rfl
theorem kw_931 : (Jvm.Cond.code ({ cls := "BorderDesk$Lots", name := "takeUnits", desc := "(IIZ)J" } : Jvm.MethodName) prog_5_method_5_code (11 : Nat) (Option.some Jvm.ClassFile.FieldType.long)) ∈ kw_T := kw_p4 211 rfl rfl
theorem kw_932 : (Jvm.Cond.methodLink "BorderDesk$Lots" (34 : Nat) ({ cls := "java/lang/Math", name := "min", desc := "(II)I" } : Jvm.MethodName)) ∈ kw_T := kw_p4 212 rfl rfl
theorem kw_933 : (Jvm.Cond.methodLink "BorderDesk$Lots" (40 : Nat) ({ cls := "BorderDesk$Lots", name := "dutyGone", desc := "(I)J" } : Jvm.MethodName)) ∈ kw_T := kw_p4 213 rfl rfl
theorem kw_935 : (Jvm.Cond.instanceMethod ({ cls := "BorderDesk$Lots", name := "dutyGone", desc := "(I)J" } : Jvm.MethodName)) ∈ kw_T := kw_p4 215 rfl rfl
theorem kw_936 : (Jvm.Cond.code ({ cls := "BorderDesk$Lots", name := "dutyGone", desc := "(I)J" } : Jvm.MethodName) prog_5_method_6_code (2 : Nat) (Option.some Jvm.ClassFile.FieldType.long)) ∈ kw_T := kw_p4 216 rfl rfl
theorem kw_937 : (Jvm.Cond.methodLink "BorderDeskLaw" (179 : Nat) ({ cls := "BorderDeskLaw", name := "export", desc := "(LBorderDesk;II[J)I" } : Jvm.MethodName)) ∈ kw_T := kw_p4 217 rfl rfl
theorem kw_938 : (Jvm.Cond.static ({ cls := "BorderDeskLaw", name := "export", desc := "(LBorderDesk;II[J)I" } : Jvm.MethodName)) ∈ kw_T := kw_p4 218 rfl rfl
theorem kw_939 : (Jvm.Cond.codeWith ({ cls := "BorderDeskLaw", name := "export", desc := "(LBorderDesk;II[J)I" } : Jvm.MethodName) method_22_code (5 : Nat) (Option.some Jvm.ClassFile.FieldType.int) [((0 : Nat), (9 : Nat), (12 : Nat), (13 : Nat)), ((0 : Nat), (9 : Nat), (16 : Nat), (15 : Nat))]) ∈ kw_T := kw_p4 219 rfl rfl
theorem kw_940 : (Jvm.Cond.methodLink "BorderDeskLaw" (88 : Nat) ({ cls := "BorderDesk", name := "export", desc := "(II)J" } : Jvm.MethodName)) ∈ kw_T := kw_p4 220 rfl rfl
theorem kw_941 : (Jvm.Cond.instanceMethod ({ cls := "BorderDesk", name := "export", desc := "(II)J" } : Jvm.MethodName)) ∈ kw_T := kw_p4 221 rfl rfl
theorem kw_942 : (Jvm.Cond.selects "BorderDesk" ({ cls := "BorderDesk", name := "export", desc := "(II)J" } : Jvm.MethodName) ({ cls := "BorderDesk", name := "export", desc := "(II)J" } : Jvm.MethodName)) ∈ kw_T := kw_p4 222 rfl rfl
theorem kw_943 : (Jvm.Cond.code ({ cls := "BorderDesk", name := "export", desc := "(II)J" } : Jvm.MethodName) prog_1_method_21_code (5 : Nat) (Option.some Jvm.ClassFile.FieldType.long)) ∈ kw_T := kw_p4 223 rfl rfl
theorem kw_944 : (Jvm.Cond.methodLink "BorderDeskLaw" (182 : Nat) ({ cls := "BorderDeskLaw", name := "work", desc := "(LBorderDesk;IIII[J)I" } : Jvm.MethodName)) ∈ kw_T := kw_p4 224 rfl rfl
theorem kw_945 : (Jvm.Cond.static ({ cls := "BorderDeskLaw", name := "work", desc := "(LBorderDesk;IIII[J)I" } : Jvm.MethodName)) ∈ kw_T := kw_p4 225 rfl rfl
theorem kw_946 : (Jvm.Cond.codeWith ({ cls := "BorderDeskLaw", name := "work", desc := "(LBorderDesk;IIII[J)I" } : Jvm.MethodName) method_23_code (7 : Nat) (Option.some Jvm.ClassFile.FieldType.int) [((0 : Nat), (14 : Nat), (17 : Nat), (13 : Nat)), ((0 : Nat), (14 : Nat), (21 : Nat), (15 : Nat)), ((0 : Nat), (14 : Nat), (25 : Nat), (78 : Nat))]) ∈ kw_T := kw_p4 226 rfl rfl
theorem kw_947 : (Jvm.Cond.methodLink "BorderDeskLaw" (91 : Nat) ({ cls := "BorderDesk", name := "work", desc := "(IIII)I" } : Jvm.MethodName)) ∈ kw_T := kw_p4 227 rfl rfl
theorem kw_948 : (Jvm.Cond.instanceMethod ({ cls := "BorderDesk", name := "work", desc := "(IIII)I" } : Jvm.MethodName)) ∈ kw_T := kw_p4 228 rfl rfl
theorem kw_949 : (Jvm.Cond.selects "BorderDesk" ({ cls := "BorderDesk", name := "work", desc := "(IIII)I" } : Jvm.MethodName) ({ cls := "BorderDesk", name := "work", desc := "(IIII)I" } : Jvm.MethodName)) ∈ kw_T := kw_p4 229 rfl rfl
theorem kw_950 : (Jvm.Cond.code ({ cls := "BorderDesk", name := "work", desc := "(IIII)I" } : Jvm.MethodName) prog_1_method_22_code (7 : Nat) (Option.some Jvm.ClassFile.FieldType.int)) ∈ kw_T := kw_p4 230 rfl rfl
theorem kw_951 : (Jvm.Cond.methodLink "BorderDeskLaw" (185 : Nat) ({ cls := "BorderDeskLaw", name := "lot", desc := "(LBorderDesk;II[J)I" } : Jvm.MethodName)) ∈ kw_T := kw_p4 231 rfl rfl
theorem kw_952 : (Jvm.Cond.static ({ cls := "BorderDeskLaw", name := "lot", desc := "(LBorderDesk;II[J)I" } : Jvm.MethodName)) ∈ kw_T := kw_p4 232 rfl rfl
theorem kw_953 : (Jvm.Cond.codeWith ({ cls := "BorderDeskLaw", name := "lot", desc := "(LBorderDesk;II[J)I" } : Jvm.MethodName) method_24_code (5 : Nat) (Option.some Jvm.ClassFile.FieldType.int) [((0 : Nat), (9 : Nat), (12 : Nat), (13 : Nat))]) ∈ kw_T := kw_p4 233 rfl rfl
theorem kw_954 : (Jvm.Cond.methodLink "BorderDeskLaw" (94 : Nat) ({ cls := "BorderDesk", name := "lot", desc := "(II)J" } : Jvm.MethodName)) ∈ kw_T := kw_p4 234 rfl rfl
theorem kw_955 : (Jvm.Cond.instanceMethod ({ cls := "BorderDesk", name := "lot", desc := "(II)J" } : Jvm.MethodName)) ∈ kw_T := kw_p4 235 rfl rfl
theorem kw_956 : (Jvm.Cond.selects "BorderDesk" ({ cls := "BorderDesk", name := "lot", desc := "(II)J" } : Jvm.MethodName) ({ cls := "BorderDesk", name := "lot", desc := "(II)J" } : Jvm.MethodName)) ∈ kw_T := kw_p4 236 rfl rfl
theorem kw_957 : (Jvm.Cond.code ({ cls := "BorderDesk", name := "lot", desc := "(II)J" } : Jvm.MethodName) prog_1_method_23_code (3 : Nat) (Option.some Jvm.ClassFile.FieldType.long)) ∈ kw_T := kw_p4 237 rfl rfl
theorem kw_958 : (Jvm.Cond.methodLink "BorderDeskLaw" (188 : Nat) ({ cls := "BorderDeskLaw", name := "account", desc := "(LBorderDesk;II[J)I" } : Jvm.MethodName)) ∈ kw_T := kw_p4 238 rfl rfl
theorem kw_959 : (Jvm.Cond.static ({ cls := "BorderDeskLaw", name := "account", desc := "(LBorderDesk;II[J)I" } : Jvm.MethodName)) ∈ kw_T := kw_p4 239 rfl rfl
theorem kw_960 : (Jvm.Cond.codeWith ({ cls := "BorderDeskLaw", name := "account", desc := "(LBorderDesk;II[J)I" } : Jvm.MethodName) method_25_code (5 : Nat) (Option.some Jvm.ClassFile.FieldType.int) [((0 : Nat), (9 : Nat), (12 : Nat), (13 : Nat))]) ∈ kw_T := kw_p5 0 rfl rfl
theorem kw_961 : (Jvm.Cond.methodLink "BorderDeskLaw" (97 : Nat) ({ cls := "BorderDesk", name := "account", desc := "(II)J" } : Jvm.MethodName)) ∈ kw_T := kw_p5 1 rfl rfl
theorem kw_962 : (Jvm.Cond.instanceMethod ({ cls := "BorderDesk", name := "account", desc := "(II)J" } : Jvm.MethodName)) ∈ kw_T := kw_p5 2 rfl rfl
theorem kw_963 : (Jvm.Cond.selects "BorderDesk" ({ cls := "BorderDesk", name := "account", desc := "(II)J" } : Jvm.MethodName) ({ cls := "BorderDesk", name := "account", desc := "(II)J" } : Jvm.MethodName)) ∈ kw_T := kw_p5 3 rfl rfl
theorem kw_964 : (Jvm.Cond.code ({ cls := "BorderDesk", name := "account", desc := "(II)J" } : Jvm.MethodName) prog_1_method_24_code (3 : Nat) (Option.some Jvm.ClassFile.FieldType.long)) ∈ kw_T := kw_p5 4 rfl rfl
theorem kw_965 : (Jvm.Cond.methodLink "BorderDesk" (291 : Nat) ({ cls := "BorderDesk$Lots", name := "heldUnitsThatCame", desc := "(IZ)I" } : Jvm.MethodName)) ∈ kw_T := kw_p5 5 rfl rfl
theorem kw_966 : (Jvm.Cond.instanceMethod ({ cls := "BorderDesk$Lots", name := "heldUnitsThatCame", desc := "(IZ)I" } : Jvm.MethodName)) ∈ kw_T := kw_p5 6 rfl rfl
theorem kw_967 : (Jvm.Cond.selects "BorderDesk$Lots" ({ cls := "BorderDesk$Lots", name := "heldUnitsThatCame", desc := "(IZ)I" } : Jvm.MethodName) ({ cls := "BorderDesk$Lots", name := "heldUnitsThatCame", desc := "(IZ)I" } : Jvm.MethodName)) ∈ kw_T := kw_p5 7 rfl rfl
theorem kw_968 : (Jvm.Cond.code ({ cls := "BorderDesk$Lots", name := "heldUnitsThatCame", desc := "(IZ)I" } : Jvm.MethodName) prog_5_method_4_code (5 : Nat) (Option.some Jvm.ClassFile.FieldType.int)) ∈ kw_T := kw_p5 8 rfl rfl
theorem kw_969 : (Jvm.Cond.methodLink "BorderDeskLaw" (191 : Nat) ({ cls := "BorderDeskLaw", name := "books", desc := "(LBorderDesk;I[J)I" } : Jvm.MethodName)) ∈ kw_T := kw_p5 9 rfl rfl
theorem kw_970 : (Jvm.Cond.static ({ cls := "BorderDeskLaw", name := "books", desc := "(LBorderDesk;I[J)I" } : Jvm.MethodName)) ∈ kw_T := kw_p5 10 rfl rfl
theorem kw_971 : (Jvm.Cond.codeWith ({ cls := "BorderDeskLaw", name := "books", desc := "(LBorderDesk;I[J)I" } : Jvm.MethodName) method_26_code (4 : Nat) (Option.some Jvm.ClassFile.FieldType.int) [((0 : Nat), (8 : Nat), (11 : Nat), (13 : Nat))]) ∈ kw_T := kw_p5 11 rfl rfl
theorem kw_972 : (Jvm.Cond.methodLink "BorderDeskLaw" (100 : Nat) ({ cls := "BorderDesk", name := "books", desc := "(I)J" } : Jvm.MethodName)) ∈ kw_T := kw_p5 12 rfl rfl
theorem kw_973 : (Jvm.Cond.instanceMethod ({ cls := "BorderDesk", name := "books", desc := "(I)J" } : Jvm.MethodName)) ∈ kw_T := kw_p5 13 rfl rfl
theorem kw_974 : (Jvm.Cond.selects "BorderDesk" ({ cls := "BorderDesk", name := "books", desc := "(I)J" } : Jvm.MethodName) ({ cls := "BorderDesk", name := "books", desc := "(I)J" } : Jvm.MethodName)) ∈ kw_T := kw_p5 14 rfl rfl
theorem kw_975 : (Jvm.Cond.code ({ cls := "BorderDesk", name := "books", desc := "(I)J" } : Jvm.MethodName) prog_1_method_25_code (2 : Nat) (Option.some Jvm.ClassFile.FieldType.long)) ∈ kw_T := kw_p5 15 rfl rfl
theorem kw_976 : (Jvm.Cond.classLink "BorderDeskLaw" (104 : Nat) "BorderDeskModel") ∈ kw_T := kw_p5 16 rfl rfl
theorem kw_977 : (Jvm.Cond.instantiable "BorderDeskModel" (68 : Nat)) ∈ kw_T := kw_p5 17 rfl rfl
theorem kw_978 : (Jvm.Cond.methodLink "BorderDeskLaw" (106 : Nat) ({ cls := "BorderDeskModel", name := "<init>", desc := "()V" } : Jvm.MethodName)) ∈ kw_T := kw_p5 18 rfl rfl
theorem kw_979 : (Jvm.Cond.instanceMethod ({ cls := "BorderDeskModel", name := "<init>", desc := "()V" } : Jvm.MethodName)) ∈ kw_T := kw_p5 19 rfl rfl
theorem kw_980 : (Jvm.Cond.code ({ cls := "BorderDeskModel", name := "<init>", desc := "()V" } : Jvm.MethodName) prog_11_method_1_code (1 : Nat) (Option.none : Option Jvm.ClassFile.FieldType)) ∈ kw_T := kw_p5 20 rfl rfl
theorem kw_981 : (Jvm.Cond.methodLink "BorderDeskModel" (1 : Nat) ({ cls := "java/lang/Object", name := "<init>", desc := "()V" } : Jvm.MethodName)) ∈ kw_T := kw_p5 21 rfl rfl
theorem kw_982 : (Jvm.Cond.fieldLink "BorderDeskModel" (190 : Nat) "BorderDeskModel" "code" "I") ∈ kw_T := kw_p5 22 rfl rfl
theorem kw_983 : (Jvm.Cond.fieldLink "BorderDeskModel" (193 : Nat) "BorderDeskModel" "headings" "I") ∈ kw_T := kw_p5 23 rfl rfl
theorem kw_984 : (Jvm.Cond.fieldLink "BorderDeskModel" (7 : Nat) "BorderDeskModel" "parent" "[I") ∈ kw_T := kw_p5 24 rfl rfl
theorem kw_985 : (Jvm.Cond.fieldLink "BorderDeskModel" (13 : Nat) "BorderDeskModel" "ruleKind" "[I") ∈ kw_T := kw_p5 25 rfl rfl
theorem kw_986 : (Jvm.Cond.fieldLink "BorderDeskModel" (16 : Nat) "BorderDeskModel" "ruleLimit" "[I") ∈ kw_T := kw_p5 26 rfl rfl
theorem kw_987 : (Jvm.Cond.fieldLink "BorderDeskModel" (208 : Nat) "BorderDeskModel" "notes" "I") ∈ kw_T := kw_p5 27 rfl rfl
theorem kw_988 : (Jvm.Cond.fieldLink "BorderDeskModel" (19 : Nat) "BorderDeskModel" "noteHeading" "[I") ∈ kw_T := kw_p5 28 rfl rfl
theorem kw_989 : (Jvm.Cond.fieldLink "BorderDeskModel" (22 : Nat) "BorderDeskModel" "noteKind" "[I") ∈ kw_T := kw_p5 29 rfl rfl
theorem kw_990 : (Jvm.Cond.fieldLink "BorderDeskModel" (25 : Nat) "BorderDeskModel" "noteFact" "[I") ∈ kw_T := kw_p5 30 rfl rfl
theorem kw_991 : (Jvm.Cond.fieldLink "BorderDeskModel" (28 : Nat) "BorderDeskModel" "noteAmount" "[I") ∈ kw_T := kw_p5 31 rfl rfl
theorem kw_992 : (Jvm.Cond.fieldLink "BorderDeskModel" (228 : Nat) "BorderDeskModel" "rates" "I") ∈ kw_T := kw_p5 32 rfl rfl
theorem kw_993 : (Jvm.Cond.fieldLink "BorderDeskModel" (31 : Nat) "BorderDeskModel" "rateHeading" "[I") ∈ kw_T := kw_p5 33 rfl rfl
theorem kw_994 : (Jvm.Cond.fieldLink "BorderDeskModel" (34 : Nat) "BorderDeskModel" "rateLand" "[I") ∈ kw_T := kw_p5 34 rfl rfl
theorem kw_995 : (Jvm.Cond.fieldLink "BorderDeskModel" (37 : Nat) "BorderDeskModel" "rateKind" "[I") ∈ kw_T := kw_p5 35 rfl rfl
theorem kw_996 : (Jvm.Cond.fieldLink "BorderDeskModel" (40 : Nat) "BorderDeskModel" "rateA" "[I") ∈ kw_T := kw_p5 36 rfl rfl
theorem kw_997 : (Jvm.Cond.fieldLink "BorderDeskModel" (43 : Nat) "BorderDeskModel" "rateB" "[I") ∈ kw_T := kw_p5 37 rfl rfl
theorem kw_998 : (Jvm.Cond.fieldLink "BorderDeskModel" (46 : Nat) "BorderDeskModel" "rateFrom" "[I") ∈ kw_T := kw_p5 38 rfl rfl
theorem kw_999 : (Jvm.Cond.fieldLink "BorderDeskModel" (49 : Nat) "BorderDeskModel" "rateTo" "[I") ∈ kw_T := kw_p5 39 rfl rfl
theorem kw_1000 : (Jvm.Cond.fieldLink "BorderDeskModel" (239 : Nat) "BorderDeskModel" "quotas" "I") ∈ kw_T := kw_p5 40 rfl rfl
theorem kw_1001 : (Jvm.Cond.fieldLink "BorderDeskModel" (52 : Nat) "BorderDeskModel" "quotaHeading" "[I") ∈ kw_T := kw_p5 41 rfl rfl
theorem kw_1002 : (Jvm.Cond.fieldLink "BorderDeskModel" (55 : Nat) "BorderDeskModel" "quotaLand" "[I") ∈ kw_T := kw_p5 42 rfl rfl
theorem kw_1003 : (Jvm.Cond.fieldLink "BorderDeskModel" (58 : Nat) "BorderDeskModel" "quotaA" "[I") ∈ kw_T := kw_p5 43 rfl rfl
theorem kw_1004 : (Jvm.Cond.fieldLink "BorderDeskModel" (61 : Nat) "BorderDeskModel" "quotaFrom" "[I") ∈ kw_T := kw_p5 44 rfl rfl
theorem kw_1005 : (Jvm.Cond.fieldLink "BorderDeskModel" (64 : Nat) "BorderDeskModel" "quotaTo" "[I") ∈ kw_T := kw_p5 45 rfl rfl
theorem kw_1006 : (Jvm.Cond.fieldLink "BorderDeskModel" (67 : Nat) "BorderDeskModel" "quotaLeft" "[I") ∈ kw_T := kw_p5 46 rfl rfl
theorem kw_1007 : (Jvm.Cond.fieldLink "BorderDeskModel" (70 : Nat) "BorderDeskModel" "meant" "[I") ∈ kw_T := kw_p5 47 rfl rfl
theorem kw_1008 : (Jvm.Cond.fieldLink "BorderDeskModel" (73 : Nat) "BorderDeskModel" "amounts" "[I") ∈ kw_T := kw_p5 48 rfl rfl
theorem kw_1009 : (Jvm.Cond.fieldLink "BorderDeskModel" (76 : Nat) "BorderDeskModel" "partCount" "[I") ∈ kw_T := kw_p5 49 rfl rfl
theorem kw_1010 : (Jvm.Cond.fieldLink "BorderDeskModel" (79 : Nat) "BorderDeskModel" "partGood" "[I") ∈ kw_T := kw_p5 50 rfl rfl
theorem kw_1011 : (Jvm.Cond.fieldLink "BorderDeskModel" (82 : Nat) "BorderDeskModel" "partValue" "[I") ∈ kw_T := kw_p5 51 rfl rfl
theorem kw_1012 : (Jvm.Cond.fieldLink "BorderDeskModel" (85 : Nat) "BorderDeskModel" "partLand" "[I") ∈ kw_T := kw_p5 52 rfl rfl
theorem kw_1013 : (Jvm.Cond.fieldLink "BorderDeskModel" (88 : Nat) "BorderDeskModel" "zones" "[I") ∈ kw_T := kw_p5 53 rfl rfl
theorem kw_1014 : (Jvm.Cond.fieldLink "BorderDeskModel" (91 : Nat) "BorderDeskModel" "classes" "[I") ∈ kw_T := kw_p5 54 rfl rfl
theorem kw_1015 : (Jvm.Cond.fieldLink "BorderDeskModel" (94 : Nat) "BorderDeskModel" "known" "[Z") ∈ kw_T := kw_p5 55 rfl rfl
theorem kw_1016 : (Jvm.Cond.fieldLink "BorderDeskModel" (98 : Nat) "BorderDeskModel" "made" "[Z") ∈ kw_T := kw_p5 56 rfl rfl
theorem kw_1017 : (Jvm.Cond.fieldLink "BorderDeskModel" (251 : Nat) "BorderDeskModel" "declarations" "I") ∈ kw_T := kw_p5 57 rfl rfl
theorem kw_1018 : (Jvm.Cond.fieldLink "BorderDeskModel" (101 : Nat) "BorderDeskModel" "day" "[I") ∈ kw_T := kw_p5 58 rfl rfl
theorem kw_1019 : (Jvm.Cond.fieldLink "BorderDeskModel" (104 : Nat) "BorderDeskModel" "minute" "[I") ∈ kw_T := kw_p5 59 rfl rfl
theorem kw_1020 : (Jvm.Cond.fieldLink "BorderDeskModel" (107 : Nat) "BorderDeskModel" "lineCount" "[I") ∈ kw_T := kw_p5 60 rfl rfl
theorem kw_1021 : (Jvm.Cond.fieldLink "BorderDeskModel" (110 : Nat) "BorderDeskModel" "charges" "[I") ∈ kw_T := kw_p5 61 rfl rfl
theorem kw_1022 : (Jvm.Cond.fieldLink "BorderDeskModel" (113 : Nat) "BorderDeskModel" "accepted" "[Z") ∈ kw_T := kw_p5 62 rfl rfl
theorem kw_1023 : (Jvm.Cond.fieldLink "BorderDeskModel" (116 : Nat) "BorderDeskModel" "last" "I") ∈ kw_T := kw_p5 63 rfl rfl
theorem kw_1024 : (Jvm.Cond.fieldLink "BorderDeskModel" (120 : Nat) "BorderDeskModel" "lineGood" "[I") ∈ kw_T := kw_p5 64 rfl rfl
theorem kw_1025 : (Jvm.Cond.fieldLink "BorderDeskModel" (123 : Nat) "BorderDeskModel" "lineLand" "[I") ∈ kw_T := kw_p5 65 rfl rfl
theorem kw_1026 : (Jvm.Cond.fieldLink "BorderDeskModel" (126 : Nat) "BorderDeskModel" "lineHeld" "[Z") ∈ kw_T := kw_p5 66 rfl rfl
theorem kw_1027 : (Jvm.Cond.fieldLink "BorderDeskModel" (129 : Nat) "BorderDeskModel" "fields" "[I") ∈ kw_T := kw_p5 67 rfl rfl
theorem kw_1028 : (Jvm.Cond.fieldLink "BorderDeskModel" (132 : Nat) "BorderDeskModel" "values" "[J") ∈ kw_T := kw_p5 68 rfl rfl
theorem kw_1029 : (Jvm.Cond.fieldLink "BorderDeskModel" (136 : Nat) "BorderDeskModel" "rests" "[J") ∈ kw_T := kw_p5 69 rfl rfl
theorem kw_1030 : (Jvm.Cond.fieldLink "BorderDeskModel" (139 : Nat) "BorderDeskModel" "lineLot" "[I") ∈ kw_T := kw_p5 70 rfl rfl
theorem kw_1031 : (Jvm.Cond.fieldLink "BorderDeskModel" (142 : Nat) "BorderDeskModel" "quota" "[I") ∈ kw_T := kw_p5 71 rfl rfl
theorem kw_1032 : (Jvm.Cond.fieldLink "BorderDeskModel" (145 : Nat) "BorderDeskModel" "reduced" "[I") ∈ kw_T := kw_p5 72 rfl rfl
theorem kw_1033 : (Jvm.Cond.fieldLink "BorderDeskModel" (148 : Nat) "BorderDeskModel" "duty" "[J") ∈ kw_T := kw_p5 73 rfl rfl
theorem kw_1034 : (Jvm.Cond.fieldLink "BorderDeskModel" (151 : Nat) "BorderDeskModel" "rateNow" "[I") ∈ kw_T := kw_p5 74 rfl rfl
theorem kw_1035 : (Jvm.Cond.fieldLink "BorderDeskModel" (154 : Nat) "BorderDeskModel" "quotaNow" "[I") ∈ kw_T := kw_p5 75 rfl rfl
theorem kw_1036 : (Jvm.Cond.fieldLink "BorderDeskModel" (157 : Nat) "BorderDeskModel" "reducedNow" "[I") ∈ kw_T := kw_p5 76 rfl rfl
theorem kw_1037 : (Jvm.Cond.fieldLink "BorderDeskModel" (160 : Nat) "BorderDeskModel" "dutyNow" "[J") ∈ kw_T := kw_p5 77 rfl rfl
theorem kw_1038 : (Jvm.Cond.fieldLink "BorderDeskModel" (299 : Nat) "BorderDeskModel" "lots" "I") ∈ kw_T := kw_p5 78 rfl rfl
theorem kw_1039 : (Jvm.Cond.fieldLink "BorderDeskModel" (163 : Nat) "BorderDeskModel" "lotGood" "[I") ∈ kw_T := kw_p5 79 rfl rfl
theorem kw_1040 : (Jvm.Cond.fieldLink "BorderDeskModel" (166 : Nat) "BorderDeskModel" "lotUnits" "[I") ∈ kw_T := kw_p5 80 rfl rfl
theorem kw_1041 : (Jvm.Cond.fieldLink "BorderDeskModel" (169 : Nat) "BorderDeskModel" "lotGone" "[I") ∈ kw_T := kw_p5 81 rfl rfl
theorem kw_1042 : (Jvm.Cond.fieldLink "BorderDeskModel" (172 : Nat) "BorderDeskModel" "lotDuty" "[J") ∈ kw_T := kw_p5 82 rfl rfl
theorem kw_1043 : (Jvm.Cond.fieldLink "BorderDeskModel" (175 : Nat) "BorderDeskModel" "lotHeld" "[Z") ∈ kw_T := kw_p5 83 rfl rfl
theorem kw_1044 : (Jvm.Cond.fieldLink "BorderDeskModel" (178 : Nat) "BorderDeskModel" "lotWorked" "[Z") ∈ kw_T := kw_p5 84 rfl rfl
theorem kw_1045 : (Jvm.Cond.fieldLink "BorderDeskModel" (181 : Nat) "BorderDeskModel" "released" "[I") ∈ kw_T := kw_p5 85 rfl rfl
theorem kw_1046 : (Jvm.Cond.fieldLink "BorderDeskModel" (184 : Nat) "BorderDeskModel" "worked" "[I") ∈ kw_T := kw_p5 86 rfl rfl
theorem kw_1047 : (Jvm.Cond.fieldLink "BorderDeskModel" (187 : Nat) "BorderDeskModel" "lost" "[I") ∈ kw_T := kw_p5 87 rfl rfl
theorem kw_1048 : (Jvm.Cond.fieldLink "BorderDeskModel" (312 : Nat) "BorderDeskModel" "paid" "J") ∈ kw_T := kw_p5 88 rfl rfl
theorem kw_1049 : (Jvm.Cond.fieldLink "BorderDeskModel" (327 : Nat) "BorderDeskModel" "back" "J") ∈ kw_T := kw_p5 89 rfl rfl
theorem kw_1187 : (Jvm.Cond.methodLink "BorderDeskLaw" (135 : Nat) ({ cls := "BorderDeskModel", name := "thrown", desc := "()I" } : Jvm.MethodName)) ∈ kw_T := kw_p5 227 rfl rfl
theorem kw_1188 : (Jvm.Cond.instanceMethod ({ cls := "BorderDeskModel", name := "thrown", desc := "()I" } : Jvm.MethodName)) ∈ kw_T := kw_p5 228 rfl rfl
theorem kw_1189 : (Jvm.Cond.selects "BorderDeskModel" ({ cls := "BorderDeskModel", name := "thrown", desc := "()I" } : Jvm.MethodName) ({ cls := "BorderDeskModel", name := "thrown", desc := "()I" } : Jvm.MethodName)) ∈ kw_T := kw_p5 229 rfl rfl
theorem kw_1190 : (Jvm.Cond.code ({ cls := "BorderDeskModel", name := "thrown", desc := "()I" } : Jvm.MethodName) prog_11_method_2_code (1 : Nat) (Option.some Jvm.ClassFile.FieldType.int)) ∈ kw_T := kw_p5 230 rfl rfl
theorem kw_1191 : (Jvm.Cond.methodLink "BorderDeskLaw" (112 : Nat) ({ cls := "BorderDeskModel", name := "heading", desc := "(I)I" } : Jvm.MethodName)) ∈ kw_T := kw_p5 231 rfl rfl
theorem kw_1192 : (Jvm.Cond.instanceMethod ({ cls := "BorderDeskModel", name := "heading", desc := "(I)I" } : Jvm.MethodName)) ∈ kw_T := kw_p5 232 rfl rfl
theorem kw_1193 : (Jvm.Cond.selects "BorderDeskModel" ({ cls := "BorderDeskModel", name := "heading", desc := "(I)I" } : Jvm.MethodName) ({ cls := "BorderDeskModel", name := "heading", desc := "(I)I" } : Jvm.MethodName)) ∈ kw_T := kw_p5 233 rfl rfl
theorem kw_1194 : (Jvm.Cond.code ({ cls := "BorderDeskModel", name := "heading", desc := "(I)I" } : Jvm.MethodName) prog_11_method_6_code (2 : Nat) (Option.some Jvm.ClassFile.FieldType.int)) ∈ kw_T := kw_p5 234 rfl rfl
theorem kw_1195 : (Jvm.Cond.methodLink "BorderDeskModel" (196 : Nat) ({ cls := "BorderDeskModel", name := "isHeading", desc := "(I)Z" } : Jvm.MethodName)) ∈ kw_T := kw_p5 235 rfl rfl
theorem kw_1197 : (Jvm.Cond.instanceMethod ({ cls := "BorderDeskModel", name := "isHeading", desc := "(I)Z" } : Jvm.MethodName)) ∈ kw_T := kw_p5 237 rfl rfl
theorem kw_1198 : (Jvm.Cond.code ({ cls := "BorderDeskModel", name := "isHeading", desc := "(I)Z" } : Jvm.MethodName) prog_11_method_4_code (2 : Nat) (Option.some Jvm.ClassFile.FieldType.boolean)) ∈ kw_T := kw_p5 238 rfl rfl
theorem kw_1199 : (Jvm.Cond.methodLink "BorderDeskModel" (200 : Nat) ({ cls := "BorderDeskModel", name := "depthOf", desc := "(I)I" } : Jvm.MethodName)) ∈ kw_T := kw_p5 239 rfl rfl
theorem kw_1201 : (Jvm.Cond.instanceMethod ({ cls := "BorderDeskModel", name := "depthOf", desc := "(I)I" } : Jvm.MethodName)) ∈ kw_T := kw_p6 1 rfl rfl
theorem kw_1202 : (Jvm.Cond.code ({ cls := "BorderDeskModel", name := "depthOf", desc := "(I)I" } : Jvm.MethodName) prog_11_method_5_code (4 : Nat) (Option.some Jvm.ClassFile.FieldType.int)) ∈ kw_T := kw_p6 2 rfl rfl
theorem kw_1203 : (Jvm.Cond.methodLink "BorderDeskLaw" (116 : Nat) ({ cls := "BorderDeskModel", name := "note", desc := "(IIII)I" } : Jvm.MethodName)) ∈ kw_T := kw_p6 3 rfl rfl
theorem kw_1204 : (Jvm.Cond.instanceMethod ({ cls := "BorderDeskModel", name := "note", desc := "(IIII)I" } : Jvm.MethodName)) ∈ kw_T := kw_p6 4 rfl rfl
theorem kw_1205 : (Jvm.Cond.selects "BorderDeskModel" ({ cls := "BorderDeskModel", name := "note", desc := "(IIII)I" } : Jvm.MethodName) ({ cls := "BorderDeskModel", name := "note", desc := "(IIII)I" } : Jvm.MethodName)) ∈ kw_T := kw_p6 5 rfl rfl
theorem kw_1206 : (Jvm.Cond.code ({ cls := "BorderDeskModel", name := "note", desc := "(IIII)I" } : Jvm.MethodName) prog_11_method_7_code (6 : Nat) (Option.some Jvm.ClassFile.FieldType.int)) ∈ kw_T := kw_p6 6 rfl rfl
theorem kw_1207 : (Jvm.Cond.methodLink "BorderDeskModel" (204 : Nat) ({ cls := "BorderDeskModel", name := "within", desc := "(III)Z" } : Jvm.MethodName)) ∈ kw_T := kw_p6 7 rfl rfl
theorem kw_1208 : (Jvm.Cond.static ({ cls := "BorderDeskModel", name := "within", desc := "(III)Z" } : Jvm.MethodName)) ∈ kw_T := kw_p6 8 rfl rfl
theorem kw_1209 : (Jvm.Cond.code ({ cls := "BorderDeskModel", name := "within", desc := "(III)Z" } : Jvm.MethodName) prog_11_method_3_code (3 : Nat) (Option.some Jvm.ClassFile.FieldType.boolean)) ∈ kw_T := kw_p6 9 rfl rfl
theorem kw_1210 : (Jvm.Cond.methodLink "BorderDeskLaw" (120 : Nat) ({ cls := "BorderDeskModel", name := "fact", desc := "(III)I" } : Jvm.MethodName)) ∈ kw_T := kw_p6 10 rfl rfl
theorem kw_1211 : (Jvm.Cond.instanceMethod ({ cls := "BorderDeskModel", name := "fact", desc := "(III)I" } : Jvm.MethodName)) ∈ kw_T := kw_p6 11 rfl rfl
theorem kw_1212 : (Jvm.Cond.selects "BorderDeskModel" ({ cls := "BorderDeskModel", name := "fact", desc := "(III)I" } : Jvm.MethodName) ({ cls := "BorderDeskModel", name := "fact", desc := "(III)I" } : Jvm.MethodName)) ∈ kw_T := kw_p6 12 rfl rfl
theorem kw_1213 : (Jvm.Cond.code ({ cls := "BorderDeskModel", name := "fact", desc := "(III)I" } : Jvm.MethodName) prog_11_method_8_code (5 : Nat) (Option.some Jvm.ClassFile.FieldType.int)) ∈ kw_T := kw_p6 13 rfl rfl
theorem kw_1214 : (Jvm.Cond.methodLink "BorderDeskLaw" (123 : Nat) ({ cls := "BorderDeskModel", name := "classify", desc := "(I)I" } : Jvm.MethodName)) ∈ kw_T := kw_p6 14 rfl rfl
theorem kw_1215 : (Jvm.Cond.instanceMethod ({ cls := "BorderDeskModel", name := "classify", desc := "(I)I" } : Jvm.MethodName)) ∈ kw_T := kw_p6 15 rfl rfl
theorem kw_1216 : (Jvm.Cond.selects "BorderDeskModel" ({ cls := "BorderDeskModel", name := "classify", desc := "(I)I" } : Jvm.MethodName) ({ cls := "BorderDeskModel", name := "classify", desc := "(I)I" } : Jvm.MethodName)) ∈ kw_T := kw_p6 16 rfl rfl
theorem kw_1217 : (Jvm.Cond.code ({ cls := "BorderDeskModel", name := "classify", desc := "(I)I" } : Jvm.MethodName) prog_11_method_14_code (2 : Nat) (Option.some Jvm.ClassFile.FieldType.int)) ∈ kw_T := kw_p6 17 rfl rfl
theorem kw_1218 : (Jvm.Cond.methodLink "BorderDeskModel" (225 : Nat) ({ cls := "BorderDeskModel", name := "classOf", desc := "(I)I" } : Jvm.MethodName)) ∈ kw_T := kw_p6 18 rfl rfl
theorem kw_1220 : (Jvm.Cond.instanceMethod ({ cls := "BorderDeskModel", name := "classOf", desc := "(I)I" } : Jvm.MethodName)) ∈ kw_T := kw_p6 20 rfl rfl
theorem kw_1221 : (Jvm.Cond.code ({ cls := "BorderDeskModel", name := "classOf", desc := "(I)I" } : Jvm.MethodName) prog_11_method_13_code (5 : Nat) (Option.some Jvm.ClassFile.FieldType.int)) ∈ kw_T := kw_p6 21 rfl rfl
theorem kw_1222 : (Jvm.Cond.methodLink "BorderDeskModel" (218 : Nat) ({ cls := "BorderDeskModel", name := "fits", desc := "(II)Z" } : Jvm.MethodName)) ∈ kw_T := kw_p6 22 rfl rfl
theorem kw_1224 : (Jvm.Cond.instanceMethod ({ cls := "BorderDeskModel", name := "fits", desc := "(II)Z" } : Jvm.MethodName)) ∈ kw_T := kw_p6 24 rfl rfl
theorem kw_1225 : (Jvm.Cond.code ({ cls := "BorderDeskModel", name := "fits", desc := "(II)Z" } : Jvm.MethodName) prog_11_method_11_code (5 : Nat) (Option.some Jvm.ClassFile.FieldType.boolean)) ∈ kw_T := kw_p6 25 rfl rfl
theorem kw_1226 : (Jvm.Cond.methodLink "BorderDeskModel" (211 : Nat) ({ cls := "BorderDeskModel", name := "isUnder", desc := "(II)Z" } : Jvm.MethodName)) ∈ kw_T := kw_p6 26 rfl rfl
theorem kw_1228 : (Jvm.Cond.instanceMethod ({ cls := "BorderDeskModel", name := "isUnder", desc := "(II)Z" } : Jvm.MethodName)) ∈ kw_T := kw_p6 28 rfl rfl
theorem kw_1229 : (Jvm.Cond.code ({ cls := "BorderDeskModel", name := "isUnder", desc := "(II)Z" } : Jvm.MethodName) prog_11_method_9_code (4 : Nat) (Option.some Jvm.ClassFile.FieldType.boolean)) ∈ kw_T := kw_p6 29 rfl rfl
theorem kw_1230 : (Jvm.Cond.methodLink "BorderDeskModel" (215 : Nat) ({ cls := "BorderDeskModel", name := "holds", desc := "(II)Z" } : Jvm.MethodName)) ∈ kw_T := kw_p6 30 rfl rfl
theorem kw_1232 : (Jvm.Cond.instanceMethod ({ cls := "BorderDeskModel", name := "holds", desc := "(II)Z" } : Jvm.MethodName)) ∈ kw_T := kw_p6 32 rfl rfl
theorem kw_1233 : (Jvm.Cond.code ({ cls := "BorderDeskModel", name := "holds", desc := "(II)Z" } : Jvm.MethodName) prog_11_method_10_code (6 : Nat) (Option.some Jvm.ClassFile.FieldType.boolean)) ∈ kw_T := kw_p6 33 rfl rfl
theorem kw_1234 : (Jvm.Cond.methodLink "BorderDeskModel" (221 : Nat) ({ cls := "BorderDeskModel", name := "shareOf", desc := "(II)I" } : Jvm.MethodName)) ∈ kw_T := kw_p6 34 rfl rfl
theorem kw_1236 : (Jvm.Cond.instanceMethod ({ cls := "BorderDeskModel", name := "shareOf", desc := "(II)I" } : Jvm.MethodName)) ∈ kw_T := kw_p6 36 rfl rfl
theorem kw_1237 : (Jvm.Cond.code ({ cls := "BorderDeskModel", name := "shareOf", desc := "(II)I" } : Jvm.MethodName) prog_11_method_12_code (6 : Nat) (Option.some Jvm.ClassFile.FieldType.int)) ∈ kw_T := kw_p6 37 rfl rfl
theorem kw_1238 : (Jvm.Cond.methodLink "BorderDeskLaw" (127 : Nat) ({ cls := "BorderDeskModel", name := "rate", desc := "(IIIIIII)I" } : Jvm.MethodName)) ∈ kw_T := kw_p6 38 rfl rfl
theorem kw_1239 : (Jvm.Cond.instanceMethod ({ cls := "BorderDeskModel", name := "rate", desc := "(IIIIIII)I" } : Jvm.MethodName)) ∈ kw_T := kw_p6 39 rfl rfl
theorem kw_1240 : (Jvm.Cond.selects "BorderDeskModel" ({ cls := "BorderDeskModel", name := "rate", desc := "(IIIIIII)I" } : Jvm.MethodName) ({ cls := "BorderDeskModel", name := "rate", desc := "(IIIIIII)I" } : Jvm.MethodName)) ∈ kw_T := kw_p6 40 rfl rfl
theorem kw_1241 : (Jvm.Cond.code ({ cls := "BorderDeskModel", name := "rate", desc := "(IIIIIII)I" } : Jvm.MethodName) prog_11_method_15_code (9 : Nat) (Option.some Jvm.ClassFile.FieldType.int)) ∈ kw_T := kw_p6 41 rfl rfl
theorem kw_1242 : (Jvm.Cond.methodLink "BorderDeskLaw" (130 : Nat) ({ cls := "BorderDeskModel", name := "rateFor", desc := "(III)I" } : Jvm.MethodName)) ∈ kw_T := kw_p6 42 rfl rfl
theorem kw_1243 : (Jvm.Cond.instanceMethod ({ cls := "BorderDeskModel", name := "rateFor", desc := "(III)I" } : Jvm.MethodName)) ∈ kw_T := kw_p6 43 rfl rfl
theorem kw_1244 : (Jvm.Cond.selects "BorderDeskModel" ({ cls := "BorderDeskModel", name := "rateFor", desc := "(III)I" } : Jvm.MethodName) ({ cls := "BorderDeskModel", name := "rateFor", desc := "(III)I" } : Jvm.MethodName)) ∈ kw_T := kw_p6 44 rfl rfl
theorem kw_1245 : (Jvm.Cond.code ({ cls := "BorderDeskModel", name := "rateFor", desc := "(III)I" } : Jvm.MethodName) prog_11_method_18_code (4 : Nat) (Option.some Jvm.ClassFile.FieldType.int)) ∈ kw_T := kw_p6 45 rfl rfl
theorem kw_1246 : (Jvm.Cond.methodLink "BorderDeskModel" (235 : Nat) ({ cls := "BorderDeskModel", name := "rateOf", desc := "(III)I" } : Jvm.MethodName)) ∈ kw_T := kw_p6 46 rfl rfl
theorem kw_1248 : (Jvm.Cond.instanceMethod ({ cls := "BorderDeskModel", name := "rateOf", desc := "(III)I" } : Jvm.MethodName)) ∈ kw_T := kw_p6 48 rfl rfl
theorem kw_1249 : (Jvm.Cond.code ({ cls := "BorderDeskModel", name := "rateOf", desc := "(III)I" } : Jvm.MethodName) prog_11_method_17_code (6 : Nat) (Option.some Jvm.ClassFile.FieldType.int)) ∈ kw_T := kw_p6 49 rfl rfl
theorem kw_1250 : (Jvm.Cond.methodLink "BorderDeskModel" (231 : Nat) ({ cls := "BorderDeskModel", name := "lastRate", desc := "(III)I" } : Jvm.MethodName)) ∈ kw_T := kw_p6 50 rfl rfl
theorem kw_1252 : (Jvm.Cond.instanceMethod ({ cls := "BorderDeskModel", name := "lastRate", desc := "(III)I" } : Jvm.MethodName)) ∈ kw_T := kw_p6 52 rfl rfl
theorem kw_1253 : (Jvm.Cond.code ({ cls := "BorderDeskModel", name := "lastRate", desc := "(III)I" } : Jvm.MethodName) prog_11_method_16_code (6 : Nat) (Option.some Jvm.ClassFile.FieldType.int)) ∈ kw_T := kw_p6 53 rfl rfl
theorem kw_1254 : (Jvm.Cond.methodLink "BorderDeskLaw" (134 : Nat) ({ cls := "BorderDeskModel", name := "quota", desc := "(IIIIII)I" } : Jvm.MethodName)) ∈ kw_T := kw_p6 54 rfl rfl
theorem kw_1255 : (Jvm.Cond.instanceMethod ({ cls := "BorderDeskModel", name := "quota", desc := "(IIIIII)I" } : Jvm.MethodName)) ∈ kw_T := kw_p6 55 rfl rfl
theorem kw_1256 : (Jvm.Cond.selects "BorderDeskModel" ({ cls := "BorderDeskModel", name := "quota", desc := "(IIIIII)I" } : Jvm.MethodName) ({ cls := "BorderDeskModel", name := "quota", desc := "(IIIIII)I" } : Jvm.MethodName)) ∈ kw_T := kw_p6 56 rfl rfl
theorem kw_1257 : (Jvm.Cond.code ({ cls := "BorderDeskModel", name := "quota", desc := "(IIIIII)I" } : Jvm.MethodName) prog_11_method_19_code (8 : Nat) (Option.some Jvm.ClassFile.FieldType.int)) ∈ kw_T := kw_p6 57 rfl rfl
theorem kw_1258 : (Jvm.Cond.constant "BorderDeskModel" (238 : Nat) (100000 : Int32)) ∈ kw_T := kw_p6 58 rfl rfl
theorem kw_1259 : (Jvm.Cond.methodLink "BorderDeskLaw" (141 : Nat) ({ cls := "BorderDeskModel", name := "quotaLeft", desc := "(I)I" } : Jvm.MethodName)) ∈ kw_T := kw_p6 59 rfl rfl
theorem kw_1260 : (Jvm.Cond.instanceMethod ({ cls := "BorderDeskModel", name := "quotaLeft", desc := "(I)I" } : Jvm.MethodName)) ∈ kw_T := kw_p6 60 rfl rfl
theorem kw_1261 : (Jvm.Cond.selects "BorderDeskModel" ({ cls := "BorderDeskModel", name := "quotaLeft", desc := "(I)I" } : Jvm.MethodName) ({ cls := "BorderDeskModel", name := "quotaLeft", desc := "(I)I" } : Jvm.MethodName)) ∈ kw_T := kw_p6 61 rfl rfl
theorem kw_1262 : (Jvm.Cond.code ({ cls := "BorderDeskModel", name := "quotaLeft", desc := "(I)I" } : Jvm.MethodName) prog_11_method_21_code (2 : Nat) (Option.some Jvm.ClassFile.FieldType.int)) ∈ kw_T := kw_p6 62 rfl rfl
theorem kw_1263 : (Jvm.Cond.methodLink "BorderDeskLaw" (144 : Nat) ({ cls := "BorderDeskModel", name := "part", desc := "(IIII)I" } : Jvm.MethodName)) ∈ kw_T := kw_p6 63 rfl rfl
theorem kw_1264 : (Jvm.Cond.instanceMethod ({ cls := "BorderDeskModel", name := "part", desc := "(IIII)I" } : Jvm.MethodName)) ∈ kw_T := kw_p6 64 rfl rfl
theorem kw_1265 : (Jvm.Cond.selects "BorderDeskModel" ({ cls := "BorderDeskModel", name := "part", desc := "(IIII)I" } : Jvm.MethodName) ({ cls := "BorderDeskModel", name := "part", desc := "(IIII)I" } : Jvm.MethodName)) ∈ kw_T := kw_p6 65 rfl rfl
theorem kw_1266 : (Jvm.Cond.code ({ cls := "BorderDeskModel", name := "part", desc := "(IIII)I" } : Jvm.MethodName) prog_11_method_23_code (7 : Nat) (Option.some Jvm.ClassFile.FieldType.int)) ∈ kw_T := kw_p6 66 rfl rfl
theorem kw_1267 : (Jvm.Cond.constant "BorderDeskModel" (242 : Nat) (1000000 : Int32)) ∈ kw_T := kw_p6 67 rfl rfl
theorem kw_1268 : (Jvm.Cond.methodLink "BorderDeskModel" (243 : Nat) ({ cls := "BorderDeskModel", name := "reaches", desc := "(II)Z" } : Jvm.MethodName)) ∈ kw_T := kw_p6 68 rfl rfl
theorem kw_1270 : (Jvm.Cond.instanceMethod ({ cls := "BorderDeskModel", name := "reaches", desc := "(II)Z" } : Jvm.MethodName)) ∈ kw_T := kw_p6 70 rfl rfl
theorem kw_1271 : (Jvm.Cond.code ({ cls := "BorderDeskModel", name := "reaches", desc := "(II)Z" } : Jvm.MethodName) prog_11_method_22_code (6 : Nat) (Option.some Jvm.ClassFile.FieldType.boolean)) ∈ kw_T := kw_p6 71 rfl rfl
theorem kw_1272 : (Jvm.Cond.methodLink "BorderDeskLaw" (148 : Nat) ({ cls := "BorderDeskModel", name := "zone", desc := "(II)V" } : Jvm.MethodName)) ∈ kw_T := kw_p6 72 rfl rfl
theorem kw_1273 : (Jvm.Cond.instanceMethod ({ cls := "BorderDeskModel", name := "zone", desc := "(II)V" } : Jvm.MethodName)) ∈ kw_T := kw_p6 73 rfl rfl
theorem kw_1274 : (Jvm.Cond.selects "BorderDeskModel" ({ cls := "BorderDeskModel", name := "zone", desc := "(II)V" } : Jvm.MethodName) ({ cls := "BorderDeskModel", name := "zone", desc := "(II)V" } : Jvm.MethodName)) ∈ kw_T := kw_p6 74 rfl rfl
theorem kw_1275 : (Jvm.Cond.code ({ cls := "BorderDeskModel", name := "zone", desc := "(II)V" } : Jvm.MethodName) prog_11_method_24_code (3 : Nat) (Option.none : Option Jvm.ClassFile.FieldType)) ∈ kw_T := kw_p6 75 rfl rfl
theorem kw_1276 : (Jvm.Cond.methodLink "BorderDeskLaw" (152 : Nat) ({ cls := "BorderDeskModel", name := "rule", desc := "(III)V" } : Jvm.MethodName)) ∈ kw_T := kw_p6 76 rfl rfl
theorem kw_1277 : (Jvm.Cond.instanceMethod ({ cls := "BorderDeskModel", name := "rule", desc := "(III)V" } : Jvm.MethodName)) ∈ kw_T := kw_p6 77 rfl rfl
theorem kw_1278 : (Jvm.Cond.selects "BorderDeskModel" ({ cls := "BorderDeskModel", name := "rule", desc := "(III)V" } : Jvm.MethodName) ({ cls := "BorderDeskModel", name := "rule", desc := "(III)V" } : Jvm.MethodName)) ∈ kw_T := kw_p6 78 rfl rfl
theorem kw_1279 : (Jvm.Cond.code ({ cls := "BorderDeskModel", name := "rule", desc := "(III)V" } : Jvm.MethodName) prog_11_method_25_code (4 : Nat) (Option.none : Option Jvm.ClassFile.FieldType)) ∈ kw_T := kw_p6 79 rfl rfl
theorem kw_1280 : (Jvm.Cond.methodLink "BorderDeskLaw" (156 : Nat) ({ cls := "BorderDeskModel", name := "madeIn", desc := "(II)Z" } : Jvm.MethodName)) ∈ kw_T := kw_p6 80 rfl rfl
theorem kw_1281 : (Jvm.Cond.instanceMethod ({ cls := "BorderDeskModel", name := "madeIn", desc := "(II)Z" } : Jvm.MethodName)) ∈ kw_T := kw_p6 81 rfl rfl
theorem kw_1282 : (Jvm.Cond.selects "BorderDeskModel" ({ cls := "BorderDeskModel", name := "madeIn", desc := "(II)Z" } : Jvm.MethodName) ({ cls := "BorderDeskModel", name := "madeIn", desc := "(II)Z" } : Jvm.MethodName)) ∈ kw_T := kw_p6 82 rfl rfl
theorem kw_1283 : (Jvm.Cond.code ({ cls := "BorderDeskModel", name := "madeIn", desc := "(II)Z" } : Jvm.MethodName) prog_11_method_27_code (7 : Nat) (Option.some Jvm.ClassFile.FieldType.boolean)) ∈ kw_T := kw_p6 83 rfl rfl
theorem kw_1284 : (Jvm.Cond.methodLink "BorderDeskModel" (248 : Nat) ({ cls := "BorderDeskModel", name := "isMade", desc := "(II)Z" } : Jvm.MethodName)) ∈ kw_T := kw_p6 84 rfl rfl
theorem kw_1286 : (Jvm.Cond.instanceMethod ({ cls := "BorderDeskModel", name := "isMade", desc := "(II)Z" } : Jvm.MethodName)) ∈ kw_T := kw_p6 86 rfl rfl
theorem kw_1287 : (Jvm.Cond.code ({ cls := "BorderDeskModel", name := "isMade", desc := "(II)Z" } : Jvm.MethodName) prog_11_method_26_code (12 : Nat) (Option.some Jvm.ClassFile.FieldType.boolean)) ∈ kw_T := kw_p6 87 rfl rfl
theorem kw_1288 : (Jvm.Cond.constantLong "BorderDeskModel" (246 : Nat) (1000 : Int64)) ∈ kw_T := kw_p6 88 rfl rfl
theorem kw_1289 : (Jvm.Cond.methodLink "BorderDeskLaw" (159 : Nat) ({ cls := "BorderDeskModel", name := "declare", desc := "(II)I" } : Jvm.MethodName)) ∈ kw_T := kw_p6 89 rfl rfl
theorem kw_1290 : (Jvm.Cond.instanceMethod ({ cls := "BorderDeskModel", name := "declare", desc := "(II)I" } : Jvm.MethodName)) ∈ kw_T := kw_p6 90 rfl rfl
theorem kw_1291 : (Jvm.Cond.selects "BorderDeskModel" ({ cls := "BorderDeskModel", name := "declare", desc := "(II)I" } : Jvm.MethodName) ({ cls := "BorderDeskModel", name := "declare", desc := "(II)I" } : Jvm.MethodName)) ∈ kw_T := kw_p6 91 rfl rfl
theorem kw_1292 : (Jvm.Cond.code ({ cls := "BorderDeskModel", name := "declare", desc := "(II)I" } : Jvm.MethodName) prog_11_method_30_code (3 : Nat) (Option.some Jvm.ClassFile.FieldType.int)) ∈ kw_T := kw_p6 92 rfl rfl
theorem kw_1293 : (Jvm.Cond.methodLink "BorderDeskLaw" (163 : Nat) ({ cls := "BorderDeskModel", name := "line", desc := "(IIIIIIZ)I" } : Jvm.MethodName)) ∈ kw_T := kw_p6 93 rfl rfl
theorem kw_1294 : (Jvm.Cond.instanceMethod ({ cls := "BorderDeskModel", name := "line", desc := "(IIIIIIZ)I" } : Jvm.MethodName)) ∈ kw_T := kw_p6 94 rfl rfl
theorem kw_1295 : (Jvm.Cond.selects "BorderDeskModel" ({ cls := "BorderDeskModel", name := "line", desc := "(IIIIIIZ)I" } : Jvm.MethodName) ({ cls := "BorderDeskModel", name := "line", desc := "(IIIIIIZ)I" } : Jvm.MethodName)) ∈ kw_T := kw_p6 95 rfl rfl
theorem kw_1296 : (Jvm.Cond.code ({ cls := "BorderDeskModel", name := "line", desc := "(IIIIIIZ)I" } : Jvm.MethodName) prog_11_method_32_code (10 : Nat) (Option.some Jvm.ClassFile.FieldType.int)) ∈ kw_T := kw_p6 96 rfl rfl
theorem kw_1297 : (Jvm.Cond.methodLink "BorderDeskModel" (254 : Nat) ({ cls := "BorderDeskModel", name := "isDeclaration", desc := "(I)Z" } : Jvm.MethodName)) ∈ kw_T := kw_p6 97 rfl rfl
theorem kw_1299 : (Jvm.Cond.instanceMethod ({ cls := "BorderDeskModel", name := "isDeclaration", desc := "(I)Z" } : Jvm.MethodName)) ∈ kw_T := kw_p6 99 rfl rfl
theorem kw_1300 : (Jvm.Cond.code ({ cls := "BorderDeskModel", name := "isDeclaration", desc := "(I)Z" } : Jvm.MethodName) prog_11_method_28_code (2 : Nat) (Option.some Jvm.ClassFile.FieldType.boolean)) ∈ kw_T := kw_p6 100 rfl rfl
theorem kw_1301 : (Jvm.Cond.methodLink "BorderDeskModel" (258 : Nat) ({ cls := "BorderDeskModel", name := "isField", desc := "(II)Z" } : Jvm.MethodName)) ∈ kw_T := kw_p6 101 rfl rfl
theorem kw_1302 : (Jvm.Cond.static ({ cls := "BorderDeskModel", name := "isField", desc := "(II)Z" } : Jvm.MethodName)) ∈ kw_T := kw_p6 102 rfl rfl
theorem kw_1303 : (Jvm.Cond.code ({ cls := "BorderDeskModel", name := "isField", desc := "(II)Z" } : Jvm.MethodName) prog_11_method_31_code (2 : Nat) (Option.some Jvm.ClassFile.FieldType.boolean)) ∈ kw_T := kw_p6 103 rfl rfl
theorem kw_1304 : (Jvm.Cond.constant "BorderDeskModel" (257 : Nat) (100000000 : Int32)) ∈ kw_T := kw_p6 104 rfl rfl
theorem kw_1305 : (Jvm.Cond.methodLink "BorderDeskLaw" (166 : Nat) ({ cls := "BorderDeskModel", name := "charge", desc := "(III)V" } : Jvm.MethodName)) ∈ kw_T := kw_p6 105 rfl rfl
theorem kw_1306 : (Jvm.Cond.instanceMethod ({ cls := "BorderDeskModel", name := "charge", desc := "(III)V" } : Jvm.MethodName)) ∈ kw_T := kw_p6 106 rfl rfl
theorem kw_1307 : (Jvm.Cond.selects "BorderDeskModel" ({ cls := "BorderDeskModel", name := "charge", desc := "(III)V" } : Jvm.MethodName) ({ cls := "BorderDeskModel", name := "charge", desc := "(III)V" } : Jvm.MethodName)) ∈ kw_T := kw_p6 107 rfl rfl
theorem kw_1308 : (Jvm.Cond.code ({ cls := "BorderDeskModel", name := "charge", desc := "(III)V" } : Jvm.MethodName) prog_11_method_33_code (4 : Nat) (Option.none : Option Jvm.ClassFile.FieldType)) ∈ kw_T := kw_p6 108 rfl rfl
theorem kw_1309 : (Jvm.Cond.constant "BorderDeskModel" (261 : Nat) (10000000 : Int32)) ∈ kw_T := kw_p6 109 rfl rfl
theorem kw_1310 : (Jvm.Cond.methodLink "BorderDeskLaw" (169 : Nat) ({ cls := "BorderDeskModel", name := "lineOf", desc := "(III)J" } : Jvm.MethodName)) ∈ kw_T := kw_p6 110 rfl rfl
theorem kw_1311 : (Jvm.Cond.instanceMethod ({ cls := "BorderDeskModel", name := "lineOf", desc := "(III)J" } : Jvm.MethodName)) ∈ kw_T := kw_p6 111 rfl rfl
theorem kw_1312 : (Jvm.Cond.selects "BorderDeskModel" ({ cls := "BorderDeskModel", name := "lineOf", desc := "(III)J" } : Jvm.MethodName) ({ cls := "BorderDeskModel", name := "lineOf", desc := "(III)J" } : Jvm.MethodName)) ∈ kw_T := kw_p6 112 rfl rfl
theorem kw_1313 : (Jvm.Cond.code ({ cls := "BorderDeskModel", name := "lineOf", desc := "(III)J" } : Jvm.MethodName) prog_11_method_42_code (5 : Nat) (Option.some Jvm.ClassFile.FieldType.long)) ∈ kw_T := kw_p6 113 rfl rfl
theorem kw_1314 : (Jvm.Cond.methodLink "BorderDeskModel" (290 : Nat) ({ cls := "BorderDeskModel", name := "isLine", desc := "(II)Z" } : Jvm.MethodName)) ∈ kw_T := kw_p6 114 rfl rfl
theorem kw_1316 : (Jvm.Cond.instanceMethod ({ cls := "BorderDeskModel", name := "isLine", desc := "(II)Z" } : Jvm.MethodName)) ∈ kw_T := kw_p6 116 rfl rfl
theorem kw_1317 : (Jvm.Cond.code ({ cls := "BorderDeskModel", name := "isLine", desc := "(II)Z" } : Jvm.MethodName) prog_11_method_29_code (3 : Nat) (Option.some Jvm.ClassFile.FieldType.boolean)) ∈ kw_T := kw_p6 117 rfl rfl
theorem kw_1318 : (Jvm.Cond.methodLink "BorderDeskModel" (275 : Nat) ({ cls := "BorderDeskModel", name := "value", desc := "(I)V" } : Jvm.MethodName)) ∈ kw_T := kw_p6 118 rfl rfl
theorem kw_1320 : (Jvm.Cond.instanceMethod ({ cls := "BorderDeskModel", name := "value", desc := "(I)V" } : Jvm.MethodName)) ∈ kw_T := kw_p6 120 rfl rfl
theorem kw_1321 : (Jvm.Cond.code ({ cls := "BorderDeskModel", name := "value", desc := "(I)V" } : Jvm.MethodName) prog_11_method_35_code (3 : Nat) (Option.none : Option Jvm.ClassFile.FieldType)) ∈ kw_T := kw_p6 121 rfl rfl
theorem kw_1322 : (Jvm.Cond.methodLink "BorderDeskModel" (264 : Nat) ({ cls := "BorderDeskModel", name := "spread", desc := "(II)V" } : Jvm.MethodName)) ∈ kw_T := kw_p6 122 rfl rfl
theorem kw_1324 : (Jvm.Cond.instanceMethod ({ cls := "BorderDeskModel", name := "spread", desc := "(II)V" } : Jvm.MethodName)) ∈ kw_T := kw_p6 124 rfl rfl
theorem kw_1325 : (Jvm.Cond.code ({ cls := "BorderDeskModel", name := "spread", desc := "(II)V" } : Jvm.MethodName) prog_11_method_34_code (10 : Nat) (Option.none : Option Jvm.ClassFile.FieldType)) ∈ kw_T := kw_p6 125 rfl rfl
theorem kw_1326 : (Jvm.Cond.constantLong "BorderDeskModel" (262 : Nat) (-1 : Int64)) ∈ kw_T := kw_p6 126 rfl rfl
theorem kw_1327 : (Jvm.Cond.methodLink "BorderDeskModel" (293 : Nat) ({ cls := "BorderDeskModel", name := "find", desc := "(I)Z" } : Jvm.MethodName)) ∈ kw_T := kw_p6 127 rfl rfl
theorem kw_1329 : (Jvm.Cond.instanceMethod ({ cls := "BorderDeskModel", name := "find", desc := "(I)Z" } : Jvm.MethodName)) ∈ kw_T := kw_p6 129 rfl rfl
theorem kw_1330 : (Jvm.Cond.code ({ cls := "BorderDeskModel", name := "find", desc := "(I)Z" } : Jvm.MethodName) prog_11_method_36_code (6 : Nat) (Option.some Jvm.ClassFile.FieldType.boolean)) ∈ kw_T := kw_p6 130 rfl rfl
theorem kw_1331 : (Jvm.Cond.methodLink "BorderDeskModel" (268 : Nat) ({ cls := "BorderDeskModel", name := "quotaOf", desc := "(III)I" } : Jvm.MethodName)) ∈ kw_T := kw_p6 131 rfl rfl
theorem kw_1333 : (Jvm.Cond.instanceMethod ({ cls := "BorderDeskModel", name := "quotaOf", desc := "(III)I" } : Jvm.MethodName)) ∈ kw_T := kw_p6 133 rfl rfl
theorem kw_1334 : (Jvm.Cond.code ({ cls := "BorderDeskModel", name := "quotaOf", desc := "(III)I" } : Jvm.MethodName) prog_11_method_20_code (6 : Nat) (Option.some Jvm.ClassFile.FieldType.int)) ∈ kw_T := kw_p6 134 rfl rfl
theorem kw_1335 : (Jvm.Cond.methodLink "BorderDeskModel" (296 : Nat) ({ cls := "BorderDeskModel", name := "assess", desc := "(I)J" } : Jvm.MethodName)) ∈ kw_T := kw_p6 135 rfl rfl
theorem kw_1337 : (Jvm.Cond.instanceMethod ({ cls := "BorderDeskModel", name := "assess", desc := "(I)J" } : Jvm.MethodName)) ∈ kw_T := kw_p6 137 rfl rfl
theorem kw_1338 : (Jvm.Cond.code ({ cls := "BorderDeskModel", name := "assess", desc := "(I)J" } : Jvm.MethodName) prog_11_method_40_code (3 : Nat) (Option.some Jvm.ClassFile.FieldType.long)) ∈ kw_T := kw_p6 138 rfl rfl
theorem kw_1339 : (Jvm.Cond.methodLink "BorderDeskModel" (283 : Nat) ({ cls := "BorderDeskModel", name := "mean", desc := "()V" } : Jvm.MethodName)) ∈ kw_T := kw_p6 139 rfl rfl
theorem kw_1341 : (Jvm.Cond.instanceMethod ({ cls := "BorderDeskModel", name := "mean", desc := "()V" } : Jvm.MethodName)) ∈ kw_T := kw_p6 141 rfl rfl
theorem kw_1342 : (Jvm.Cond.code ({ cls := "BorderDeskModel", name := "mean", desc := "()V" } : Jvm.MethodName) prog_11_method_39_code (2 : Nat) (Option.none : Option Jvm.ClassFile.FieldType)) ∈ kw_T := kw_p6 142 rfl rfl
theorem kw_1343 : (Jvm.Cond.methodLink "BorderDeskModel" (286 : Nat) ({ cls := "BorderDeskModel", name := "workOut", desc := "(I)J" } : Jvm.MethodName)) ∈ kw_T := kw_p6 143 rfl rfl
theorem kw_1345 : (Jvm.Cond.instanceMethod ({ cls := "BorderDeskModel", name := "workOut", desc := "(I)J" } : Jvm.MethodName)) ∈ kw_T := kw_p6 145 rfl rfl
theorem kw_1346 : (Jvm.Cond.code ({ cls := "BorderDeskModel", name := "workOut", desc := "(I)J" } : Jvm.MethodName) prog_11_method_38_code (8 : Nat) (Option.some Jvm.ClassFile.FieldType.long)) ∈ kw_T := kw_p6 146 rfl rfl
theorem kw_1347 : (Jvm.Cond.methodLink "BorderDeskModel" (279 : Nat) ({ cls := "BorderDeskModel", name := "dutyOf", desc := "(II)J" } : Jvm.MethodName)) ∈ kw_T := kw_p6 147 rfl rfl
theorem kw_1349 : (Jvm.Cond.instanceMethod ({ cls := "BorderDeskModel", name := "dutyOf", desc := "(II)J" } : Jvm.MethodName)) ∈ kw_T := kw_p6 149 rfl rfl
theorem kw_1350 : (Jvm.Cond.code ({ cls := "BorderDeskModel", name := "dutyOf", desc := "(II)J" } : Jvm.MethodName) prog_11_method_37_code (19 : Nat) (Option.some Jvm.ClassFile.FieldType.long)) ∈ kw_T := kw_p6 150 rfl rfl
theorem kw_1351 : (Jvm.Cond.constantLong "BorderDeskModel" (271 : Nat) (10000 : Int64)) ∈ kw_T := kw_p6 151 rfl rfl
theorem kw_1352 : (Jvm.Cond.constantLong "BorderDeskModel" (273 : Nat) (2 : Int64)) ∈ kw_T := kw_p6 152 rfl rfl
theorem kw_1353 : (Jvm.Cond.methodLink "BorderDeskLaw" (172 : Nat) ({ cls := "BorderDeskModel", name := "accept", desc := "(I)J" } : Jvm.MethodName)) ∈ kw_T := kw_p6 153 rfl rfl
theorem kw_1354 : (Jvm.Cond.instanceMethod ({ cls := "BorderDeskModel", name := "accept", desc := "(I)J" } : Jvm.MethodName)) ∈ kw_T := kw_p6 154 rfl rfl
theorem kw_1355 : (Jvm.Cond.selects "BorderDeskModel" ({ cls := "BorderDeskModel", name := "accept", desc := "(I)J" } : Jvm.MethodName) ({ cls := "BorderDeskModel", name := "accept", desc := "(I)J" } : Jvm.MethodName)) ∈ kw_T := kw_p6 155 rfl rfl
theorem kw_1356 : (Jvm.Cond.code ({ cls := "BorderDeskModel", name := "accept", desc := "(I)J" } : Jvm.MethodName) prog_11_method_45_code (5 : Nat) (Option.some Jvm.ClassFile.FieldType.long)) ∈ kw_T := kw_p6 156 rfl rfl
theorem kw_1357 : (Jvm.Cond.methodLink "BorderDeskModel" (302 : Nat) ({ cls := "BorderDeskModel", name := "isLate", desc := "(I)Z" } : Jvm.MethodName)) ∈ kw_T := kw_p6 157 rfl rfl
theorem kw_1359 : (Jvm.Cond.instanceMethod ({ cls := "BorderDeskModel", name := "isLate", desc := "(I)Z" } : Jvm.MethodName)) ∈ kw_T := kw_p6 159 rfl rfl
theorem kw_1360 : (Jvm.Cond.code ({ cls := "BorderDeskModel", name := "isLate", desc := "(I)Z" } : Jvm.MethodName) prog_11_method_43_code (2 : Nat) (Option.some Jvm.ClassFile.FieldType.boolean)) ∈ kw_T := kw_p6 160 rfl rfl
theorem kw_1361 : (Jvm.Cond.methodLink "BorderDeskModel" (305 : Nat) ({ cls := "BorderDeskModel", name := "book", desc := "(I)V" } : Jvm.MethodName)) ∈ kw_T := kw_p6 161 rfl rfl
theorem kw_1363 : (Jvm.Cond.instanceMethod ({ cls := "BorderDeskModel", name := "book", desc := "(I)V" } : Jvm.MethodName)) ∈ kw_T := kw_p6 163 rfl rfl
theorem kw_1364 : (Jvm.Cond.code ({ cls := "BorderDeskModel", name := "book", desc := "(I)V" } : Jvm.MethodName) prog_11_method_41_code (3 : Nat) (Option.none : Option Jvm.ClassFile.FieldType)) ∈ kw_T := kw_p6 164 rfl rfl
theorem kw_1365 : (Jvm.Cond.methodLink "BorderDeskModel" (308 : Nat) ({ cls := "BorderDeskModel", name := "addLot", desc := "(IIJZZ)I" } : Jvm.MethodName)) ∈ kw_T := kw_p6 165 rfl rfl
theorem kw_1367 : (Jvm.Cond.instanceMethod ({ cls := "BorderDeskModel", name := "addLot", desc := "(IIJZZ)I" } : Jvm.MethodName)) ∈ kw_T := kw_p6 167 rfl rfl
theorem kw_1368 : (Jvm.Cond.code ({ cls := "BorderDeskModel", name := "addLot", desc := "(IIJZZ)I" } : Jvm.MethodName) prog_11_method_44_code (7 : Nat) (Option.some Jvm.ClassFile.FieldType.int)) ∈ kw_T := kw_p6 168 rfl rfl
theorem kw_1369 : (Jvm.Cond.methodLink "BorderDeskLaw" (175 : Nat) ({ cls := "BorderDeskModel", name := "amend", desc := "(IIII)J" } : Jvm.MethodName)) ∈ kw_T := kw_p6 169 rfl rfl
theorem kw_1370 : (Jvm.Cond.instanceMethod ({ cls := "BorderDeskModel", name := "amend", desc := "(IIII)J" } : Jvm.MethodName)) ∈ kw_T := kw_p6 170 rfl rfl
theorem kw_1371 : (Jvm.Cond.selects "BorderDeskModel" ({ cls := "BorderDeskModel", name := "amend", desc := "(IIII)J" } : Jvm.MethodName) ({ cls := "BorderDeskModel", name := "amend", desc := "(IIII)J" } : Jvm.MethodName)) ∈ kw_T := kw_p6 171 rfl rfl
theorem kw_1372 : (Jvm.Cond.code ({ cls := "BorderDeskModel", name := "amend", desc := "(IIII)J" } : Jvm.MethodName) prog_11_method_47_code (10 : Nat) (Option.some Jvm.ClassFile.FieldType.long)) ∈ kw_T := kw_p6 172 rfl rfl
theorem kw_1373 : (Jvm.Cond.methodLink "BorderDeskModel" (316 : Nat) ({ cls := "BorderDeskModel", name := "isWhole", desc := "(I)Z" } : Jvm.MethodName)) ∈ kw_T := kw_p6 173 rfl rfl
theorem kw_1375 : (Jvm.Cond.instanceMethod ({ cls := "BorderDeskModel", name := "isWhole", desc := "(I)Z" } : Jvm.MethodName)) ∈ kw_T := kw_p6 175 rfl rfl
theorem kw_1376 : (Jvm.Cond.code ({ cls := "BorderDeskModel", name := "isWhole", desc := "(I)Z" } : Jvm.MethodName) prog_11_method_46_code (4 : Nat) (Option.some Jvm.ClassFile.FieldType.boolean)) ∈ kw_T := kw_p6 176 rfl rfl
theorem kw_1377 : (Jvm.Cond.methodLink "BorderDeskLaw" (178 : Nat) ({ cls := "BorderDeskModel", name := "release", desc := "(II)J" } : Jvm.MethodName)) ∈ kw_T := kw_p6 177 rfl rfl
theorem kw_1378 : (Jvm.Cond.instanceMethod ({ cls := "BorderDeskModel", name := "release", desc := "(II)J" } : Jvm.MethodName)) ∈ kw_T := kw_p6 178 rfl rfl
theorem kw_1379 : (Jvm.Cond.selects "BorderDeskModel" ({ cls := "BorderDeskModel", name := "release", desc := "(II)J" } : Jvm.MethodName) ({ cls := "BorderDeskModel", name := "release", desc := "(II)J" } : Jvm.MethodName)) ∈ kw_T := kw_p6 179 rfl rfl
theorem kw_1380 : (Jvm.Cond.code ({ cls := "BorderDeskModel", name := "release", desc := "(II)J" } : Jvm.MethodName) prog_11_method_50_code (5 : Nat) (Option.some Jvm.ClassFile.FieldType.long)) ∈ kw_T := kw_p6 180 rfl rfl
theorem kw_1381 : (Jvm.Cond.methodLink "BorderDeskModel" (319 : Nat) ({ cls := "BorderDeskModel", name := "left", desc := "(IZ)I" } : Jvm.MethodName)) ∈ kw_T := kw_p6 181 rfl rfl
theorem kw_1383 : (Jvm.Cond.instanceMethod ({ cls := "BorderDeskModel", name := "left", desc := "(IZ)I" } : Jvm.MethodName)) ∈ kw_T := kw_p6 183 rfl rfl
theorem kw_1384 : (Jvm.Cond.code ({ cls := "BorderDeskModel", name := "left", desc := "(IZ)I" } : Jvm.MethodName) prog_11_method_48_code (5 : Nat) (Option.some Jvm.ClassFile.FieldType.int)) ∈ kw_T := kw_p6 184 rfl rfl
theorem kw_1385 : (Jvm.Cond.methodLink "BorderDeskModel" (323 : Nat) ({ cls := "BorderDeskModel", name := "take", desc := "(IIZ)J" } : Jvm.MethodName)) ∈ kw_T := kw_p6 185 rfl rfl
theorem kw_1387 : (Jvm.Cond.instanceMethod ({ cls := "BorderDeskModel", name := "take", desc := "(IIZ)J" } : Jvm.MethodName)) ∈ kw_T := kw_p6 187 rfl rfl
theorem kw_1388 : (Jvm.Cond.code ({ cls := "BorderDeskModel", name := "take", desc := "(IIZ)J" } : Jvm.MethodName) prog_11_method_49_code (8 : Nat) (Option.some Jvm.ClassFile.FieldType.long)) ∈ kw_T := kw_p6 188 rfl rfl
theorem kw_1389 : (Jvm.Cond.methodLink "BorderDeskLaw" (181 : Nat) ({ cls := "BorderDeskModel", name := "export", desc := "(II)J" } : Jvm.MethodName)) ∈ kw_T := kw_p6 189 rfl rfl
theorem kw_1390 : (Jvm.Cond.instanceMethod ({ cls := "BorderDeskModel", name := "export", desc := "(II)J" } : Jvm.MethodName)) ∈ kw_T := kw_p6 190 rfl rfl
theorem kw_1391 : (Jvm.Cond.selects "BorderDeskModel" ({ cls := "BorderDeskModel", name := "export", desc := "(II)J" } : Jvm.MethodName) ({ cls := "BorderDeskModel", name := "export", desc := "(II)J" } : Jvm.MethodName)) ∈ kw_T := kw_p6 191 rfl rfl
theorem kw_1392 : (Jvm.Cond.code ({ cls := "BorderDeskModel", name := "export", desc := "(II)J" } : Jvm.MethodName) prog_11_method_51_code (5 : Nat) (Option.some Jvm.ClassFile.FieldType.long)) ∈ kw_T := kw_p6 192 rfl rfl
theorem kw_1393 : (Jvm.Cond.methodLink "BorderDeskLaw" (184 : Nat) ({ cls := "BorderDeskModel", name := "work", desc := "(IIII)I" } : Jvm.MethodName)) ∈ kw_T := kw_p6 193 rfl rfl
theorem kw_1394 : (Jvm.Cond.instanceMethod ({ cls := "BorderDeskModel", name := "work", desc := "(IIII)I" } : Jvm.MethodName)) ∈ kw_T := kw_p6 194 rfl rfl
theorem kw_1395 : (Jvm.Cond.selects "BorderDeskModel" ({ cls := "BorderDeskModel", name := "work", desc := "(IIII)I" } : Jvm.MethodName) ({ cls := "BorderDeskModel", name := "work", desc := "(IIII)I" } : Jvm.MethodName)) ∈ kw_T := kw_p6 195 rfl rfl
theorem kw_1396 : (Jvm.Cond.code ({ cls := "BorderDeskModel", name := "work", desc := "(IIII)I" } : Jvm.MethodName) prog_11_method_52_code (8 : Nat) (Option.some Jvm.ClassFile.FieldType.int)) ∈ kw_T := kw_p6 196 rfl rfl
theorem kw_1397 : (Jvm.Cond.methodLink "BorderDeskLaw" (187 : Nat) ({ cls := "BorderDeskModel", name := "lot", desc := "(II)J" } : Jvm.MethodName)) ∈ kw_T := kw_p6 197 rfl rfl
theorem kw_1398 : (Jvm.Cond.instanceMethod ({ cls := "BorderDeskModel", name := "lot", desc := "(II)J" } : Jvm.MethodName)) ∈ kw_T := kw_p6 198 rfl rfl
theorem kw_1399 : (Jvm.Cond.selects "BorderDeskModel" ({ cls := "BorderDeskModel", name := "lot", desc := "(II)J" } : Jvm.MethodName) ({ cls := "BorderDeskModel", name := "lot", desc := "(II)J" } : Jvm.MethodName)) ∈ kw_T := kw_p6 199 rfl rfl
theorem kw_1400 : (Jvm.Cond.code ({ cls := "BorderDeskModel", name := "lot", desc := "(II)J" } : Jvm.MethodName) prog_11_method_53_code (3 : Nat) (Option.some Jvm.ClassFile.FieldType.long)) ∈ kw_T := kw_p6 200 rfl rfl
theorem kw_1401 : (Jvm.Cond.methodLink "BorderDeskLaw" (190 : Nat) ({ cls := "BorderDeskModel", name := "account", desc := "(II)J" } : Jvm.MethodName)) ∈ kw_T := kw_p6 201 rfl rfl
theorem kw_1402 : (Jvm.Cond.instanceMethod ({ cls := "BorderDeskModel", name := "account", desc := "(II)J" } : Jvm.MethodName)) ∈ kw_T := kw_p6 202 rfl rfl
theorem kw_1403 : (Jvm.Cond.selects "BorderDeskModel" ({ cls := "BorderDeskModel", name := "account", desc := "(II)J" } : Jvm.MethodName) ({ cls := "BorderDeskModel", name := "account", desc := "(II)J" } : Jvm.MethodName)) ∈ kw_T := kw_p6 203 rfl rfl
theorem kw_1404 : (Jvm.Cond.code ({ cls := "BorderDeskModel", name := "account", desc := "(II)J" } : Jvm.MethodName) prog_11_method_55_code (3 : Nat) (Option.some Jvm.ClassFile.FieldType.long)) ∈ kw_T := kw_p6 204 rfl rfl
theorem kw_1405 : (Jvm.Cond.methodLink "BorderDeskModel" (330 : Nat) ({ cls := "BorderDeskModel", name := "came", desc := "(IZ)I" } : Jvm.MethodName)) ∈ kw_T := kw_p6 205 rfl rfl
theorem kw_1407 : (Jvm.Cond.instanceMethod ({ cls := "BorderDeskModel", name := "came", desc := "(IZ)I" } : Jvm.MethodName)) ∈ kw_T := kw_p6 207 rfl rfl
theorem kw_1408 : (Jvm.Cond.code ({ cls := "BorderDeskModel", name := "came", desc := "(IZ)I" } : Jvm.MethodName) prog_11_method_54_code (5 : Nat) (Option.some Jvm.ClassFile.FieldType.int)) ∈ kw_T := kw_p6 208 rfl rfl
theorem kw_1409 : (Jvm.Cond.methodLink "BorderDeskLaw" (193 : Nat) ({ cls := "BorderDeskModel", name := "books", desc := "(I)J" } : Jvm.MethodName)) ∈ kw_T := kw_p6 209 rfl rfl
theorem kw_1410 : (Jvm.Cond.instanceMethod ({ cls := "BorderDeskModel", name := "books", desc := "(I)J" } : Jvm.MethodName)) ∈ kw_T := kw_p6 210 rfl rfl
theorem kw_1411 : (Jvm.Cond.selects "BorderDeskModel" ({ cls := "BorderDeskModel", name := "books", desc := "(I)J" } : Jvm.MethodName) ({ cls := "BorderDeskModel", name := "books", desc := "(I)J" } : Jvm.MethodName)) ∈ kw_T := kw_p6 211 rfl rfl
theorem kw_1412 : (Jvm.Cond.code ({ cls := "BorderDeskModel", name := "books", desc := "(I)J" } : Jvm.MethodName) prog_11_method_56_code (2 : Nat) (Option.some Jvm.ClassFile.FieldType.long)) ∈ kw_T := kw_p6 212 rfl rfl
theorem kw_s0 : (Jvm.Cond.selects "BorderDesk" ({ cls := "BorderDesk", name := "isHeading", desc := "(I)Z" } : Jvm.MethodName) ({ cls := "BorderDesk", name := "isHeading", desc := "(I)Z" } : Jvm.MethodName)) ∈ kw_T := kw_sel 0 rfl
theorem kw_s2 : (Jvm.Cond.selects "BorderDesk$Tariff" ({ cls := "BorderDesk$Tariff", name := "judgeByOwnNotes", desc := "(I)V" } : Jvm.MethodName) ({ cls := "BorderDesk$Tariff", name := "judgeByOwnNotes", desc := "(I)V" } : Jvm.MethodName)) ∈ kw_T := kw_sel 2 rfl
theorem kw_s3 : (Jvm.Cond.selects "BorderDesk$Tariff" ({ cls := "BorderDesk$Tariff", name := "greatestMaterial", desc := "(I)I" } : Jvm.MethodName) ({ cls := "BorderDesk$Tariff", name := "greatestMaterial", desc := "(I)I" } : Jvm.MethodName)) ∈ kw_T := kw_sel 3 rfl
theorem kw_s4 : (Jvm.Cond.selects "BorderDesk$Tariff" ({ cls := "BorderDesk$Tariff", name := "holds", desc := "(III)Z" } : Jvm.MethodName) ({ cls := "BorderDesk$Tariff", name := "holds", desc := "(III)Z" } : Jvm.MethodName)) ∈ kw_T := kw_sel 4 rfl
theorem kw_s5 : (Jvm.Cond.selects "BorderDesk$Tariff" ({ cls := "BorderDesk$Tariff", name := "inheritFromParent", desc := "(I)V" } : Jvm.MethodName) ({ cls := "BorderDesk$Tariff", name := "inheritFromParent", desc := "(I)V" } : Jvm.MethodName)) ∈ kw_T := kw_sel 5 rfl
theorem kw_s6 : (Jvm.Cond.selects "BorderDesk$Tariff" ({ cls := "BorderDesk$Tariff", name := "isAsGood", desc := "(II)Z" } : Jvm.MethodName) ({ cls := "BorderDesk$Tariff", name := "isAsGood", desc := "(II)Z" } : Jvm.MethodName)) ∈ kw_T := kw_sel 6 rfl
theorem kw_s7 : (Jvm.Cond.selects "BorderDesk$Rates" ({ cls := "BorderDesk$Rates", name := "lastOwn", desc := "(III)I" } : Jvm.MethodName) ({ cls := "BorderDesk$Rates", name := "lastOwn", desc := "(III)I" } : Jvm.MethodName)) ∈ kw_T := kw_sel 7 rfl
theorem kw_s8 : (Jvm.Cond.selects "BorderDesk$Origins" ({ cls := "BorderDesk$Origins", name := "meetsRule", desc := "(III)Z" } : Jvm.MethodName) ({ cls := "BorderDesk$Origins", name := "meetsRule", desc := "(III)Z" } : Jvm.MethodName)) ∈ kw_T := kw_sel 8 rfl
theorem kw_s9 : (Jvm.Cond.selects "BorderDesk$Origins" ({ cls := "BorderDesk$Origins", name := "meetsChange", desc := "(IIII)Z" } : Jvm.MethodName) ({ cls := "BorderDesk$Origins", name := "meetsChange", desc := "(IIII)Z" } : Jvm.MethodName)) ∈ kw_T := kw_sel 9 rfl
theorem kw_s10 : (Jvm.Cond.selects "BorderDesk$Origins" ({ cls := "BorderDesk$Origins", name := "isForeign", desc := "(IIII)Z" } : Jvm.MethodName) ({ cls := "BorderDesk$Origins", name := "isForeign", desc := "(IIII)Z" } : Jvm.MethodName)) ∈ kw_T := kw_sel 10 rfl
theorem kw_s11 : (Jvm.Cond.selects "BorderDesk$Origins" ({ cls := "BorderDesk$Origins", name := "meetsShare", desc := "(IIII)Z" } : Jvm.MethodName) ({ cls := "BorderDesk$Origins", name := "meetsShare", desc := "(IIII)Z" } : Jvm.MethodName)) ∈ kw_T := kw_sel 11 rfl
theorem kw_s12 : (Jvm.Cond.selects "BorderDesk" ({ cls := "BorderDesk", name := "isDeclaration", desc := "(I)Z" } : Jvm.MethodName) ({ cls := "BorderDesk", name := "isDeclaration", desc := "(I)Z" } : Jvm.MethodName)) ∈ kw_T := kw_sel 12 rfl
theorem kw_s13 : (Jvm.Cond.selects "BorderDesk" ({ cls := "BorderDesk", name := "isLine", desc := "(II)Z" } : Jvm.MethodName) ({ cls := "BorderDesk", name := "isLine", desc := "(II)Z" } : Jvm.MethodName)) ∈ kw_T := kw_sel 13 rfl
theorem kw_s14 : (Jvm.Cond.selects "BorderDesk$Assessor" ({ cls := "BorderDesk$Assessor", name := "findValues", desc := "(I)V" } : Jvm.MethodName) ({ cls := "BorderDesk$Assessor", name := "findValues", desc := "(I)V" } : Jvm.MethodName)) ∈ kw_T := kw_sel 14 rfl
theorem kw_s15 : (Jvm.Cond.selects "BorderDesk$Assessor" ({ cls := "BorderDesk$Assessor", name := "spread", desc := "(II[I)V" } : Jvm.MethodName) ({ cls := "BorderDesk$Assessor", name := "spread", desc := "(II[I)V" } : Jvm.MethodName)) ∈ kw_T := kw_sel 15 rfl
theorem kw_s16 : (Jvm.Cond.selects "BorderDesk$Assessor" ({ cls := "BorderDesk$Assessor", name := "findWeights", desc := "(I[I)J" } : Jvm.MethodName) ({ cls := "BorderDesk$Assessor", name := "findWeights", desc := "(I[I)J" } : Jvm.MethodName)) ∈ kw_T := kw_sel 16 rfl
theorem kw_s17 : (Jvm.Cond.selects "BorderDesk$Assessor" ({ cls := "BorderDesk$Assessor", name := "greatestRemainder", desc := "(I)I" } : Jvm.MethodName) ({ cls := "BorderDesk$Assessor", name := "greatestRemainder", desc := "(I)I" } : Jvm.MethodName)) ∈ kw_T := kw_sel 17 rfl
theorem kw_s18 : (Jvm.Cond.selects "BorderDesk$Assessor" ({ cls := "BorderDesk$Assessor", name := "copyQuotasLeft", desc := "()V" } : Jvm.MethodName) ({ cls := "BorderDesk$Assessor", name := "copyQuotasLeft", desc := "()V" } : Jvm.MethodName)) ∈ kw_T := kw_sel 18 rfl
theorem kw_s19 : (Jvm.Cond.selects "BorderDesk$Assessor" ({ cls := "BorderDesk$Assessor", name := "takeMore", desc := "(II)V" } : Jvm.MethodName) ({ cls := "BorderDesk$Assessor", name := "takeMore", desc := "(II)V" } : Jvm.MethodName)) ∈ kw_T := kw_sel 19 rfl
theorem kw_s20 : (Jvm.Cond.selects "BorderDesk$Assessor" ({ cls := "BorderDesk$Assessor", name := "findDuties", desc := "(I)V" } : Jvm.MethodName) ({ cls := "BorderDesk$Assessor", name := "findDuties", desc := "(I)V" } : Jvm.MethodName)) ∈ kw_T := kw_sel 20 rfl
theorem kw_s21 : (Jvm.Cond.selects "BorderDesk$Assessor" ({ cls := "BorderDesk$Assessor", name := "dutyOf", desc := "(II)J" } : Jvm.MethodName) ({ cls := "BorderDesk$Assessor", name := "dutyOf", desc := "(II)J" } : Jvm.MethodName)) ∈ kw_T := kw_sel 21 rfl
theorem kw_s22 : (Jvm.Cond.selects "BorderDesk$Declarations" ({ cls := "BorderDesk$Declarations", name := "isLater", desc := "(II)Z" } : Jvm.MethodName) ({ cls := "BorderDesk$Declarations", name := "isLater", desc := "(II)Z" } : Jvm.MethodName)) ∈ kw_T := kw_sel 22 rfl
theorem kw_s23 : (Jvm.Cond.selects "BorderDesk" ({ cls := "BorderDesk", name := "makeLots", desc := "(I)V" } : Jvm.MethodName) ({ cls := "BorderDesk", name := "makeLots", desc := "(I)V" } : Jvm.MethodName)) ∈ kw_T := kw_sel 23 rfl
theorem kw_s24 : (Jvm.Cond.selects "BorderDesk" ({ cls := "BorderDesk", name := "hasGoneUnits", desc := "(I)Z" } : Jvm.MethodName) ({ cls := "BorderDesk", name := "hasGoneUnits", desc := "(I)Z" } : Jvm.MethodName)) ∈ kw_T := kw_sel 24 rfl
theorem kw_s25 : (Jvm.Cond.selects "BorderDesk$Assessor" ({ cls := "BorderDesk$Assessor", name := "giveBack", desc := "(III)V" } : Jvm.MethodName) ({ cls := "BorderDesk$Assessor", name := "giveBack", desc := "(III)V" } : Jvm.MethodName)) ∈ kw_T := kw_sel 25 rfl
theorem kw_s26 : (Jvm.Cond.selects "BorderDesk" ({ cls := "BorderDesk", name := "changeLots", desc := "(I)V" } : Jvm.MethodName) ({ cls := "BorderDesk", name := "changeLots", desc := "(I)V" } : Jvm.MethodName)) ∈ kw_T := kw_sel 26 rfl
theorem kw_s27 : (Jvm.Cond.selects "BorderDesk$Lots" ({ cls := "BorderDesk$Lots", name := "dutyGone", desc := "(I)J" } : Jvm.MethodName) ({ cls := "BorderDesk$Lots", name := "dutyGone", desc := "(I)J" } : Jvm.MethodName)) ∈ kw_T := kw_sel 27 rfl
theorem kw_s28 : (Jvm.Cond.selects "BorderDeskModel" ({ cls := "BorderDeskModel", name := "isHeading", desc := "(I)Z" } : Jvm.MethodName) ({ cls := "BorderDeskModel", name := "isHeading", desc := "(I)Z" } : Jvm.MethodName)) ∈ kw_T := kw_sel 28 rfl
theorem kw_s29 : (Jvm.Cond.selects "BorderDeskModel" ({ cls := "BorderDeskModel", name := "depthOf", desc := "(I)I" } : Jvm.MethodName) ({ cls := "BorderDeskModel", name := "depthOf", desc := "(I)I" } : Jvm.MethodName)) ∈ kw_T := kw_sel 29 rfl
theorem kw_s30 : (Jvm.Cond.selects "BorderDeskModel" ({ cls := "BorderDeskModel", name := "classOf", desc := "(I)I" } : Jvm.MethodName) ({ cls := "BorderDeskModel", name := "classOf", desc := "(I)I" } : Jvm.MethodName)) ∈ kw_T := kw_sel 30 rfl
theorem kw_s31 : (Jvm.Cond.selects "BorderDeskModel" ({ cls := "BorderDeskModel", name := "fits", desc := "(II)Z" } : Jvm.MethodName) ({ cls := "BorderDeskModel", name := "fits", desc := "(II)Z" } : Jvm.MethodName)) ∈ kw_T := kw_sel 31 rfl
theorem kw_s32 : (Jvm.Cond.selects "BorderDeskModel" ({ cls := "BorderDeskModel", name := "isUnder", desc := "(II)Z" } : Jvm.MethodName) ({ cls := "BorderDeskModel", name := "isUnder", desc := "(II)Z" } : Jvm.MethodName)) ∈ kw_T := kw_sel 32 rfl
theorem kw_s33 : (Jvm.Cond.selects "BorderDeskModel" ({ cls := "BorderDeskModel", name := "holds", desc := "(II)Z" } : Jvm.MethodName) ({ cls := "BorderDeskModel", name := "holds", desc := "(II)Z" } : Jvm.MethodName)) ∈ kw_T := kw_sel 33 rfl
theorem kw_s34 : (Jvm.Cond.selects "BorderDeskModel" ({ cls := "BorderDeskModel", name := "shareOf", desc := "(II)I" } : Jvm.MethodName) ({ cls := "BorderDeskModel", name := "shareOf", desc := "(II)I" } : Jvm.MethodName)) ∈ kw_T := kw_sel 34 rfl
theorem kw_s35 : (Jvm.Cond.selects "BorderDeskModel" ({ cls := "BorderDeskModel", name := "rateOf", desc := "(III)I" } : Jvm.MethodName) ({ cls := "BorderDeskModel", name := "rateOf", desc := "(III)I" } : Jvm.MethodName)) ∈ kw_T := kw_sel 35 rfl
theorem kw_s36 : (Jvm.Cond.selects "BorderDeskModel" ({ cls := "BorderDeskModel", name := "lastRate", desc := "(III)I" } : Jvm.MethodName) ({ cls := "BorderDeskModel", name := "lastRate", desc := "(III)I" } : Jvm.MethodName)) ∈ kw_T := kw_sel 36 rfl
theorem kw_s37 : (Jvm.Cond.selects "BorderDeskModel" ({ cls := "BorderDeskModel", name := "reaches", desc := "(II)Z" } : Jvm.MethodName) ({ cls := "BorderDeskModel", name := "reaches", desc := "(II)Z" } : Jvm.MethodName)) ∈ kw_T := kw_sel 37 rfl
theorem kw_s38 : (Jvm.Cond.selects "BorderDeskModel" ({ cls := "BorderDeskModel", name := "isMade", desc := "(II)Z" } : Jvm.MethodName) ({ cls := "BorderDeskModel", name := "isMade", desc := "(II)Z" } : Jvm.MethodName)) ∈ kw_T := kw_sel 38 rfl
theorem kw_s39 : (Jvm.Cond.selects "BorderDeskModel" ({ cls := "BorderDeskModel", name := "isDeclaration", desc := "(I)Z" } : Jvm.MethodName) ({ cls := "BorderDeskModel", name := "isDeclaration", desc := "(I)Z" } : Jvm.MethodName)) ∈ kw_T := kw_sel 39 rfl
theorem kw_s40 : (Jvm.Cond.selects "BorderDeskModel" ({ cls := "BorderDeskModel", name := "isLine", desc := "(II)Z" } : Jvm.MethodName) ({ cls := "BorderDeskModel", name := "isLine", desc := "(II)Z" } : Jvm.MethodName)) ∈ kw_T := kw_sel 40 rfl
theorem kw_s41 : (Jvm.Cond.selects "BorderDeskModel" ({ cls := "BorderDeskModel", name := "value", desc := "(I)V" } : Jvm.MethodName) ({ cls := "BorderDeskModel", name := "value", desc := "(I)V" } : Jvm.MethodName)) ∈ kw_T := kw_sel 41 rfl
theorem kw_s42 : (Jvm.Cond.selects "BorderDeskModel" ({ cls := "BorderDeskModel", name := "spread", desc := "(II)V" } : Jvm.MethodName) ({ cls := "BorderDeskModel", name := "spread", desc := "(II)V" } : Jvm.MethodName)) ∈ kw_T := kw_sel 42 rfl
theorem kw_s43 : (Jvm.Cond.selects "BorderDeskModel" ({ cls := "BorderDeskModel", name := "find", desc := "(I)Z" } : Jvm.MethodName) ({ cls := "BorderDeskModel", name := "find", desc := "(I)Z" } : Jvm.MethodName)) ∈ kw_T := kw_sel 43 rfl
theorem kw_s44 : (Jvm.Cond.selects "BorderDeskModel" ({ cls := "BorderDeskModel", name := "quotaOf", desc := "(III)I" } : Jvm.MethodName) ({ cls := "BorderDeskModel", name := "quotaOf", desc := "(III)I" } : Jvm.MethodName)) ∈ kw_T := kw_sel 44 rfl
theorem kw_s45 : (Jvm.Cond.selects "BorderDeskModel" ({ cls := "BorderDeskModel", name := "assess", desc := "(I)J" } : Jvm.MethodName) ({ cls := "BorderDeskModel", name := "assess", desc := "(I)J" } : Jvm.MethodName)) ∈ kw_T := kw_sel 45 rfl
theorem kw_s46 : (Jvm.Cond.selects "BorderDeskModel" ({ cls := "BorderDeskModel", name := "mean", desc := "()V" } : Jvm.MethodName) ({ cls := "BorderDeskModel", name := "mean", desc := "()V" } : Jvm.MethodName)) ∈ kw_T := kw_sel 46 rfl
theorem kw_s47 : (Jvm.Cond.selects "BorderDeskModel" ({ cls := "BorderDeskModel", name := "workOut", desc := "(I)J" } : Jvm.MethodName) ({ cls := "BorderDeskModel", name := "workOut", desc := "(I)J" } : Jvm.MethodName)) ∈ kw_T := kw_sel 47 rfl
theorem kw_s48 : (Jvm.Cond.selects "BorderDeskModel" ({ cls := "BorderDeskModel", name := "dutyOf", desc := "(II)J" } : Jvm.MethodName) ({ cls := "BorderDeskModel", name := "dutyOf", desc := "(II)J" } : Jvm.MethodName)) ∈ kw_T := kw_sel 48 rfl
theorem kw_s49 : (Jvm.Cond.selects "BorderDeskModel" ({ cls := "BorderDeskModel", name := "isLate", desc := "(I)Z" } : Jvm.MethodName) ({ cls := "BorderDeskModel", name := "isLate", desc := "(I)Z" } : Jvm.MethodName)) ∈ kw_T := kw_sel 49 rfl
theorem kw_s50 : (Jvm.Cond.selects "BorderDeskModel" ({ cls := "BorderDeskModel", name := "book", desc := "(I)V" } : Jvm.MethodName) ({ cls := "BorderDeskModel", name := "book", desc := "(I)V" } : Jvm.MethodName)) ∈ kw_T := kw_sel 50 rfl
theorem kw_s51 : (Jvm.Cond.selects "BorderDeskModel" ({ cls := "BorderDeskModel", name := "addLot", desc := "(IIJZZ)I" } : Jvm.MethodName) ({ cls := "BorderDeskModel", name := "addLot", desc := "(IIJZZ)I" } : Jvm.MethodName)) ∈ kw_T := kw_sel 51 rfl
theorem kw_s52 : (Jvm.Cond.selects "BorderDeskModel" ({ cls := "BorderDeskModel", name := "isWhole", desc := "(I)Z" } : Jvm.MethodName) ({ cls := "BorderDeskModel", name := "isWhole", desc := "(I)Z" } : Jvm.MethodName)) ∈ kw_T := kw_sel 52 rfl
theorem kw_s53 : (Jvm.Cond.selects "BorderDeskModel" ({ cls := "BorderDeskModel", name := "left", desc := "(IZ)I" } : Jvm.MethodName) ({ cls := "BorderDeskModel", name := "left", desc := "(IZ)I" } : Jvm.MethodName)) ∈ kw_T := kw_sel 53 rfl
theorem kw_s54 : (Jvm.Cond.selects "BorderDeskModel" ({ cls := "BorderDeskModel", name := "take", desc := "(IIZ)J" } : Jvm.MethodName) ({ cls := "BorderDeskModel", name := "take", desc := "(IIZ)J" } : Jvm.MethodName)) ∈ kw_T := kw_sel 54 rfl
theorem kw_s55 : (Jvm.Cond.selects "BorderDeskModel" ({ cls := "BorderDeskModel", name := "came", desc := "(IZ)I" } : Jvm.MethodName) ({ cls := "BorderDeskModel", name := "came", desc := "(IZ)I" } : Jvm.MethodName)) ∈ kw_T := kw_sel 55 rfl

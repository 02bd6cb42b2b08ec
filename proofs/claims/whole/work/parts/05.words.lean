/-- the words of every method: those of the tables that a callee may keep -/
def GW : List Cond := lw_tbl.filter goodWord
theorem gw_t {w : Cond} (h : w ∈ tables_1) (g : goodWord w = true) : w ∈ GW := List.mem_filter.mpr ⟨List.mem_append_right _ h, g⟩
theorem gw_1 {w : Cond} (i : Nat) (h : tables_1_1[i]? = some w) (g : goodWord w = true) : w ∈ GW := gw_t (List.mem_append_left _ (List.mem_of_getElem? h)) g
theorem gw_2 {w : Cond} (i : Nat) (h : tables_1_2[i]? = some w) (g : goodWord w = true) : w ∈ GW := gw_t (List.mem_append_right _ (List.mem_append_left _ (List.mem_of_getElem? h))) g
theorem gw_3 {w : Cond} (i : Nat) (h : tables_1_3[i]? = some w) (g : goodWord w = true) : w ∈ GW := gw_t (List.mem_append_right _ (List.mem_append_right _ (List.mem_of_getElem? h))) g
theorem gw_s {q : MethodName × Nat} (h : q ∈ lw_privs) : Cond.selects q.1.cls q.1 q.1 ∈ GW := List.mem_filter.mpr ⟨List.mem_append_left _ (List.mem_map.mpr ⟨q, h, rfl⟩), rfl⟩
theorem kw1_0 : (Cond.initialized "ExchangeRecordsLaw") ∈ GW := gw_1 0 rfl rfl
theorem kw1_1 : (Cond.initialized "ExchangeRecords") ∈ GW := gw_1 1 rfl rfl
theorem kw1_2 : (Cond.initialized "ExchangeRecords$Input") ∈ GW := gw_1 2 rfl rfl
theorem kw1_3 : (Cond.initialized "ExchangeRecords$Output") ∈ GW := gw_1 3 rfl rfl
theorem kw1_4 : (Cond.initialized "ExchangeRecords$Field") ∈ GW := gw_1 4 rfl rfl
theorem kw1_5 : (Cond.initialized "ExchangeRecordsModel") ∈ GW := gw_1 5 rfl rfl
theorem kw1_6 : (Cond.initialized "java/lang/Math") ∈ GW := gw_1 6 rfl rfl
theorem kw1_7 : (Cond.initialized "java/util/Arrays") ∈ GW := gw_1 7 rfl rfl
theorem kw1_8 : (Cond.initialized "java/lang/System") ∈ GW := gw_1 8 rfl rfl
theorem kw1_9 : (Cond.initialized "java/lang/Throwable") ∈ GW := gw_1 9 rfl rfl
theorem kw1_10 : (Cond.initialized "java/lang/Exception") ∈ GW := gw_1 10 rfl rfl
theorem kw1_11 : (Cond.initialized "java/lang/RuntimeException") ∈ GW := gw_1 11 rfl rfl
theorem kw1_12 : (Cond.initialized "java/lang/IndexOutOfBoundsException") ∈ GW := gw_1 12 rfl rfl
theorem kw1_13 : (Cond.initialized "java/lang/ArrayIndexOutOfBoundsException") ∈ GW := gw_1 13 rfl rfl
theorem kw1_14 : (Cond.initialized "java/lang/String") ∈ GW := gw_1 14 rfl rfl
theorem kw1_15 : (Cond.classLink "ExchangeRecordsLaw" (8 : Nat) "ExchangeRecords") ∈ GW := gw_1 15 rfl rfl
theorem kw1_16 : (Cond.instantiable "ExchangeRecords" (8 : Nat)) ∈ GW := gw_1 16 rfl rfl
theorem kw1_17 : (Cond.methodLink "ExchangeRecordsLaw" (19 : Nat) ({ cls := "ExchangeRecords", name := "<init>", desc := "()V" } : Jvm.MethodName)) ∈ GW := gw_1 17 rfl rfl
theorem kw1_18 : (Cond.instanceMethod ({ cls := "ExchangeRecords", name := "<init>", desc := "()V" } : Jvm.MethodName)) ∈ GW := gw_1 18 rfl rfl
theorem kw1_19 : (Cond.code ({ cls := "ExchangeRecords", name := "<init>", desc := "()V" } : Jvm.MethodName) prog_1_method_1_code (2 : Nat) (Option.none : Option Jvm.ClassFile.FieldType)) ∈ GW := gw_1 19 rfl rfl
theorem kw1_20 : (Cond.methodLink "ExchangeRecords" (1 : Nat) ({ cls := "java/lang/Object", name := "<init>", desc := "()V" } : Jvm.MethodName)) ∈ GW := gw_1 20 rfl rfl
theorem kw1_21 : (Cond.instanceMethod ({ cls := "java/lang/Object", name := "<init>", desc := "()V" } : Jvm.MethodName)) ∈ GW := gw_1 21 rfl rfl
theorem kw1_22 : (Cond.code ({ cls := "java/lang/Object", name := "<init>", desc := "()V" } : Jvm.MethodName) object_method_1_code (1 : Nat) (Option.none : Option Jvm.ClassFile.FieldType)) ∈ GW := gw_1 22 rfl rfl
theorem kw1_23 : (Cond.classLink "ExchangeRecords" (7 : Nat) "ExchangeRecords$Input") ∈ GW := gw_1 23 rfl rfl
theorem kw1_24 : (Cond.instantiable "ExchangeRecords$Input" (3 : Nat)) ∈ GW := gw_1 24 rfl rfl
theorem kw1_25 : (Cond.methodLink "ExchangeRecords" (9 : Nat) ({ cls := "ExchangeRecords$Input", name := "<init>", desc := "()V" } : Jvm.MethodName)) ∈ GW := gw_1 25 rfl rfl
theorem kw1_26 : (Cond.instanceMethod ({ cls := "ExchangeRecords$Input", name := "<init>", desc := "()V" } : Jvm.MethodName)) ∈ GW := gw_1 26 rfl rfl
theorem kw1_27 : (Cond.code ({ cls := "ExchangeRecords$Input", name := "<init>", desc := "()V" } : Jvm.MethodName) prog_3_method_1_code (1 : Nat) (Option.none : Option Jvm.ClassFile.FieldType)) ∈ GW := gw_1 27 rfl rfl
theorem kw1_28 : (Cond.methodLink "ExchangeRecords$Input" (3 : Nat) ({ cls := "java/lang/Object", name := "<init>", desc := "()V" } : Jvm.MethodName)) ∈ GW := gw_1 28 rfl rfl
theorem kw1_29 : (Cond.fieldLink "ExchangeRecords$Input" (9 : Nat) "ExchangeRecords$Input" "bytes" "[B") ∈ GW := gw_1 29 rfl rfl
theorem kw1_30 : (Cond.fieldLink "ExchangeRecords$Input" (15 : Nat) "ExchangeRecords$Input" "size" "I") ∈ GW := gw_1 30 rfl rfl
theorem kw1_31 : (Cond.fieldLink "ExchangeRecords$Input" (19 : Nat) "ExchangeRecords$Input" "place" "I") ∈ GW := gw_1 31 rfl rfl
theorem kw1_32 : (Cond.laysFinal "ExchangeRecords$Input" "ExchangeRecords$Input" "bytes" "[B") ∈ GW := gw_1 32 rfl rfl
theorem kw1_33 : (Cond.soleField "ExchangeRecords$Input" "bytes") ∈ GW := gw_1 33 rfl rfl
theorem kw1_34 : (Cond.lays "ExchangeRecords$Input" "ExchangeRecords$Input" "size" "I") ∈ GW := gw_1 34 rfl rfl
theorem kw1_35 : (Cond.soleField "ExchangeRecords$Input" "size") ∈ GW := gw_1 35 rfl rfl
theorem kw1_36 : (Cond.lays "ExchangeRecords$Input" "ExchangeRecords$Input" "place" "I") ∈ GW := gw_1 36 rfl rfl
theorem kw1_37 : (Cond.soleField "ExchangeRecords$Input" "place") ∈ GW := gw_1 37 rfl rfl
theorem kw1_38 : (Cond.superclass "ExchangeRecords$Input" "java/lang/Object") ∈ GW := gw_1 38 rfl rfl
theorem kw1_39 : (Cond.arrayClass Jvm.ClassFile.FieldType.byte) ∈ GW := gw_1 39 rfl rfl
theorem kw1_40 : (Cond.classLink "ExchangeRecords" (16 : Nat) "ExchangeRecords$Output") ∈ GW := gw_1 40 rfl rfl
theorem kw1_41 : (Cond.instantiable "ExchangeRecords$Output" (2 : Nat)) ∈ GW := gw_1 41 rfl rfl
theorem kw1_42 : (Cond.methodLink "ExchangeRecords" (18 : Nat) ({ cls := "ExchangeRecords$Output", name := "<init>", desc := "()V" } : Jvm.MethodName)) ∈ GW := gw_1 42 rfl rfl
theorem kw1_43 : (Cond.instanceMethod ({ cls := "ExchangeRecords$Output", name := "<init>", desc := "()V" } : Jvm.MethodName)) ∈ GW := gw_1 43 rfl rfl
theorem kw1_44 : (Cond.code ({ cls := "ExchangeRecords$Output", name := "<init>", desc := "()V" } : Jvm.MethodName) prog_4_method_1_code (1 : Nat) (Option.none : Option Jvm.ClassFile.FieldType)) ∈ GW := gw_1 44 rfl rfl
theorem kw1_45 : (Cond.methodLink "ExchangeRecords$Output" (1 : Nat) ({ cls := "java/lang/Object", name := "<init>", desc := "()V" } : Jvm.MethodName)) ∈ GW := gw_1 45 rfl rfl
theorem kw1_46 : (Cond.fieldLink "ExchangeRecords$Output" (9 : Nat) "ExchangeRecords$Output" "bytes" "[B") ∈ GW := gw_1 46 rfl rfl
theorem kw1_47 : (Cond.fieldLink "ExchangeRecords$Output" (13 : Nat) "ExchangeRecords$Output" "size" "I") ∈ GW := gw_1 47 rfl rfl
theorem kw1_48 : (Cond.lays "ExchangeRecords$Output" "ExchangeRecords$Output" "bytes" "[B") ∈ GW := gw_1 48 rfl rfl
theorem kw1_49 : (Cond.soleField "ExchangeRecords$Output" "bytes") ∈ GW := gw_1 49 rfl rfl
theorem kw1_50 : (Cond.lays "ExchangeRecords$Output" "ExchangeRecords$Output" "size" "I") ∈ GW := gw_1 50 rfl rfl
theorem kw1_51 : (Cond.soleField "ExchangeRecords$Output" "size") ∈ GW := gw_1 51 rfl rfl
theorem kw1_52 : (Cond.superclass "ExchangeRecords$Output" "java/lang/Object") ∈ GW := gw_1 52 rfl rfl
theorem kw1_53 : (Cond.classLink "ExchangeRecords" (27 : Nat) "ExchangeRecords$Field") ∈ GW := gw_1 53 rfl rfl
theorem kw1_55 : (Cond.instantiable "ExchangeRecords$Field" (6 : Nat)) ∈ GW := gw_1 55 rfl rfl
theorem kw1_56 : (Cond.methodLink "ExchangeRecords" (33 : Nat) ({ cls := "ExchangeRecords$Field", name := "<init>", desc := "()V" } : Jvm.MethodName)) ∈ GW := gw_1 56 rfl rfl
theorem kw1_57 : (Cond.instanceMethod ({ cls := "ExchangeRecords$Field", name := "<init>", desc := "()V" } : Jvm.MethodName)) ∈ GW := gw_1 57 rfl rfl
theorem kw1_58 : (Cond.code ({ cls := "ExchangeRecords$Field", name := "<init>", desc := "()V" } : Jvm.MethodName) prog_2_method_1_code (1 : Nat) (Option.none : Option Jvm.ClassFile.FieldType)) ∈ GW := gw_1 58 rfl rfl
theorem kw1_59 : (Cond.methodLink "ExchangeRecords$Field" (3 : Nat) ({ cls := "java/lang/Object", name := "<init>", desc := "()V" } : Jvm.MethodName)) ∈ GW := gw_1 59 rfl rfl
theorem kw1_60 : (Cond.fieldLink "ExchangeRecords$Field" (15 : Nat) "ExchangeRecords$Field" "tag" "I") ∈ GW := gw_1 60 rfl rfl
theorem kw1_62 : (Cond.fieldLink "ExchangeRecords$Field" (19 : Nat) "ExchangeRecords$Field" "first" "I") ∈ GW := gw_1 62 rfl rfl
theorem kw1_64 : (Cond.fieldLink "ExchangeRecords$Field" (22 : Nat) "ExchangeRecords$Field" "second" "I") ∈ GW := gw_1 64 rfl rfl
theorem kw1_66 : (Cond.fieldLink "ExchangeRecords$Field" (11 : Nat) "ExchangeRecords$Field" "bytes" "[B") ∈ GW := gw_1 66 rfl rfl
theorem kw1_67 : (Cond.fieldLink "ExchangeRecords$Field" (25 : Nat) "ExchangeRecords$Field" "size" "I") ∈ GW := gw_1 67 rfl rfl
theorem kw1_69 : (Cond.fieldLink "ExchangeRecords$Field" (28 : Nat) "ExchangeRecords$Field" "subfields" "I") ∈ GW := gw_1 69 rfl rfl
theorem kw1_70 : (Cond.lays "ExchangeRecords$Field" "ExchangeRecords$Field" "tag" "I") ∈ GW := gw_1 70 rfl rfl
theorem kw1_71 : (Cond.soleField "ExchangeRecords$Field" "tag") ∈ GW := gw_1 71 rfl rfl
theorem kw1_72 : (Cond.lays "ExchangeRecords$Field" "ExchangeRecords$Field" "first" "I") ∈ GW := gw_1 72 rfl rfl
theorem kw1_73 : (Cond.soleField "ExchangeRecords$Field" "first") ∈ GW := gw_1 73 rfl rfl
theorem kw1_74 : (Cond.lays "ExchangeRecords$Field" "ExchangeRecords$Field" "second" "I") ∈ GW := gw_1 74 rfl rfl
theorem kw1_75 : (Cond.soleField "ExchangeRecords$Field" "second") ∈ GW := gw_1 75 rfl rfl
theorem kw1_76 : (Cond.lays "ExchangeRecords$Field" "ExchangeRecords$Field" "bytes" "[B") ∈ GW := gw_1 76 rfl rfl
theorem kw1_77 : (Cond.soleField "ExchangeRecords$Field" "bytes") ∈ GW := gw_1 77 rfl rfl
theorem kw1_78 : (Cond.lays "ExchangeRecords$Field" "ExchangeRecords$Field" "size" "I") ∈ GW := gw_1 78 rfl rfl
theorem kw1_79 : (Cond.soleField "ExchangeRecords$Field" "size") ∈ GW := gw_1 79 rfl rfl
theorem kw1_80 : (Cond.lays "ExchangeRecords$Field" "ExchangeRecords$Field" "subfields" "I") ∈ GW := gw_1 80 rfl rfl
theorem kw1_81 : (Cond.soleField "ExchangeRecords$Field" "subfields") ∈ GW := gw_1 81 rfl rfl
theorem kw1_82 : (Cond.superclass "ExchangeRecords$Field" "java/lang/Object") ∈ GW := gw_1 82 rfl rfl
theorem kw1_83 : (Cond.fieldLink "ExchangeRecords" (10 : Nat) "ExchangeRecords" "input" "LExchangeRecords$Input;") ∈ GW := gw_1 83 rfl rfl
theorem kw1_84 : (Cond.fieldLink "ExchangeRecords" (19 : Nat) "ExchangeRecords" "output" "LExchangeRecords$Output;") ∈ GW := gw_1 84 rfl rfl
theorem kw1_85 : (Cond.fieldLink "ExchangeRecords" (23 : Nat) "ExchangeRecords" "leaderBytes" "[B") ∈ GW := gw_1 85 rfl rfl
theorem kw1_86 : (Cond.fieldLink "ExchangeRecords" (29 : Nat) "ExchangeRecords" "fields" "[LExchangeRecords$Field;") ∈ GW := gw_1 86 rfl rfl
theorem kw1_87 : (Cond.fieldLink "ExchangeRecords" (34 : Nat) "ExchangeRecords" "rows" "[I") ∈ GW := gw_1 87 rfl rfl
theorem kw1_88 : (Cond.fieldLink "ExchangeRecords" (38 : Nat) "ExchangeRecords" "rowCount" "I") ∈ GW := gw_1 88 rfl rfl
theorem kw1_89 : (Cond.fieldLink "ExchangeRecords" (42 : Nat) "ExchangeRecords" "present" "Z") ∈ GW := gw_1 89 rfl rfl
theorem kw1_90 : (Cond.fieldLink "ExchangeRecords" (46 : Nat) "ExchangeRecords" "fieldCount" "I") ∈ GW := gw_1 90 rfl rfl
theorem kw1_91 : (Cond.laysFinal "ExchangeRecords" "ExchangeRecords" "input" "LExchangeRecords$Input;") ∈ GW := gw_1 91 rfl rfl
theorem kw1_92 : (Cond.soleField "ExchangeRecords" "input") ∈ GW := gw_1 92 rfl rfl
theorem kw1_93 : (Cond.laysFinal "ExchangeRecords" "ExchangeRecords" "output" "LExchangeRecords$Output;") ∈ GW := gw_1 93 rfl rfl
theorem kw1_94 : (Cond.soleField "ExchangeRecords" "output") ∈ GW := gw_1 94 rfl rfl
theorem kw1_95 : (Cond.laysFinal "ExchangeRecords" "ExchangeRecords" "leaderBytes" "[B") ∈ GW := gw_1 95 rfl rfl
theorem kw1_96 : (Cond.soleField "ExchangeRecords" "leaderBytes") ∈ GW := gw_1 96 rfl rfl
theorem kw1_97 : (Cond.laysFinal "ExchangeRecords" "ExchangeRecords" "fields" "[LExchangeRecords$Field;") ∈ GW := gw_1 97 rfl rfl
theorem kw1_98 : (Cond.soleField "ExchangeRecords" "fields") ∈ GW := gw_1 98 rfl rfl
theorem kw1_99 : (Cond.laysFinal "ExchangeRecords" "ExchangeRecords" "rows" "[I") ∈ GW := gw_1 99 rfl rfl
theorem kw1_100 : (Cond.soleField "ExchangeRecords" "rows") ∈ GW := gw_1 100 rfl rfl
theorem kw1_101 : (Cond.lays "ExchangeRecords" "ExchangeRecords" "rowCount" "I") ∈ GW := gw_1 101 rfl rfl
theorem kw1_102 : (Cond.soleField "ExchangeRecords" "rowCount") ∈ GW := gw_1 102 rfl rfl
theorem kw1_103 : (Cond.lays "ExchangeRecords" "ExchangeRecords" "present" "Z") ∈ GW := gw_1 103 rfl rfl
theorem kw1_104 : (Cond.soleField "ExchangeRecords" "present") ∈ GW := gw_1 104 rfl rfl
theorem kw1_105 : (Cond.lays "ExchangeRecords" "ExchangeRecords" "fieldCount" "I") ∈ GW := gw_1 105 rfl rfl
theorem kw1_106 : (Cond.soleField "ExchangeRecords" "fieldCount") ∈ GW := gw_1 106 rfl rfl
theorem kw1_107 : (Cond.superclass "ExchangeRecords" "java/lang/Object") ∈ GW := gw_1 107 rfl rfl
theorem kw1_108 : (Cond.arrayClass Jvm.ClassFile.FieldType.int) ∈ GW := gw_1 108 rfl rfl
theorem kw1_109 : (Cond.methodLink "ExchangeRecordsLaw" (23 : Nat) ({ cls := "ExchangeRecords", name := "add", desc := "(B)V" } : Jvm.MethodName)) ∈ GW := gw_1 109 rfl rfl
theorem kw1_110 : (Cond.instanceMethod ({ cls := "ExchangeRecords", name := "add", desc := "(B)V" } : Jvm.MethodName)) ∈ GW := gw_1 110 rfl rfl
theorem kw1_111 : (Cond.selects "ExchangeRecords" ({ cls := "ExchangeRecords", name := "add", desc := "(B)V" } : Jvm.MethodName) ({ cls := "ExchangeRecords", name := "add", desc := "(B)V" } : Jvm.MethodName)) ∈ GW := gw_1 111 rfl rfl
theorem kw1_112 : (Cond.code ({ cls := "ExchangeRecords", name := "add", desc := "(B)V" } : Jvm.MethodName) prog_1_method_2_code (2 : Nat) (Option.none : Option Jvm.ClassFile.FieldType)) ∈ GW := gw_1 112 rfl rfl
theorem kw1_113 : (Cond.methodLink "ExchangeRecords" (49 : Nat) ({ cls := "ExchangeRecords$Input", name := "append", desc := "(B)V" } : Jvm.MethodName)) ∈ GW := gw_1 113 rfl rfl
theorem kw1_114 : (Cond.instanceMethod ({ cls := "ExchangeRecords$Input", name := "append", desc := "(B)V" } : Jvm.MethodName)) ∈ GW := gw_1 114 rfl rfl
theorem kw1_115 : (Cond.selects "ExchangeRecords$Input" ({ cls := "ExchangeRecords$Input", name := "append", desc := "(B)V" } : Jvm.MethodName) ({ cls := "ExchangeRecords$Input", name := "append", desc := "(B)V" } : Jvm.MethodName)) ∈ GW := gw_1 115 rfl rfl
theorem kw1_116 : (Cond.code ({ cls := "ExchangeRecords$Input", name := "append", desc := "(B)V" } : Jvm.MethodName) prog_3_method_2_code (2 : Nat) (Option.none : Option Jvm.ClassFile.FieldType)) ∈ GW := gw_1 116 rfl rfl
theorem kw1_117 : (Cond.methodLink "ExchangeRecordsLaw" (28 : Nat) ({ cls := "ExchangeRecords", name := "read", desc := "()I" } : Jvm.MethodName)) ∈ GW := gw_1 117 rfl rfl
theorem kw1_118 : (Cond.instanceMethod ({ cls := "ExchangeRecords", name := "read", desc := "()I" } : Jvm.MethodName)) ∈ GW := gw_1 118 rfl rfl
theorem kw1_119 : (Cond.selects "ExchangeRecords" ({ cls := "ExchangeRecords", name := "read", desc := "()I" } : Jvm.MethodName) ({ cls := "ExchangeRecords", name := "read", desc := "()I" } : Jvm.MethodName)) ∈ GW := gw_1 119 rfl rfl
theorem kw1_120 : (Cond.code ({ cls := "ExchangeRecords", name := "read", desc := "()I" } : Jvm.MethodName) prog_1_method_3_code (3 : Nat) (Option.some Jvm.ClassFile.FieldType.int)) ∈ GW := gw_1 120 rfl rfl
theorem kw1_121 : (Cond.methodLink "ExchangeRecords" (53 : Nat) ({ cls := "ExchangeRecords$Input", name := "left", desc := "()I" } : Jvm.MethodName)) ∈ GW := gw_1 121 rfl rfl
theorem kw1_122 : (Cond.instanceMethod ({ cls := "ExchangeRecords$Input", name := "left", desc := "()I" } : Jvm.MethodName)) ∈ GW := gw_1 122 rfl rfl
theorem kw1_123 : (Cond.selects "ExchangeRecords$Input" ({ cls := "ExchangeRecords$Input", name := "left", desc := "()I" } : Jvm.MethodName) ({ cls := "ExchangeRecords$Input", name := "left", desc := "()I" } : Jvm.MethodName)) ∈ GW := gw_1 123 rfl rfl
theorem kw1_124 : (Cond.code ({ cls := "ExchangeRecords$Input", name := "left", desc := "()I" } : Jvm.MethodName) prog_3_method_3_code (1 : Nat) (Option.some Jvm.ClassFile.FieldType.int)) ∈ GW := gw_1 124 rfl rfl
theorem kw1_125 : (Cond.methodLink "ExchangeRecords" (57 : Nat) ({ cls := "ExchangeRecords$Input", name := "wrongInTotal", desc := "()I" } : Jvm.MethodName)) ∈ GW := gw_1 125 rfl rfl
theorem kw1_126 : (Cond.instanceMethod ({ cls := "ExchangeRecords$Input", name := "wrongInTotal", desc := "()I" } : Jvm.MethodName)) ∈ GW := gw_1 126 rfl rfl
theorem kw1_127 : (Cond.selects "ExchangeRecords$Input" ({ cls := "ExchangeRecords$Input", name := "wrongInTotal", desc := "()I" } : Jvm.MethodName) ({ cls := "ExchangeRecords$Input", name := "wrongInTotal", desc := "()I" } : Jvm.MethodName)) ∈ GW := gw_1 127 rfl rfl
theorem kw1_128 : (Cond.code ({ cls := "ExchangeRecords$Input", name := "wrongInTotal", desc := "()I" } : Jvm.MethodName) prog_3_method_7_code (2 : Nat) (Option.some Jvm.ClassFile.FieldType.int)) ∈ GW := gw_1 128 rfl rfl
theorem kw1_129 : (Cond.methodLink "ExchangeRecords$Input" (26 : Nat) ({ cls := "ExchangeRecords$Input", name := "wrongDigit", desc := "(II)I" } : Jvm.MethodName)) ∈ GW := gw_1 129 rfl rfl
theorem kw1_131 : (Cond.instanceMethod ({ cls := "ExchangeRecords$Input", name := "wrongDigit", desc := "(II)I" } : Jvm.MethodName)) ∈ GW := gw_1 131 rfl rfl
theorem kw1_132 : (Cond.code ({ cls := "ExchangeRecords$Input", name := "wrongDigit", desc := "(II)I" } : Jvm.MethodName) prog_3_method_14_code (4 : Nat) (Option.some Jvm.ClassFile.FieldType.int)) ∈ GW := gw_1 132 rfl rfl
theorem kw1_133 : (Cond.methodLink "ExchangeRecords$Input" (22 : Nat) ({ cls := "ExchangeRecords$Input", name := "at", desc := "(I)I" } : Jvm.MethodName)) ∈ GW := gw_1 133 rfl rfl
theorem kw1_134 : (Cond.instanceMethod ({ cls := "ExchangeRecords$Input", name := "at", desc := "(I)I" } : Jvm.MethodName)) ∈ GW := gw_1 134 rfl rfl
theorem kw1_135 : (Cond.selects "ExchangeRecords$Input" ({ cls := "ExchangeRecords$Input", name := "at", desc := "(I)I" } : Jvm.MethodName) ({ cls := "ExchangeRecords$Input", name := "at", desc := "(I)I" } : Jvm.MethodName)) ∈ GW := gw_1 135 rfl rfl
theorem kw1_136 : (Cond.code ({ cls := "ExchangeRecords$Input", name := "at", desc := "(I)I" } : Jvm.MethodName) prog_3_method_5_code (2 : Nat) (Option.some Jvm.ClassFile.FieldType.int)) ∈ GW := gw_1 136 rfl rfl
theorem kw1_138 : (Cond.static ({ cls := "ExchangeRecords", name := "isDigit", desc := "(I)Z" } : Jvm.MethodName)) ∈ GW := gw_1 138 rfl rfl
theorem kw1_139 : (Cond.code ({ cls := "ExchangeRecords", name := "isDigit", desc := "(I)Z" } : Jvm.MethodName) prog_1_method_15_code (1 : Nat) (Option.some Jvm.ClassFile.FieldType.boolean)) ∈ GW := gw_1 139 rfl rfl
theorem kw1_140 : (Cond.methodLink "ExchangeRecords$Input" (30 : Nat) ({ cls := "ExchangeRecords$Input", name := "number", desc := "(II)I" } : Jvm.MethodName)) ∈ GW := gw_1 140 rfl rfl
theorem kw1_141 : (Cond.instanceMethod ({ cls := "ExchangeRecords$Input", name := "number", desc := "(II)I" } : Jvm.MethodName)) ∈ GW := gw_1 141 rfl rfl
theorem kw1_142 : (Cond.selects "ExchangeRecords$Input" ({ cls := "ExchangeRecords$Input", name := "number", desc := "(II)I" } : Jvm.MethodName) ({ cls := "ExchangeRecords$Input", name := "number", desc := "(II)I" } : Jvm.MethodName)) ∈ GW := gw_1 142 rfl rfl
theorem kw1_143 : (Cond.code ({ cls := "ExchangeRecords$Input", name := "number", desc := "(II)I" } : Jvm.MethodName) prog_3_method_6_code (5 : Nat) (Option.some Jvm.ClassFile.FieldType.int)) ∈ GW := gw_1 143 rfl rfl
theorem kw1_144 : (Cond.methodLink "ExchangeRecords" (60 : Nat) ({ cls := "ExchangeRecords", name := "refuse", desc := "(II)I" } : Jvm.MethodName)) ∈ GW := gw_1 144 rfl rfl
theorem kw1_146 : (Cond.instanceMethod ({ cls := "ExchangeRecords", name := "refuse", desc := "(II)I" } : Jvm.MethodName)) ∈ GW := gw_1 146 rfl rfl
theorem kw1_147 : (Cond.code ({ cls := "ExchangeRecords", name := "refuse", desc := "(II)I" } : Jvm.MethodName) prog_1_method_20_code (3 : Nat) (Option.some Jvm.ClassFile.FieldType.int)) ∈ GW := gw_1 147 rfl rfl
theorem kw1_148 : (Cond.methodLink "ExchangeRecords" (74 : Nat) ({ cls := "ExchangeRecords$Input", name := "skip", desc := "(I)V" } : Jvm.MethodName)) ∈ GW := gw_1 148 rfl rfl
theorem kw1_149 : (Cond.instanceMethod ({ cls := "ExchangeRecords$Input", name := "skip", desc := "(I)V" } : Jvm.MethodName)) ∈ GW := gw_1 149 rfl rfl
theorem kw1_150 : (Cond.selects "ExchangeRecords$Input" ({ cls := "ExchangeRecords$Input", name := "skip", desc := "(I)V" } : Jvm.MethodName) ({ cls := "ExchangeRecords$Input", name := "skip", desc := "(I)V" } : Jvm.MethodName)) ∈ GW := gw_1 150 rfl rfl
theorem kw1_151 : (Cond.code ({ cls := "ExchangeRecords$Input", name := "skip", desc := "(I)V" } : Jvm.MethodName) prog_3_method_4_code (2 : Nat) (Option.none : Option Jvm.ClassFile.FieldType)) ∈ GW := gw_1 151 rfl rfl
theorem kw1_152 : (Cond.methodLink "ExchangeRecords" (64 : Nat) ({ cls := "ExchangeRecords$Input", name := "number", desc := "(II)I" } : Jvm.MethodName)) ∈ GW := gw_1 152 rfl rfl
theorem kw1_153 : (Cond.methodLink "ExchangeRecords" (67 : Nat) ({ cls := "ExchangeRecords$Input", name := "wrongInRecord", desc := "(I)I" } : Jvm.MethodName)) ∈ GW := gw_1 153 rfl rfl
theorem kw1_154 : (Cond.instanceMethod ({ cls := "ExchangeRecords$Input", name := "wrongInRecord", desc := "(I)I" } : Jvm.MethodName)) ∈ GW := gw_1 154 rfl rfl
theorem kw1_155 : (Cond.selects "ExchangeRecords$Input" ({ cls := "ExchangeRecords$Input", name := "wrongInRecord", desc := "(I)I" } : Jvm.MethodName) ({ cls := "ExchangeRecords$Input", name := "wrongInRecord", desc := "(I)I" } : Jvm.MethodName)) ∈ GW := gw_1 155 rfl rfl
theorem kw1_156 : (Cond.code ({ cls := "ExchangeRecords$Input", name := "wrongInRecord", desc := "(I)I" } : Jvm.MethodName) prog_3_method_8_code (6 : Nat) (Option.some Jvm.ClassFile.FieldType.int)) ∈ GW := gw_1 156 rfl rfl
theorem kw1_157 : (Cond.methodLink "ExchangeRecords$Input" (33 : Nat) ({ cls := "ExchangeRecords$Input", name := "wrongInLeader", desc := "(I)I" } : Jvm.MethodName)) ∈ GW := gw_1 157 rfl rfl
theorem kw1_159 : (Cond.instanceMethod ({ cls := "ExchangeRecords$Input", name := "wrongInLeader", desc := "(I)I" } : Jvm.MethodName)) ∈ GW := gw_1 159 rfl rfl
theorem kw1_160 : (Cond.code ({ cls := "ExchangeRecords$Input", name := "wrongInLeader", desc := "(I)I" } : Jvm.MethodName) prog_3_method_9_code (5 : Nat) (Option.some Jvm.ClassFile.FieldType.int)) ∈ GW := gw_1 160 rfl rfl
theorem kw1_162 : (Cond.static ({ cls := "ExchangeRecords", name := "fixedByte", desc := "(I)I" } : Jvm.MethodName)) ∈ GW := gw_1 162 rfl rfl
theorem kw1_163 : (Cond.code ({ cls := "ExchangeRecords", name := "fixedByte", desc := "(I)I" } : Jvm.MethodName) prog_1_method_17_code (1 : Nat) (Option.some Jvm.ClassFile.FieldType.int)) ∈ GW := gw_1 163 rfl rfl
theorem kw1_164 : (Cond.methodLink "ExchangeRecords$Input" (36 : Nat) ({ cls := "ExchangeRecords$Input", name := "wrongInRow", desc := "(III)I" } : Jvm.MethodName)) ∈ GW := gw_1 164 rfl rfl
theorem kw1_166 : (Cond.instanceMethod ({ cls := "ExchangeRecords$Input", name := "wrongInRow", desc := "(III)I" } : Jvm.MethodName)) ∈ GW := gw_1 166 rfl rfl
theorem kw1_167 : (Cond.code ({ cls := "ExchangeRecords$Input", name := "wrongInRow", desc := "(III)I" } : Jvm.MethodName) prog_3_method_10_code (10 : Nat) (Option.some Jvm.ClassFile.FieldType.int)) ∈ GW := gw_1 167 rfl rfl
theorem kw1_169 : (Cond.static ({ cls := "ExchangeRecords", name := "isControl", desc := "(I)Z" } : Jvm.MethodName)) ∈ GW := gw_1 169 rfl rfl
theorem kw1_170 : (Cond.code ({ cls := "ExchangeRecords", name := "isControl", desc := "(I)Z" } : Jvm.MethodName) prog_1_method_16_code (1 : Nat) (Option.some Jvm.ClassFile.FieldType.boolean)) ∈ GW := gw_1 170 rfl rfl
theorem kw1_171 : (Cond.methodLink "ExchangeRecords$Input" (47 : Nat) ({ cls := "ExchangeRecords$Input", name := "wrongInControlField", desc := "(II)I" } : Jvm.MethodName)) ∈ GW := gw_1 171 rfl rfl
theorem kw1_173 : (Cond.instanceMethod ({ cls := "ExchangeRecords$Input", name := "wrongInControlField", desc := "(II)I" } : Jvm.MethodName)) ∈ GW := gw_1 173 rfl rfl
theorem kw1_174 : (Cond.code ({ cls := "ExchangeRecords$Input", name := "wrongInControlField", desc := "(II)I" } : Jvm.MethodName) prog_3_method_11_code (4 : Nat) (Option.some Jvm.ClassFile.FieldType.int)) ∈ GW := gw_1 174 rfl rfl
theorem kw1_175 : (Cond.methodLink "ExchangeRecords$Input" (53 : Nat) ({ cls := "ExchangeRecords$Input", name := "firstMark", desc := "(II)I" } : Jvm.MethodName)) ∈ GW := gw_1 175 rfl rfl
theorem kw1_177 : (Cond.instanceMethod ({ cls := "ExchangeRecords$Input", name := "firstMark", desc := "(II)I" } : Jvm.MethodName)) ∈ GW := gw_1 177 rfl rfl
theorem kw1_178 : (Cond.code ({ cls := "ExchangeRecords$Input", name := "firstMark", desc := "(II)I" } : Jvm.MethodName) prog_3_method_15_code (4 : Nat) (Option.some Jvm.ClassFile.FieldType.int)) ∈ GW := gw_1 178 rfl rfl
theorem kw1_180 : (Cond.static ({ cls := "ExchangeRecords", name := "isMark", desc := "(I)Z" } : Jvm.MethodName)) ∈ GW := gw_1 180 rfl rfl
theorem kw1_181 : (Cond.code ({ cls := "ExchangeRecords", name := "isMark", desc := "(I)Z" } : Jvm.MethodName) prog_1_method_14_code (1 : Nat) (Option.some Jvm.ClassFile.FieldType.boolean)) ∈ GW := gw_1 181 rfl rfl
theorem kw1_182 : (Cond.methodLink "ExchangeRecords$Input" (56 : Nat) ({ cls := "ExchangeRecords$Input", name := "wrongEnd", desc := "(I)I" } : Jvm.MethodName)) ∈ GW := gw_1 182 rfl rfl
theorem kw1_184 : (Cond.instanceMethod ({ cls := "ExchangeRecords$Input", name := "wrongEnd", desc := "(I)I" } : Jvm.MethodName)) ∈ GW := gw_1 184 rfl rfl
theorem kw1_185 : (Cond.code ({ cls := "ExchangeRecords$Input", name := "wrongEnd", desc := "(I)I" } : Jvm.MethodName) prog_3_method_13_code (2 : Nat) (Option.some Jvm.ClassFile.FieldType.int)) ∈ GW := gw_1 185 rfl rfl
theorem kw1_186 : (Cond.methodLink "ExchangeRecords$Input" (50 : Nat) ({ cls := "ExchangeRecords$Input", name := "wrongInOtherField", desc := "(II)I" } : Jvm.MethodName)) ∈ GW := gw_1 186 rfl rfl
theorem kw1_188 : (Cond.instanceMethod ({ cls := "ExchangeRecords$Input", name := "wrongInOtherField", desc := "(II)I" } : Jvm.MethodName)) ∈ GW := gw_1 188 rfl rfl
theorem kw1_189 : (Cond.code ({ cls := "ExchangeRecords$Input", name := "wrongInOtherField", desc := "(II)I" } : Jvm.MethodName) prog_3_method_12_code (7 : Nat) (Option.some Jvm.ClassFile.FieldType.int)) ∈ GW := gw_1 189 rfl rfl
theorem kw1_190 : (Cond.methodLink "ExchangeRecords" (71 : Nat) ({ cls := "ExchangeRecords", name := "takeRecord", desc := "()V" } : Jvm.MethodName)) ∈ GW := gw_1 190 rfl rfl
theorem kw1_192 : (Cond.instanceMethod ({ cls := "ExchangeRecords", name := "takeRecord", desc := "()V" } : Jvm.MethodName)) ∈ GW := gw_1 192 rfl rfl
theorem kw1_193 : (Cond.code ({ cls := "ExchangeRecords", name := "takeRecord", desc := "()V" } : Jvm.MethodName) prog_1_method_21_code (3 : Nat) (Option.none : Option Jvm.ClassFile.FieldType)) ∈ GW := gw_1 193 rfl rfl
theorem kw1_194 : (Cond.methodLink "ExchangeRecords" (169 : Nat) ({ cls := "ExchangeRecords$Input", name := "at", desc := "(I)I" } : Jvm.MethodName)) ∈ GW := gw_1 194 rfl rfl
theorem kw1_195 : (Cond.methodLink "ExchangeRecords" (170 : Nat) ({ cls := "java/lang/Math", name := "min", desc := "(II)I" } : Jvm.MethodName)) ∈ GW := gw_1 195 rfl rfl
theorem kw1_196 : (Cond.static ({ cls := "java/lang/Math", name := "min", desc := "(II)I" } : Jvm.MethodName)) ∈ GW := gw_1 196 rfl rfl
theorem kw1_197 : (Cond.code ({ cls := "java/lang/Math", name := "min", desc := "(II)I" } : Jvm.MethodName) prog_11_method_69_code (2 : Nat) (Option.some Jvm.ClassFile.FieldType.int)) ∈ GW := gw_1 197 rfl rfl
theorem kw1_198 : (Cond.methodLink "ExchangeRecords" (175 : Nat) ({ cls := "ExchangeRecords", name := "takeRow", desc := "(II)V" } : Jvm.MethodName)) ∈ GW := gw_1 198 rfl rfl
theorem kw1_200 : (Cond.instanceMethod ({ cls := "ExchangeRecords", name := "takeRow", desc := "(II)V" } : Jvm.MethodName)) ∈ GW := gw_1 200 rfl rfl
theorem kw1_201 : (Cond.code ({ cls := "ExchangeRecords", name := "takeRow", desc := "(II)V" } : Jvm.MethodName) prog_1_method_22_code (7 : Nat) (Option.none : Option Jvm.ClassFile.FieldType)) ∈ GW := gw_1 201 rfl rfl
theorem kw1_202 : (Cond.methodLink "ExchangeRecords" (178 : Nat) ({ cls := "ExchangeRecords", name := "takeField", desc := "(LExchangeRecords$Field;III)V" } : Jvm.MethodName)) ∈ GW := gw_1 202 rfl rfl
theorem kw1_204 : (Cond.instanceMethod ({ cls := "ExchangeRecords", name := "takeField", desc := "(LExchangeRecords$Field;III)V" } : Jvm.MethodName)) ∈ GW := gw_1 204 rfl rfl
theorem kw1_205 : (Cond.code ({ cls := "ExchangeRecords", name := "takeField", desc := "(LExchangeRecords$Field;III)V" } : Jvm.MethodName) prog_1_method_23_code (6 : Nat) (Option.none : Option Jvm.ClassFile.FieldType)) ∈ GW := gw_1 205 rfl rfl
theorem kw1_206 : (Cond.methodLink "ExchangeRecords" (85 : Nat) ({ cls := "ExchangeRecords", name := "isControl", desc := "(I)Z" } : Jvm.MethodName)) ∈ GW := gw_1 206 rfl rfl
theorem kw1_207 : (Cond.methodLink "ExchangeRecords" (120 : Nat) ({ cls := "ExchangeRecords$Field", name := "begin", desc := "(III)V" } : Jvm.MethodName)) ∈ GW := gw_1 207 rfl rfl
theorem kw1_208 : (Cond.instanceMethod ({ cls := "ExchangeRecords$Field", name := "begin", desc := "(III)V" } : Jvm.MethodName)) ∈ GW := gw_1 208 rfl rfl
theorem kw1_209 : (Cond.selects "ExchangeRecords$Field" ({ cls := "ExchangeRecords$Field", name := "begin", desc := "(III)V" } : Jvm.MethodName) ({ cls := "ExchangeRecords$Field", name := "begin", desc := "(III)V" } : Jvm.MethodName)) ∈ GW := gw_1 209 rfl rfl
theorem kw1_210 : (Cond.code ({ cls := "ExchangeRecords$Field", name := "begin", desc := "(III)V" } : Jvm.MethodName) prog_2_method_2_code (4 : Nat) (Option.none : Option Jvm.ClassFile.FieldType)) ∈ GW := gw_1 210 rfl rfl
theorem kw1_211 : (Cond.methodLink "ExchangeRecords" (133 : Nat) ({ cls := "ExchangeRecords$Field", name := "append", desc := "(I)V" } : Jvm.MethodName)) ∈ GW := gw_1 211 rfl rfl
theorem kw1_212 : (Cond.instanceMethod ({ cls := "ExchangeRecords$Field", name := "append", desc := "(I)V" } : Jvm.MethodName)) ∈ GW := gw_1 212 rfl rfl
theorem kw1_213 : (Cond.selects "ExchangeRecords$Field" ({ cls := "ExchangeRecords$Field", name := "append", desc := "(I)V" } : Jvm.MethodName) ({ cls := "ExchangeRecords$Field", name := "append", desc := "(I)V" } : Jvm.MethodName)) ∈ GW := gw_1 213 rfl rfl
theorem kw1_214 : (Cond.code ({ cls := "ExchangeRecords$Field", name := "append", desc := "(I)V" } : Jvm.MethodName) prog_2_method_3_code (2 : Nat) (Option.none : Option Jvm.ClassFile.FieldType)) ∈ GW := gw_1 214 rfl rfl
theorem kw1_215 : (Cond.methodLink "ExchangeRecords$Field" (31 : Nat) ({ cls := "java/util/Arrays", name := "copyOf", desc := "([BI)[B" } : Jvm.MethodName)) ∈ GW := gw_1 215 rfl rfl
theorem kw1_216 : (Cond.static ({ cls := "java/util/Arrays", name := "copyOf", desc := "([BI)[B" } : Jvm.MethodName)) ∈ GW := gw_1 216 rfl rfl
theorem kw1_217 : (Cond.code ({ cls := "java/util/Arrays", name := "copyOf", desc := "([BI)[B" } : Jvm.MethodName) prog_16_method_121_code (3 : Nat) (Option.some (Jvm.ClassFile.FieldType.array Jvm.ClassFile.FieldType.byte))) ∈ GW := gw_1 217 rfl rfl
theorem kw1_218 : (Cond.methodLink "java/util/Arrays" (310 : Nat) ({ cls := "[B", name := "clone", desc := "()Ljava/lang/Object;" } : Jvm.MethodName)) ∈ GW := gw_1 218 rfl rfl
theorem kw1_219 : (Cond.sameMethod "[B" "java/lang/Object" "clone" "()Ljava/lang/Object;") ∈ GW := gw_1 219 rfl rfl
theorem kw1_220 : (Cond.native ({ cls := "java/lang/Object", name := "clone", desc := "()Ljava/lang/Object;" } : Jvm.MethodName)) ∈ GW := gw_1 220 rfl rfl
theorem kw1_221 : (Cond.instanceMethod ({ cls := "java/lang/Object", name := "clone", desc := "()Ljava/lang/Object;" } : Jvm.MethodName)) ∈ GW := gw_1 221 rfl rfl
theorem kw1_222 : (Cond.selects "[B" ({ cls := "[B", name := "clone", desc := "()Ljava/lang/Object;" } : Jvm.MethodName) ({ cls := "java/lang/Object", name := "clone", desc := "()Ljava/lang/Object;" } : Jvm.MethodName)) ∈ GW := gw_1 222 rfl rfl
theorem kw1_224 : (Cond.classLink "java/util/Arrays" (311 : Nat) "[B") ∈ GW := gw_1 224 rfl rfl
theorem kw1_225 : (Cond.methodLink "java/util/Arrays" (304 : Nat) ({ cls := "java/lang/Math", name := "min", desc := "(II)I" } : Jvm.MethodName)) ∈ GW := gw_1 225 rfl rfl
theorem kw1_226 : (Cond.methodLink "java/util/Arrays" (150 : Nat) ({ cls := "java/lang/System", name := "arraycopy", desc := "(Ljava/lang/Object;ILjava/lang/Object;II)V" } : Jvm.MethodName)) ∈ GW := gw_1 226 rfl rfl
theorem kw1_227 : (Cond.static ({ cls := "java/lang/System", name := "arraycopy", desc := "(Ljava/lang/Object;ILjava/lang/Object;II)V" } : Jvm.MethodName)) ∈ GW := gw_1 227 rfl rfl
theorem kw1_228 : (Cond.native ({ cls := "java/lang/System", name := "arraycopy", desc := "(Ljava/lang/Object;ILjava/lang/Object;II)V" } : Jvm.MethodName)) ∈ GW := gw_1 228 rfl rfl
theorem kw1_229 : (Cond.methodLink "ExchangeRecordsLaw" (33 : Nat) ({ cls := "ExchangeRecords", name := "field", desc := "(II)I" } : Jvm.MethodName)) ∈ GW := gw_1 229 rfl rfl
theorem kw1_230 : (Cond.instanceMethod ({ cls := "ExchangeRecords", name := "field", desc := "(II)I" } : Jvm.MethodName)) ∈ GW := gw_1 230 rfl rfl
theorem kw1_231 : (Cond.selects "ExchangeRecords" ({ cls := "ExchangeRecords", name := "field", desc := "(II)I" } : Jvm.MethodName) ({ cls := "ExchangeRecords", name := "field", desc := "(II)I" } : Jvm.MethodName)) ∈ GW := gw_1 231 rfl rfl
theorem kw1_232 : (Cond.code ({ cls := "ExchangeRecords", name := "field", desc := "(II)I" } : Jvm.MethodName) prog_1_method_4_code (5 : Nat) (Option.some Jvm.ClassFile.FieldType.int)) ∈ GW := gw_1 232 rfl rfl
theorem kw1_233 : (Cond.methodLink "ExchangeRecordsLaw" (37 : Nat) ({ cls := "ExchangeRecords", name := "indicator", desc := "(II)I" } : Jvm.MethodName)) ∈ GW := gw_1 233 rfl rfl
theorem kw1_234 : (Cond.instanceMethod ({ cls := "ExchangeRecords", name := "indicator", desc := "(II)I" } : Jvm.MethodName)) ∈ GW := gw_1 234 rfl rfl
theorem kw1_235 : (Cond.selects "ExchangeRecords" ({ cls := "ExchangeRecords", name := "indicator", desc := "(II)I" } : Jvm.MethodName) ({ cls := "ExchangeRecords", name := "indicator", desc := "(II)I" } : Jvm.MethodName)) ∈ GW := gw_1 235 rfl rfl
theorem kw1_236 : (Cond.code ({ cls := "ExchangeRecords", name := "indicator", desc := "(II)I" } : Jvm.MethodName) prog_1_method_5_code (4 : Nat) (Option.some Jvm.ClassFile.FieldType.int)) ∈ GW := gw_1 236 rfl rfl
theorem kw1_237 : (Cond.methodLink "ExchangeRecords" (81 : Nat) ({ cls := "ExchangeRecords", name := "numbered", desc := "(I)LExchangeRecords$Field;" } : Jvm.MethodName)) ∈ GW := gw_1 237 rfl rfl
theorem kw1_239 : (Cond.instanceMethod ({ cls := "ExchangeRecords", name := "numbered", desc := "(I)LExchangeRecords$Field;" } : Jvm.MethodName)) ∈ GW := gw_1 239 rfl rfl
theorem kw2_0 : (Cond.code ({ cls := "ExchangeRecords", name := "numbered", desc := "(I)LExchangeRecords$Field;" } : Jvm.MethodName) prog_1_method_19_code (2 : Nat) (Option.some (Jvm.ClassFile.FieldType.object "ExchangeRecords$Field"))) ∈ GW := gw_2 0 rfl rfl
theorem kw2_1 : (Cond.methodLink "ExchangeRecordsLaw" (41 : Nat) ({ cls := "ExchangeRecords", name := "subfield", desc := "(IIII)I" } : Jvm.MethodName)) ∈ GW := gw_2 1 rfl rfl
theorem kw2_2 : (Cond.instanceMethod ({ cls := "ExchangeRecords", name := "subfield", desc := "(IIII)I" } : Jvm.MethodName)) ∈ GW := gw_2 2 rfl rfl
theorem kw2_3 : (Cond.selects "ExchangeRecords" ({ cls := "ExchangeRecords", name := "subfield", desc := "(IIII)I" } : Jvm.MethodName) ({ cls := "ExchangeRecords", name := "subfield", desc := "(IIII)I" } : Jvm.MethodName)) ∈ GW := gw_2 3 rfl rfl
theorem kw2_4 : (Cond.code ({ cls := "ExchangeRecords", name := "subfield", desc := "(IIII)I" } : Jvm.MethodName) prog_1_method_6_code (7 : Nat) (Option.some Jvm.ClassFile.FieldType.int)) ∈ GW := gw_2 4 rfl rfl
theorem kw2_5 : (Cond.methodLink "ExchangeRecords" (95 : Nat) ({ cls := "ExchangeRecords$Field", name := "at", desc := "(I)I" } : Jvm.MethodName)) ∈ GW := gw_2 5 rfl rfl
theorem kw2_6 : (Cond.instanceMethod ({ cls := "ExchangeRecords$Field", name := "at", desc := "(I)I" } : Jvm.MethodName)) ∈ GW := gw_2 6 rfl rfl
theorem kw2_7 : (Cond.selects "ExchangeRecords$Field" ({ cls := "ExchangeRecords$Field", name := "at", desc := "(I)I" } : Jvm.MethodName) ({ cls := "ExchangeRecords$Field", name := "at", desc := "(I)I" } : Jvm.MethodName)) ∈ GW := gw_2 7 rfl rfl
theorem kw2_8 : (Cond.code ({ cls := "ExchangeRecords$Field", name := "at", desc := "(I)I" } : Jvm.MethodName) prog_2_method_4_code (2 : Nat) (Option.some Jvm.ClassFile.FieldType.int)) ∈ GW := gw_2 8 rfl rfl
theorem kw2_9 : (Cond.methodLink "ExchangeRecords" (98 : Nat) ({ cls := "ExchangeRecords$Field", name := "subfieldStart", desc := "(II)I" } : Jvm.MethodName)) ∈ GW := gw_2 9 rfl rfl
theorem kw2_10 : (Cond.instanceMethod ({ cls := "ExchangeRecords$Field", name := "subfieldStart", desc := "(II)I" } : Jvm.MethodName)) ∈ GW := gw_2 10 rfl rfl
theorem kw2_11 : (Cond.selects "ExchangeRecords$Field" ({ cls := "ExchangeRecords$Field", name := "subfieldStart", desc := "(II)I" } : Jvm.MethodName) ({ cls := "ExchangeRecords$Field", name := "subfieldStart", desc := "(II)I" } : Jvm.MethodName)) ∈ GW := gw_2 11 rfl rfl
theorem kw2_12 : (Cond.code ({ cls := "ExchangeRecords$Field", name := "subfieldStart", desc := "(II)I" } : Jvm.MethodName) prog_2_method_8_code (5 : Nat) (Option.some Jvm.ClassFile.FieldType.int)) ∈ GW := gw_2 12 rfl rfl
theorem kw2_13 : (Cond.methodLink "ExchangeRecords$Field" (45 : Nat) ({ cls := "ExchangeRecords$Field", name := "at", desc := "(I)I" } : Jvm.MethodName)) ∈ GW := gw_2 13 rfl rfl
theorem kw2_14 : (Cond.methodLink "ExchangeRecords" (101 : Nat) ({ cls := "ExchangeRecords$Field", name := "subfieldEnd", desc := "(I)I" } : Jvm.MethodName)) ∈ GW := gw_2 14 rfl rfl
theorem kw2_15 : (Cond.instanceMethod ({ cls := "ExchangeRecords$Field", name := "subfieldEnd", desc := "(I)I" } : Jvm.MethodName)) ∈ GW := gw_2 15 rfl rfl
theorem kw2_16 : (Cond.selects "ExchangeRecords$Field" ({ cls := "ExchangeRecords$Field", name := "subfieldEnd", desc := "(I)I" } : Jvm.MethodName) ({ cls := "ExchangeRecords$Field", name := "subfieldEnd", desc := "(I)I" } : Jvm.MethodName)) ∈ GW := gw_2 16 rfl rfl
theorem kw2_17 : (Cond.code ({ cls := "ExchangeRecords$Field", name := "subfieldEnd", desc := "(I)I" } : Jvm.MethodName) prog_2_method_9_code (3 : Nat) (Option.some Jvm.ClassFile.FieldType.int)) ∈ GW := gw_2 17 rfl rfl
theorem kw2_18 : (Cond.methodLink "ExchangeRecordsLaw" (55 : Nat) ({ cls := "ExchangeRecords", name := "length", desc := "()I" } : Jvm.MethodName)) ∈ GW := gw_2 18 rfl rfl
theorem kw2_19 : (Cond.instanceMethod ({ cls := "ExchangeRecords", name := "length", desc := "()I" } : Jvm.MethodName)) ∈ GW := gw_2 19 rfl rfl
theorem kw2_20 : (Cond.selects "ExchangeRecords" ({ cls := "ExchangeRecords", name := "length", desc := "()I" } : Jvm.MethodName) ({ cls := "ExchangeRecords", name := "length", desc := "()I" } : Jvm.MethodName)) ∈ GW := gw_2 20 rfl rfl
theorem kw2_21 : (Cond.code ({ cls := "ExchangeRecords", name := "length", desc := "()I" } : Jvm.MethodName) prog_1_method_8_code (1 : Nat) (Option.some Jvm.ClassFile.FieldType.int)) ∈ GW := gw_2 21 rfl rfl
theorem kw2_22 : (Cond.methodLink "ExchangeRecordsLaw" (59 : Nat) ({ cls := "ExchangeRecords", name := "leader", desc := "(II)Z" } : Jvm.MethodName)) ∈ GW := gw_2 22 rfl rfl
theorem kw2_23 : (Cond.instanceMethod ({ cls := "ExchangeRecords", name := "leader", desc := "(II)Z" } : Jvm.MethodName)) ∈ GW := gw_2 23 rfl rfl
theorem kw2_24 : (Cond.selects "ExchangeRecords" ({ cls := "ExchangeRecords", name := "leader", desc := "(II)Z" } : Jvm.MethodName) ({ cls := "ExchangeRecords", name := "leader", desc := "(II)Z" } : Jvm.MethodName)) ∈ GW := gw_2 24 rfl rfl
theorem kw2_25 : (Cond.code ({ cls := "ExchangeRecords", name := "leader", desc := "(II)Z" } : Jvm.MethodName) prog_1_method_9_code (3 : Nat) (Option.some Jvm.ClassFile.FieldType.boolean)) ∈ GW := gw_2 25 rfl rfl
theorem kw2_26 : (Cond.methodLink "ExchangeRecords" (111 : Nat) ({ cls := "ExchangeRecords", name := "isFree", desc := "(I)Z" } : Jvm.MethodName)) ∈ GW := gw_2 26 rfl rfl
theorem kw2_27 : (Cond.static ({ cls := "ExchangeRecords", name := "isFree", desc := "(I)Z" } : Jvm.MethodName)) ∈ GW := gw_2 27 rfl rfl
theorem kw2_28 : (Cond.code ({ cls := "ExchangeRecords", name := "isFree", desc := "(I)Z" } : Jvm.MethodName) prog_1_method_18_code (3 : Nat) (Option.some Jvm.ClassFile.FieldType.boolean)) ∈ GW := gw_2 28 rfl rfl
theorem kw2_29 : (Cond.methodLink "ExchangeRecords" (166 : Nat) ({ cls := "ExchangeRecords", name := "fixedByte", desc := "(I)I" } : Jvm.MethodName)) ∈ GW := gw_2 29 rfl rfl
theorem kw2_30 : (Cond.methodLink "ExchangeRecords" (114 : Nat) ({ cls := "java/util/Arrays", name := "fill", desc := "([BB)V" } : Jvm.MethodName)) ∈ GW := gw_2 30 rfl rfl
theorem kw2_31 : (Cond.static ({ cls := "java/util/Arrays", name := "fill", desc := "([BB)V" } : Jvm.MethodName)) ∈ GW := gw_2 31 rfl rfl
theorem kw2_32 : (Cond.code ({ cls := "java/util/Arrays", name := "fill", desc := "([BB)V" } : Jvm.MethodName) prog_16_method_109_code (4 : Nat) (Option.none : Option Jvm.ClassFile.FieldType)) ∈ GW := gw_2 32 rfl rfl
theorem kw2_33 : (Cond.methodLink "ExchangeRecordsLaw" (64 : Nat) ({ cls := "ExchangeRecords", name := "put", desc := "(II)I" } : Jvm.MethodName)) ∈ GW := gw_2 33 rfl rfl
theorem kw2_34 : (Cond.instanceMethod ({ cls := "ExchangeRecords", name := "put", desc := "(II)I" } : Jvm.MethodName)) ∈ GW := gw_2 34 rfl rfl
theorem kw2_35 : (Cond.selects "ExchangeRecords" ({ cls := "ExchangeRecords", name := "put", desc := "(II)I" } : Jvm.MethodName) ({ cls := "ExchangeRecords", name := "put", desc := "(II)I" } : Jvm.MethodName)) ∈ GW := gw_2 35 rfl rfl
theorem kw2_36 : (Cond.code ({ cls := "ExchangeRecords", name := "put", desc := "(II)I" } : Jvm.MethodName) prog_1_method_10_code (3 : Nat) (Option.some Jvm.ClassFile.FieldType.int)) ∈ GW := gw_2 36 rfl rfl
theorem kw2_37 : (Cond.methodLink "ExchangeRecordsLaw" (68 : Nat) ({ cls := "ExchangeRecords", name := "subfield2", desc := "(III)V" } : Jvm.MethodName)) ∈ GW := gw_2 37 rfl rfl
theorem kw2_38 : (Cond.instanceMethod ({ cls := "ExchangeRecords", name := "subfield2", desc := "(III)V" } : Jvm.MethodName)) ∈ GW := gw_2 38 rfl rfl
theorem kw2_39 : (Cond.selects "ExchangeRecords" ({ cls := "ExchangeRecords", name := "subfield2", desc := "(III)V" } : Jvm.MethodName) ({ cls := "ExchangeRecords", name := "subfield2", desc := "(III)V" } : Jvm.MethodName)) ∈ GW := gw_2 39 rfl rfl
theorem kw2_40 : (Cond.code ({ cls := "ExchangeRecords", name := "subfield2", desc := "(III)V" } : Jvm.MethodName) prog_1_method_11_code (8 : Nat) (Option.none : Option Jvm.ClassFile.FieldType)) ∈ GW := gw_2 40 rfl rfl
theorem kw2_41 : (Cond.methodLink "ExchangeRecords" (124 : Nat) ({ cls := "ExchangeRecords", name := "isMark", desc := "(I)Z" } : Jvm.MethodName)) ∈ GW := gw_2 41 rfl rfl
theorem kw2_42 : (Cond.methodLink "ExchangeRecords" (127 : Nat) ({ cls := "ExchangeRecords$Field", name := "lastCode", desc := "()I" } : Jvm.MethodName)) ∈ GW := gw_2 42 rfl rfl
theorem kw2_43 : (Cond.instanceMethod ({ cls := "ExchangeRecords$Field", name := "lastCode", desc := "()I" } : Jvm.MethodName)) ∈ GW := gw_2 43 rfl rfl
theorem kw2_44 : (Cond.selects "ExchangeRecords$Field" ({ cls := "ExchangeRecords$Field", name := "lastCode", desc := "()I" } : Jvm.MethodName) ({ cls := "ExchangeRecords$Field", name := "lastCode", desc := "()I" } : Jvm.MethodName)) ∈ GW := gw_2 44 rfl rfl
theorem kw2_45 : (Cond.code ({ cls := "ExchangeRecords$Field", name := "lastCode", desc := "()I" } : Jvm.MethodName) prog_2_method_10_code (2 : Nat) (Option.some Jvm.ClassFile.FieldType.int)) ∈ GW := gw_2 45 rfl rfl
theorem kw2_46 : (Cond.methodLink "ExchangeRecords" (130 : Nat) ({ cls := "ExchangeRecords", name := "heldBytes", desc := "()I" } : Jvm.MethodName)) ∈ GW := gw_2 46 rfl rfl
theorem kw2_48 : (Cond.instanceMethod ({ cls := "ExchangeRecords", name := "heldBytes", desc := "()I" } : Jvm.MethodName)) ∈ GW := gw_2 48 rfl rfl
theorem kw2_49 : (Cond.code ({ cls := "ExchangeRecords", name := "heldBytes", desc := "()I" } : Jvm.MethodName) prog_1_method_24_code (3 : Nat) (Option.some Jvm.ClassFile.FieldType.int)) ∈ GW := gw_2 49 rfl rfl
theorem kw2_50 : (Cond.methodLink "ExchangeRecords" (182 : Nat) ({ cls := "ExchangeRecords$Field", name := "heldBytes", desc := "()I" } : Jvm.MethodName)) ∈ GW := gw_2 50 rfl rfl
theorem kw2_51 : (Cond.instanceMethod ({ cls := "ExchangeRecords$Field", name := "heldBytes", desc := "()I" } : Jvm.MethodName)) ∈ GW := gw_2 51 rfl rfl
theorem kw2_52 : (Cond.selects "ExchangeRecords$Field" ({ cls := "ExchangeRecords$Field", name := "heldBytes", desc := "()I" } : Jvm.MethodName) ({ cls := "ExchangeRecords$Field", name := "heldBytes", desc := "()I" } : Jvm.MethodName)) ∈ GW := gw_2 52 rfl rfl
theorem kw2_53 : (Cond.code ({ cls := "ExchangeRecords$Field", name := "heldBytes", desc := "()I" } : Jvm.MethodName) prog_2_method_6_code (1 : Nat) (Option.some Jvm.ClassFile.FieldType.int)) ∈ GW := gw_2 53 rfl rfl
theorem kw2_54 : (Cond.methodLink "ExchangeRecords$Field" (41 : Nat) ({ cls := "ExchangeRecords$Field", name := "indicatorCount", desc := "()I" } : Jvm.MethodName)) ∈ GW := gw_2 54 rfl rfl
theorem kw2_55 : (Cond.instanceMethod ({ cls := "ExchangeRecords$Field", name := "indicatorCount", desc := "()I" } : Jvm.MethodName)) ∈ GW := gw_2 55 rfl rfl
theorem kw2_56 : (Cond.selects "ExchangeRecords$Field" ({ cls := "ExchangeRecords$Field", name := "indicatorCount", desc := "()I" } : Jvm.MethodName) ({ cls := "ExchangeRecords$Field", name := "indicatorCount", desc := "()I" } : Jvm.MethodName)) ∈ GW := gw_2 56 rfl rfl
theorem kw2_57 : (Cond.code ({ cls := "ExchangeRecords$Field", name := "indicatorCount", desc := "()I" } : Jvm.MethodName) prog_2_method_5_code (1 : Nat) (Option.some Jvm.ClassFile.FieldType.int)) ∈ GW := gw_2 57 rfl rfl
theorem kw2_59 : (Cond.methodLink "ExchangeRecordsLaw" (73 : Nat) ({ cls := "ExchangeRecords", name := "write", desc := "()I" } : Jvm.MethodName)) ∈ GW := gw_2 59 rfl rfl
theorem kw2_60 : (Cond.instanceMethod ({ cls := "ExchangeRecords", name := "write", desc := "()I" } : Jvm.MethodName)) ∈ GW := gw_2 60 rfl rfl
theorem kw2_61 : (Cond.selects "ExchangeRecords" ({ cls := "ExchangeRecords", name := "write", desc := "()I" } : Jvm.MethodName) ({ cls := "ExchangeRecords", name := "write", desc := "()I" } : Jvm.MethodName)) ∈ GW := gw_2 61 rfl rfl
theorem kw2_62 : (Cond.code ({ cls := "ExchangeRecords", name := "write", desc := "()I" } : Jvm.MethodName) prog_1_method_12_code (4 : Nat) (Option.some Jvm.ClassFile.FieldType.int)) ∈ GW := gw_2 62 rfl rfl
theorem kw2_63 : (Cond.methodLink "ExchangeRecords" (135 : Nat) ({ cls := "ExchangeRecords", name := "hasMarkAsIndicator", desc := "()Z" } : Jvm.MethodName)) ∈ GW := gw_2 63 rfl rfl
theorem kw2_65 : (Cond.instanceMethod ({ cls := "ExchangeRecords", name := "hasMarkAsIndicator", desc := "()Z" } : Jvm.MethodName)) ∈ GW := gw_2 65 rfl rfl
theorem kw2_66 : (Cond.code ({ cls := "ExchangeRecords", name := "hasMarkAsIndicator", desc := "()Z" } : Jvm.MethodName) prog_1_method_25_code (3 : Nat) (Option.some Jvm.ClassFile.FieldType.boolean)) ∈ GW := gw_2 66 rfl rfl
theorem kw2_67 : (Cond.methodLink "ExchangeRecords" (139 : Nat) ({ cls := "ExchangeRecords$Field", name := "writtenSize", desc := "()I" } : Jvm.MethodName)) ∈ GW := gw_2 67 rfl rfl
theorem kw2_68 : (Cond.instanceMethod ({ cls := "ExchangeRecords$Field", name := "writtenSize", desc := "()I" } : Jvm.MethodName)) ∈ GW := gw_2 68 rfl rfl
theorem kw2_69 : (Cond.selects "ExchangeRecords$Field" ({ cls := "ExchangeRecords$Field", name := "writtenSize", desc := "()I" } : Jvm.MethodName) ({ cls := "ExchangeRecords$Field", name := "writtenSize", desc := "()I" } : Jvm.MethodName)) ∈ GW := gw_2 69 rfl rfl
theorem kw2_70 : (Cond.code ({ cls := "ExchangeRecords$Field", name := "writtenSize", desc := "()I" } : Jvm.MethodName) prog_2_method_7_code (1 : Nat) (Option.some Jvm.ClassFile.FieldType.int)) ∈ GW := gw_2 70 rfl rfl
theorem kw2_71 : (Cond.methodLink "ExchangeRecords" (142 : Nat) ({ cls := "ExchangeRecords$Output", name := "begin", desc := "(I)V" } : Jvm.MethodName)) ∈ GW := gw_2 71 rfl rfl
theorem kw2_72 : (Cond.instanceMethod ({ cls := "ExchangeRecords$Output", name := "begin", desc := "(I)V" } : Jvm.MethodName)) ∈ GW := gw_2 72 rfl rfl
theorem kw2_73 : (Cond.selects "ExchangeRecords$Output" ({ cls := "ExchangeRecords$Output", name := "begin", desc := "(I)V" } : Jvm.MethodName) ({ cls := "ExchangeRecords$Output", name := "begin", desc := "(I)V" } : Jvm.MethodName)) ∈ GW := gw_2 73 rfl rfl
theorem kw2_74 : (Cond.code ({ cls := "ExchangeRecords$Output", name := "begin", desc := "(I)V" } : Jvm.MethodName) prog_4_method_2_code (2 : Nat) (Option.none : Option Jvm.ClassFile.FieldType)) ∈ GW := gw_2 74 rfl rfl
theorem kw2_75 : (Cond.methodLink "ExchangeRecords$Output" (17 : Nat) ({ cls := "java/lang/Math", name := "max", desc := "(II)I" } : Jvm.MethodName)) ∈ GW := gw_2 75 rfl rfl
theorem kw2_76 : (Cond.static ({ cls := "java/lang/Math", name := "max", desc := "(II)I" } : Jvm.MethodName)) ∈ GW := gw_2 76 rfl rfl
theorem kw2_77 : (Cond.code ({ cls := "java/lang/Math", name := "max", desc := "(II)I" } : Jvm.MethodName) prog_11_method_65_code (2 : Nat) (Option.some Jvm.ClassFile.FieldType.int)) ∈ GW := gw_2 77 rfl rfl
theorem kw2_78 : (Cond.methodLink "ExchangeRecords" (144 : Nat) ({ cls := "ExchangeRecords", name := "emitLeader", desc := "(II)V" } : Jvm.MethodName)) ∈ GW := gw_2 78 rfl rfl
theorem kw2_80 : (Cond.instanceMethod ({ cls := "ExchangeRecords", name := "emitLeader", desc := "(II)V" } : Jvm.MethodName)) ∈ GW := gw_2 80 rfl rfl
theorem kw2_81 : (Cond.code ({ cls := "ExchangeRecords", name := "emitLeader", desc := "(II)V" } : Jvm.MethodName) prog_1_method_26_code (3 : Nat) (Option.none : Option Jvm.ClassFile.FieldType)) ∈ GW := gw_2 81 rfl rfl
theorem kw2_82 : (Cond.methodLink "ExchangeRecords" (183 : Nat) ({ cls := "ExchangeRecords$Output", name := "emitDigits", desc := "(II)V" } : Jvm.MethodName)) ∈ GW := gw_2 82 rfl rfl
theorem kw2_83 : (Cond.instanceMethod ({ cls := "ExchangeRecords$Output", name := "emitDigits", desc := "(II)V" } : Jvm.MethodName)) ∈ GW := gw_2 83 rfl rfl
theorem kw2_84 : (Cond.selects "ExchangeRecords$Output" ({ cls := "ExchangeRecords$Output", name := "emitDigits", desc := "(II)V" } : Jvm.MethodName) ({ cls := "ExchangeRecords$Output", name := "emitDigits", desc := "(II)V" } : Jvm.MethodName)) ∈ GW := gw_2 84 rfl rfl
theorem kw2_85 : (Cond.code ({ cls := "ExchangeRecords$Output", name := "emitDigits", desc := "(II)V" } : Jvm.MethodName) prog_4_method_4_code (6 : Nat) (Option.none : Option Jvm.ClassFile.FieldType)) ∈ GW := gw_2 85 rfl rfl
theorem kw2_86 : (Cond.methodLink "ExchangeRecords$Output" (23 : Nat) ({ cls := "ExchangeRecords$Output", name := "emit", desc := "(I)V" } : Jvm.MethodName)) ∈ GW := gw_2 86 rfl rfl
theorem kw2_87 : (Cond.instanceMethod ({ cls := "ExchangeRecords$Output", name := "emit", desc := "(I)V" } : Jvm.MethodName)) ∈ GW := gw_2 87 rfl rfl
theorem kw2_88 : (Cond.selects "ExchangeRecords$Output" ({ cls := "ExchangeRecords$Output", name := "emit", desc := "(I)V" } : Jvm.MethodName) ({ cls := "ExchangeRecords$Output", name := "emit", desc := "(I)V" } : Jvm.MethodName)) ∈ GW := gw_2 88 rfl rfl
theorem kw2_89 : (Cond.code ({ cls := "ExchangeRecords$Output", name := "emit", desc := "(I)V" } : Jvm.MethodName) prog_4_method_3_code (2 : Nat) (Option.none : Option Jvm.ClassFile.FieldType)) ∈ GW := gw_2 89 rfl rfl
theorem kw2_90 : (Cond.methodLink "ExchangeRecords" (186 : Nat) ({ cls := "ExchangeRecords", name := "emitLeaderBytes", desc := "(II)V" } : Jvm.MethodName)) ∈ GW := gw_2 90 rfl rfl
theorem kw2_92 : (Cond.instanceMethod ({ cls := "ExchangeRecords", name := "emitLeaderBytes", desc := "(II)V" } : Jvm.MethodName)) ∈ GW := gw_2 92 rfl rfl
theorem kw2_93 : (Cond.code ({ cls := "ExchangeRecords", name := "emitLeaderBytes", desc := "(II)V" } : Jvm.MethodName) prog_1_method_27_code (5 : Nat) (Option.none : Option Jvm.ClassFile.FieldType)) ∈ GW := gw_2 93 rfl rfl
theorem kw2_94 : (Cond.methodLink "ExchangeRecords" (155 : Nat) ({ cls := "ExchangeRecords$Output", name := "emit", desc := "(I)V" } : Jvm.MethodName)) ∈ GW := gw_2 94 rfl rfl
theorem kw2_95 : (Cond.methodLink "ExchangeRecords" (148 : Nat) ({ cls := "ExchangeRecords", name := "emitDirectory", desc := "()V" } : Jvm.MethodName)) ∈ GW := gw_2 95 rfl rfl
theorem kw2_97 : (Cond.instanceMethod ({ cls := "ExchangeRecords", name := "emitDirectory", desc := "()V" } : Jvm.MethodName)) ∈ GW := gw_2 97 rfl rfl
theorem kw2_98 : (Cond.code ({ cls := "ExchangeRecords", name := "emitDirectory", desc := "()V" } : Jvm.MethodName) prog_1_method_28_code (4 : Nat) (Option.none : Option Jvm.ClassFile.FieldType)) ∈ GW := gw_2 98 rfl rfl
theorem kw2_99 : (Cond.methodLink "ExchangeRecords" (151 : Nat) ({ cls := "ExchangeRecords", name := "emitField", desc := "(LExchangeRecords$Field;)V" } : Jvm.MethodName)) ∈ GW := gw_2 99 rfl rfl
theorem kw2_101 : (Cond.instanceMethod ({ cls := "ExchangeRecords", name := "emitField", desc := "(LExchangeRecords$Field;)V" } : Jvm.MethodName)) ∈ GW := gw_2 101 rfl rfl
theorem kw2_102 : (Cond.code ({ cls := "ExchangeRecords", name := "emitField", desc := "(LExchangeRecords$Field;)V" } : Jvm.MethodName) prog_1_method_29_code (3 : Nat) (Option.none : Option Jvm.ClassFile.FieldType)) ∈ GW := gw_2 102 rfl rfl
theorem kw2_103 : (Cond.methodLink "ExchangeRecordsLaw" (46 : Nat) ({ cls := "ExchangeRecordsLaw", name := "directory", desc := "(LExchangeRecords;II[J)I" } : Jvm.MethodName)) ∈ GW := gw_2 103 rfl rfl
theorem kw2_104 : (Cond.static ({ cls := "ExchangeRecordsLaw", name := "directory", desc := "(LExchangeRecords;II[J)I" } : Jvm.MethodName)) ∈ GW := gw_2 104 rfl rfl
theorem kw2_106 : (Cond.classLink "ExchangeRecordsLaw" (13 : Nat) "java/lang/ArrayIndexOutOfBoundsException") ∈ GW := gw_2 106 rfl rfl
theorem kw2_107 : (Cond.instantiable "java/lang/ArrayIndexOutOfBoundsException" (6 : Nat)) ∈ GW := gw_2 107 rfl rfl
theorem kw2_108 : (Cond.instanceMethod ({ cls := "java/lang/ArrayIndexOutOfBoundsException", name := "<init>", desc := "(Ljava/lang/String;)V" } : Jvm.MethodName)) ∈ GW := gw_2 108 rfl rfl
theorem kw2_109 : (Cond.code ({ cls := "java/lang/ArrayIndexOutOfBoundsException", name := "<init>", desc := "(Ljava/lang/String;)V" } : Jvm.MethodName) prog_7_method_2_code (2 : Nat) (Option.none : Option Jvm.ClassFile.FieldType)) ∈ GW := gw_2 109 rfl rfl
theorem kw2_110 : (Cond.methodLink "java/lang/ArrayIndexOutOfBoundsException" (7 : Nat) ({ cls := "java/lang/IndexOutOfBoundsException", name := "<init>", desc := "(Ljava/lang/String;)V" } : Jvm.MethodName)) ∈ GW := gw_2 110 rfl rfl
theorem kw2_111 : (Cond.instanceMethod ({ cls := "java/lang/IndexOutOfBoundsException", name := "<init>", desc := "(Ljava/lang/String;)V" } : Jvm.MethodName)) ∈ GW := gw_2 111 rfl rfl
theorem kw2_112 : (Cond.code ({ cls := "java/lang/IndexOutOfBoundsException", name := "<init>", desc := "(Ljava/lang/String;)V" } : Jvm.MethodName) prog_10_method_2_code (2 : Nat) (Option.none : Option Jvm.ClassFile.FieldType)) ∈ GW := gw_2 112 rfl rfl
theorem kw2_113 : (Cond.methodLink "java/lang/IndexOutOfBoundsException" (7 : Nat) ({ cls := "java/lang/RuntimeException", name := "<init>", desc := "(Ljava/lang/String;)V" } : Jvm.MethodName)) ∈ GW := gw_2 113 rfl rfl
theorem kw2_114 : (Cond.instanceMethod ({ cls := "java/lang/RuntimeException", name := "<init>", desc := "(Ljava/lang/String;)V" } : Jvm.MethodName)) ∈ GW := gw_2 114 rfl rfl
theorem kw2_115 : (Cond.code ({ cls := "java/lang/RuntimeException", name := "<init>", desc := "(Ljava/lang/String;)V" } : Jvm.MethodName) prog_12_method_2_code (2 : Nat) (Option.none : Option Jvm.ClassFile.FieldType)) ∈ GW := gw_2 115 rfl rfl
theorem kw2_116 : (Cond.methodLink "java/lang/RuntimeException" (7 : Nat) ({ cls := "java/lang/Exception", name := "<init>", desc := "(Ljava/lang/String;)V" } : Jvm.MethodName)) ∈ GW := gw_2 116 rfl rfl
theorem kw2_117 : (Cond.instanceMethod ({ cls := "java/lang/Exception", name := "<init>", desc := "(Ljava/lang/String;)V" } : Jvm.MethodName)) ∈ GW := gw_2 117 rfl rfl
theorem kw2_118 : (Cond.code ({ cls := "java/lang/Exception", name := "<init>", desc := "(Ljava/lang/String;)V" } : Jvm.MethodName) prog_9_method_2_code (2 : Nat) (Option.none : Option Jvm.ClassFile.FieldType)) ∈ GW := gw_2 118 rfl rfl
theorem kw2_119 : (Cond.methodLink "java/lang/Exception" (7 : Nat) ({ cls := "java/lang/Throwable", name := "<init>", desc := "(Ljava/lang/String;)V" } : Jvm.MethodName)) ∈ GW := gw_2 119 rfl rfl
theorem kw2_120 : (Cond.instanceMethod ({ cls := "java/lang/Throwable", name := "<init>", desc := "(Ljava/lang/String;)V" } : Jvm.MethodName)) ∈ GW := gw_2 120 rfl rfl
theorem kw2_121 : (Cond.code ({ cls := "java/lang/Throwable", name := "<init>", desc := "(Ljava/lang/String;)V" } : Jvm.MethodName) prog_15_method_2_code (2 : Nat) (Option.none : Option Jvm.ClassFile.FieldType)) ∈ GW := gw_2 121 rfl rfl
theorem kw2_122 : (Cond.methodLink "java/lang/Throwable" (1 : Nat) ({ cls := "java/lang/Object", name := "<init>", desc := "()V" } : Jvm.MethodName)) ∈ GW := gw_2 122 rfl rfl
theorem kw2_123 : (Cond.fieldLink "java/lang/Throwable" (13 : Nat) "java/lang/Throwable" "UNASSIGNED_STACK" "[Ljava/lang/StackTraceElement;") ∈ GW := gw_2 123 rfl rfl
theorem kw2_125 : (Cond.fieldLink "java/lang/Throwable" (20 : Nat) "java/lang/Throwable" "SUPPRESSED_SENTINEL" "Ljava/util/List;") ∈ GW := gw_2 125 rfl rfl
theorem kw2_127 : (Cond.methodLink "java/lang/Throwable" (27 : Nat) ({ cls := "java/lang/Throwable", name := "fillInStackTrace", desc := "()Ljava/lang/Throwable;" } : Jvm.MethodName)) ∈ GW := gw_2 127 rfl rfl
theorem kw2_128 : (Cond.instanceMethod ({ cls := "java/lang/Throwable", name := "fillInStackTrace", desc := "()Ljava/lang/Throwable;" } : Jvm.MethodName)) ∈ GW := gw_2 128 rfl rfl
theorem kw2_129 : (Cond.sameMethod "java/lang/Throwable" "java/lang/Throwable" "fillInStackTrace" "()Ljava/lang/Throwable;") ∈ GW := gw_2 129 rfl rfl
theorem kw2_130 : (Cond.selects "java/lang/ArrayIndexOutOfBoundsException" ({ cls := "java/lang/Throwable", name := "fillInStackTrace", desc := "()Ljava/lang/Throwable;" } : Jvm.MethodName) ({ cls := "java/lang/Throwable", name := "fillInStackTrace", desc := "()Ljava/lang/Throwable;" } : Jvm.MethodName)) ∈ GW := gw_2 130 rfl rfl
theorem kw2_132 : (Cond.methodLink "java/lang/Throwable" (202 : Nat) ({ cls := "java/lang/Throwable", name := "fillInStackTrace", desc := "(I)Ljava/lang/Throwable;" } : Jvm.MethodName)) ∈ GW := gw_2 132 rfl rfl
theorem kw2_134 : (Cond.instanceMethod ({ cls := "java/lang/Throwable", name := "fillInStackTrace", desc := "(I)Ljava/lang/Throwable;" } : Jvm.MethodName)) ∈ GW := gw_2 134 rfl rfl
theorem kw2_135 : (Cond.instantiable "java/lang/Throwable" (6 : Nat)) ∈ GW := gw_2 135 rfl rfl
theorem kw2_136 : (Cond.native ({ cls := "java/lang/Throwable", name := "fillInStackTrace", desc := "(I)Ljava/lang/Throwable;" } : Jvm.MethodName)) ∈ GW := gw_2 136 rfl rfl
theorem kw2_137 : (Cond.fieldLink "java/lang/Throwable" (198 : Nat) "java/lang/Throwable" "backtrace" "Ljava/lang/Object;") ∈ GW := gw_2 137 rfl rfl
theorem kw2_138 : (Cond.fieldLink "java/lang/Throwable" (31 : Nat) "java/lang/Throwable" "detailMessage" "Ljava/lang/String;") ∈ GW := gw_2 138 rfl rfl
theorem kw2_139 : (Cond.fieldLink "java/lang/Throwable" (7 : Nat) "java/lang/Throwable" "cause" "Ljava/lang/Throwable;") ∈ GW := gw_2 139 rfl rfl
theorem kw2_140 : (Cond.fieldLink "java/lang/Throwable" (17 : Nat) "java/lang/Throwable" "stackTrace" "[Ljava/lang/StackTraceElement;") ∈ GW := gw_2 140 rfl rfl
theorem kw2_141 : (Cond.fieldLink "java/lang/Throwable" (24 : Nat) "java/lang/Throwable" "suppressedExceptions" "Ljava/util/List;") ∈ GW := gw_2 141 rfl rfl
theorem kw2_142 : (Cond.lays "java/lang/ArrayIndexOutOfBoundsException" "java/lang/Throwable" "backtrace" "Ljava/lang/Object;") ∈ GW := gw_2 142 rfl rfl
theorem kw2_143 : (Cond.soleField "java/lang/Throwable" "backtrace") ∈ GW := gw_2 143 rfl rfl
theorem kw2_144 : (Cond.lays "java/lang/ArrayIndexOutOfBoundsException" "java/lang/Throwable" "detailMessage" "Ljava/lang/String;") ∈ GW := gw_2 144 rfl rfl
theorem kw2_145 : (Cond.soleField "java/lang/Throwable" "detailMessage") ∈ GW := gw_2 145 rfl rfl
theorem kw2_146 : (Cond.lays "java/lang/ArrayIndexOutOfBoundsException" "java/lang/Throwable" "cause" "Ljava/lang/Throwable;") ∈ GW := gw_2 146 rfl rfl
theorem kw2_147 : (Cond.soleField "java/lang/Throwable" "cause") ∈ GW := gw_2 147 rfl rfl
theorem kw2_148 : (Cond.lays "java/lang/ArrayIndexOutOfBoundsException" "java/lang/Throwable" "stackTrace" "[Ljava/lang/StackTraceElement;") ∈ GW := gw_2 148 rfl rfl
theorem kw2_149 : (Cond.soleField "java/lang/Throwable" "stackTrace") ∈ GW := gw_2 149 rfl rfl
theorem kw2_150 : (Cond.lays "java/lang/ArrayIndexOutOfBoundsException" "java/lang/Throwable" "depth" "I") ∈ GW := gw_2 150 rfl rfl
theorem kw2_151 : (Cond.soleField "java/lang/Throwable" "depth") ∈ GW := gw_2 151 rfl rfl
theorem kw2_152 : (Cond.lays "java/lang/ArrayIndexOutOfBoundsException" "java/lang/Throwable" "suppressedExceptions" "Ljava/util/List;") ∈ GW := gw_2 152 rfl rfl
theorem kw2_153 : (Cond.soleField "java/lang/Throwable" "suppressedExceptions") ∈ GW := gw_2 153 rfl rfl
theorem kw2_154 : (Cond.superclass "java/lang/ArrayIndexOutOfBoundsException" "java/lang/IndexOutOfBoundsException") ∈ GW := gw_2 154 rfl rfl
theorem kw2_164 : (Cond.selects "java/lang/ArrayIndexOutOfBoundsException" ({ cls := "java/lang/Throwable", name := "fillInStackTrace", desc := "(I)Ljava/lang/Throwable;" } : Jvm.MethodName) ({ cls := "java/lang/Throwable", name := "fillInStackTrace", desc := "(I)Ljava/lang/Throwable;" } : Jvm.MethodName)) ∈ GW := gw_2 164 rfl rfl
theorem kw2_165 : (Cond.lays "java/lang/Throwable" "java/lang/Throwable" "cause" "Ljava/lang/Throwable;") ∈ GW := gw_2 165 rfl rfl
theorem kw2_166 : (Cond.lays "java/lang/Throwable" "java/lang/Throwable" "stackTrace" "[Ljava/lang/StackTraceElement;") ∈ GW := gw_2 166 rfl rfl
theorem kw2_167 : (Cond.lays "java/lang/Throwable" "java/lang/Throwable" "suppressedExceptions" "Ljava/util/List;") ∈ GW := gw_2 167 rfl rfl
theorem kw2_168 : (Cond.lays "java/lang/Throwable" "java/lang/Throwable" "detailMessage" "Ljava/lang/String;") ∈ GW := gw_2 168 rfl rfl
theorem kw2_169 : (Cond.lays "java/lang/Throwable" "java/lang/Throwable" "backtrace" "Ljava/lang/Object;") ∈ GW := gw_2 169 rfl rfl
theorem kw2_170 : (Cond.fieldLink "java/lang/Throwable" (198 : Nat) "java/lang/Throwable" "backtrace" "Ljava/lang/Object;") ∈ GW := gw_2 170 rfl rfl
theorem kw2_171 : (Cond.superclass "java/lang/Throwable" "java/lang/Object") ∈ GW := gw_2 171 rfl rfl
theorem kw2_172 : (Cond.instanceMethod ({ cls := "java/lang/Throwable", name := "<init>", desc := "()V" } : Jvm.MethodName)) ∈ GW := gw_2 172 rfl rfl
theorem kw2_173 : (Cond.code ({ cls := "java/lang/Throwable", name := "<init>", desc := "()V" } : Jvm.MethodName) prog_15_method_1_code (1 : Nat) (Option.none : Option Jvm.ClassFile.FieldType)) ∈ GW := gw_2 173 rfl rfl
theorem kw2_174 : (Cond.instantiable "java/lang/String" (4 : Nat)) ∈ GW := gw_2 174 rfl rfl
theorem kw2_175 : (Cond.laysFinal "java/lang/String" "java/lang/String" "value" "[B") ∈ GW := gw_2 175 rfl rfl
theorem kw2_176 : (Cond.soleField "java/lang/String" "value") ∈ GW := gw_2 176 rfl rfl
theorem kw2_177 : (Cond.laysFinal "java/lang/String" "java/lang/String" "coder" "B") ∈ GW := gw_2 177 rfl rfl
theorem kw2_178 : (Cond.soleField "java/lang/String" "coder") ∈ GW := gw_2 178 rfl rfl
theorem kw2_179 : (Cond.methodLink "ExchangeRecordsLaw" (7 : Nat) ({ cls := "ExchangeRecords", name := "directory", desc := "(II)I" } : Jvm.MethodName)) ∈ GW := gw_2 179 rfl rfl
theorem kw2_180 : (Cond.instanceMethod ({ cls := "ExchangeRecords", name := "directory", desc := "(II)I" } : Jvm.MethodName)) ∈ GW := gw_2 180 rfl rfl
theorem kw2_181 : (Cond.selects "ExchangeRecords" ({ cls := "ExchangeRecords", name := "directory", desc := "(II)I" } : Jvm.MethodName) ({ cls := "ExchangeRecords", name := "directory", desc := "(II)I" } : Jvm.MethodName)) ∈ GW := gw_2 181 rfl rfl
theorem kw2_182 : (Cond.code ({ cls := "ExchangeRecords", name := "directory", desc := "(II)I" } : Jvm.MethodName) prog_1_method_7_code (3 : Nat) (Option.some Jvm.ClassFile.FieldType.int)) ∈ GW := gw_2 182 rfl rfl
theorem kw2_183 : (Cond.classLink "ExchangeRecords" (104 : Nat) "java/lang/ArrayIndexOutOfBoundsException") ∈ GW := gw_2 183 rfl rfl
theorem kw2_185 : (Cond.methodLink "ExchangeRecords" (108 : Nat) ({ cls := "java/lang/ArrayIndexOutOfBoundsException", name := "<init>", desc := "(Ljava/lang/String;)V" } : Jvm.MethodName)) ∈ GW := gw_2 185 rfl rfl
theorem kw2_186 : (Cond.methodLink "ExchangeRecordsLaw" (77 : Nat) ({ cls := "ExchangeRecordsLaw", name := "octet", desc := "(LExchangeRecords;I[J)I" } : Jvm.MethodName)) ∈ GW := gw_2 186 rfl rfl
theorem kw2_187 : (Cond.static ({ cls := "ExchangeRecordsLaw", name := "octet", desc := "(LExchangeRecords;I[J)I" } : Jvm.MethodName)) ∈ GW := gw_2 187 rfl rfl
theorem kw2_189 : (Cond.methodLink "ExchangeRecordsLaw" (15 : Nat) ({ cls := "ExchangeRecords", name := "octet", desc := "(I)B" } : Jvm.MethodName)) ∈ GW := gw_2 189 rfl rfl
theorem kw2_190 : (Cond.instanceMethod ({ cls := "ExchangeRecords", name := "octet", desc := "(I)B" } : Jvm.MethodName)) ∈ GW := gw_2 190 rfl rfl
theorem kw2_191 : (Cond.selects "ExchangeRecords" ({ cls := "ExchangeRecords", name := "octet", desc := "(I)B" } : Jvm.MethodName) ({ cls := "ExchangeRecords", name := "octet", desc := "(I)B" } : Jvm.MethodName)) ∈ GW := gw_2 191 rfl rfl
theorem kw2_192 : (Cond.code ({ cls := "ExchangeRecords", name := "octet", desc := "(I)B" } : Jvm.MethodName) prog_1_method_13_code (2 : Nat) (Option.some Jvm.ClassFile.FieldType.byte)) ∈ GW := gw_2 192 rfl rfl
theorem kw2_193 : (Cond.methodLink "ExchangeRecords" (158 : Nat) ({ cls := "ExchangeRecords$Output", name := "has", desc := "(I)Z" } : Jvm.MethodName)) ∈ GW := gw_2 193 rfl rfl
theorem kw2_194 : (Cond.instanceMethod ({ cls := "ExchangeRecords$Output", name := "has", desc := "(I)Z" } : Jvm.MethodName)) ∈ GW := gw_2 194 rfl rfl
theorem kw2_195 : (Cond.selects "ExchangeRecords$Output" ({ cls := "ExchangeRecords$Output", name := "has", desc := "(I)Z" } : Jvm.MethodName) ({ cls := "ExchangeRecords$Output", name := "has", desc := "(I)Z" } : Jvm.MethodName)) ∈ GW := gw_2 195 rfl rfl
theorem kw2_196 : (Cond.code ({ cls := "ExchangeRecords$Output", name := "has", desc := "(I)Z" } : Jvm.MethodName) prog_4_method_5_code (2 : Nat) (Option.some Jvm.ClassFile.FieldType.boolean)) ∈ GW := gw_2 196 rfl rfl
theorem kw2_198 : (Cond.methodLink "ExchangeRecords" (163 : Nat) ({ cls := "ExchangeRecords$Output", name := "at", desc := "(I)B" } : Jvm.MethodName)) ∈ GW := gw_2 198 rfl rfl
theorem kw2_199 : (Cond.instanceMethod ({ cls := "ExchangeRecords$Output", name := "at", desc := "(I)B" } : Jvm.MethodName)) ∈ GW := gw_2 199 rfl rfl
theorem kw2_200 : (Cond.selects "ExchangeRecords$Output" ({ cls := "ExchangeRecords$Output", name := "at", desc := "(I)B" } : Jvm.MethodName) ({ cls := "ExchangeRecords$Output", name := "at", desc := "(I)B" } : Jvm.MethodName)) ∈ GW := gw_2 200 rfl rfl
theorem kw2_201 : (Cond.code ({ cls := "ExchangeRecords$Output", name := "at", desc := "(I)B" } : Jvm.MethodName) prog_4_method_6_code (2 : Nat) (Option.some Jvm.ClassFile.FieldType.byte)) ∈ GW := gw_2 201 rfl rfl
theorem kw2_202 : (Cond.methodLink "ExchangeRecords$Output" (27 : Nat) ({ cls := "ExchangeRecords$Output", name := "has", desc := "(I)Z" } : Jvm.MethodName)) ∈ GW := gw_2 202 rfl rfl
theorem kw2_203 : (Cond.classLink "ExchangeRecordsLaw" (20 : Nat) "ExchangeRecordsModel") ∈ GW := gw_2 203 rfl rfl
theorem kw2_204 : (Cond.instantiable "ExchangeRecordsModel" (16 : Nat)) ∈ GW := gw_2 204 rfl rfl
theorem kw2_205 : (Cond.methodLink "ExchangeRecordsLaw" (22 : Nat) ({ cls := "ExchangeRecordsModel", name := "<init>", desc := "()V" } : Jvm.MethodName)) ∈ GW := gw_2 205 rfl rfl
theorem kw2_206 : (Cond.instanceMethod ({ cls := "ExchangeRecordsModel", name := "<init>", desc := "()V" } : Jvm.MethodName)) ∈ GW := gw_2 206 rfl rfl
theorem kw2_207 : (Cond.code ({ cls := "ExchangeRecordsModel", name := "<init>", desc := "()V" } : Jvm.MethodName) prog_6_method_1_code (1 : Nat) (Option.none : Option Jvm.ClassFile.FieldType)) ∈ GW := gw_2 207 rfl rfl
theorem kw2_208 : (Cond.methodLink "ExchangeRecordsModel" (1 : Nat) ({ cls := "java/lang/Object", name := "<init>", desc := "()V" } : Jvm.MethodName)) ∈ GW := gw_2 208 rfl rfl
theorem kw2_209 : (Cond.constant "ExchangeRecordsModel" (20 : Nat) (114000 : Int32)) ∈ GW := gw_2 209 rfl rfl
theorem kw2_210 : (Cond.constant "ExchangeRecordsModel" (33 : Nat) (115000 : Int32)) ∈ GW := gw_2 210 rfl rfl
theorem kw2_211 : (Cond.fieldLink "ExchangeRecordsModel" (37 : Nat) "ExchangeRecordsModel" "thrown" "I") ∈ GW := gw_2 211 rfl rfl
theorem kw2_212 : (Cond.fieldLink "ExchangeRecordsModel" (7 : Nat) "ExchangeRecordsModel" "input" "[B") ∈ GW := gw_2 212 rfl rfl
theorem kw2_213 : (Cond.fieldLink "ExchangeRecordsModel" (41 : Nat) "ExchangeRecordsModel" "size" "I") ∈ GW := gw_2 213 rfl rfl
theorem kw2_214 : (Cond.fieldLink "ExchangeRecordsModel" (44 : Nat) "ExchangeRecordsModel" "place" "I") ∈ GW := gw_2 214 rfl rfl
theorem kw2_215 : (Cond.fieldLink "ExchangeRecordsModel" (91 : Nat) "ExchangeRecordsModel" "there" "Z") ∈ GW := gw_2 215 rfl rfl
theorem kw2_216 : (Cond.fieldLink "ExchangeRecordsModel" (13 : Nat) "ExchangeRecordsModel" "leader" "[B") ∈ GW := gw_2 216 rfl rfl
theorem kw2_217 : (Cond.fieldLink "ExchangeRecordsModel" (16 : Nat) "ExchangeRecordsModel" "tags" "[I") ∈ GW := gw_2 217 rfl rfl
theorem kw2_218 : (Cond.fieldLink "ExchangeRecordsModel" (21 : Nat) "ExchangeRecordsModel" "bytes" "[B") ∈ GW := gw_2 218 rfl rfl
theorem kw2_219 : (Cond.fieldLink "ExchangeRecordsModel" (24 : Nat) "ExchangeRecordsModel" "sizes" "[I") ∈ GW := gw_2 219 rfl rfl
theorem kw2_220 : (Cond.fieldLink "ExchangeRecordsModel" (88 : Nat) "ExchangeRecordsModel" "fields" "I") ∈ GW := gw_2 220 rfl rfl
theorem kw2_221 : (Cond.fieldLink "ExchangeRecordsModel" (27 : Nat) "ExchangeRecordsModel" "rows" "[I") ∈ GW := gw_2 221 rfl rfl
theorem kw2_222 : (Cond.fieldLink "ExchangeRecordsModel" (30 : Nat) "ExchangeRecordsModel" "newRows" "[I") ∈ GW := gw_2 222 rfl rfl
theorem kw2_223 : (Cond.fieldLink "ExchangeRecordsModel" (85 : Nat) "ExchangeRecordsModel" "rowCount" "I") ∈ GW := gw_2 223 rfl rfl
theorem kw2_224 : (Cond.fieldLink "ExchangeRecordsModel" (34 : Nat) "ExchangeRecordsModel" "written" "[B") ∈ GW := gw_2 224 rfl rfl
theorem kw2_225 : (Cond.fieldLink "ExchangeRecordsModel" (118 : Nat) "ExchangeRecordsModel" "writtenSize" "I") ∈ GW := gw_2 225 rfl rfl
theorem kw2_226 : (Cond.fieldLink "ExchangeRecordsModel" (47 : Nat) "ExchangeRecordsModel" "wrong" "I") ∈ GW := gw_2 226 rfl rfl
theorem kw2_227 : (Cond.lays "ExchangeRecordsModel" "ExchangeRecordsModel" "thrown" "I") ∈ GW := gw_2 227 rfl rfl
theorem kw2_228 : (Cond.soleField "ExchangeRecordsModel" "thrown") ∈ GW := gw_2 228 rfl rfl
theorem kw2_229 : (Cond.laysFinal "ExchangeRecordsModel" "ExchangeRecordsModel" "input" "[B") ∈ GW := gw_2 229 rfl rfl
theorem kw2_230 : (Cond.soleField "ExchangeRecordsModel" "input") ∈ GW := gw_2 230 rfl rfl
theorem kw2_231 : (Cond.lays "ExchangeRecordsModel" "ExchangeRecordsModel" "size" "I") ∈ GW := gw_2 231 rfl rfl
theorem kw2_232 : (Cond.soleField "ExchangeRecordsModel" "size") ∈ GW := gw_2 232 rfl rfl
theorem kw2_233 : (Cond.lays "ExchangeRecordsModel" "ExchangeRecordsModel" "place" "I") ∈ GW := gw_2 233 rfl rfl
theorem kw2_234 : (Cond.soleField "ExchangeRecordsModel" "place") ∈ GW := gw_2 234 rfl rfl
theorem kw2_235 : (Cond.lays "ExchangeRecordsModel" "ExchangeRecordsModel" "there" "Z") ∈ GW := gw_2 235 rfl rfl
theorem kw2_236 : (Cond.soleField "ExchangeRecordsModel" "there") ∈ GW := gw_2 236 rfl rfl
theorem kw2_237 : (Cond.laysFinal "ExchangeRecordsModel" "ExchangeRecordsModel" "leader" "[B") ∈ GW := gw_2 237 rfl rfl
theorem kw2_238 : (Cond.soleField "ExchangeRecordsModel" "leader") ∈ GW := gw_2 238 rfl rfl
theorem kw2_239 : (Cond.laysFinal "ExchangeRecordsModel" "ExchangeRecordsModel" "tags" "[I") ∈ GW := gw_2 239 rfl rfl
theorem kw3_0 : (Cond.soleField "ExchangeRecordsModel" "tags") ∈ GW := gw_3 0 rfl rfl
theorem kw3_1 : (Cond.laysFinal "ExchangeRecordsModel" "ExchangeRecordsModel" "bytes" "[B") ∈ GW := gw_3 1 rfl rfl
theorem kw3_2 : (Cond.soleField "ExchangeRecordsModel" "bytes") ∈ GW := gw_3 2 rfl rfl
theorem kw3_3 : (Cond.laysFinal "ExchangeRecordsModel" "ExchangeRecordsModel" "sizes" "[I") ∈ GW := gw_3 3 rfl rfl
theorem kw3_4 : (Cond.soleField "ExchangeRecordsModel" "sizes") ∈ GW := gw_3 4 rfl rfl
theorem kw3_5 : (Cond.lays "ExchangeRecordsModel" "ExchangeRecordsModel" "fields" "I") ∈ GW := gw_3 5 rfl rfl
theorem kw3_6 : (Cond.soleField "ExchangeRecordsModel" "fields") ∈ GW := gw_3 6 rfl rfl
theorem kw3_7 : (Cond.laysFinal "ExchangeRecordsModel" "ExchangeRecordsModel" "rows" "[I") ∈ GW := gw_3 7 rfl rfl
theorem kw3_8 : (Cond.soleField "ExchangeRecordsModel" "rows") ∈ GW := gw_3 8 rfl rfl
theorem kw3_9 : (Cond.laysFinal "ExchangeRecordsModel" "ExchangeRecordsModel" "newRows" "[I") ∈ GW := gw_3 9 rfl rfl
theorem kw3_10 : (Cond.soleField "ExchangeRecordsModel" "newRows") ∈ GW := gw_3 10 rfl rfl
theorem kw3_11 : (Cond.lays "ExchangeRecordsModel" "ExchangeRecordsModel" "rowCount" "I") ∈ GW := gw_3 11 rfl rfl
theorem kw3_12 : (Cond.soleField "ExchangeRecordsModel" "rowCount") ∈ GW := gw_3 12 rfl rfl
theorem kw3_13 : (Cond.laysFinal "ExchangeRecordsModel" "ExchangeRecordsModel" "written" "[B") ∈ GW := gw_3 13 rfl rfl
theorem kw3_14 : (Cond.soleField "ExchangeRecordsModel" "written") ∈ GW := gw_3 14 rfl rfl
theorem kw3_15 : (Cond.lays "ExchangeRecordsModel" "ExchangeRecordsModel" "writtenSize" "I") ∈ GW := gw_3 15 rfl rfl
theorem kw3_16 : (Cond.soleField "ExchangeRecordsModel" "writtenSize") ∈ GW := gw_3 16 rfl rfl
theorem kw3_17 : (Cond.lays "ExchangeRecordsModel" "ExchangeRecordsModel" "wrong" "I") ∈ GW := gw_3 17 rfl rfl
theorem kw3_18 : (Cond.soleField "ExchangeRecordsModel" "wrong") ∈ GW := gw_3 18 rfl rfl
theorem kw3_19 : (Cond.superclass "ExchangeRecordsModel" "java/lang/Object") ∈ GW := gw_3 19 rfl rfl
theorem kw3_20 : (Cond.methodLink "ExchangeRecordsLaw" (52 : Nat) ({ cls := "ExchangeRecordsModel", name := "thrown", desc := "()I" } : Jvm.MethodName)) ∈ GW := gw_3 20 rfl rfl
theorem kw3_21 : (Cond.instanceMethod ({ cls := "ExchangeRecordsModel", name := "thrown", desc := "()I" } : Jvm.MethodName)) ∈ GW := gw_3 21 rfl rfl
theorem kw3_22 : (Cond.selects "ExchangeRecordsModel" ({ cls := "ExchangeRecordsModel", name := "thrown", desc := "()I" } : Jvm.MethodName) ({ cls := "ExchangeRecordsModel", name := "thrown", desc := "()I" } : Jvm.MethodName)) ∈ GW := gw_3 22 rfl rfl
theorem kw3_23 : (Cond.code ({ cls := "ExchangeRecordsModel", name := "thrown", desc := "()I" } : Jvm.MethodName) prog_6_method_2_code (1 : Nat) (Option.some Jvm.ClassFile.FieldType.int)) ∈ GW := gw_3 23 rfl rfl
theorem kw3_24 : (Cond.methodLink "ExchangeRecordsLaw" (27 : Nat) ({ cls := "ExchangeRecordsModel", name := "add", desc := "(B)V" } : Jvm.MethodName)) ∈ GW := gw_3 24 rfl rfl
theorem kw3_25 : (Cond.instanceMethod ({ cls := "ExchangeRecordsModel", name := "add", desc := "(B)V" } : Jvm.MethodName)) ∈ GW := gw_3 25 rfl rfl
theorem kw3_26 : (Cond.selects "ExchangeRecordsModel" ({ cls := "ExchangeRecordsModel", name := "add", desc := "(B)V" } : Jvm.MethodName) ({ cls := "ExchangeRecordsModel", name := "add", desc := "(B)V" } : Jvm.MethodName)) ∈ GW := gw_3 26 rfl rfl
theorem kw3_27 : (Cond.code ({ cls := "ExchangeRecordsModel", name := "add", desc := "(B)V" } : Jvm.MethodName) prog_6_method_3_code (2 : Nat) (Option.none : Option Jvm.ClassFile.FieldType)) ∈ GW := gw_3 27 rfl rfl
theorem kw3_28 : (Cond.methodLink "ExchangeRecordsLaw" (32 : Nat) ({ cls := "ExchangeRecordsModel", name := "read", desc := "()I" } : Jvm.MethodName)) ∈ GW := gw_3 28 rfl rfl
theorem kw3_29 : (Cond.instanceMethod ({ cls := "ExchangeRecordsModel", name := "read", desc := "()I" } : Jvm.MethodName)) ∈ GW := gw_3 29 rfl rfl
theorem kw3_30 : (Cond.selects "ExchangeRecordsModel" ({ cls := "ExchangeRecordsModel", name := "read", desc := "()I" } : Jvm.MethodName) ({ cls := "ExchangeRecordsModel", name := "read", desc := "()I" } : Jvm.MethodName)) ∈ GW := gw_3 30 rfl rfl
theorem kw3_31 : (Cond.code ({ cls := "ExchangeRecordsModel", name := "read", desc := "()I" } : Jvm.MethodName) prog_6_method_16_code (2 : Nat) (Option.some Jvm.ClassFile.FieldType.int)) ∈ GW := gw_3 31 rfl rfl
theorem kw3_32 : (Cond.methodLink "ExchangeRecordsModel" (65 : Nat) ({ cls := "ExchangeRecordsModel", name := "digits", desc := "(II)Z" } : Jvm.MethodName)) ∈ GW := gw_3 32 rfl rfl
theorem kw3_34 : (Cond.instanceMethod ({ cls := "ExchangeRecordsModel", name := "digits", desc := "(II)Z" } : Jvm.MethodName)) ∈ GW := gw_3 34 rfl rfl
theorem kw3_35 : (Cond.code ({ cls := "ExchangeRecordsModel", name := "digits", desc := "(II)Z" } : Jvm.MethodName) prog_6_method_6_code (4 : Nat) (Option.some Jvm.ClassFile.FieldType.boolean)) ∈ GW := gw_3 35 rfl rfl
theorem kw3_36 : (Cond.methodLink "ExchangeRecordsModel" (50 : Nat) ({ cls := "ExchangeRecordsModel", name := "look", desc := "(I)I" } : Jvm.MethodName)) ∈ GW := gw_3 36 rfl rfl
theorem kw3_38 : (Cond.instanceMethod ({ cls := "ExchangeRecordsModel", name := "look", desc := "(I)I" } : Jvm.MethodName)) ∈ GW := gw_3 38 rfl rfl
theorem kw3_39 : (Cond.code ({ cls := "ExchangeRecordsModel", name := "look", desc := "(I)I" } : Jvm.MethodName) prog_6_method_4_code (2 : Nat) (Option.some Jvm.ClassFile.FieldType.int)) ∈ GW := gw_3 39 rfl rfl
theorem kw3_40 : (Cond.methodLink "ExchangeRecordsModel" (54 : Nat) ({ cls := "ExchangeRecordsModel", name := "bad", desc := "(I)Z" } : Jvm.MethodName)) ∈ GW := gw_3 40 rfl rfl
theorem kw3_42 : (Cond.instanceMethod ({ cls := "ExchangeRecordsModel", name := "bad", desc := "(I)Z" } : Jvm.MethodName)) ∈ GW := gw_3 42 rfl rfl
theorem kw3_43 : (Cond.code ({ cls := "ExchangeRecordsModel", name := "bad", desc := "(I)Z" } : Jvm.MethodName) prog_6_method_5_code (2 : Nat) (Option.some Jvm.ClassFile.FieldType.boolean)) ∈ GW := gw_3 43 rfl rfl
theorem kw3_44 : (Cond.methodLink "ExchangeRecordsModel" (68 : Nat) ({ cls := "ExchangeRecordsModel", name := "number", desc := "(II)I" } : Jvm.MethodName)) ∈ GW := gw_3 44 rfl rfl
theorem kw3_46 : (Cond.instanceMethod ({ cls := "ExchangeRecordsModel", name := "number", desc := "(II)I" } : Jvm.MethodName)) ∈ GW := gw_3 46 rfl rfl
theorem kw3_47 : (Cond.code ({ cls := "ExchangeRecordsModel", name := "number", desc := "(II)I" } : Jvm.MethodName) prog_6_method_7_code (5 : Nat) (Option.some Jvm.ClassFile.FieldType.int)) ∈ GW := gw_3 47 rfl rfl
theorem kw3_48 : (Cond.methodLink "ExchangeRecordsModel" (95 : Nat) ({ cls := "ExchangeRecordsModel", name := "reads", desc := "(I)Z" } : Jvm.MethodName)) ∈ GW := gw_3 48 rfl rfl
theorem kw3_50 : (Cond.instanceMethod ({ cls := "ExchangeRecordsModel", name := "reads", desc := "(I)Z" } : Jvm.MethodName)) ∈ GW := gw_3 50 rfl rfl
theorem kw3_51 : (Cond.code ({ cls := "ExchangeRecordsModel", name := "reads", desc := "(I)Z" } : Jvm.MethodName) prog_6_method_14_code (4 : Nat) (Option.some Jvm.ClassFile.FieldType.boolean)) ∈ GW := gw_3 51 rfl rfl
theorem kw3_52 : (Cond.methodLink "ExchangeRecordsModel" (61 : Nat) ({ cls := "ExchangeRecordsModel", name := "must", desc := "(II)Z" } : Jvm.MethodName)) ∈ GW := gw_3 52 rfl rfl
theorem kw3_54 : (Cond.instanceMethod ({ cls := "ExchangeRecordsModel", name := "must", desc := "(II)Z" } : Jvm.MethodName)) ∈ GW := gw_3 54 rfl rfl
theorem kw3_55 : (Cond.code ({ cls := "ExchangeRecordsModel", name := "must", desc := "(II)Z" } : Jvm.MethodName) prog_6_method_8_code (3 : Nat) (Option.some Jvm.ClassFile.FieldType.boolean)) ∈ GW := gw_3 55 rfl rfl
theorem kw3_56 : (Cond.methodLink "ExchangeRecordsModel" (78 : Nat) ({ cls := "ExchangeRecordsModel", name := "heads", desc := "(II)Z" } : Jvm.MethodName)) ∈ GW := gw_3 56 rfl rfl
theorem kw3_58 : (Cond.instanceMethod ({ cls := "ExchangeRecordsModel", name := "heads", desc := "(II)Z" } : Jvm.MethodName)) ∈ GW := gw_3 58 rfl rfl
theorem kw3_59 : (Cond.code ({ cls := "ExchangeRecordsModel", name := "heads", desc := "(II)Z" } : Jvm.MethodName) prog_6_method_13_code (3 : Nat) (Option.some Jvm.ClassFile.FieldType.boolean)) ∈ GW := gw_3 59 rfl rfl
theorem kw3_60 : (Cond.methodLink "ExchangeRecordsModel" (81 : Nat) ({ cls := "ExchangeRecordsModel", name := "row", desc := "(III)Z" } : Jvm.MethodName)) ∈ GW := gw_3 60 rfl rfl
theorem kw3_62 : (Cond.instanceMethod ({ cls := "ExchangeRecordsModel", name := "row", desc := "(III)Z" } : Jvm.MethodName)) ∈ GW := gw_3 62 rfl rfl
theorem kw3_63 : (Cond.code ({ cls := "ExchangeRecordsModel", name := "row", desc := "(III)Z" } : Jvm.MethodName) prog_6_method_12_code (8 : Nat) (Option.some Jvm.ClassFile.FieldType.boolean)) ∈ GW := gw_3 63 rfl rfl
theorem kw3_64 : (Cond.methodLink "ExchangeRecordsModel" (72 : Nat) ({ cls := "ExchangeRecordsModel", name := "control", desc := "(II)Z" } : Jvm.MethodName)) ∈ GW := gw_3 64 rfl rfl
theorem kw3_66 : (Cond.instanceMethod ({ cls := "ExchangeRecordsModel", name := "control", desc := "(II)Z" } : Jvm.MethodName)) ∈ GW := gw_3 66 rfl rfl
theorem kw3_67 : (Cond.code ({ cls := "ExchangeRecordsModel", name := "control", desc := "(II)Z" } : Jvm.MethodName) prog_6_method_10_code (4 : Nat) (Option.some Jvm.ClassFile.FieldType.boolean)) ∈ GW := gw_3 67 rfl rfl
theorem kw3_68 : (Cond.methodLink "ExchangeRecordsModel" (58 : Nat) ({ cls := "ExchangeRecordsModel", name := "isMark", desc := "(I)Z" } : Jvm.MethodName)) ∈ GW := gw_3 68 rfl rfl
theorem kw3_69 : (Cond.static ({ cls := "ExchangeRecordsModel", name := "isMark", desc := "(I)Z" } : Jvm.MethodName)) ∈ GW := gw_3 69 rfl rfl
theorem kw3_70 : (Cond.code ({ cls := "ExchangeRecordsModel", name := "isMark", desc := "(I)Z" } : Jvm.MethodName) prog_6_method_9_code (1 : Nat) (Option.some Jvm.ClassFile.FieldType.boolean)) ∈ GW := gw_3 70 rfl rfl
theorem kw3_71 : (Cond.methodLink "ExchangeRecordsModel" (75 : Nat) ({ cls := "ExchangeRecordsModel", name := "data", desc := "(II)Z" } : Jvm.MethodName)) ∈ GW := gw_3 71 rfl rfl
theorem kw3_73 : (Cond.instanceMethod ({ cls := "ExchangeRecordsModel", name := "data", desc := "(II)Z" } : Jvm.MethodName)) ∈ GW := gw_3 73 rfl rfl
theorem kw3_74 : (Cond.code ({ cls := "ExchangeRecordsModel", name := "data", desc := "(II)Z" } : Jvm.MethodName) prog_6_method_11_code (5 : Nat) (Option.some Jvm.ClassFile.FieldType.boolean)) ∈ GW := gw_3 74 rfl rfl
theorem kw3_75 : (Cond.methodLink "ExchangeRecordsModel" (98 : Nat) ({ cls := "ExchangeRecordsModel", name := "keep", desc := "()V" } : Jvm.MethodName)) ∈ GW := gw_3 75 rfl rfl
theorem kw3_77 : (Cond.instanceMethod ({ cls := "ExchangeRecordsModel", name := "keep", desc := "()V" } : Jvm.MethodName)) ∈ GW := gw_3 77 rfl rfl
theorem kw3_78 : (Cond.code ({ cls := "ExchangeRecordsModel", name := "keep", desc := "()V" } : Jvm.MethodName) prog_6_method_15_code (4 : Nat) (Option.none : Option Jvm.ClassFile.FieldType)) ∈ GW := gw_3 78 rfl rfl
theorem kw3_79 : (Cond.methodLink "ExchangeRecordsLaw" (36 : Nat) ({ cls := "ExchangeRecordsModel", name := "field", desc := "(II)I" } : Jvm.MethodName)) ∈ GW := gw_3 79 rfl rfl
theorem kw3_80 : (Cond.instanceMethod ({ cls := "ExchangeRecordsModel", name := "field", desc := "(II)I" } : Jvm.MethodName)) ∈ GW := gw_3 80 rfl rfl
theorem kw3_81 : (Cond.selects "ExchangeRecordsModel" ({ cls := "ExchangeRecordsModel", name := "field", desc := "(II)I" } : Jvm.MethodName) ({ cls := "ExchangeRecordsModel", name := "field", desc := "(II)I" } : Jvm.MethodName)) ∈ GW := gw_3 81 rfl rfl
theorem kw3_82 : (Cond.code ({ cls := "ExchangeRecordsModel", name := "field", desc := "(II)I" } : Jvm.MethodName) prog_6_method_19_code (5 : Nat) (Option.some Jvm.ClassFile.FieldType.int)) ∈ GW := gw_3 82 rfl rfl
theorem kw3_83 : (Cond.methodLink "ExchangeRecordsLaw" (40 : Nat) ({ cls := "ExchangeRecordsModel", name := "indicator", desc := "(II)I" } : Jvm.MethodName)) ∈ GW := gw_3 83 rfl rfl
theorem kw3_84 : (Cond.instanceMethod ({ cls := "ExchangeRecordsModel", name := "indicator", desc := "(II)I" } : Jvm.MethodName)) ∈ GW := gw_3 84 rfl rfl
theorem kw3_85 : (Cond.selects "ExchangeRecordsModel" ({ cls := "ExchangeRecordsModel", name := "indicator", desc := "(II)I" } : Jvm.MethodName) ({ cls := "ExchangeRecordsModel", name := "indicator", desc := "(II)I" } : Jvm.MethodName)) ∈ GW := gw_3 85 rfl rfl
theorem kw3_86 : (Cond.code ({ cls := "ExchangeRecordsModel", name := "indicator", desc := "(II)I" } : Jvm.MethodName) prog_6_method_20_code (3 : Nat) (Option.some Jvm.ClassFile.FieldType.int)) ∈ GW := gw_3 86 rfl rfl
theorem kw3_87 : (Cond.methodLink "ExchangeRecordsModel" (101 : Nat) ({ cls := "ExchangeRecordsModel", name := "isField", desc := "(I)Z" } : Jvm.MethodName)) ∈ GW := gw_3 87 rfl rfl
theorem kw3_89 : (Cond.instanceMethod ({ cls := "ExchangeRecordsModel", name := "isField", desc := "(I)Z" } : Jvm.MethodName)) ∈ GW := gw_3 89 rfl rfl
theorem kw3_90 : (Cond.code ({ cls := "ExchangeRecordsModel", name := "isField", desc := "(I)Z" } : Jvm.MethodName) prog_6_method_17_code (2 : Nat) (Option.some Jvm.ClassFile.FieldType.boolean)) ∈ GW := gw_3 90 rfl rfl
theorem kw3_91 : (Cond.methodLink "ExchangeRecordsModel" (104 : Nat) ({ cls := "ExchangeRecordsModel", name := "at", desc := "(II)I" } : Jvm.MethodName)) ∈ GW := gw_3 91 rfl rfl
theorem kw3_93 : (Cond.instanceMethod ({ cls := "ExchangeRecordsModel", name := "at", desc := "(II)I" } : Jvm.MethodName)) ∈ GW := gw_3 93 rfl rfl
theorem kw3_94 : (Cond.code ({ cls := "ExchangeRecordsModel", name := "at", desc := "(II)I" } : Jvm.MethodName) prog_6_method_18_code (3 : Nat) (Option.some Jvm.ClassFile.FieldType.int)) ∈ GW := gw_3 94 rfl rfl
theorem kw3_95 : (Cond.methodLink "ExchangeRecordsLaw" (45 : Nat) ({ cls := "ExchangeRecordsModel", name := "subfield", desc := "(IIII)I" } : Jvm.MethodName)) ∈ GW := gw_3 95 rfl rfl
theorem kw3_96 : (Cond.instanceMethod ({ cls := "ExchangeRecordsModel", name := "subfield", desc := "(IIII)I" } : Jvm.MethodName)) ∈ GW := gw_3 96 rfl rfl
theorem kw3_97 : (Cond.selects "ExchangeRecordsModel" ({ cls := "ExchangeRecordsModel", name := "subfield", desc := "(IIII)I" } : Jvm.MethodName) ({ cls := "ExchangeRecordsModel", name := "subfield", desc := "(IIII)I" } : Jvm.MethodName)) ∈ GW := gw_3 97 rfl rfl
theorem kw3_98 : (Cond.code ({ cls := "ExchangeRecordsModel", name := "subfield", desc := "(IIII)I" } : Jvm.MethodName) prog_6_method_21_code (9 : Nat) (Option.some Jvm.ClassFile.FieldType.int)) ∈ GW := gw_3 98 rfl rfl
theorem kw3_99 : (Cond.methodLink "ExchangeRecordsLaw" (51 : Nat) ({ cls := "ExchangeRecordsModel", name := "directory", desc := "(II)I" } : Jvm.MethodName)) ∈ GW := gw_3 99 rfl rfl
theorem kw3_100 : (Cond.instanceMethod ({ cls := "ExchangeRecordsModel", name := "directory", desc := "(II)I" } : Jvm.MethodName)) ∈ GW := gw_3 100 rfl rfl
theorem kw3_101 : (Cond.selects "ExchangeRecordsModel" ({ cls := "ExchangeRecordsModel", name := "directory", desc := "(II)I" } : Jvm.MethodName) ({ cls := "ExchangeRecordsModel", name := "directory", desc := "(II)I" } : Jvm.MethodName)) ∈ GW := gw_3 101 rfl rfl
theorem kw3_102 : (Cond.code ({ cls := "ExchangeRecordsModel", name := "directory", desc := "(II)I" } : Jvm.MethodName) prog_6_method_22_code (3 : Nat) (Option.some Jvm.ClassFile.FieldType.int)) ∈ GW := gw_3 102 rfl rfl
theorem kw3_103 : (Cond.methodLink "ExchangeRecordsLaw" (58 : Nat) ({ cls := "ExchangeRecordsModel", name := "length", desc := "()I" } : Jvm.MethodName)) ∈ GW := gw_3 103 rfl rfl
theorem kw3_104 : (Cond.instanceMethod ({ cls := "ExchangeRecordsModel", name := "length", desc := "()I" } : Jvm.MethodName)) ∈ GW := gw_3 104 rfl rfl
theorem kw3_105 : (Cond.selects "ExchangeRecordsModel" ({ cls := "ExchangeRecordsModel", name := "length", desc := "()I" } : Jvm.MethodName) ({ cls := "ExchangeRecordsModel", name := "length", desc := "()I" } : Jvm.MethodName)) ∈ GW := gw_3 105 rfl rfl
theorem kw3_106 : (Cond.code ({ cls := "ExchangeRecordsModel", name := "length", desc := "()I" } : Jvm.MethodName) prog_6_method_23_code (1 : Nat) (Option.some Jvm.ClassFile.FieldType.int)) ∈ GW := gw_3 106 rfl rfl
theorem kw3_107 : (Cond.methodLink "ExchangeRecordsLaw" (63 : Nat) ({ cls := "ExchangeRecordsModel", name := "leader", desc := "(II)Z" } : Jvm.MethodName)) ∈ GW := gw_3 107 rfl rfl
theorem kw3_108 : (Cond.instanceMethod ({ cls := "ExchangeRecordsModel", name := "leader", desc := "(II)Z" } : Jvm.MethodName)) ∈ GW := gw_3 108 rfl rfl
theorem kw3_109 : (Cond.selects "ExchangeRecordsModel" ({ cls := "ExchangeRecordsModel", name := "leader", desc := "(II)Z" } : Jvm.MethodName) ({ cls := "ExchangeRecordsModel", name := "leader", desc := "(II)Z" } : Jvm.MethodName)) ∈ GW := gw_3 109 rfl rfl
theorem kw3_110 : (Cond.code ({ cls := "ExchangeRecordsModel", name := "leader", desc := "(II)Z" } : Jvm.MethodName) prog_6_method_25_code (4 : Nat) (Option.some Jvm.ClassFile.FieldType.boolean)) ∈ GW := gw_3 110 rfl rfl
theorem kw3_111 : (Cond.methodLink "ExchangeRecordsModel" (107 : Nat) ({ cls := "ExchangeRecordsModel", name := "isAny", desc := "(I)Z" } : Jvm.MethodName)) ∈ GW := gw_3 111 rfl rfl
theorem kw3_112 : (Cond.static ({ cls := "ExchangeRecordsModel", name := "isAny", desc := "(I)Z" } : Jvm.MethodName)) ∈ GW := gw_3 112 rfl rfl
theorem kw3_113 : (Cond.code ({ cls := "ExchangeRecordsModel", name := "isAny", desc := "(I)Z" } : Jvm.MethodName) prog_6_method_24_code (1 : Nat) (Option.some Jvm.ClassFile.FieldType.boolean)) ∈ GW := gw_3 113 rfl rfl
theorem kw3_114 : (Cond.methodLink "ExchangeRecordsLaw" (67 : Nat) ({ cls := "ExchangeRecordsModel", name := "put", desc := "(II)I" } : Jvm.MethodName)) ∈ GW := gw_3 114 rfl rfl
theorem kw3_115 : (Cond.instanceMethod ({ cls := "ExchangeRecordsModel", name := "put", desc := "(II)I" } : Jvm.MethodName)) ∈ GW := gw_3 115 rfl rfl
theorem kw3_116 : (Cond.selects "ExchangeRecordsModel" ({ cls := "ExchangeRecordsModel", name := "put", desc := "(II)I" } : Jvm.MethodName) ({ cls := "ExchangeRecordsModel", name := "put", desc := "(II)I" } : Jvm.MethodName)) ∈ GW := gw_3 116 rfl rfl
theorem kw3_117 : (Cond.code ({ cls := "ExchangeRecordsModel", name := "put", desc := "(II)I" } : Jvm.MethodName) prog_6_method_26_code (3 : Nat) (Option.some Jvm.ClassFile.FieldType.int)) ∈ GW := gw_3 117 rfl rfl
theorem kw3_118 : (Cond.methodLink "ExchangeRecordsLaw" (72 : Nat) ({ cls := "ExchangeRecordsModel", name := "subfield2", desc := "(III)V" } : Jvm.MethodName)) ∈ GW := gw_3 118 rfl rfl
theorem kw3_119 : (Cond.instanceMethod ({ cls := "ExchangeRecordsModel", name := "subfield2", desc := "(III)V" } : Jvm.MethodName)) ∈ GW := gw_3 119 rfl rfl
theorem kw3_120 : (Cond.selects "ExchangeRecordsModel" ({ cls := "ExchangeRecordsModel", name := "subfield2", desc := "(III)V" } : Jvm.MethodName) ({ cls := "ExchangeRecordsModel", name := "subfield2", desc := "(III)V" } : Jvm.MethodName)) ∈ GW := gw_3 120 rfl rfl
theorem kw3_121 : (Cond.code ({ cls := "ExchangeRecordsModel", name := "subfield2", desc := "(III)V" } : Jvm.MethodName) prog_6_method_29_code (6 : Nat) (Option.none : Option Jvm.ClassFile.FieldType)) ∈ GW := gw_3 121 rfl rfl
theorem kw3_122 : (Cond.methodLink "ExchangeRecordsModel" (110 : Nat) ({ cls := "ExchangeRecordsModel", name := "together", desc := "()I" } : Jvm.MethodName)) ∈ GW := gw_3 122 rfl rfl
theorem kw3_124 : (Cond.instanceMethod ({ cls := "ExchangeRecordsModel", name := "together", desc := "()I" } : Jvm.MethodName)) ∈ GW := gw_3 124 rfl rfl
theorem kw3_125 : (Cond.code ({ cls := "ExchangeRecordsModel", name := "together", desc := "()I" } : Jvm.MethodName) prog_6_method_27_code (4 : Nat) (Option.some Jvm.ClassFile.FieldType.int)) ∈ GW := gw_3 125 rfl rfl
theorem kw3_126 : (Cond.methodLink "ExchangeRecordsModel" (114 : Nat) ({ cls := "ExchangeRecordsModel", name := "append", desc := "(II)V" } : Jvm.MethodName)) ∈ GW := gw_3 126 rfl rfl
theorem kw3_128 : (Cond.instanceMethod ({ cls := "ExchangeRecordsModel", name := "append", desc := "(II)V" } : Jvm.MethodName)) ∈ GW := gw_3 128 rfl rfl
theorem kw3_129 : (Cond.code ({ cls := "ExchangeRecordsModel", name := "append", desc := "(II)V" } : Jvm.MethodName) prog_6_method_28_code (3 : Nat) (Option.none : Option Jvm.ClassFile.FieldType)) ∈ GW := gw_3 129 rfl rfl
theorem kw3_130 : (Cond.methodLink "ExchangeRecordsLaw" (76 : Nat) ({ cls := "ExchangeRecordsModel", name := "write", desc := "()I" } : Jvm.MethodName)) ∈ GW := gw_3 130 rfl rfl
theorem kw3_131 : (Cond.instanceMethod ({ cls := "ExchangeRecordsModel", name := "write", desc := "()I" } : Jvm.MethodName)) ∈ GW := gw_3 131 rfl rfl
theorem kw3_132 : (Cond.selects "ExchangeRecordsModel" ({ cls := "ExchangeRecordsModel", name := "write", desc := "()I" } : Jvm.MethodName) ({ cls := "ExchangeRecordsModel", name := "write", desc := "()I" } : Jvm.MethodName)) ∈ GW := gw_3 132 rfl rfl
theorem kw3_133 : (Cond.code ({ cls := "ExchangeRecordsModel", name := "write", desc := "()I" } : Jvm.MethodName) prog_6_method_32_code (7 : Nat) (Option.some Jvm.ClassFile.FieldType.int)) ∈ GW := gw_3 133 rfl rfl
theorem kw3_134 : (Cond.methodLink "ExchangeRecordsModel" (125 : Nat) ({ cls := "ExchangeRecordsModel", name := "sayNumber", desc := "(II)V" } : Jvm.MethodName)) ∈ GW := gw_3 134 rfl rfl
theorem kw3_136 : (Cond.instanceMethod ({ cls := "ExchangeRecordsModel", name := "sayNumber", desc := "(II)V" } : Jvm.MethodName)) ∈ GW := gw_3 136 rfl rfl
theorem kw3_137 : (Cond.code ({ cls := "ExchangeRecordsModel", name := "sayNumber", desc := "(II)V" } : Jvm.MethodName) prog_6_method_31_code (5 : Nat) (Option.none : Option Jvm.ClassFile.FieldType)) ∈ GW := gw_3 137 rfl rfl
theorem kw3_138 : (Cond.methodLink "ExchangeRecordsModel" (121 : Nat) ({ cls := "ExchangeRecordsModel", name := "say", desc := "(I)V" } : Jvm.MethodName)) ∈ GW := gw_3 138 rfl rfl
theorem kw3_140 : (Cond.instanceMethod ({ cls := "ExchangeRecordsModel", name := "say", desc := "(I)V" } : Jvm.MethodName)) ∈ GW := gw_3 140 rfl rfl
theorem kw3_141 : (Cond.code ({ cls := "ExchangeRecordsModel", name := "say", desc := "(I)V" } : Jvm.MethodName) prog_6_method_30_code (2 : Nat) (Option.none : Option Jvm.ClassFile.FieldType)) ∈ GW := gw_3 141 rfl rfl
theorem kw3_142 : (Cond.methodLink "ExchangeRecordsLaw" (80 : Nat) ({ cls := "ExchangeRecordsModel", name := "octet", desc := "(I)B" } : Jvm.MethodName)) ∈ GW := gw_3 142 rfl rfl
theorem kw3_143 : (Cond.instanceMethod ({ cls := "ExchangeRecordsModel", name := "octet", desc := "(I)B" } : Jvm.MethodName)) ∈ GW := gw_3 143 rfl rfl
theorem kw3_144 : (Cond.selects "ExchangeRecordsModel" ({ cls := "ExchangeRecordsModel", name := "octet", desc := "(I)B" } : Jvm.MethodName) ({ cls := "ExchangeRecordsModel", name := "octet", desc := "(I)B" } : Jvm.MethodName)) ∈ GW := gw_3 144 rfl rfl
theorem kw3_145 : (Cond.code ({ cls := "ExchangeRecordsModel", name := "octet", desc := "(I)B" } : Jvm.MethodName) prog_6_method_33_code (2 : Nat) (Option.some Jvm.ClassFile.FieldType.byte)) ∈ GW := gw_3 145 rfl rfl
theorem kw3_146 : (Cond.arrayClass Jvm.ClassFile.FieldType.long) ∈ GW := gw_3 146 rfl rfl
theorem kw3_147 : (Cond.sameMethod "java/lang/Throwable" "java/lang/Throwable" "fillInStackTrace" "(I)Ljava/lang/Throwable;") ∈ GW := gw_3 147 rfl rfl
theorem ks1_0 : Cond.selects "ExchangeRecords$Input" (⟨"ExchangeRecords$Input", "wrongDigit", "(II)I"⟩ : MethodName) (⟨"ExchangeRecords$Input", "wrongDigit", "(II)I"⟩ : MethodName) ∈ GW := gw_s (q := (⟨"ExchangeRecords$Input", "wrongDigit", "(II)I"⟩, 3)) (List.mem_append_left _ (List.mem_of_getElem? (i := 0) rfl))
theorem ks1_1 : Cond.selects "ExchangeRecords" (⟨"ExchangeRecords", "refuse", "(II)I"⟩ : MethodName) (⟨"ExchangeRecords", "refuse", "(II)I"⟩ : MethodName) ∈ GW := gw_s (q := (⟨"ExchangeRecords", "refuse", "(II)I"⟩, 8)) (List.mem_append_left _ (List.mem_of_getElem? (i := 1) rfl))
theorem ks1_2 : Cond.selects "ExchangeRecords$Input" (⟨"ExchangeRecords$Input", "wrongInLeader", "(I)I"⟩ : MethodName) (⟨"ExchangeRecords$Input", "wrongInLeader", "(I)I"⟩ : MethodName) ∈ GW := gw_s (q := (⟨"ExchangeRecords$Input", "wrongInLeader", "(I)I"⟩, 3)) (List.mem_append_left _ (List.mem_of_getElem? (i := 2) rfl))
theorem ks1_3 : Cond.selects "ExchangeRecords$Input" (⟨"ExchangeRecords$Input", "wrongInRow", "(III)I"⟩ : MethodName) (⟨"ExchangeRecords$Input", "wrongInRow", "(III)I"⟩ : MethodName) ∈ GW := gw_s (q := (⟨"ExchangeRecords$Input", "wrongInRow", "(III)I"⟩, 3)) (List.mem_append_left _ (List.mem_of_getElem? (i := 3) rfl))
theorem ks1_4 : Cond.selects "ExchangeRecords$Input" (⟨"ExchangeRecords$Input", "wrongInControlField", "(II)I"⟩ : MethodName) (⟨"ExchangeRecords$Input", "wrongInControlField", "(II)I"⟩ : MethodName) ∈ GW := gw_s (q := (⟨"ExchangeRecords$Input", "wrongInControlField", "(II)I"⟩, 3)) (List.mem_append_left _ (List.mem_of_getElem? (i := 4) rfl))
theorem ks1_5 : Cond.selects "ExchangeRecords$Input" (⟨"ExchangeRecords$Input", "firstMark", "(II)I"⟩ : MethodName) (⟨"ExchangeRecords$Input", "firstMark", "(II)I"⟩ : MethodName) ∈ GW := gw_s (q := (⟨"ExchangeRecords$Input", "firstMark", "(II)I"⟩, 3)) (List.mem_append_left _ (List.mem_of_getElem? (i := 5) rfl))
theorem ks1_6 : Cond.selects "ExchangeRecords$Input" (⟨"ExchangeRecords$Input", "wrongEnd", "(I)I"⟩ : MethodName) (⟨"ExchangeRecords$Input", "wrongEnd", "(I)I"⟩ : MethodName) ∈ GW := gw_s (q := (⟨"ExchangeRecords$Input", "wrongEnd", "(I)I"⟩, 3)) (List.mem_append_left _ (List.mem_of_getElem? (i := 6) rfl))
theorem ks1_7 : Cond.selects "ExchangeRecords$Input" (⟨"ExchangeRecords$Input", "wrongInOtherField", "(II)I"⟩ : MethodName) (⟨"ExchangeRecords$Input", "wrongInOtherField", "(II)I"⟩ : MethodName) ∈ GW := gw_s (q := (⟨"ExchangeRecords$Input", "wrongInOtherField", "(II)I"⟩, 3)) (List.mem_append_left _ (List.mem_of_getElem? (i := 7) rfl))
theorem ks1_8 : Cond.selects "ExchangeRecords" (⟨"ExchangeRecords", "takeRecord", "()V"⟩ : MethodName) (⟨"ExchangeRecords", "takeRecord", "()V"⟩ : MethodName) ∈ GW := gw_s (q := (⟨"ExchangeRecords", "takeRecord", "()V"⟩, 8)) (List.mem_append_left _ (List.mem_of_getElem? (i := 8) rfl))
theorem ks1_9 : Cond.selects "ExchangeRecords" (⟨"ExchangeRecords", "takeRow", "(II)V"⟩ : MethodName) (⟨"ExchangeRecords", "takeRow", "(II)V"⟩ : MethodName) ∈ GW := gw_s (q := (⟨"ExchangeRecords", "takeRow", "(II)V"⟩, 8)) (List.mem_append_left _ (List.mem_of_getElem? (i := 9) rfl))
theorem ks1_10 : Cond.selects "ExchangeRecords" (⟨"ExchangeRecords", "takeField", "(LExchangeRecords$Field;III)V"⟩ : MethodName) (⟨"ExchangeRecords", "takeField", "(LExchangeRecords$Field;III)V"⟩ : MethodName) ∈ GW := gw_s (q := (⟨"ExchangeRecords", "takeField", "(LExchangeRecords$Field;III)V"⟩, 8)) (List.mem_append_left _ (List.mem_of_getElem? (i := 10) rfl))
theorem ks1_11 : Cond.selects "ExchangeRecords" (⟨"ExchangeRecords", "numbered", "(I)LExchangeRecords$Field;"⟩ : MethodName) (⟨"ExchangeRecords", "numbered", "(I)LExchangeRecords$Field;"⟩ : MethodName) ∈ GW := gw_s (q := (⟨"ExchangeRecords", "numbered", "(I)LExchangeRecords$Field;"⟩, 8)) (List.mem_append_left _ (List.mem_of_getElem? (i := 11) rfl))
theorem ks1_12 : Cond.selects "ExchangeRecords" (⟨"ExchangeRecords", "heldBytes", "()I"⟩ : MethodName) (⟨"ExchangeRecords", "heldBytes", "()I"⟩ : MethodName) ∈ GW := gw_s (q := (⟨"ExchangeRecords", "heldBytes", "()I"⟩, 8)) (List.mem_append_left _ (List.mem_of_getElem? (i := 12) rfl))
theorem ks1_13 : Cond.selects "ExchangeRecords" (⟨"ExchangeRecords", "hasMarkAsIndicator", "()Z"⟩ : MethodName) (⟨"ExchangeRecords", "hasMarkAsIndicator", "()Z"⟩ : MethodName) ∈ GW := gw_s (q := (⟨"ExchangeRecords", "hasMarkAsIndicator", "()Z"⟩, 8)) (List.mem_append_left _ (List.mem_of_getElem? (i := 13) rfl))
theorem ks1_14 : Cond.selects "ExchangeRecords" (⟨"ExchangeRecords", "emitLeader", "(II)V"⟩ : MethodName) (⟨"ExchangeRecords", "emitLeader", "(II)V"⟩ : MethodName) ∈ GW := gw_s (q := (⟨"ExchangeRecords", "emitLeader", "(II)V"⟩, 8)) (List.mem_append_left _ (List.mem_of_getElem? (i := 14) rfl))
theorem ks1_15 : Cond.selects "ExchangeRecords" (⟨"ExchangeRecords", "emitLeaderBytes", "(II)V"⟩ : MethodName) (⟨"ExchangeRecords", "emitLeaderBytes", "(II)V"⟩ : MethodName) ∈ GW := gw_s (q := (⟨"ExchangeRecords", "emitLeaderBytes", "(II)V"⟩, 8)) (List.mem_append_left _ (List.mem_of_getElem? (i := 15) rfl))
theorem ks2_0 : Cond.selects "ExchangeRecords" (⟨"ExchangeRecords", "emitDirectory", "()V"⟩ : MethodName) (⟨"ExchangeRecords", "emitDirectory", "()V"⟩ : MethodName) ∈ GW := gw_s (q := (⟨"ExchangeRecords", "emitDirectory", "()V"⟩, 8)) (List.mem_append_right _ (List.mem_append_left _ (List.mem_of_getElem? (i := 0) rfl)))
theorem ks2_1 : Cond.selects "ExchangeRecords" (⟨"ExchangeRecords", "emitField", "(LExchangeRecords$Field;)V"⟩ : MethodName) (⟨"ExchangeRecords", "emitField", "(LExchangeRecords$Field;)V"⟩ : MethodName) ∈ GW := gw_s (q := (⟨"ExchangeRecords", "emitField", "(LExchangeRecords$Field;)V"⟩, 8)) (List.mem_append_right _ (List.mem_append_left _ (List.mem_of_getElem? (i := 1) rfl)))
theorem ks2_2 : Cond.selects "java/lang/Throwable" (⟨"java/lang/Throwable", "fillInStackTrace", "(I)Ljava/lang/Throwable;"⟩ : MethodName) (⟨"java/lang/Throwable", "fillInStackTrace", "(I)Ljava/lang/Throwable;"⟩ : MethodName) ∈ GW := gw_s (q := (⟨"java/lang/Throwable", "fillInStackTrace", "(I)Ljava/lang/Throwable;"⟩, 6)) (List.mem_append_right _ (List.mem_append_left _ (List.mem_of_getElem? (i := 2) rfl)))
theorem ks2_3 : Cond.selects "ExchangeRecordsModel" (⟨"ExchangeRecordsModel", "digits", "(II)Z"⟩ : MethodName) (⟨"ExchangeRecordsModel", "digits", "(II)Z"⟩ : MethodName) ∈ GW := gw_s (q := (⟨"ExchangeRecordsModel", "digits", "(II)Z"⟩, 16)) (List.mem_append_right _ (List.mem_append_left _ (List.mem_of_getElem? (i := 3) rfl)))
theorem ks2_4 : Cond.selects "ExchangeRecordsModel" (⟨"ExchangeRecordsModel", "look", "(I)I"⟩ : MethodName) (⟨"ExchangeRecordsModel", "look", "(I)I"⟩ : MethodName) ∈ GW := gw_s (q := (⟨"ExchangeRecordsModel", "look", "(I)I"⟩, 16)) (List.mem_append_right _ (List.mem_append_left _ (List.mem_of_getElem? (i := 4) rfl)))
theorem ks2_5 : Cond.selects "ExchangeRecordsModel" (⟨"ExchangeRecordsModel", "bad", "(I)Z"⟩ : MethodName) (⟨"ExchangeRecordsModel", "bad", "(I)Z"⟩ : MethodName) ∈ GW := gw_s (q := (⟨"ExchangeRecordsModel", "bad", "(I)Z"⟩, 16)) (List.mem_append_right _ (List.mem_append_left _ (List.mem_of_getElem? (i := 5) rfl)))
theorem ks2_6 : Cond.selects "ExchangeRecordsModel" (⟨"ExchangeRecordsModel", "number", "(II)I"⟩ : MethodName) (⟨"ExchangeRecordsModel", "number", "(II)I"⟩ : MethodName) ∈ GW := gw_s (q := (⟨"ExchangeRecordsModel", "number", "(II)I"⟩, 16)) (List.mem_append_right _ (List.mem_append_left _ (List.mem_of_getElem? (i := 6) rfl)))
theorem ks2_7 : Cond.selects "ExchangeRecordsModel" (⟨"ExchangeRecordsModel", "reads", "(I)Z"⟩ : MethodName) (⟨"ExchangeRecordsModel", "reads", "(I)Z"⟩ : MethodName) ∈ GW := gw_s (q := (⟨"ExchangeRecordsModel", "reads", "(I)Z"⟩, 16)) (List.mem_append_right _ (List.mem_append_left _ (List.mem_of_getElem? (i := 7) rfl)))
theorem ks2_8 : Cond.selects "ExchangeRecordsModel" (⟨"ExchangeRecordsModel", "must", "(II)Z"⟩ : MethodName) (⟨"ExchangeRecordsModel", "must", "(II)Z"⟩ : MethodName) ∈ GW := gw_s (q := (⟨"ExchangeRecordsModel", "must", "(II)Z"⟩, 16)) (List.mem_append_right _ (List.mem_append_left _ (List.mem_of_getElem? (i := 8) rfl)))
theorem ks2_9 : Cond.selects "ExchangeRecordsModel" (⟨"ExchangeRecordsModel", "heads", "(II)Z"⟩ : MethodName) (⟨"ExchangeRecordsModel", "heads", "(II)Z"⟩ : MethodName) ∈ GW := gw_s (q := (⟨"ExchangeRecordsModel", "heads", "(II)Z"⟩, 16)) (List.mem_append_right _ (List.mem_append_left _ (List.mem_of_getElem? (i := 9) rfl)))
theorem ks2_10 : Cond.selects "ExchangeRecordsModel" (⟨"ExchangeRecordsModel", "row", "(III)Z"⟩ : MethodName) (⟨"ExchangeRecordsModel", "row", "(III)Z"⟩ : MethodName) ∈ GW := gw_s (q := (⟨"ExchangeRecordsModel", "row", "(III)Z"⟩, 16)) (List.mem_append_right _ (List.mem_append_left _ (List.mem_of_getElem? (i := 10) rfl)))
theorem ks2_11 : Cond.selects "ExchangeRecordsModel" (⟨"ExchangeRecordsModel", "control", "(II)Z"⟩ : MethodName) (⟨"ExchangeRecordsModel", "control", "(II)Z"⟩ : MethodName) ∈ GW := gw_s (q := (⟨"ExchangeRecordsModel", "control", "(II)Z"⟩, 16)) (List.mem_append_right _ (List.mem_append_left _ (List.mem_of_getElem? (i := 11) rfl)))
theorem ks2_12 : Cond.selects "ExchangeRecordsModel" (⟨"ExchangeRecordsModel", "data", "(II)Z"⟩ : MethodName) (⟨"ExchangeRecordsModel", "data", "(II)Z"⟩ : MethodName) ∈ GW := gw_s (q := (⟨"ExchangeRecordsModel", "data", "(II)Z"⟩, 16)) (List.mem_append_right _ (List.mem_append_left _ (List.mem_of_getElem? (i := 12) rfl)))
theorem ks2_13 : Cond.selects "ExchangeRecordsModel" (⟨"ExchangeRecordsModel", "keep", "()V"⟩ : MethodName) (⟨"ExchangeRecordsModel", "keep", "()V"⟩ : MethodName) ∈ GW := gw_s (q := (⟨"ExchangeRecordsModel", "keep", "()V"⟩, 16)) (List.mem_append_right _ (List.mem_append_left _ (List.mem_of_getElem? (i := 13) rfl)))
theorem ks2_14 : Cond.selects "ExchangeRecordsModel" (⟨"ExchangeRecordsModel", "isField", "(I)Z"⟩ : MethodName) (⟨"ExchangeRecordsModel", "isField", "(I)Z"⟩ : MethodName) ∈ GW := gw_s (q := (⟨"ExchangeRecordsModel", "isField", "(I)Z"⟩, 16)) (List.mem_append_right _ (List.mem_append_left _ (List.mem_of_getElem? (i := 14) rfl)))
theorem ks2_15 : Cond.selects "ExchangeRecordsModel" (⟨"ExchangeRecordsModel", "at", "(II)I"⟩ : MethodName) (⟨"ExchangeRecordsModel", "at", "(II)I"⟩ : MethodName) ∈ GW := gw_s (q := (⟨"ExchangeRecordsModel", "at", "(II)I"⟩, 16)) (List.mem_append_right _ (List.mem_append_left _ (List.mem_of_getElem? (i := 15) rfl)))
theorem ks3_0 : Cond.selects "ExchangeRecordsModel" (⟨"ExchangeRecordsModel", "together", "()I"⟩ : MethodName) (⟨"ExchangeRecordsModel", "together", "()I"⟩ : MethodName) ∈ GW := gw_s (q := (⟨"ExchangeRecordsModel", "together", "()I"⟩, 16)) (List.mem_append_right _ (List.mem_append_right _ (List.mem_of_getElem? (i := 0) rfl)))
theorem ks3_1 : Cond.selects "ExchangeRecordsModel" (⟨"ExchangeRecordsModel", "append", "(II)V"⟩ : MethodName) (⟨"ExchangeRecordsModel", "append", "(II)V"⟩ : MethodName) ∈ GW := gw_s (q := (⟨"ExchangeRecordsModel", "append", "(II)V"⟩, 16)) (List.mem_append_right _ (List.mem_append_right _ (List.mem_of_getElem? (i := 1) rfl)))
theorem ks3_2 : Cond.selects "ExchangeRecordsModel" (⟨"ExchangeRecordsModel", "sayNumber", "(II)V"⟩ : MethodName) (⟨"ExchangeRecordsModel", "sayNumber", "(II)V"⟩ : MethodName) ∈ GW := gw_s (q := (⟨"ExchangeRecordsModel", "sayNumber", "(II)V"⟩, 16)) (List.mem_append_right _ (List.mem_append_right _ (List.mem_of_getElem? (i := 2) rfl)))
theorem ks3_3 : Cond.selects "ExchangeRecordsModel" (⟨"ExchangeRecordsModel", "say", "(I)V"⟩ : MethodName) (⟨"ExchangeRecordsModel", "say", "(I)V"⟩ : MethodName) ∈ GW := gw_s (q := (⟨"ExchangeRecordsModel", "say", "(I)V"⟩, 16)) (List.mem_append_right _ (List.mem_append_right _ (List.mem_of_getElem? (i := 3) rfl)))

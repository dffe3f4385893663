/-! WORDS OF THE TABLES, by their places. TB: the good ones, the words of every method here beside its own code. -/
def TB : List Cond := lw_tbl.filter goodWord
theorem tb_at {w : Cond} (i : Nat) (h : tables_1[i]? = some w) (g : goodWord w = true) : w ∈ TB := List.mem_filter.mpr ⟨List.mem_append_right _ (List.mem_of_getElem? h), g⟩
theorem tb_a1 {w : Cond} (i : Nat) (h : tables_1_1[i]? = some w) (g : goodWord w = true) : w ∈ TB := List.mem_filter.mpr ⟨List.mem_append_right _ (List.mem_append_left _ (List.mem_of_getElem? h)), g⟩
theorem tb_a2 {w : Cond} (i : Nat) (h : tables_1_2[i]? = some w) (g : goodWord w = true) : w ∈ TB := List.mem_filter.mpr ⟨List.mem_append_right _ (List.mem_append_right _ (List.mem_append_left _ (List.mem_of_getElem? h))), g⟩
theorem tb_a3 {w : Cond} (i : Nat) (h : tables_1_3[i]? = some w) (g : goodWord w = true) : w ∈ TB := List.mem_filter.mpr ⟨List.mem_append_right _ (List.mem_append_right _ (List.mem_append_right _ (List.mem_append_left _ (List.mem_of_getElem? h)))), g⟩
theorem tb_a4 {w : Cond} (i : Nat) (h : tables_1_4[i]? = some w) (g : goodWord w = true) : w ∈ TB := List.mem_filter.mpr ⟨List.mem_append_right _ (List.mem_append_right _ (List.mem_append_right _ (List.mem_append_right _ (List.mem_of_getElem? h)))), g⟩
theorem tb_pr {w : Cond} (i : Nat) (h : (k2_sels lw_privs)[i]? = some w) (g : goodWord w = true) : w ∈ TB := List.mem_filter.mpr ⟨List.mem_append_left _ (List.mem_of_getElem? h), g⟩
theorem tw_0 : (Jvm.Cond.initialized "PageMakerLaw") ∈ TB := tb_a1 0 rfl rfl
theorem tw_1 : (Jvm.Cond.initialized "PageMaker") ∈ TB := tb_a1 1 rfl rfl
theorem tw_2 : (Jvm.Cond.initialized "java/util/AbstractCollection") ∈ TB := tb_a1 2 rfl rfl
theorem tw_3 : (Jvm.Cond.initialized "java/util/AbstractList") ∈ TB := tb_a1 3 rfl rfl
theorem tw_4 : (Jvm.Cond.initialized "java/util/ArrayList") ∈ TB := tb_a1 4 rfl rfl
theorem tw_5 : (Jvm.Cond.initialized "PageMaker$Frame") ∈ TB := tb_a1 5 rfl rfl
theorem tw_6 : (Jvm.Cond.initialized "PageMaker$OpenPage") ∈ TB := tb_a1 6 rfl rfl
theorem tw_7 : (Jvm.Cond.initialized "PageMaker$Totals") ∈ TB := tb_a1 7 rfl rfl
theorem tw_8 : (Jvm.Cond.initialized "PageMakerModel") ∈ TB := tb_a1 8 rfl rfl
theorem tw_9 : (Jvm.Cond.initialized "java/lang/Throwable") ∈ TB := tb_a1 9 rfl rfl
theorem tw_10 : (Jvm.Cond.initialized "java/lang/Exception") ∈ TB := tb_a1 10 rfl rfl
theorem tw_11 : (Jvm.Cond.initialized "java/lang/RuntimeException") ∈ TB := tb_a1 11 rfl rfl
theorem tw_12 : (Jvm.Cond.initialized "java/lang/IllegalArgumentException") ∈ TB := tb_a1 12 rfl rfl
theorem tw_13 : (Jvm.Cond.initialized "java/lang/UnsupportedOperationException") ∈ TB := tb_a1 13 rfl rfl
theorem tw_14 : (Jvm.Cond.initialized "PageMaker$Item") ∈ TB := tb_a1 14 rfl rfl
theorem tw_15 : (Jvm.Cond.initialized "PageMaker$Box") ∈ TB := tb_a1 15 rfl rfl
theorem tw_16 : (Jvm.Cond.initialized "jdk/internal/util/ArraysSupport") ∈ TB := tb_a1 16 rfl rfl
theorem tw_17 : (Jvm.Cond.initialized "java/lang/Math") ∈ TB := tb_a1 17 rfl rfl
theorem tw_18 : (Jvm.Cond.initialized "java/util/Arrays") ∈ TB := tb_a1 18 rfl rfl
theorem tw_19 : (Jvm.Cond.initialized "java/lang/System") ∈ TB := tb_a1 19 rfl rfl
theorem tw_20 : (Jvm.Cond.initialized "java/util/Objects") ∈ TB := tb_a1 20 rfl rfl
theorem tw_21 : (Jvm.Cond.initialized "jdk/internal/util/Preconditions") ∈ TB := tb_a1 21 rfl rfl
theorem tw_22 : (Jvm.Cond.initialized "PageMaker$EndedPage") ∈ TB := tb_a1 22 rfl rfl
theorem tw_23 : (Jvm.Cond.initialized "PageMaker$Glue") ∈ TB := tb_a1 23 rfl rfl
theorem tw_24 : (Jvm.Cond.initialized "PageMaker$Kern") ∈ TB := tb_a1 24 rfl rfl
theorem tw_25 : (Jvm.Cond.initialized "PageMaker$Penalty") ∈ TB := tb_a1 25 rfl rfl
theorem tw_26 : (Jvm.Cond.initialized "java/lang/IndexOutOfBoundsException") ∈ TB := tb_a1 26 rfl rfl
theorem tw_27 : (Jvm.Cond.classLink "PageMakerLaw" (8 : Nat) "PageMaker") ∈ TB := tb_a1 27 rfl rfl
theorem tw_28 : (Jvm.Cond.instantiable "PageMaker" (4 : Nat)) ∈ TB := tb_a1 28 rfl rfl
theorem tw_29 : (Jvm.Cond.methodLink "PageMakerLaw" (48 : Nat) ({ cls := "PageMaker", name := "<init>", desc := "()V" } : Jvm.MethodName)) ∈ TB := tb_a1 29 rfl rfl
theorem tw_30 : (Jvm.Cond.instanceMethod ({ cls := "PageMaker", name := "<init>", desc := "()V" } : Jvm.MethodName)) ∈ TB := tb_a1 30 rfl rfl
theorem tw_31 : (Jvm.Cond.code ({ cls := "PageMaker", name := "<init>", desc := "()V" } : Jvm.MethodName) prog_1_method_1_code (1 : Nat) (Option.none : Option Jvm.ClassFile.FieldType)) ∈ TB := tb_a1 31 rfl rfl
theorem tw_32 : (Jvm.Cond.methodLink "PageMaker" (3 : Nat) ({ cls := "java/lang/Object", name := "<init>", desc := "()V" } : Jvm.MethodName)) ∈ TB := tb_a1 32 rfl rfl
theorem tw_33 : (Jvm.Cond.instanceMethod ({ cls := "java/lang/Object", name := "<init>", desc := "()V" } : Jvm.MethodName)) ∈ TB := tb_a1 33 rfl rfl
theorem tw_34 : (Jvm.Cond.code ({ cls := "java/lang/Object", name := "<init>", desc := "()V" } : Jvm.MethodName) object_method_1_code (1 : Nat) (Option.none : Option Jvm.ClassFile.FieldType)) ∈ TB := tb_a1 34 rfl rfl
theorem tw_35 : (Jvm.Cond.classLink "PageMaker" (9 : Nat) "java/util/ArrayList") ∈ TB := tb_a1 35 rfl rfl
theorem tw_36 : (Jvm.Cond.instantiable "java/util/ArrayList" (3 : Nat)) ∈ TB := tb_a1 36 rfl rfl
theorem tw_37 : (Jvm.Cond.methodLink "PageMaker" (11 : Nat) ({ cls := "java/util/ArrayList", name := "<init>", desc := "()V" } : Jvm.MethodName)) ∈ TB := tb_a1 37 rfl rfl
theorem tw_38 : (Jvm.Cond.instanceMethod ({ cls := "java/util/ArrayList", name := "<init>", desc := "()V" } : Jvm.MethodName)) ∈ TB := tb_a1 38 rfl rfl
theorem tw_39 : (Jvm.Cond.code ({ cls := "java/util/ArrayList", name := "<init>", desc := "()V" } : Jvm.MethodName) prog_27_method_2_code (1 : Nat) (Option.none : Option Jvm.ClassFile.FieldType)) ∈ TB := tb_a1 39 rfl rfl
theorem tw_40 : (Jvm.Cond.methodLink "java/util/ArrayList" (1 : Nat) ({ cls := "java/util/AbstractList", name := "<init>", desc := "()V" } : Jvm.MethodName)) ∈ TB := tb_a1 40 rfl rfl
theorem tw_41 : (Jvm.Cond.instanceMethod ({ cls := "java/util/AbstractList", name := "<init>", desc := "()V" } : Jvm.MethodName)) ∈ TB := tb_a1 41 rfl rfl
theorem tw_42 : (Jvm.Cond.code ({ cls := "java/util/AbstractList", name := "<init>", desc := "()V" } : Jvm.MethodName) prog_26_method_1_code (1 : Nat) (Option.none : Option Jvm.ClassFile.FieldType)) ∈ TB := tb_a1 42 rfl rfl
theorem tw_43 : (Jvm.Cond.methodLink "java/util/AbstractList" (1 : Nat) ({ cls := "java/util/AbstractCollection", name := "<init>", desc := "()V" } : Jvm.MethodName)) ∈ TB := tb_a1 43 rfl rfl
theorem tw_44 : (Jvm.Cond.instanceMethod ({ cls := "java/util/AbstractCollection", name := "<init>", desc := "()V" } : Jvm.MethodName)) ∈ TB := tb_a1 44 rfl rfl
theorem tw_45 : (Jvm.Cond.code ({ cls := "java/util/AbstractCollection", name := "<init>", desc := "()V" } : Jvm.MethodName) prog_25_method_1_code (1 : Nat) (Option.none : Option Jvm.ClassFile.FieldType)) ∈ TB := tb_a1 45 rfl rfl
theorem tw_46 : (Jvm.Cond.methodLink "java/util/AbstractCollection" (1 : Nat) ({ cls := "java/lang/Object", name := "<init>", desc := "()V" } : Jvm.MethodName)) ∈ TB := tb_a1 46 rfl rfl
theorem tw_47 : (Jvm.Cond.fieldLink "java/util/ArrayList" (39 : Nat) "java/util/ArrayList" "DEFAULTCAPACITY_EMPTY_ELEMENTDATA" "[Ljava/lang/Object;") ∈ TB := tb_a1 47 rfl rfl
theorem tw_49 : (Jvm.Cond.fieldLink "java/util/ArrayList" (9 : Nat) "java/util/ArrayList" "elementData" "[Ljava/lang/Object;") ∈ TB := tb_a1 49 rfl rfl
theorem tw_50 : (Jvm.Cond.fieldLink "java/util/ArrayList" (48 : Nat) "java/util/ArrayList" "size" "I") ∈ TB := tb_a1 50 rfl rfl
theorem tw_51 : (Jvm.Cond.fieldLink "java/util/AbstractList" (7 : Nat) "java/util/AbstractList" "modCount" "I") ∈ TB := tb_a1 51 rfl rfl
theorem tw_52 : (Jvm.Cond.fieldLink "java/util/ArrayList" (63 : Nat) "java/util/ArrayList" "modCount" "I") ∈ TB := tb_a1 52 rfl rfl
theorem tw_53 : (Jvm.Cond.sameField "java/util/ArrayList" "java/util/AbstractList" "modCount" "I") ∈ TB := tb_a1 53 rfl rfl
theorem tw_54 : (Jvm.Cond.lays "java/util/ArrayList" "java/util/ArrayList" "elementData" "[Ljava/lang/Object;") ∈ TB := tb_a1 54 rfl rfl
theorem tw_55 : (Jvm.Cond.soleField "java/util/ArrayList" "elementData") ∈ TB := tb_a1 55 rfl rfl
theorem tw_56 : (Jvm.Cond.lays "java/util/ArrayList" "java/util/ArrayList" "size" "I") ∈ TB := tb_a1 56 rfl rfl
theorem tw_57 : (Jvm.Cond.soleField "java/util/ArrayList" "size") ∈ TB := tb_a1 57 rfl rfl
theorem tw_58 : (Jvm.Cond.lays "java/util/ArrayList" "java/util/AbstractList" "modCount" "I") ∈ TB := tb_a1 58 rfl rfl
theorem tw_59 : (Jvm.Cond.soleField "java/util/AbstractList" "modCount") ∈ TB := tb_a1 59 rfl rfl
theorem tw_60 : (Jvm.Cond.superclass "java/util/ArrayList" "java/util/AbstractList") ∈ TB := tb_a1 60 rfl rfl
theorem tw_61 : (Jvm.Cond.classLink "PageMaker" (19 : Nat) "PageMaker$Frame") ∈ TB := tb_a1 61 rfl rfl
theorem tw_62 : (Jvm.Cond.instantiable "PageMaker$Frame" (3 : Nat)) ∈ TB := tb_a1 62 rfl rfl
theorem tw_63 : (Jvm.Cond.constant "PageMaker" (21 : Nat) (42152922 : Int32)) ∈ TB := tb_a1 63 rfl rfl
theorem tw_64 : (Jvm.Cond.constant "PageMaker" (22 : Nat) (655360 : Int32)) ∈ TB := tb_a1 64 rfl rfl
theorem tw_65 : (Jvm.Cond.constant "PageMaker" (23 : Nat) (262144 : Int32)) ∈ TB := tb_a1 65 rfl rfl
theorem tw_66 : (Jvm.Cond.methodLink "PageMaker" (24 : Nat) ({ cls := "PageMaker$Frame", name := "<init>", desc := "(III)V" } : Jvm.MethodName)) ∈ TB := tb_a1 66 rfl rfl
theorem tw_67 : (Jvm.Cond.instanceMethod ({ cls := "PageMaker$Frame", name := "<init>", desc := "(III)V" } : Jvm.MethodName)) ∈ TB := tb_a1 67 rfl rfl
theorem tw_68 : (Jvm.Cond.code ({ cls := "PageMaker$Frame", name := "<init>", desc := "(III)V" } : Jvm.MethodName) prog_4_method_1_code (4 : Nat) (Option.none : Option Jvm.ClassFile.FieldType)) ∈ TB := tb_a1 68 rfl rfl
theorem tw_69 : (Jvm.Cond.methodLink "PageMaker$Frame" (1 : Nat) ({ cls := "java/lang/Object", name := "<init>", desc := "()V" } : Jvm.MethodName)) ∈ TB := tb_a1 69 rfl rfl
theorem tw_70 : (Jvm.Cond.fieldLink "PageMaker$Frame" (7 : Nat) "PageMaker$Frame" "height" "I") ∈ TB := tb_a1 70 rfl rfl
theorem tw_71 : (Jvm.Cond.fieldLink "PageMaker$EndedPage" (41 : Nat) "PageMaker$Frame" "height" "I") ∈ TB := tb_a1 71 rfl rfl
theorem tw_72 : (Jvm.Cond.fieldLink "PageMaker$OpenPage" (60 : Nat) "PageMaker$Frame" "height" "I") ∈ TB := tb_a1 72 rfl rfl
theorem tw_73 : (Jvm.Cond.fieldLink "PageMaker$Frame" (13 : Nat) "PageMaker$Frame" "top" "I") ∈ TB := tb_a1 73 rfl rfl
theorem tw_74 : (Jvm.Cond.fieldLink "PageMaker$Totals" (25 : Nat) "PageMaker$Frame" "top" "I") ∈ TB := tb_a1 74 rfl rfl
theorem tw_75 : (Jvm.Cond.fieldLink "PageMaker$Frame" (16 : Nat) "PageMaker$Frame" "greatest" "I") ∈ TB := tb_a1 75 rfl rfl
theorem tw_76 : (Jvm.Cond.fieldLink "PageMaker$Box" (24 : Nat) "PageMaker$Frame" "greatest" "I") ∈ TB := tb_a1 76 rfl rfl
theorem tw_77 : (Jvm.Cond.laysFinal "PageMaker$Frame" "PageMaker$Frame" "height" "I") ∈ TB := tb_a1 77 rfl rfl
theorem tw_78 : (Jvm.Cond.soleField "PageMaker$Frame" "height") ∈ TB := tb_a1 78 rfl rfl
theorem tw_79 : (Jvm.Cond.laysFinal "PageMaker$Frame" "PageMaker$Frame" "top" "I") ∈ TB := tb_a1 79 rfl rfl
theorem tw_80 : (Jvm.Cond.soleField "PageMaker$Frame" "top") ∈ TB := tb_a1 80 rfl rfl
theorem tw_81 : (Jvm.Cond.laysFinal "PageMaker$Frame" "PageMaker$Frame" "greatest" "I") ∈ TB := tb_a1 81 rfl rfl
theorem tw_82 : (Jvm.Cond.soleField "PageMaker$Frame" "greatest") ∈ TB := tb_a1 82 rfl rfl
theorem tw_83 : (Jvm.Cond.superclass "PageMaker$Frame" "java/lang/Object") ∈ TB := tb_a1 83 rfl rfl
theorem tw_84 : (Jvm.Cond.classLink "PageMaker" (31 : Nat) "PageMaker$OpenPage") ∈ TB := tb_a1 84 rfl rfl
theorem tw_85 : (Jvm.Cond.instantiable "PageMaker$OpenPage" (8 : Nat)) ∈ TB := tb_a1 85 rfl rfl
theorem tw_86 : (Jvm.Cond.methodLink "PageMaker" (33 : Nat) ({ cls := "PageMaker$OpenPage", name := "<init>", desc := "(LPageMaker$Frame;)V" } : Jvm.MethodName)) ∈ TB := tb_a1 86 rfl rfl
theorem tw_87 : (Jvm.Cond.instanceMethod ({ cls := "PageMaker$OpenPage", name := "<init>", desc := "(LPageMaker$Frame;)V" } : Jvm.MethodName)) ∈ TB := tb_a1 87 rfl rfl
theorem tw_88 : (Jvm.Cond.code ({ cls := "PageMaker$OpenPage", name := "<init>", desc := "(LPageMaker$Frame;)V" } : Jvm.MethodName) prog_8_method_1_code (2 : Nat) (Option.none : Option Jvm.ClassFile.FieldType)) ∈ TB := tb_a1 88 rfl rfl
theorem tw_89 : (Jvm.Cond.methodLink "PageMaker$OpenPage" (3 : Nat) ({ cls := "java/lang/Object", name := "<init>", desc := "()V" } : Jvm.MethodName)) ∈ TB := tb_a1 89 rfl rfl
theorem tw_90 : (Jvm.Cond.classLink "PageMaker$OpenPage" (9 : Nat) "PageMaker$Totals") ∈ TB := tb_a1 90 rfl rfl
theorem tw_91 : (Jvm.Cond.instantiable "PageMaker$Totals" (4 : Nat)) ∈ TB := tb_a1 91 rfl rfl
theorem tw_93 : (Jvm.Cond.instanceMethod ({ cls := "PageMaker$Totals", name := "<init>", desc := "()V" } : Jvm.MethodName)) ∈ TB := tb_a1 93 rfl rfl
theorem tw_94 : (Jvm.Cond.code ({ cls := "PageMaker$Totals", name := "<init>", desc := "()V" } : Jvm.MethodName) prog_10_method_1_code (1 : Nat) (Option.none : Option Jvm.ClassFile.FieldType)) ∈ TB := tb_a1 94 rfl rfl
theorem tw_95 : (Jvm.Cond.methodLink "PageMaker$Totals" (3 : Nat) ({ cls := "java/lang/Object", name := "<init>", desc := "()V" } : Jvm.MethodName)) ∈ TB := tb_a1 95 rfl rfl
theorem tw_96 : (Jvm.Cond.fieldLink "PageMaker$Totals" (9 : Nat) "PageMaker$Totals" "stretch" "[J") ∈ TB := tb_a1 96 rfl rfl
theorem tw_97 : (Jvm.Cond.fieldLink "PageMaker$EndedPage" (62 : Nat) "PageMaker$Totals" "stretch" "[J") ∈ TB := tb_a1 97 rfl rfl
theorem tw_98 : (Jvm.Cond.fieldLink "PageMaker$Glue" (33 : Nat) "PageMaker$Totals" "stretch" "[J") ∈ TB := tb_a1 98 rfl rfl
theorem tw_99 : (Jvm.Cond.fieldLink "PageMaker" (173 : Nat) "PageMaker$Totals" "stretch" "[J") ∈ TB := tb_a1 99 rfl rfl
theorem tw_100 : (Jvm.Cond.fieldLink "PageMaker$Totals" (15 : Nat) "PageMaker$Totals" "length" "J") ∈ TB := tb_a1 100 rfl rfl
theorem tw_101 : (Jvm.Cond.fieldLink "PageMaker$EndedPage" (46 : Nat) "PageMaker$Totals" "length" "J") ∈ TB := tb_a1 101 rfl rfl
theorem tw_102 : (Jvm.Cond.fieldLink "PageMaker$Box" (16 : Nat) "PageMaker$Totals" "length" "J") ∈ TB := tb_a1 102 rfl rfl
theorem tw_103 : (Jvm.Cond.fieldLink "PageMaker$OpenPage" (51 : Nat) "PageMaker$Totals" "length" "J") ∈ TB := tb_a1 103 rfl rfl
theorem tw_104 : (Jvm.Cond.fieldLink "PageMaker" (149 : Nat) "PageMaker$Totals" "length" "J") ∈ TB := tb_a1 104 rfl rfl
theorem tw_105 : (Jvm.Cond.fieldLink "PageMaker$Totals" (19 : Nat) "PageMaker$Totals" "depth" "J") ∈ TB := tb_a1 105 rfl rfl
theorem tw_106 : (Jvm.Cond.fieldLink "PageMaker$Box" (22 : Nat) "PageMaker$Totals" "depth" "J") ∈ TB := tb_a1 106 rfl rfl
theorem tw_107 : (Jvm.Cond.fieldLink "PageMaker" (154 : Nat) "PageMaker$Totals" "depth" "J") ∈ TB := tb_a1 107 rfl rfl
theorem tw_108 : (Jvm.Cond.fieldLink "PageMaker$Totals" (22 : Nat) "PageMaker$Totals" "shrink" "J") ∈ TB := tb_a1 108 rfl rfl
theorem tw_109 : (Jvm.Cond.fieldLink "PageMaker$EndedPage" (69 : Nat) "PageMaker$Totals" "shrink" "J") ∈ TB := tb_a1 109 rfl rfl
theorem tw_110 : (Jvm.Cond.fieldLink "PageMaker$Glue" (30 : Nat) "PageMaker$Totals" "shrink" "J") ∈ TB := tb_a1 110 rfl rfl
theorem tw_111 : (Jvm.Cond.fieldLink "PageMaker" (181 : Nat) "PageMaker$Totals" "shrink" "J") ∈ TB := tb_a1 111 rfl rfl
theorem tw_112 : (Jvm.Cond.laysFinal "PageMaker$Totals" "PageMaker$Totals" "stretch" "[J") ∈ TB := tb_a1 112 rfl rfl
theorem tw_113 : (Jvm.Cond.soleField "PageMaker$Totals" "stretch") ∈ TB := tb_a1 113 rfl rfl
theorem tw_114 : (Jvm.Cond.lays "PageMaker$Totals" "PageMaker$Totals" "length" "J") ∈ TB := tb_a1 114 rfl rfl
theorem tw_115 : (Jvm.Cond.soleField "PageMaker$Totals" "length") ∈ TB := tb_a1 115 rfl rfl
theorem tw_116 : (Jvm.Cond.lays "PageMaker$Totals" "PageMaker$Totals" "depth" "J") ∈ TB := tb_a1 116 rfl rfl
theorem tw_117 : (Jvm.Cond.soleField "PageMaker$Totals" "depth") ∈ TB := tb_a1 117 rfl rfl
theorem tw_118 : (Jvm.Cond.lays "PageMaker$Totals" "PageMaker$Totals" "shrink" "J") ∈ TB := tb_a1 118 rfl rfl
theorem tw_119 : (Jvm.Cond.soleField "PageMaker$Totals" "shrink") ∈ TB := tb_a1 119 rfl rfl
theorem tw_120 : (Jvm.Cond.superclass "PageMaker$Totals" "java/lang/Object") ∈ TB := tb_a1 120 rfl rfl
theorem tw_121 : (Jvm.Cond.arrayClass Jvm.ClassFile.FieldType.long) ∈ TB := tb_a1 121 rfl rfl
theorem tw_122 : (Jvm.Cond.constant "PageMaker$OpenPage" (29 : Nat) (1073741823 : Int32)) ∈ TB := tb_a1 122 rfl rfl
theorem tw_123 : (Jvm.Cond.fieldLink "PageMaker$OpenPage" (12 : Nat) "PageMaker$OpenPage" "totals" "LPageMaker$Totals;") ∈ TB := tb_a1 123 rfl rfl
theorem tw_124 : (Jvm.Cond.fieldLink "PageMaker" (169 : Nat) "PageMaker$OpenPage" "totals" "LPageMaker$Totals;") ∈ TB := tb_a1 124 rfl rfl
theorem tw_125 : (Jvm.Cond.fieldLink "PageMaker$EndedPage" (7 : Nat) "PageMaker$OpenPage" "frame" "LPageMaker$Frame;") ∈ TB := tb_a1 125 rfl rfl
theorem tw_126 : (Jvm.Cond.fieldLink "PageMaker$OpenPage" (39 : Nat) "PageMaker$OpenPage" "frame" "LPageMaker$Frame;") ∈ TB := tb_a1 126 rfl rfl
theorem tw_127 : (Jvm.Cond.fieldLink "PageMaker" (237 : Nat) "PageMaker$OpenPage" "frame" "LPageMaker$Frame;") ∈ TB := tb_a1 127 rfl rfl
theorem tw_128 : (Jvm.Cond.fieldLink "PageMaker$EndedPage" (16 : Nat) "PageMaker$OpenPage" "first" "I") ∈ TB := tb_a1 128 rfl rfl
theorem tw_129 : (Jvm.Cond.fieldLink "PageMaker$OpenPage" (18 : Nat) "PageMaker$OpenPage" "first" "I") ∈ TB := tb_a1 129 rfl rfl
theorem tw_130 : (Jvm.Cond.fieldLink "PageMaker" (168 : Nat) "PageMaker$OpenPage" "first" "I") ∈ TB := tb_a1 130 rfl rfl
theorem tw_131 : (Jvm.Cond.fieldLink "PageMaker$OpenPage" (22 : Nat) "PageMaker$OpenPage" "lengthBeforeLast" "J") ∈ TB := tb_a1 131 rfl rfl
theorem tw_132 : (Jvm.Cond.fieldLink "PageMaker" (227 : Nat) "PageMaker$OpenPage" "lengthBeforeLast" "J") ∈ TB := tb_a1 132 rfl rfl
theorem tw_133 : (Jvm.Cond.fieldLink "PageMaker$EndedPage" (21 : Nat) "PageMaker$OpenPage" "bestItem" "I") ∈ TB := tb_a1 133 rfl rfl
theorem tw_134 : (Jvm.Cond.fieldLink "PageMaker$OpenPage" (26 : Nat) "PageMaker$OpenPage" "bestItem" "I") ∈ TB := tb_a1 134 rfl rfl
theorem tw_135 : (Jvm.Cond.fieldLink "PageMaker" (177 : Nat) "PageMaker$OpenPage" "bestItem" "I") ∈ TB := tb_a1 135 rfl rfl
theorem tw_136 : (Jvm.Cond.fieldLink "PageMaker$EndedPage" (25 : Nat) "PageMaker$OpenPage" "bestCost" "I") ∈ TB := tb_a1 136 rfl rfl
theorem tw_137 : (Jvm.Cond.fieldLink "PageMaker$OpenPage" (30 : Nat) "PageMaker$OpenPage" "bestCost" "I") ∈ TB := tb_a1 137 rfl rfl
theorem tw_138 : (Jvm.Cond.fieldLink "PageMaker" (178 : Nat) "PageMaker$OpenPage" "bestCost" "I") ∈ TB := tb_a1 138 rfl rfl
theorem tw_139 : (Jvm.Cond.fieldLink "PageMaker$EndedPage" (31 : Nat) "PageMaker$OpenPage" "bestBadness" "I") ∈ TB := tb_a1 139 rfl rfl
theorem tw_140 : (Jvm.Cond.fieldLink "PageMaker$OpenPage" (33 : Nat) "PageMaker$OpenPage" "bestBadness" "I") ∈ TB := tb_a1 140 rfl rfl
theorem tw_141 : (Jvm.Cond.fieldLink "PageMaker$OpenPage" (36 : Nat) "PageMaker$OpenPage" "endingItem" "I") ∈ TB := tb_a1 141 rfl rfl
theorem tw_142 : (Jvm.Cond.fieldLink "PageMaker$EndedPage" (37 : Nat) "PageMaker$OpenPage" "endingItem" "I") ∈ TB := tb_a1 142 rfl rfl
theorem tw_143 : (Jvm.Cond.laysFinal "PageMaker$OpenPage" "PageMaker$OpenPage" "totals" "LPageMaker$Totals;") ∈ TB := tb_a1 143 rfl rfl
theorem tw_144 : (Jvm.Cond.soleField "PageMaker$OpenPage" "totals") ∈ TB := tb_a1 144 rfl rfl
theorem tw_145 : (Jvm.Cond.lays "PageMaker$OpenPage" "PageMaker$OpenPage" "frame" "LPageMaker$Frame;") ∈ TB := tb_a1 145 rfl rfl
theorem tw_146 : (Jvm.Cond.soleField "PageMaker$OpenPage" "frame") ∈ TB := tb_a1 146 rfl rfl
theorem tw_147 : (Jvm.Cond.lays "PageMaker$OpenPage" "PageMaker$OpenPage" "first" "I") ∈ TB := tb_a1 147 rfl rfl
theorem tw_148 : (Jvm.Cond.soleField "PageMaker$OpenPage" "first") ∈ TB := tb_a1 148 rfl rfl
theorem tw_149 : (Jvm.Cond.lays "PageMaker$OpenPage" "PageMaker$OpenPage" "lengthBeforeLast" "J") ∈ TB := tb_a1 149 rfl rfl
theorem tw_150 : (Jvm.Cond.soleField "PageMaker$OpenPage" "lengthBeforeLast") ∈ TB := tb_a1 150 rfl rfl
theorem tw_151 : (Jvm.Cond.lays "PageMaker$OpenPage" "PageMaker$OpenPage" "bestItem" "I") ∈ TB := tb_a1 151 rfl rfl
theorem tw_152 : (Jvm.Cond.soleField "PageMaker$OpenPage" "bestItem") ∈ TB := tb_a1 152 rfl rfl
theorem tw_153 : (Jvm.Cond.lays "PageMaker$OpenPage" "PageMaker$OpenPage" "bestCost" "I") ∈ TB := tb_a1 153 rfl rfl
theorem tw_154 : (Jvm.Cond.soleField "PageMaker$OpenPage" "bestCost") ∈ TB := tb_a1 154 rfl rfl
theorem tw_155 : (Jvm.Cond.lays "PageMaker$OpenPage" "PageMaker$OpenPage" "bestBadness" "I") ∈ TB := tb_a1 155 rfl rfl
theorem tw_156 : (Jvm.Cond.soleField "PageMaker$OpenPage" "bestBadness") ∈ TB := tb_a1 156 rfl rfl
theorem tw_157 : (Jvm.Cond.lays "PageMaker$OpenPage" "PageMaker$OpenPage" "endingItem" "I") ∈ TB := tb_a1 157 rfl rfl
theorem tw_158 : (Jvm.Cond.soleField "PageMaker$OpenPage" "endingItem") ∈ TB := tb_a1 158 rfl rfl
theorem tw_159 : (Jvm.Cond.superclass "PageMaker$OpenPage" "java/lang/Object") ∈ TB := tb_a1 159 rfl rfl
theorem tw_160 : (Jvm.Cond.fieldLink "PageMaker" (12 : Nat) "PageMaker" "allItems" "Ljava/util/ArrayList;") ∈ TB := tb_a1 160 rfl rfl
theorem tw_161 : (Jvm.Cond.fieldLink "PageMaker" (16 : Nat) "PageMaker" "endedPages" "Ljava/util/ArrayList;") ∈ TB := tb_a1 161 rfl rfl
theorem tw_162 : (Jvm.Cond.fieldLink "PageMaker" (27 : Nat) "PageMaker" "frameNow" "LPageMaker$Frame;") ∈ TB := tb_a1 162 rfl rfl
theorem tw_163 : (Jvm.Cond.fieldLink "PageMaker" (36 : Nat) "PageMaker" "openPage" "LPageMaker$OpenPage;") ∈ TB := tb_a1 163 rfl rfl
theorem tw_164 : (Jvm.Cond.laysFinal "PageMaker" "PageMaker" "allItems" "Ljava/util/ArrayList;") ∈ TB := tb_a1 164 rfl rfl
theorem tw_165 : (Jvm.Cond.soleField "PageMaker" "allItems") ∈ TB := tb_a1 165 rfl rfl
theorem tw_166 : (Jvm.Cond.laysFinal "PageMaker" "PageMaker" "endedPages" "Ljava/util/ArrayList;") ∈ TB := tb_a1 166 rfl rfl
theorem tw_167 : (Jvm.Cond.soleField "PageMaker" "endedPages") ∈ TB := tb_a1 167 rfl rfl
theorem tw_168 : (Jvm.Cond.lays "PageMaker" "PageMaker" "frameNow" "LPageMaker$Frame;") ∈ TB := tb_a1 168 rfl rfl
theorem tw_169 : (Jvm.Cond.soleField "PageMaker" "frameNow") ∈ TB := tb_a1 169 rfl rfl
theorem tw_170 : (Jvm.Cond.lays "PageMaker" "PageMaker" "openPage" "LPageMaker$OpenPage;") ∈ TB := tb_a1 170 rfl rfl
theorem tw_171 : (Jvm.Cond.soleField "PageMaker" "openPage") ∈ TB := tb_a1 171 rfl rfl
theorem tw_172 : (Jvm.Cond.superclass "PageMaker" "java/lang/Object") ∈ TB := tb_a1 172 rfl rfl
theorem tw_173 : (Jvm.Cond.methodLink "PageMakerLaw" (77 : Nat) ({ cls := "PageMaker", name := "items", desc := "()I" } : Jvm.MethodName)) ∈ TB := tb_a1 173 rfl rfl
theorem tw_174 : (Jvm.Cond.instanceMethod ({ cls := "PageMaker", name := "items", desc := "()I" } : Jvm.MethodName)) ∈ TB := tb_a1 174 rfl rfl
theorem tw_175 : (Jvm.Cond.selects "PageMaker" ({ cls := "PageMaker", name := "items", desc := "()I" } : Jvm.MethodName) ({ cls := "PageMaker", name := "items", desc := "()I" } : Jvm.MethodName)) ∈ TB := tb_a1 175 rfl rfl
theorem tw_176 : (Jvm.Cond.code ({ cls := "PageMaker", name := "items", desc := "()I" } : Jvm.MethodName) prog_1_method_7_code (1 : Nat) (Option.some Jvm.ClassFile.FieldType.int)) ∈ TB := tb_a1 176 rfl rfl
theorem tw_177 : (Jvm.Cond.methodLink "PageMaker" (91 : Nat) ({ cls := "java/util/ArrayList", name := "size", desc := "()I" } : Jvm.MethodName)) ∈ TB := tb_a1 177 rfl rfl
theorem tw_178 : (Jvm.Cond.instanceMethod ({ cls := "java/util/ArrayList", name := "size", desc := "()I" } : Jvm.MethodName)) ∈ TB := tb_a1 178 rfl rfl
theorem tw_179 : (Jvm.Cond.selects "java/util/ArrayList" ({ cls := "java/util/ArrayList", name := "size", desc := "()I" } : Jvm.MethodName) ({ cls := "java/util/ArrayList", name := "size", desc := "()I" } : Jvm.MethodName)) ∈ TB := tb_a1 179 rfl rfl
theorem tw_180 : (Jvm.Cond.code ({ cls := "java/util/ArrayList", name := "size", desc := "()I" } : Jvm.MethodName) prog_27_method_8_code (1 : Nat) (Option.some Jvm.ClassFile.FieldType.int)) ∈ TB := tb_a1 180 rfl rfl
theorem tw_181 : (Jvm.Cond.methodLink "PageMakerLaw" (81 : Nat) ({ cls := "PageMaker", name := "pages", desc := "()I" } : Jvm.MethodName)) ∈ TB := tb_a1 181 rfl rfl
theorem tw_182 : (Jvm.Cond.instanceMethod ({ cls := "PageMaker", name := "pages", desc := "()I" } : Jvm.MethodName)) ∈ TB := tb_a1 182 rfl rfl
theorem tw_183 : (Jvm.Cond.selects "PageMaker" ({ cls := "PageMaker", name := "pages", desc := "()I" } : Jvm.MethodName) ({ cls := "PageMaker", name := "pages", desc := "()I" } : Jvm.MethodName)) ∈ TB := tb_a1 183 rfl rfl
theorem tw_184 : (Jvm.Cond.code ({ cls := "PageMaker", name := "pages", desc := "()I" } : Jvm.MethodName) prog_1_method_8_code (1 : Nat) (Option.some Jvm.ClassFile.FieldType.int)) ∈ TB := tb_a1 184 rfl rfl
theorem tw_185 : (Jvm.Cond.methodLink "PageMakerLaw" (52 : Nat) ({ cls := "PageMakerLaw", name := "frame", desc := "(LPageMaker;III)I" } : Jvm.MethodName)) ∈ TB := tb_a1 185 rfl rfl
theorem tw_186 : (Jvm.Cond.static ({ cls := "PageMakerLaw", name := "frame", desc := "(LPageMaker;III)I" } : Jvm.MethodName)) ∈ TB := tb_a1 186 rfl rfl
theorem tw_187 : (Jvm.Cond.codeWith ({ cls := "PageMakerLaw", name := "frame", desc := "(LPageMaker;III)I" } : Jvm.MethodName) method_3_code (5 : Nat) (Option.some Jvm.ClassFile.FieldType.int) [((0 : Nat), (7 : Nat), (10 : Nat), (13 : Nat))]) ∈ TB := tb_a1 187 rfl rfl
theorem tw_188 : (Jvm.Cond.classLink "PageMakerLaw" (13 : Nat) "java/lang/IllegalArgumentException") ∈ TB := tb_a1 188 rfl rfl
theorem tw_189 : (Jvm.Cond.methodLink "PageMakerLaw" (7 : Nat) ({ cls := "PageMaker", name := "frame", desc := "(III)V" } : Jvm.MethodName)) ∈ TB := tb_a1 189 rfl rfl
theorem tw_190 : (Jvm.Cond.instanceMethod ({ cls := "PageMaker", name := "frame", desc := "(III)V" } : Jvm.MethodName)) ∈ TB := tb_a1 190 rfl rfl
theorem tw_191 : (Jvm.Cond.selects "PageMaker" ({ cls := "PageMaker", name := "frame", desc := "(III)V" } : Jvm.MethodName) ({ cls := "PageMaker", name := "frame", desc := "(III)V" } : Jvm.MethodName)) ∈ TB := tb_a1 191 rfl rfl
theorem tw_192 : (Jvm.Cond.code ({ cls := "PageMaker", name := "frame", desc := "(III)V" } : Jvm.MethodName) prog_1_method_2_code (4 : Nat) (Option.none : Option Jvm.ClassFile.FieldType)) ∈ TB := tb_a1 192 rfl rfl
theorem tw_193 : (Jvm.Cond.methodLink "PageMaker" (40 : Nat) ({ cls := "PageMaker", name := "isSizeFromZero", desc := "(I)Z" } : Jvm.MethodName)) ∈ TB := tb_a1 193 rfl rfl
theorem tw_194 : (Jvm.Cond.static ({ cls := "PageMaker", name := "isSizeFromZero", desc := "(I)Z" } : Jvm.MethodName)) ∈ TB := tb_a1 194 rfl rfl
theorem tw_195 : (Jvm.Cond.code ({ cls := "PageMaker", name := "isSizeFromZero", desc := "(I)Z" } : Jvm.MethodName) prog_1_method_14_code (1 : Nat) (Option.some Jvm.ClassFile.FieldType.boolean)) ∈ TB := tb_a1 195 rfl rfl
theorem tw_196 : (Jvm.Cond.constant "PageMaker" (187 : Nat) (1073741823 : Int32)) ∈ TB := tb_a1 196 rfl rfl
theorem tw_197 : (Jvm.Cond.methodLink "PageMaker" (44 : Nat) ({ cls := "PageMaker", name := "isSize", desc := "(I)Z" } : Jvm.MethodName)) ∈ TB := tb_a1 197 rfl rfl
theorem tw_198 : (Jvm.Cond.static ({ cls := "PageMaker", name := "isSize", desc := "(I)Z" } : Jvm.MethodName)) ∈ TB := tb_a1 198 rfl rfl
theorem tw_199 : (Jvm.Cond.code ({ cls := "PageMaker", name := "isSize", desc := "(I)Z" } : Jvm.MethodName) prog_1_method_13_code (1 : Nat) (Option.some Jvm.ClassFile.FieldType.boolean)) ∈ TB := tb_a1 199 rfl rfl
theorem tw_200 : (Jvm.Cond.constant "PageMaker" (186 : Nat) (-1073741823 : Int32)) ∈ TB := tb_a1 200 rfl rfl
theorem tw_201 : (Jvm.Cond.classLink "PageMaker" (47 : Nat) "java/lang/IllegalArgumentException") ∈ TB := tb_a1 201 rfl rfl
theorem tw_202 : (Jvm.Cond.instantiable "java/lang/IllegalArgumentException" (6 : Nat)) ∈ TB := tb_a1 202 rfl rfl
theorem tw_210 : (Jvm.Cond.selects "java/lang/IllegalArgumentException" ({ cls := "java/lang/Throwable", name := "fillInStackTrace", desc := "(I)Ljava/lang/Throwable;" } : Jvm.MethodName) ({ cls := "java/lang/Throwable", name := "fillInStackTrace", desc := "(I)Ljava/lang/Throwable;" } : Jvm.MethodName)) ∈ TB := tb_a1 210 rfl rfl
theorem tw_211 : (Jvm.Cond.selects "java/lang/IllegalArgumentException" ({ cls := "java/lang/Throwable", name := "fillInStackTrace", desc := "()Ljava/lang/Throwable;" } : Jvm.MethodName) ({ cls := "java/lang/Throwable", name := "fillInStackTrace", desc := "()Ljava/lang/Throwable;" } : Jvm.MethodName)) ∈ TB := tb_a1 211 rfl rfl
theorem tw_212 : (Jvm.Cond.lays "java/lang/IllegalArgumentException" "java/lang/Throwable" "cause" "Ljava/lang/Throwable;") ∈ TB := tb_a1 212 rfl rfl
theorem tw_213 : (Jvm.Cond.lays "java/lang/Throwable" "java/lang/Throwable" "cause" "Ljava/lang/Throwable;") ∈ TB := tb_a1 213 rfl rfl
theorem tw_214 : (Jvm.Cond.lays "java/lang/IllegalArgumentException" "java/lang/Throwable" "stackTrace" "[Ljava/lang/StackTraceElement;") ∈ TB := tb_a1 214 rfl rfl
theorem tw_215 : (Jvm.Cond.lays "java/lang/Throwable" "java/lang/Throwable" "stackTrace" "[Ljava/lang/StackTraceElement;") ∈ TB := tb_a1 215 rfl rfl
theorem tw_216 : (Jvm.Cond.lays "java/lang/IllegalArgumentException" "java/lang/Throwable" "suppressedExceptions" "Ljava/util/List;") ∈ TB := tb_a1 216 rfl rfl
theorem tw_217 : (Jvm.Cond.lays "java/lang/Throwable" "java/lang/Throwable" "suppressedExceptions" "Ljava/util/List;") ∈ TB := tb_a1 217 rfl rfl
theorem tw_218 : (Jvm.Cond.lays "java/lang/IllegalArgumentException" "java/lang/Throwable" "detailMessage" "Ljava/lang/String;") ∈ TB := tb_a1 218 rfl rfl
theorem tw_219 : (Jvm.Cond.lays "java/lang/Throwable" "java/lang/Throwable" "detailMessage" "Ljava/lang/String;") ∈ TB := tb_a1 219 rfl rfl
theorem tw_220 : (Jvm.Cond.lays "java/lang/IllegalArgumentException" "java/lang/Throwable" "backtrace" "Ljava/lang/Object;") ∈ TB := tb_a1 220 rfl rfl
theorem tw_221 : (Jvm.Cond.lays "java/lang/Throwable" "java/lang/Throwable" "backtrace" "Ljava/lang/Object;") ∈ TB := tb_a1 221 rfl rfl
theorem tw_222 : (Jvm.Cond.fieldLink "java/lang/Throwable" (198 : Nat) "java/lang/Throwable" "backtrace" "Ljava/lang/Object;") ∈ TB := tb_a1 222 rfl rfl
theorem tw_223 : (Jvm.Cond.superclass "java/lang/Throwable" "java/lang/Object") ∈ TB := tb_a1 223 rfl rfl
theorem tw_224 : (Jvm.Cond.instanceMethod ({ cls := "java/lang/Throwable", name := "<init>", desc := "()V" } : Jvm.MethodName)) ∈ TB := tb_a1 224 rfl rfl
theorem tw_225 : (Jvm.Cond.code ({ cls := "java/lang/Throwable", name := "<init>", desc := "()V" } : Jvm.MethodName) prog_23_method_1_code (1 : Nat) (Option.none : Option Jvm.ClassFile.FieldType)) ∈ TB := tb_a1 225 rfl rfl
theorem tw_226 : (Jvm.Cond.methodLink "java/lang/Throwable" (1 : Nat) ({ cls := "java/lang/Object", name := "<init>", desc := "()V" } : Jvm.MethodName)) ∈ TB := tb_a1 226 rfl rfl
theorem tw_227 : (Jvm.Cond.fieldLink "java/lang/Throwable" (13 : Nat) "java/lang/Throwable" "UNASSIGNED_STACK" "[Ljava/lang/StackTraceElement;") ∈ TB := tb_a1 227 rfl rfl
theorem tw_229 : (Jvm.Cond.fieldLink "java/lang/Throwable" (20 : Nat) "java/lang/Throwable" "SUPPRESSED_SENTINEL" "Ljava/util/List;") ∈ TB := tb_a1 229 rfl rfl
theorem tw_231 : (Jvm.Cond.methodLink "java/lang/Throwable" (27 : Nat) ({ cls := "java/lang/Throwable", name := "fillInStackTrace", desc := "()Ljava/lang/Throwable;" } : Jvm.MethodName)) ∈ TB := tb_a1 231 rfl rfl
theorem tw_232 : (Jvm.Cond.instanceMethod ({ cls := "java/lang/Throwable", name := "fillInStackTrace", desc := "()Ljava/lang/Throwable;" } : Jvm.MethodName)) ∈ TB := tb_a1 232 rfl rfl
theorem tw_233 : (Jvm.Cond.sameMethod "java/lang/Throwable" "java/lang/Throwable" "fillInStackTrace" "()Ljava/lang/Throwable;") ∈ TB := tb_a1 233 rfl rfl
theorem tw_234 : (Jvm.Cond.selects "java/lang/IndexOutOfBoundsException" ({ cls := "java/lang/Throwable", name := "fillInStackTrace", desc := "()Ljava/lang/Throwable;" } : Jvm.MethodName) ({ cls := "java/lang/Throwable", name := "fillInStackTrace", desc := "()Ljava/lang/Throwable;" } : Jvm.MethodName)) ∈ TB := tb_a1 234 rfl rfl
theorem tw_235 : (Jvm.Cond.selects "java/lang/UnsupportedOperationException" ({ cls := "java/lang/Throwable", name := "fillInStackTrace", desc := "()Ljava/lang/Throwable;" } : Jvm.MethodName) ({ cls := "java/lang/Throwable", name := "fillInStackTrace", desc := "()Ljava/lang/Throwable;" } : Jvm.MethodName)) ∈ TB := tb_a1 235 rfl rfl
theorem tw_236 : (Jvm.Cond.codeSync ({ cls := "java/lang/Throwable", name := "fillInStackTrace", desc := "()Ljava/lang/Throwable;" } : Jvm.MethodName) prog_23_method_18_code (1 : Nat) (Option.some (Jvm.ClassFile.FieldType.object "java/lang/Throwable"))) ∈ TB := tb_a1 236 rfl rfl
theorem tw_237 : (Jvm.Cond.methodLink "java/lang/Throwable" (202 : Nat) ({ cls := "java/lang/Throwable", name := "fillInStackTrace", desc := "(I)Ljava/lang/Throwable;" } : Jvm.MethodName)) ∈ TB := tb_a1 237 rfl rfl
theorem tw_239 : (Jvm.Cond.instanceMethod ({ cls := "java/lang/Throwable", name := "fillInStackTrace", desc := "(I)Ljava/lang/Throwable;" } : Jvm.MethodName)) ∈ TB := tb_a1 239 rfl rfl
theorem tw_240 : (Jvm.Cond.instantiable "java/lang/Throwable" (6 : Nat)) ∈ TB := tb_a2 0 rfl rfl
theorem tw_241 : (Jvm.Cond.native ({ cls := "java/lang/Throwable", name := "fillInStackTrace", desc := "(I)Ljava/lang/Throwable;" } : Jvm.MethodName)) ∈ TB := tb_a2 1 rfl rfl
theorem tw_243 : (Jvm.Cond.methodLink "PageMaker" (51 : Nat) ({ cls := "java/lang/IllegalArgumentException", name := "<init>", desc := "(Ljava/lang/String;)V" } : Jvm.MethodName)) ∈ TB := tb_a2 3 rfl rfl
theorem tw_244 : (Jvm.Cond.instanceMethod ({ cls := "java/lang/IllegalArgumentException", name := "<init>", desc := "(Ljava/lang/String;)V" } : Jvm.MethodName)) ∈ TB := tb_a2 4 rfl rfl
theorem tw_245 : (Jvm.Cond.code ({ cls := "java/lang/IllegalArgumentException", name := "<init>", desc := "(Ljava/lang/String;)V" } : Jvm.MethodName) prog_16_method_2_code (2 : Nat) (Option.none : Option Jvm.ClassFile.FieldType)) ∈ TB := tb_a2 5 rfl rfl
theorem tw_246 : (Jvm.Cond.methodLink "java/lang/IllegalArgumentException" (7 : Nat) ({ cls := "java/lang/RuntimeException", name := "<init>", desc := "(Ljava/lang/String;)V" } : Jvm.MethodName)) ∈ TB := tb_a2 6 rfl rfl
theorem tw_247 : (Jvm.Cond.instanceMethod ({ cls := "java/lang/RuntimeException", name := "<init>", desc := "(Ljava/lang/String;)V" } : Jvm.MethodName)) ∈ TB := tb_a2 7 rfl rfl
theorem tw_248 : (Jvm.Cond.code ({ cls := "java/lang/RuntimeException", name := "<init>", desc := "(Ljava/lang/String;)V" } : Jvm.MethodName) prog_20_method_2_code (2 : Nat) (Option.none : Option Jvm.ClassFile.FieldType)) ∈ TB := tb_a2 8 rfl rfl
theorem tw_249 : (Jvm.Cond.methodLink "java/lang/RuntimeException" (7 : Nat) ({ cls := "java/lang/Exception", name := "<init>", desc := "(Ljava/lang/String;)V" } : Jvm.MethodName)) ∈ TB := tb_a2 9 rfl rfl
theorem tw_250 : (Jvm.Cond.instanceMethod ({ cls := "java/lang/Exception", name := "<init>", desc := "(Ljava/lang/String;)V" } : Jvm.MethodName)) ∈ TB := tb_a2 10 rfl rfl
theorem tw_251 : (Jvm.Cond.code ({ cls := "java/lang/Exception", name := "<init>", desc := "(Ljava/lang/String;)V" } : Jvm.MethodName) prog_15_method_2_code (2 : Nat) (Option.none : Option Jvm.ClassFile.FieldType)) ∈ TB := tb_a2 11 rfl rfl
theorem tw_252 : (Jvm.Cond.methodLink "java/lang/Exception" (7 : Nat) ({ cls := "java/lang/Throwable", name := "<init>", desc := "(Ljava/lang/String;)V" } : Jvm.MethodName)) ∈ TB := tb_a2 12 rfl rfl
theorem tw_253 : (Jvm.Cond.instanceMethod ({ cls := "java/lang/Throwable", name := "<init>", desc := "(Ljava/lang/String;)V" } : Jvm.MethodName)) ∈ TB := tb_a2 13 rfl rfl
theorem tw_254 : (Jvm.Cond.code ({ cls := "java/lang/Throwable", name := "<init>", desc := "(Ljava/lang/String;)V" } : Jvm.MethodName) prog_23_method_2_code (2 : Nat) (Option.none : Option Jvm.ClassFile.FieldType)) ∈ TB := tb_a2 14 rfl rfl
theorem tw_256 : (Jvm.Cond.fieldLink "java/lang/Throwable" (31 : Nat) "java/lang/Throwable" "detailMessage" "Ljava/lang/String;") ∈ TB := tb_a2 16 rfl rfl
theorem tw_257 : (Jvm.Cond.fieldLink "java/lang/Throwable" (7 : Nat) "java/lang/Throwable" "cause" "Ljava/lang/Throwable;") ∈ TB := tb_a2 17 rfl rfl
theorem tw_258 : (Jvm.Cond.fieldLink "java/lang/Throwable" (17 : Nat) "java/lang/Throwable" "stackTrace" "[Ljava/lang/StackTraceElement;") ∈ TB := tb_a2 18 rfl rfl
theorem tw_259 : (Jvm.Cond.fieldLink "java/lang/Throwable" (24 : Nat) "java/lang/Throwable" "suppressedExceptions" "Ljava/util/List;") ∈ TB := tb_a2 19 rfl rfl
theorem tw_260 : (Jvm.Cond.soleField "java/lang/Throwable" "backtrace") ∈ TB := tb_a2 20 rfl rfl
theorem tw_261 : (Jvm.Cond.soleField "java/lang/Throwable" "detailMessage") ∈ TB := tb_a2 21 rfl rfl
theorem tw_262 : (Jvm.Cond.soleField "java/lang/Throwable" "cause") ∈ TB := tb_a2 22 rfl rfl
theorem tw_263 : (Jvm.Cond.soleField "java/lang/Throwable" "stackTrace") ∈ TB := tb_a2 23 rfl rfl
theorem tw_264 : (Jvm.Cond.lays "java/lang/IllegalArgumentException" "java/lang/Throwable" "depth" "I") ∈ TB := tb_a2 24 rfl rfl
theorem tw_265 : (Jvm.Cond.soleField "java/lang/Throwable" "depth") ∈ TB := tb_a2 25 rfl rfl
theorem tw_266 : (Jvm.Cond.soleField "java/lang/Throwable" "suppressedExceptions") ∈ TB := tb_a2 26 rfl rfl
theorem tw_267 : (Jvm.Cond.superclass "java/lang/IllegalArgumentException" "java/lang/RuntimeException") ∈ TB := tb_a2 27 rfl rfl
theorem tw_268 : (Jvm.Cond.arrayClass Jvm.ClassFile.FieldType.byte) ∈ TB := tb_a2 28 rfl rfl
theorem tw_269 : (Jvm.Cond.methodLink "PageMakerLaw" (62 : Nat) ({ cls := "PageMakerLaw", name := "box", desc := "(LPageMaker;III[J)I" } : Jvm.MethodName)) ∈ TB := tb_a2 29 rfl rfl
theorem tw_270 : (Jvm.Cond.static ({ cls := "PageMakerLaw", name := "box", desc := "(LPageMaker;III[J)I" } : Jvm.MethodName)) ∈ TB := tb_a2 30 rfl rfl
theorem tw_271 : (Jvm.Cond.codeWith ({ cls := "PageMakerLaw", name := "box", desc := "(LPageMaker;III[J)I" } : Jvm.MethodName) method_4_code (6 : Nat) (Option.some Jvm.ClassFile.FieldType.int) [((0 : Nat), (12 : Nat), (15 : Nat), (13 : Nat)), ((0 : Nat), (12 : Nat), (19 : Nat), (19 : Nat))]) ∈ TB := tb_a2 31 rfl rfl
theorem tw_272 : (Jvm.Cond.classLink "PageMakerLaw" (19 : Nat) "java/lang/UnsupportedOperationException") ∈ TB := tb_a2 32 rfl rfl
theorem tw_273 : (Jvm.Cond.methodLink "PageMakerLaw" (15 : Nat) ({ cls := "PageMaker", name := "box", desc := "(III)I" } : Jvm.MethodName)) ∈ TB := tb_a2 33 rfl rfl
theorem tw_274 : (Jvm.Cond.instanceMethod ({ cls := "PageMaker", name := "box", desc := "(III)I" } : Jvm.MethodName)) ∈ TB := tb_a2 34 rfl rfl
theorem tw_275 : (Jvm.Cond.selects "PageMaker" ({ cls := "PageMaker", name := "box", desc := "(III)I" } : Jvm.MethodName) ({ cls := "PageMaker", name := "box", desc := "(III)I" } : Jvm.MethodName)) ∈ TB := tb_a2 35 rfl rfl
theorem tw_276 : (Jvm.Cond.code ({ cls := "PageMaker", name := "box", desc := "(III)I" } : Jvm.MethodName) prog_1_method_3_code (4 : Nat) (Option.some Jvm.ClassFile.FieldType.int)) ∈ TB := tb_a2 36 rfl rfl
theorem tw_278 : (Jvm.Cond.methodLink "PageMaker" (56 : Nat) ({ cls := "PageMaker", name := "needRoom", desc := "()V" } : Jvm.MethodName)) ∈ TB := tb_a2 38 rfl rfl
theorem tw_280 : (Jvm.Cond.instanceMethod ({ cls := "PageMaker", name := "needRoom", desc := "()V" } : Jvm.MethodName)) ∈ TB := tb_a2 40 rfl rfl
theorem tw_281 : (Jvm.Cond.code ({ cls := "PageMaker", name := "needRoom", desc := "()V" } : Jvm.MethodName) prog_1_method_15_code (1 : Nat) (Option.none : Option Jvm.ClassFile.FieldType)) ∈ TB := tb_a2 41 rfl rfl
theorem tw_282 : (Jvm.Cond.classLink "PageMaker" (188 : Nat) "java/lang/UnsupportedOperationException") ∈ TB := tb_a2 42 rfl rfl
theorem tw_283 : (Jvm.Cond.instantiable "java/lang/UnsupportedOperationException" (6 : Nat)) ∈ TB := tb_a2 43 rfl rfl
theorem tw_285 : (Jvm.Cond.selects "java/lang/UnsupportedOperationException" ({ cls := "java/lang/Throwable", name := "fillInStackTrace", desc := "(I)Ljava/lang/Throwable;" } : Jvm.MethodName) ({ cls := "java/lang/Throwable", name := "fillInStackTrace", desc := "(I)Ljava/lang/Throwable;" } : Jvm.MethodName)) ∈ TB := tb_a2 45 rfl rfl
theorem tw_286 : (Jvm.Cond.lays "java/lang/UnsupportedOperationException" "java/lang/Throwable" "cause" "Ljava/lang/Throwable;") ∈ TB := tb_a2 46 rfl rfl
theorem tw_287 : (Jvm.Cond.lays "java/lang/UnsupportedOperationException" "java/lang/Throwable" "stackTrace" "[Ljava/lang/StackTraceElement;") ∈ TB := tb_a2 47 rfl rfl
theorem tw_288 : (Jvm.Cond.lays "java/lang/UnsupportedOperationException" "java/lang/Throwable" "suppressedExceptions" "Ljava/util/List;") ∈ TB := tb_a2 48 rfl rfl
theorem tw_289 : (Jvm.Cond.lays "java/lang/UnsupportedOperationException" "java/lang/Throwable" "detailMessage" "Ljava/lang/String;") ∈ TB := tb_a2 49 rfl rfl
theorem tw_290 : (Jvm.Cond.lays "java/lang/UnsupportedOperationException" "java/lang/Throwable" "backtrace" "Ljava/lang/Object;") ∈ TB := tb_a2 50 rfl rfl
theorem tw_292 : (Jvm.Cond.methodLink "PageMaker" (192 : Nat) ({ cls := "java/lang/UnsupportedOperationException", name := "<init>", desc := "(Ljava/lang/String;)V" } : Jvm.MethodName)) ∈ TB := tb_a2 52 rfl rfl
theorem tw_293 : (Jvm.Cond.instanceMethod ({ cls := "java/lang/UnsupportedOperationException", name := "<init>", desc := "(Ljava/lang/String;)V" } : Jvm.MethodName)) ∈ TB := tb_a2 53 rfl rfl
theorem tw_294 : (Jvm.Cond.code ({ cls := "java/lang/UnsupportedOperationException", name := "<init>", desc := "(Ljava/lang/String;)V" } : Jvm.MethodName) prog_24_method_2_code (2 : Nat) (Option.none : Option Jvm.ClassFile.FieldType)) ∈ TB := tb_a2 54 rfl rfl
theorem tw_295 : (Jvm.Cond.methodLink "java/lang/UnsupportedOperationException" (7 : Nat) ({ cls := "java/lang/RuntimeException", name := "<init>", desc := "(Ljava/lang/String;)V" } : Jvm.MethodName)) ∈ TB := tb_a2 55 rfl rfl
theorem tw_296 : (Jvm.Cond.lays "java/lang/UnsupportedOperationException" "java/lang/Throwable" "depth" "I") ∈ TB := tb_a2 56 rfl rfl
theorem tw_297 : (Jvm.Cond.superclass "java/lang/UnsupportedOperationException" "java/lang/RuntimeException") ∈ TB := tb_a2 57 rfl rfl
theorem tw_298 : (Jvm.Cond.classLink "PageMaker" (59 : Nat) "PageMaker$Box") ∈ TB := tb_a2 58 rfl rfl
theorem tw_299 : (Jvm.Cond.instantiable "PageMaker$Box" (2 : Nat)) ∈ TB := tb_a2 59 rfl rfl
theorem tw_300 : (Jvm.Cond.methodLink "PageMaker" (61 : Nat) ({ cls := "PageMaker$Box", name := "<init>", desc := "(II)V" } : Jvm.MethodName)) ∈ TB := tb_a2 60 rfl rfl
theorem tw_301 : (Jvm.Cond.instanceMethod ({ cls := "PageMaker$Box", name := "<init>", desc := "(II)V" } : Jvm.MethodName)) ∈ TB := tb_a2 61 rfl rfl
theorem tw_302 : (Jvm.Cond.code ({ cls := "PageMaker$Box", name := "<init>", desc := "(II)V" } : Jvm.MethodName) prog_2_method_1_code (3 : Nat) (Option.none : Option Jvm.ClassFile.FieldType)) ∈ TB := tb_a2 62 rfl rfl
theorem tw_304 : (Jvm.Cond.instanceMethod ({ cls := "PageMaker$Item", name := "<init>", desc := "()V" } : Jvm.MethodName)) ∈ TB := tb_a2 64 rfl rfl
theorem tw_305 : (Jvm.Cond.code ({ cls := "PageMaker$Item", name := "<init>", desc := "()V" } : Jvm.MethodName) prog_6_method_1_code (1 : Nat) (Option.none : Option Jvm.ClassFile.FieldType)) ∈ TB := tb_a2 65 rfl rfl
theorem tw_306 : (Jvm.Cond.methodLink "PageMaker$Item" (1 : Nat) ({ cls := "java/lang/Object", name := "<init>", desc := "()V" } : Jvm.MethodName)) ∈ TB := tb_a2 66 rfl rfl
theorem tw_307 : (Jvm.Cond.fieldLink "PageMaker$Box" (7 : Nat) "PageMaker$Box" "height" "I") ∈ TB := tb_a2 67 rfl rfl
theorem tw_308 : (Jvm.Cond.fieldLink "PageMaker$Totals" (31 : Nat) "PageMaker$Box" "height" "I") ∈ TB := tb_a2 68 rfl rfl
theorem tw_309 : (Jvm.Cond.fieldLink "PageMaker" (157 : Nat) "PageMaker$Box" "height" "I") ∈ TB := tb_a2 69 rfl rfl
theorem tw_310 : (Jvm.Cond.fieldLink "PageMaker$Box" (13 : Nat) "PageMaker$Box" "depth" "I") ∈ TB := tb_a2 70 rfl rfl
theorem tw_311 : (Jvm.Cond.laysFinal "PageMaker$Box" "PageMaker$Box" "height" "I") ∈ TB := tb_a2 71 rfl rfl
theorem tw_312 : (Jvm.Cond.soleField "PageMaker$Box" "height") ∈ TB := tb_a2 72 rfl rfl
theorem tw_313 : (Jvm.Cond.laysFinal "PageMaker$Box" "PageMaker$Box" "depth" "I") ∈ TB := tb_a2 73 rfl rfl
theorem tw_314 : (Jvm.Cond.soleField "PageMaker$Box" "depth") ∈ TB := tb_a2 74 rfl rfl
theorem tw_315 : (Jvm.Cond.superclass "PageMaker$Box" "PageMaker$Item") ∈ TB := tb_a2 75 rfl rfl
theorem tw_316 : (Jvm.Cond.methodLink "PageMaker" (64 : Nat) ({ cls := "PageMaker", name := "comeIn", desc := "(LPageMaker$Item;)I" } : Jvm.MethodName)) ∈ TB := tb_a2 76 rfl rfl
theorem tw_318 : (Jvm.Cond.instanceMethod ({ cls := "PageMaker", name := "comeIn", desc := "(LPageMaker$Item;)I" } : Jvm.MethodName)) ∈ TB := tb_a2 78 rfl rfl
theorem tw_319 : (Jvm.Cond.code ({ cls := "PageMaker", name := "comeIn", desc := "(LPageMaker$Item;)I" } : Jvm.MethodName) prog_1_method_18_code (2 : Nat) (Option.some Jvm.ClassFile.FieldType.int)) ∈ TB := tb_a2 79 rfl rfl
theorem tw_320 : (Jvm.Cond.methodLink "PageMaker" (195 : Nat) ({ cls := "java/util/ArrayList", name := "add", desc := "(Ljava/lang/Object;)Z" } : Jvm.MethodName)) ∈ TB := tb_a2 80 rfl rfl
theorem tw_321 : (Jvm.Cond.instanceMethod ({ cls := "java/util/ArrayList", name := "add", desc := "(Ljava/lang/Object;)Z" } : Jvm.MethodName)) ∈ TB := tb_a2 81 rfl rfl
theorem tw_322 : (Jvm.Cond.selects "java/util/ArrayList" ({ cls := "java/util/ArrayList", name := "add", desc := "(Ljava/lang/Object;)Z" } : Jvm.MethodName) ({ cls := "java/util/ArrayList", name := "add", desc := "(Ljava/lang/Object;)Z" } : Jvm.MethodName)) ∈ TB := tb_a2 82 rfl rfl
theorem tw_323 : (Jvm.Cond.code ({ cls := "java/util/ArrayList", name := "add", desc := "(Ljava/lang/Object;)Z" } : Jvm.MethodName) prog_27_method_25_code (2 : Nat) (Option.some Jvm.ClassFile.FieldType.boolean)) ∈ TB := tb_a2 83 rfl rfl
theorem tw_324 : (Jvm.Cond.methodLink "java/util/ArrayList" (131 : Nat) ({ cls := "java/util/ArrayList", name := "add", desc := "(Ljava/lang/Object;[Ljava/lang/Object;I)V" } : Jvm.MethodName)) ∈ TB := tb_a2 84 rfl rfl
theorem tw_326 : (Jvm.Cond.instanceMethod ({ cls := "java/util/ArrayList", name := "add", desc := "(Ljava/lang/Object;[Ljava/lang/Object;I)V" } : Jvm.MethodName)) ∈ TB := tb_a2 86 rfl rfl
theorem tw_327 : (Jvm.Cond.code ({ cls := "java/util/ArrayList", name := "add", desc := "(Ljava/lang/Object;[Ljava/lang/Object;I)V" } : Jvm.MethodName) prog_27_method_24_code (4 : Nat) (Option.none : Option Jvm.ClassFile.FieldType)) ∈ TB := tb_a2 87 rfl rfl
theorem tw_328 : (Jvm.Cond.methodLink "java/util/ArrayList" (129 : Nat) ({ cls := "java/util/ArrayList", name := "grow", desc := "()[Ljava/lang/Object;" } : Jvm.MethodName)) ∈ TB := tb_a2 88 rfl rfl
theorem tw_330 : (Jvm.Cond.instanceMethod ({ cls := "java/util/ArrayList", name := "grow", desc := "()[Ljava/lang/Object;" } : Jvm.MethodName)) ∈ TB := tb_a2 90 rfl rfl
theorem tw_331 : (Jvm.Cond.code ({ cls := "java/util/ArrayList", name := "grow", desc := "()[Ljava/lang/Object;" } : Jvm.MethodName) prog_27_method_7_code (1 : Nat) (Option.some (Jvm.ClassFile.FieldType.array (Jvm.ClassFile.FieldType.object "java/lang/Object")))) ∈ TB := tb_a2 91 rfl rfl
theorem tw_332 : (Jvm.Cond.methodLink "java/util/ArrayList" (69 : Nat) ({ cls := "java/util/ArrayList", name := "grow", desc := "(I)[Ljava/lang/Object;" } : Jvm.MethodName)) ∈ TB := tb_a2 92 rfl rfl
theorem tw_334 : (Jvm.Cond.instanceMethod ({ cls := "java/util/ArrayList", name := "grow", desc := "(I)[Ljava/lang/Object;" } : Jvm.MethodName)) ∈ TB := tb_a2 94 rfl rfl
theorem tw_335 : (Jvm.Cond.code ({ cls := "java/util/ArrayList", name := "grow", desc := "(I)[Ljava/lang/Object;" } : Jvm.MethodName) prog_27_method_6_code (4 : Nat) (Option.some (Jvm.ClassFile.FieldType.array (Jvm.ClassFile.FieldType.object "java/lang/Object")))) ∈ TB := tb_a2 95 rfl rfl
theorem tw_336 : (Jvm.Cond.methodLink "java/util/ArrayList" (73 : Nat) ({ cls := "jdk/internal/util/ArraysSupport", name := "newLength", desc := "(III)I" } : Jvm.MethodName)) ∈ TB := tb_a2 96 rfl rfl
theorem tw_337 : (Jvm.Cond.static ({ cls := "jdk/internal/util/ArraysSupport", name := "newLength", desc := "(III)I" } : Jvm.MethodName)) ∈ TB := tb_a2 97 rfl rfl
theorem tw_338 : (Jvm.Cond.code ({ cls := "jdk/internal/util/ArraysSupport", name := "newLength", desc := "(III)I" } : Jvm.MethodName) prog_34_method_27_code (4 : Nat) (Option.some Jvm.ClassFile.FieldType.int)) ∈ TB := tb_a2 98 rfl rfl
theorem tw_339 : (Jvm.Cond.methodLink "jdk/internal/util/ArraysSupport" (194 : Nat) ({ cls := "java/lang/Math", name := "max", desc := "(II)I" } : Jvm.MethodName)) ∈ TB := tb_a2 99 rfl rfl
theorem tw_340 : (Jvm.Cond.static ({ cls := "java/lang/Math", name := "max", desc := "(II)I" } : Jvm.MethodName)) ∈ TB := tb_a2 100 rfl rfl
theorem tw_341 : (Jvm.Cond.code ({ cls := "java/lang/Math", name := "max", desc := "(II)I" } : Jvm.MethodName) prog_19_method_65_code (2 : Nat) (Option.some Jvm.ClassFile.FieldType.int)) ∈ TB := tb_a2 101 rfl rfl
theorem tw_342 : (Jvm.Cond.constant "jdk/internal/util/ArraysSupport" (200 : Nat) (2147483639 : Int32)) ∈ TB := tb_a2 102 rfl rfl
theorem tw_343 : (Jvm.Cond.methodLink "jdk/internal/util/ArraysSupport" (201 : Nat) ({ cls := "jdk/internal/util/ArraysSupport", name := "hugeLength", desc := "(II)I" } : Jvm.MethodName)) ∈ TB := tb_a2 103 rfl rfl
theorem tw_344 : (Jvm.Cond.static ({ cls := "jdk/internal/util/ArraysSupport", name := "hugeLength", desc := "(II)I" } : Jvm.MethodName)) ∈ TB := tb_a2 104 rfl rfl
theorem tw_345 : (Jvm.Cond.code ({ cls := "jdk/internal/util/ArraysSupport", name := "hugeLength", desc := "(II)I" } : Jvm.MethodName) prog_34_method_28_code (3 : Nat) (Option.some Jvm.ClassFile.FieldType.int)) ∈ TB := tb_a2 105 rfl rfl
theorem tw_346 : (Jvm.Cond.methodLink "java/util/ArrayList" (66 : Nat) ({ cls := "java/util/Arrays", name := "copyOf", desc := "([Ljava/lang/Object;I)[Ljava/lang/Object;" } : Jvm.MethodName)) ∈ TB := tb_a2 106 rfl rfl
theorem tw_347 : (Jvm.Cond.static ({ cls := "java/util/Arrays", name := "copyOf", desc := "([Ljava/lang/Object;I)[Ljava/lang/Object;" } : Jvm.MethodName)) ∈ TB := tb_a2 107 rfl rfl
theorem tw_348 : (Jvm.Cond.code ({ cls := "java/util/Arrays", name := "copyOf", desc := "([Ljava/lang/Object;I)[Ljava/lang/Object;" } : Jvm.MethodName) prog_28_method_119_code (2 : Nat) (Option.some (Jvm.ClassFile.FieldType.array (Jvm.ClassFile.FieldType.object "java/lang/Object")))) ∈ TB := tb_a2 108 rfl rfl
theorem tw_349 : (Jvm.Cond.methodLink "java/util/Arrays" (86 : Nat) ({ cls := "java/lang/Object", name := "getClass", desc := "()Ljava/lang/Class;" } : Jvm.MethodName)) ∈ TB := tb_a2 109 rfl rfl
theorem tw_350 : (Jvm.Cond.instanceMethod ({ cls := "java/lang/Object", name := "getClass", desc := "()Ljava/lang/Class;" } : Jvm.MethodName)) ∈ TB := tb_a2 110 rfl rfl
theorem tw_351 : (Jvm.Cond.sameMethod "java/lang/Object" "java/lang/Object" "getClass" "()Ljava/lang/Class;") ∈ TB := tb_a2 111 rfl rfl
theorem tw_352 : (Jvm.Cond.selects "PageMaker" ({ cls := "java/lang/Object", name := "getClass", desc := "()Ljava/lang/Class;" } : Jvm.MethodName) ({ cls := "java/lang/Object", name := "getClass", desc := "()Ljava/lang/Class;" } : Jvm.MethodName)) ∈ TB := tb_a2 112 rfl rfl
theorem tw_353 : (Jvm.Cond.selects "PageMaker$Box" ({ cls := "java/lang/Object", name := "getClass", desc := "()Ljava/lang/Class;" } : Jvm.MethodName) ({ cls := "java/lang/Object", name := "getClass", desc := "()Ljava/lang/Class;" } : Jvm.MethodName)) ∈ TB := tb_a2 113 rfl rfl
theorem tw_354 : (Jvm.Cond.selects "PageMaker$EndedPage" ({ cls := "java/lang/Object", name := "getClass", desc := "()Ljava/lang/Class;" } : Jvm.MethodName) ({ cls := "java/lang/Object", name := "getClass", desc := "()Ljava/lang/Class;" } : Jvm.MethodName)) ∈ TB := tb_a2 114 rfl rfl
theorem tw_355 : (Jvm.Cond.selects "PageMaker$Frame" ({ cls := "java/lang/Object", name := "getClass", desc := "()Ljava/lang/Class;" } : Jvm.MethodName) ({ cls := "java/lang/Object", name := "getClass", desc := "()Ljava/lang/Class;" } : Jvm.MethodName)) ∈ TB := tb_a2 115 rfl rfl
theorem tw_356 : (Jvm.Cond.selects "PageMaker$Glue" ({ cls := "java/lang/Object", name := "getClass", desc := "()Ljava/lang/Class;" } : Jvm.MethodName) ({ cls := "java/lang/Object", name := "getClass", desc := "()Ljava/lang/Class;" } : Jvm.MethodName)) ∈ TB := tb_a2 116 rfl rfl
theorem tw_357 : (Jvm.Cond.selects "PageMaker$Kern" ({ cls := "java/lang/Object", name := "getClass", desc := "()Ljava/lang/Class;" } : Jvm.MethodName) ({ cls := "java/lang/Object", name := "getClass", desc := "()Ljava/lang/Class;" } : Jvm.MethodName)) ∈ TB := tb_a2 117 rfl rfl
theorem tw_358 : (Jvm.Cond.selects "PageMaker$OpenPage" ({ cls := "java/lang/Object", name := "getClass", desc := "()Ljava/lang/Class;" } : Jvm.MethodName) ({ cls := "java/lang/Object", name := "getClass", desc := "()Ljava/lang/Class;" } : Jvm.MethodName)) ∈ TB := tb_a2 118 rfl rfl
theorem tw_359 : (Jvm.Cond.selects "PageMaker$Penalty" ({ cls := "java/lang/Object", name := "getClass", desc := "()Ljava/lang/Class;" } : Jvm.MethodName) ({ cls := "java/lang/Object", name := "getClass", desc := "()Ljava/lang/Class;" } : Jvm.MethodName)) ∈ TB := tb_a2 119 rfl rfl
theorem tw_360 : (Jvm.Cond.selects "PageMaker$Totals" ({ cls := "java/lang/Object", name := "getClass", desc := "()Ljava/lang/Class;" } : Jvm.MethodName) ({ cls := "java/lang/Object", name := "getClass", desc := "()Ljava/lang/Class;" } : Jvm.MethodName)) ∈ TB := tb_a2 120 rfl rfl
theorem tw_361 : (Jvm.Cond.selects "PageMakerModel" ({ cls := "java/lang/Object", name := "getClass", desc := "()Ljava/lang/Class;" } : Jvm.MethodName) ({ cls := "java/lang/Object", name := "getClass", desc := "()Ljava/lang/Class;" } : Jvm.MethodName)) ∈ TB := tb_a2 121 rfl rfl
theorem tw_362 : (Jvm.Cond.selects "java/lang/IllegalArgumentException" ({ cls := "java/lang/Object", name := "getClass", desc := "()Ljava/lang/Class;" } : Jvm.MethodName) ({ cls := "java/lang/Object", name := "getClass", desc := "()Ljava/lang/Class;" } : Jvm.MethodName)) ∈ TB := tb_a2 122 rfl rfl
theorem tw_363 : (Jvm.Cond.selects "java/lang/IndexOutOfBoundsException" ({ cls := "java/lang/Object", name := "getClass", desc := "()Ljava/lang/Class;" } : Jvm.MethodName) ({ cls := "java/lang/Object", name := "getClass", desc := "()Ljava/lang/Class;" } : Jvm.MethodName)) ∈ TB := tb_a2 123 rfl rfl
theorem tw_364 : (Jvm.Cond.selects "java/lang/UnsupportedOperationException" ({ cls := "java/lang/Object", name := "getClass", desc := "()Ljava/lang/Class;" } : Jvm.MethodName) ({ cls := "java/lang/Object", name := "getClass", desc := "()Ljava/lang/Class;" } : Jvm.MethodName)) ∈ TB := tb_a2 124 rfl rfl
theorem tw_365 : (Jvm.Cond.selects "java/util/ArrayList" ({ cls := "java/lang/Object", name := "getClass", desc := "()Ljava/lang/Class;" } : Jvm.MethodName) ({ cls := "java/lang/Object", name := "getClass", desc := "()Ljava/lang/Class;" } : Jvm.MethodName)) ∈ TB := tb_a2 125 rfl rfl
theorem tw_366 : (Jvm.Cond.native ({ cls := "java/lang/Object", name := "getClass", desc := "()Ljava/lang/Class;" } : Jvm.MethodName)) ∈ TB := tb_a2 126 rfl rfl
theorem tw_367 : (Jvm.Cond.methodLink "java/util/Arrays" (300 : Nat) ({ cls := "java/util/Arrays", name := "copyOf", desc := "([Ljava/lang/Object;ILjava/lang/Class;)[Ljava/lang/Object;" } : Jvm.MethodName)) ∈ TB := tb_a2 127 rfl rfl
theorem tw_368 : (Jvm.Cond.static ({ cls := "java/util/Arrays", name := "copyOf", desc := "([Ljava/lang/Object;ILjava/lang/Class;)[Ljava/lang/Object;" } : Jvm.MethodName)) ∈ TB := tb_a2 128 rfl rfl
theorem tw_369 : (Jvm.Cond.code ({ cls := "java/util/Arrays", name := "copyOf", desc := "([Ljava/lang/Object;ILjava/lang/Class;)[Ljava/lang/Object;" } : Jvm.MethodName) prog_28_method_120_code (4 : Nat) (Option.some (Jvm.ClassFile.FieldType.array (Jvm.ClassFile.FieldType.object "java/lang/Object")))) ∈ TB := tb_a2 129 rfl rfl
theorem tw_370 : (Jvm.Cond.classLink "java/util/Arrays" (110 : Nat) "[Ljava/lang/Object;") ∈ TB := tb_a2 130 rfl rfl
theorem tw_372 : (Jvm.Cond.classLink "java/util/Arrays" (2 : Nat) "java/lang/Object") ∈ TB := tb_a2 132 rfl rfl
theorem tw_373 : (Jvm.Cond.methodLink "java/util/Arrays" (304 : Nat) ({ cls := "java/lang/Math", name := "min", desc := "(II)I" } : Jvm.MethodName)) ∈ TB := tb_a2 133 rfl rfl
theorem tw_374 : (Jvm.Cond.static ({ cls := "java/lang/Math", name := "min", desc := "(II)I" } : Jvm.MethodName)) ∈ TB := tb_a2 134 rfl rfl
theorem tw_375 : (Jvm.Cond.code ({ cls := "java/lang/Math", name := "min", desc := "(II)I" } : Jvm.MethodName) prog_19_method_69_code (2 : Nat) (Option.some Jvm.ClassFile.FieldType.int)) ∈ TB := tb_a2 135 rfl rfl
theorem tw_376 : (Jvm.Cond.methodLink "java/util/Arrays" (150 : Nat) ({ cls := "java/lang/System", name := "arraycopy", desc := "(Ljava/lang/Object;ILjava/lang/Object;II)V" } : Jvm.MethodName)) ∈ TB := tb_a2 136 rfl rfl
theorem tw_377 : (Jvm.Cond.static ({ cls := "java/lang/System", name := "arraycopy", desc := "(Ljava/lang/Object;ILjava/lang/Object;II)V" } : Jvm.MethodName)) ∈ TB := tb_a2 137 rfl rfl
theorem tw_378 : (Jvm.Cond.native ({ cls := "java/lang/System", name := "arraycopy", desc := "(Ljava/lang/Object;ILjava/lang/Object;II)V" } : Jvm.MethodName)) ∈ TB := tb_a2 138 rfl rfl
theorem tw_379 : (Jvm.Cond.methodLink "java/util/ArrayList" (79 : Nat) ({ cls := "java/lang/Math", name := "max", desc := "(II)I" } : Jvm.MethodName)) ∈ TB := tb_a2 139 rfl rfl
theorem tw_380 : (Jvm.Cond.classLink "java/util/ArrayList" (7 : Nat) "java/lang/Object") ∈ TB := tb_a2 140 rfl rfl
theorem tw_381 : (Jvm.Cond.methodLink "PageMaker" (199 : Nat) ({ cls := "PageMaker", name := "lookFrom", desc := "(I)V" } : Jvm.MethodName)) ∈ TB := tb_a2 141 rfl rfl
theorem tw_383 : (Jvm.Cond.instanceMethod ({ cls := "PageMaker", name := "lookFrom", desc := "(I)V" } : Jvm.MethodName)) ∈ TB := tb_a2 143 rfl rfl
theorem tw_384 : (Jvm.Cond.code ({ cls := "PageMaker", name := "lookFrom", desc := "(I)V" } : Jvm.MethodName) prog_1_method_19_code (5 : Nat) (Option.none : Option Jvm.ClassFile.FieldType)) ∈ TB := tb_a2 144 rfl rfl
theorem tw_385 : (Jvm.Cond.constant "PageMaker" (202 : Nat) (4004001 : Int32)) ∈ TB := tb_a2 145 rfl rfl
theorem tw_386 : (Jvm.Cond.methodLink "PageMaker" (132 : Nat) ({ cls := "PageMaker", name := "isItem", desc := "(I)Z" } : Jvm.MethodName)) ∈ TB := tb_a2 146 rfl rfl
theorem tw_388 : (Jvm.Cond.instanceMethod ({ cls := "PageMaker", name := "isItem", desc := "(I)Z" } : Jvm.MethodName)) ∈ TB := tb_a2 148 rfl rfl
theorem tw_389 : (Jvm.Cond.code ({ cls := "PageMaker", name := "isItem", desc := "(I)Z" } : Jvm.MethodName) prog_1_method_17_code (2 : Nat) (Option.some Jvm.ClassFile.FieldType.boolean)) ∈ TB := tb_a2 149 rfl rfl
theorem tw_390 : (Jvm.Cond.methodLink "PageMaker" (138 : Nat) ({ cls := "java/util/ArrayList", name := "get", desc := "(I)Ljava/lang/Object;" } : Jvm.MethodName)) ∈ TB := tb_a2 150 rfl rfl
theorem tw_391 : (Jvm.Cond.instanceMethod ({ cls := "java/util/ArrayList", name := "get", desc := "(I)Ljava/lang/Object;" } : Jvm.MethodName)) ∈ TB := tb_a2 151 rfl rfl
theorem tw_392 : (Jvm.Cond.selects "java/util/ArrayList" ({ cls := "java/util/ArrayList", name := "get", desc := "(I)Ljava/lang/Object;" } : Jvm.MethodName) ({ cls := "java/util/ArrayList", name := "get", desc := "(I)Ljava/lang/Object;" } : Jvm.MethodName)) ∈ TB := tb_a2 152 rfl rfl
theorem tw_393 : (Jvm.Cond.code ({ cls := "java/util/ArrayList", name := "get", desc := "(I)Ljava/lang/Object;" } : Jvm.MethodName) prog_27_method_20_code (2 : Nat) (Option.some (Jvm.ClassFile.FieldType.object "java/lang/Object"))) ∈ TB := tb_a2 153 rfl rfl
theorem tw_394 : (Jvm.Cond.methodLink "java/util/ArrayList" (118 : Nat) ({ cls := "java/util/Objects", name := "checkIndex", desc := "(II)I" } : Jvm.MethodName)) ∈ TB := tb_a2 154 rfl rfl
theorem tw_395 : (Jvm.Cond.static ({ cls := "java/util/Objects", name := "checkIndex", desc := "(II)I" } : Jvm.MethodName)) ∈ TB := tb_a2 155 rfl rfl
theorem tw_396 : (Jvm.Cond.code ({ cls := "java/util/Objects", name := "checkIndex", desc := "(II)I" } : Jvm.MethodName) prog_31_method_17_code (2 : Nat) (Option.some Jvm.ClassFile.FieldType.int)) ∈ TB := tb_a2 156 rfl rfl
theorem tw_397 : (Jvm.Cond.methodLink "java/util/Objects" (105 : Nat) ({ cls := "jdk/internal/util/Preconditions", name := "checkIndex", desc := "(IILjava/util/function/BiFunction;)I" } : Jvm.MethodName)) ∈ TB := tb_a2 157 rfl rfl
theorem tw_398 : (Jvm.Cond.static ({ cls := "jdk/internal/util/Preconditions", name := "checkIndex", desc := "(IILjava/util/function/BiFunction;)I" } : Jvm.MethodName)) ∈ TB := tb_a2 158 rfl rfl
theorem tw_399 : (Jvm.Cond.code ({ cls := "jdk/internal/util/Preconditions", name := "checkIndex", desc := "(IILjava/util/function/BiFunction;)I" } : Jvm.MethodName) prog_35_method_11_code (3 : Nat) (Option.some Jvm.ClassFile.FieldType.int)) ∈ TB := tb_a2 159 rfl rfl
theorem tw_400 : (Jvm.Cond.methodLink "java/util/ArrayList" (123 : Nat) ({ cls := "java/util/ArrayList", name := "elementData", desc := "(I)Ljava/lang/Object;" } : Jvm.MethodName)) ∈ TB := tb_a2 160 rfl rfl
theorem tw_401 : (Jvm.Cond.instanceMethod ({ cls := "java/util/ArrayList", name := "elementData", desc := "(I)Ljava/lang/Object;" } : Jvm.MethodName)) ∈ TB := tb_a2 161 rfl rfl
theorem tw_402 : (Jvm.Cond.selects "java/util/ArrayList" ({ cls := "java/util/ArrayList", name := "elementData", desc := "(I)Ljava/lang/Object;" } : Jvm.MethodName) ({ cls := "java/util/ArrayList", name := "elementData", desc := "(I)Ljava/lang/Object;" } : Jvm.MethodName)) ∈ TB := tb_a2 162 rfl rfl
theorem tw_403 : (Jvm.Cond.code ({ cls := "java/util/ArrayList", name := "elementData", desc := "(I)Ljava/lang/Object;" } : Jvm.MethodName) prog_27_method_18_code (2 : Nat) (Option.some (Jvm.ClassFile.FieldType.object "java/lang/Object"))) ∈ TB := tb_a2 163 rfl rfl
theorem tw_404 : (Jvm.Cond.classLink "PageMaker" (203 : Nat) "PageMaker$Item") ∈ TB := tb_a2 164 rfl rfl
theorem tw_405 : (Jvm.Cond.methodLink "PageMaker" (205 : Nat) ({ cls := "PageMaker", name := "breakEndsPage", desc := "(ILPageMaker$Item;)Z" } : Jvm.MethodName)) ∈ TB := tb_a2 165 rfl rfl
theorem tw_407 : (Jvm.Cond.instanceMethod ({ cls := "PageMaker", name := "breakEndsPage", desc := "(ILPageMaker$Item;)Z" } : Jvm.MethodName)) ∈ TB := tb_a2 167 rfl rfl
theorem tw_408 : (Jvm.Cond.code ({ cls := "PageMaker", name := "breakEndsPage", desc := "(ILPageMaker$Item;)Z" } : Jvm.MethodName) prog_1_method_20_code (4 : Nat) (Option.some Jvm.ClassFile.FieldType.boolean)) ∈ TB := tb_a2 168 rfl rfl
theorem tw_409 : (Jvm.Cond.methodLink "PageMaker" (216 : Nat) ({ cls := "PageMaker$OpenPage", name := "hasBegun", desc := "()Z" } : Jvm.MethodName)) ∈ TB := tb_a2 169 rfl rfl
theorem tw_410 : (Jvm.Cond.instanceMethod ({ cls := "PageMaker$OpenPage", name := "hasBegun", desc := "()Z" } : Jvm.MethodName)) ∈ TB := tb_a2 170 rfl rfl
theorem tw_411 : (Jvm.Cond.selects "PageMaker$OpenPage" ({ cls := "PageMaker$OpenPage", name := "hasBegun", desc := "()Z" } : Jvm.MethodName) ({ cls := "PageMaker$OpenPage", name := "hasBegun", desc := "()Z" } : Jvm.MethodName)) ∈ TB := tb_a2 171 rfl rfl
theorem tw_412 : (Jvm.Cond.code ({ cls := "PageMaker$OpenPage", name := "hasBegun", desc := "()Z" } : Jvm.MethodName) prog_8_method_2_code (1 : Nat) (Option.some Jvm.ClassFile.FieldType.boolean)) ∈ TB := tb_a2 172 rfl rfl
theorem tw_413 : (Jvm.Cond.classLink "PageMaker" (88 : Nat) "PageMaker$Penalty") ∈ TB := tb_a2 173 rfl rfl
theorem tw_414 : (Jvm.Cond.methodLink "PageMaker" (223 : Nat) ({ cls := "PageMaker$OpenPage", name := "endsAtBreak", desc := "(IJI)Z" } : Jvm.MethodName)) ∈ TB := tb_a2 174 rfl rfl
theorem tw_415 : (Jvm.Cond.instanceMethod ({ cls := "PageMaker$OpenPage", name := "endsAtBreak", desc := "(IJI)Z" } : Jvm.MethodName)) ∈ TB := tb_a2 175 rfl rfl
theorem tw_416 : (Jvm.Cond.selects "PageMaker$OpenPage" ({ cls := "PageMaker$OpenPage", name := "endsAtBreak", desc := "(IJI)Z" } : Jvm.MethodName) ({ cls := "PageMaker$OpenPage", name := "endsAtBreak", desc := "(IJI)Z" } : Jvm.MethodName)) ∈ TB := tb_a2 176 rfl rfl
theorem tw_417 : (Jvm.Cond.code ({ cls := "PageMaker$OpenPage", name := "endsAtBreak", desc := "(IJI)Z" } : Jvm.MethodName) prog_8_method_5_code (7 : Nat) (Option.some Jvm.ClassFile.FieldType.boolean)) ∈ TB := tb_a2 177 rfl rfl
theorem tw_418 : (Jvm.Cond.methodLink "PageMaker$OpenPage" (65 : Nat) ({ cls := "PageMaker$Totals", name := "badnessOfExcess", desc := "(J)I" } : Jvm.MethodName)) ∈ TB := tb_a2 178 rfl rfl
theorem tw_419 : (Jvm.Cond.instanceMethod ({ cls := "PageMaker$Totals", name := "badnessOfExcess", desc := "(J)I" } : Jvm.MethodName)) ∈ TB := tb_a2 179 rfl rfl
theorem tw_420 : (Jvm.Cond.selects "PageMaker$Totals" ({ cls := "PageMaker$Totals", name := "badnessOfExcess", desc := "(J)I" } : Jvm.MethodName) ({ cls := "PageMaker$Totals", name := "badnessOfExcess", desc := "(J)I" } : Jvm.MethodName)) ∈ TB := tb_a2 180 rfl rfl
theorem tw_421 : (Jvm.Cond.code ({ cls := "PageMaker$Totals", name := "badnessOfExcess", desc := "(J)I" } : Jvm.MethodName) prog_10_method_5_code (3 : Nat) (Option.some Jvm.ClassFile.FieldType.int)) ∈ TB := tb_a2 181 rfl rfl
theorem tw_422 : (Jvm.Cond.methodLink "PageMaker$Totals" (46 : Nat) ({ cls := "PageMaker$Totals", name := "greatestOrder", desc := "()I" } : Jvm.MethodName)) ∈ TB := tb_a2 182 rfl rfl
theorem tw_423 : (Jvm.Cond.instanceMethod ({ cls := "PageMaker$Totals", name := "greatestOrder", desc := "()I" } : Jvm.MethodName)) ∈ TB := tb_a2 183 rfl rfl
theorem tw_424 : (Jvm.Cond.selects "PageMaker$Totals" ({ cls := "PageMaker$Totals", name := "greatestOrder", desc := "()I" } : Jvm.MethodName) ({ cls := "PageMaker$Totals", name := "greatestOrder", desc := "()I" } : Jvm.MethodName)) ∈ TB := tb_a2 184 rfl rfl
theorem tw_425 : (Jvm.Cond.code ({ cls := "PageMaker$Totals", name := "greatestOrder", desc := "()I" } : Jvm.MethodName) prog_10_method_4_code (2 : Nat) (Option.some Jvm.ClassFile.FieldType.int)) ∈ TB := tb_a2 185 rfl rfl
theorem tw_427 : (Jvm.Cond.static ({ cls := "PageMaker", name := "badnessOf", desc := "(JJ)I" } : Jvm.MethodName)) ∈ TB := tb_a2 187 rfl rfl
theorem tw_428 : (Jvm.Cond.code ({ cls := "PageMaker", name := "badnessOf", desc := "(JJ)I" } : Jvm.MethodName) prog_1_method_24_code (6 : Nat) (Option.some Jvm.ClassFile.FieldType.int)) ∈ TB := tb_a2 188 rfl rfl
theorem tw_429 : (Jvm.Cond.constantLong "PageMaker" (250 : Nat) (7230584 : Int64)) ∈ TB := tb_a2 189 rfl rfl
theorem tw_430 : (Jvm.Cond.constantLong "PageMaker" (252 : Nat) (297 : Int64)) ∈ TB := tb_a2 190 rfl rfl
theorem tw_431 : (Jvm.Cond.constantLong "PageMaker" (254 : Nat) (1663497 : Int64)) ∈ TB := tb_a2 191 rfl rfl
theorem tw_432 : (Jvm.Cond.constantLong "PageMaker" (256 : Nat) (1290 : Int64)) ∈ TB := tb_a2 192 rfl rfl
theorem tw_433 : (Jvm.Cond.constantLong "PageMaker" (258 : Nat) (131072 : Int64)) ∈ TB := tb_a2 193 rfl rfl
theorem tw_434 : (Jvm.Cond.constantLong "PageMaker" (260 : Nat) (262144 : Int64)) ∈ TB := tb_a2 194 rfl rfl
theorem tw_435 : (Jvm.Cond.constant "PageMaker$Totals" (54 : Nat) (1073741823 : Int32)) ∈ TB := tb_a2 195 rfl rfl
theorem tw_437 : (Jvm.Cond.static ({ cls := "PageMaker", name := "costOf", desc := "(II)I" } : Jvm.MethodName)) ∈ TB := tb_a2 197 rfl rfl
theorem tw_438 : (Jvm.Cond.code ({ cls := "PageMaker", name := "costOf", desc := "(II)I" } : Jvm.MethodName) prog_1_method_25_code (2 : Nat) (Option.some Jvm.ClassFile.FieldType.int)) ∈ TB := tb_a2 198 rfl rfl
theorem tw_439 : (Jvm.Cond.constant "PageMaker" (85 : Nat) (100000 : Int32)) ∈ TB := tb_a2 199 rfl rfl
theorem tw_440 : (Jvm.Cond.classLink "PageMaker" (72 : Nat) "PageMaker$Glue") ∈ TB := tb_a2 200 rfl rfl
theorem tw_441 : (Jvm.Cond.classLink "PageMaker" (79 : Nat) "PageMaker$Kern") ∈ TB := tb_a2 201 rfl rfl
theorem tw_442 : (Jvm.Cond.methodLink "PageMaker" (209 : Nat) ({ cls := "PageMaker", name := "endOpenPage", desc := "()I" } : Jvm.MethodName)) ∈ TB := tb_a2 202 rfl rfl
theorem tw_444 : (Jvm.Cond.instanceMethod ({ cls := "PageMaker", name := "endOpenPage", desc := "()I" } : Jvm.MethodName)) ∈ TB := tb_a2 204 rfl rfl
theorem tw_445 : (Jvm.Cond.code ({ cls := "PageMaker", name := "endOpenPage", desc := "()I" } : Jvm.MethodName) prog_1_method_22_code (2 : Nat) (Option.some Jvm.ClassFile.FieldType.int)) ∈ TB := tb_a2 205 rfl rfl
theorem tw_446 : (Jvm.Cond.classLink "PageMaker" (100 : Nat) "PageMaker$EndedPage") ∈ TB := tb_a2 206 rfl rfl
theorem tw_447 : (Jvm.Cond.instantiable "PageMaker$EndedPage" (9 : Nat)) ∈ TB := tb_a2 207 rfl rfl
theorem tw_448 : (Jvm.Cond.methodLink "PageMaker" (145 : Nat) ({ cls := "PageMaker", name := "totalsOf", desc := "(LPageMaker$Frame;II)LPageMaker$Totals;" } : Jvm.MethodName)) ∈ TB := tb_a2 208 rfl rfl
theorem tw_450 : (Jvm.Cond.instanceMethod ({ cls := "PageMaker", name := "totalsOf", desc := "(LPageMaker$Frame;II)LPageMaker$Totals;" } : Jvm.MethodName)) ∈ TB := tb_a2 210 rfl rfl
theorem tw_451 : (Jvm.Cond.code ({ cls := "PageMaker", name := "totalsOf", desc := "(LPageMaker$Frame;II)LPageMaker$Totals;" } : Jvm.MethodName) prog_1_method_23_code (7 : Nat) (Option.some (Jvm.ClassFile.FieldType.object "PageMaker$Totals"))) ∈ TB := tb_a2 211 rfl rfl
theorem tw_452 : (Jvm.Cond.classLink "PageMaker" (150 : Nat) "PageMaker$Totals") ∈ TB := tb_a2 212 rfl rfl
theorem tw_454 : (Jvm.Cond.methodLink "PageMaker" (242 : Nat) ({ cls := "PageMaker$Totals", name := "addTopGlue", desc := "(LPageMaker$Frame;LPageMaker$Box;)V" } : Jvm.MethodName)) ∈ TB := tb_a2 214 rfl rfl
theorem tw_455 : (Jvm.Cond.instanceMethod ({ cls := "PageMaker$Totals", name := "addTopGlue", desc := "(LPageMaker$Frame;LPageMaker$Box;)V" } : Jvm.MethodName)) ∈ TB := tb_a2 215 rfl rfl
theorem tw_456 : (Jvm.Cond.selects "PageMaker$Totals" ({ cls := "PageMaker$Totals", name := "addTopGlue", desc := "(LPageMaker$Frame;LPageMaker$Box;)V" } : Jvm.MethodName) ({ cls := "PageMaker$Totals", name := "addTopGlue", desc := "(LPageMaker$Frame;LPageMaker$Box;)V" } : Jvm.MethodName)) ∈ TB := tb_a2 216 rfl rfl
theorem tw_457 : (Jvm.Cond.code ({ cls := "PageMaker$Totals", name := "addTopGlue", desc := "(LPageMaker$Frame;LPageMaker$Box;)V" } : Jvm.MethodName) prog_10_method_2_code (3 : Nat) (Option.none : Option Jvm.ClassFile.FieldType)) ∈ TB := tb_a2 217 rfl rfl
theorem tw_458 : (Jvm.Cond.methodLink "PageMaker$Totals" (36 : Nat) ({ cls := "java/lang/Math", name := "max", desc := "(JJ)J" } : Jvm.MethodName)) ∈ TB := tb_a2 218 rfl rfl
theorem tw_459 : (Jvm.Cond.static ({ cls := "java/lang/Math", name := "max", desc := "(JJ)J" } : Jvm.MethodName)) ∈ TB := tb_a2 219 rfl rfl
theorem tw_460 : (Jvm.Cond.code ({ cls := "java/lang/Math", name := "max", desc := "(JJ)J" } : Jvm.MethodName) prog_19_method_66_code (4 : Nat) (Option.some Jvm.ClassFile.FieldType.long)) ∈ TB := tb_a2 220 rfl rfl
theorem tw_461 : (Jvm.Cond.methodLink "PageMaker$Totals" (42 : Nat) ({ cls := "PageMaker$Totals", name := "addSpace", desc := "(J)V" } : Jvm.MethodName)) ∈ TB := tb_a2 221 rfl rfl
theorem tw_462 : (Jvm.Cond.instanceMethod ({ cls := "PageMaker$Totals", name := "addSpace", desc := "(J)V" } : Jvm.MethodName)) ∈ TB := tb_a2 222 rfl rfl
theorem tw_463 : (Jvm.Cond.selects "PageMaker$Totals" ({ cls := "PageMaker$Totals", name := "addSpace", desc := "(J)V" } : Jvm.MethodName) ({ cls := "PageMaker$Totals", name := "addSpace", desc := "(J)V" } : Jvm.MethodName)) ∈ TB := tb_a2 223 rfl rfl
theorem tw_464 : (Jvm.Cond.code ({ cls := "PageMaker$Totals", name := "addSpace", desc := "(J)V" } : Jvm.MethodName) prog_10_method_3_code (3 : Nat) (Option.none : Option Jvm.ClassFile.FieldType)) ∈ TB := tb_a2 224 rfl rfl
theorem tw_465 : (Jvm.Cond.methodLink "PageMaker" (246 : Nat) ({ cls := "PageMaker$Item", name := "addTo", desc := "(LPageMaker$Totals;LPageMaker$Frame;)V" } : Jvm.MethodName)) ∈ TB := tb_a2 225 rfl rfl
theorem tw_467 : (Jvm.Cond.sameMethod "PageMaker$Item" "PageMaker$Item" "addTo" "(LPageMaker$Totals;LPageMaker$Frame;)V") ∈ TB := tb_a2 227 rfl rfl
theorem tw_468 : (Jvm.Cond.selects "PageMaker$Box" ({ cls := "PageMaker$Item", name := "addTo", desc := "(LPageMaker$Totals;LPageMaker$Frame;)V" } : Jvm.MethodName) ({ cls := "PageMaker$Box", name := "addTo", desc := "(LPageMaker$Totals;LPageMaker$Frame;)V" } : Jvm.MethodName)) ∈ TB := tb_a2 228 rfl rfl
theorem tw_469 : (Jvm.Cond.instanceMethod ({ cls := "PageMaker$Box", name := "addTo", desc := "(LPageMaker$Totals;LPageMaker$Frame;)V" } : Jvm.MethodName)) ∈ TB := tb_a2 229 rfl rfl
theorem tw_470 : (Jvm.Cond.code ({ cls := "PageMaker$Box", name := "addTo", desc := "(LPageMaker$Totals;LPageMaker$Frame;)V" } : Jvm.MethodName) prog_2_method_2_code (3 : Nat) (Option.none : Option Jvm.ClassFile.FieldType)) ∈ TB := tb_a2 230 rfl rfl
theorem tw_471 : (Jvm.Cond.methodLink "PageMaker$Box" (29 : Nat) ({ cls := "java/lang/Math", name := "min", desc := "(II)I" } : Jvm.MethodName)) ∈ TB := tb_a2 231 rfl rfl
theorem tw_472 : (Jvm.Cond.selects "PageMaker$Glue" ({ cls := "PageMaker$Item", name := "addTo", desc := "(LPageMaker$Totals;LPageMaker$Frame;)V" } : Jvm.MethodName) ({ cls := "PageMaker$Glue", name := "addTo", desc := "(LPageMaker$Totals;LPageMaker$Frame;)V" } : Jvm.MethodName)) ∈ TB := tb_a2 232 rfl rfl
theorem tw_473 : (Jvm.Cond.instanceMethod ({ cls := "PageMaker$Glue", name := "addTo", desc := "(LPageMaker$Totals;LPageMaker$Frame;)V" } : Jvm.MethodName)) ∈ TB := tb_a2 233 rfl rfl
theorem tw_474 : (Jvm.Cond.code ({ cls := "PageMaker$Glue", name := "addTo", desc := "(LPageMaker$Totals;LPageMaker$Frame;)V" } : Jvm.MethodName) prog_5_method_2_code (3 : Nat) (Option.none : Option Jvm.ClassFile.FieldType)) ∈ TB := tb_a2 234 rfl rfl
theorem tw_475 : (Jvm.Cond.methodLink "PageMaker$Glue" (24 : Nat) ({ cls := "PageMaker$Totals", name := "addSpace", desc := "(J)V" } : Jvm.MethodName)) ∈ TB := tb_a2 235 rfl rfl
theorem tw_476 : (Jvm.Cond.selects "PageMaker$Kern" ({ cls := "PageMaker$Item", name := "addTo", desc := "(LPageMaker$Totals;LPageMaker$Frame;)V" } : Jvm.MethodName) ({ cls := "PageMaker$Kern", name := "addTo", desc := "(LPageMaker$Totals;LPageMaker$Frame;)V" } : Jvm.MethodName)) ∈ TB := tb_a2 236 rfl rfl
theorem tw_477 : (Jvm.Cond.instanceMethod ({ cls := "PageMaker$Kern", name := "addTo", desc := "(LPageMaker$Totals;LPageMaker$Frame;)V" } : Jvm.MethodName)) ∈ TB := tb_a2 237 rfl rfl
theorem tw_478 : (Jvm.Cond.code ({ cls := "PageMaker$Kern", name := "addTo", desc := "(LPageMaker$Totals;LPageMaker$Frame;)V" } : Jvm.MethodName) prog_7_method_2_code (3 : Nat) (Option.none : Option Jvm.ClassFile.FieldType)) ∈ TB := tb_a2 238 rfl rfl
theorem tw_479 : (Jvm.Cond.methodLink "PageMaker$Kern" (13 : Nat) ({ cls := "PageMaker$Totals", name := "addSpace", desc := "(J)V" } : Jvm.MethodName)) ∈ TB := tb_a2 239 rfl rfl
theorem tw_480 : (Jvm.Cond.selects "PageMaker$Penalty" ({ cls := "PageMaker$Item", name := "addTo", desc := "(LPageMaker$Totals;LPageMaker$Frame;)V" } : Jvm.MethodName) ({ cls := "PageMaker$Penalty", name := "addTo", desc := "(LPageMaker$Totals;LPageMaker$Frame;)V" } : Jvm.MethodName)) ∈ TB := tb_a3 0 rfl rfl
theorem tw_481 : (Jvm.Cond.instanceMethod ({ cls := "PageMaker$Penalty", name := "addTo", desc := "(LPageMaker$Totals;LPageMaker$Frame;)V" } : Jvm.MethodName)) ∈ TB := tb_a3 1 rfl rfl
theorem tw_482 : (Jvm.Cond.code ({ cls := "PageMaker$Penalty", name := "addTo", desc := "(LPageMaker$Totals;LPageMaker$Frame;)V" } : Jvm.MethodName) prog_9_method_2_code (3 : Nat) (Option.none : Option Jvm.ClassFile.FieldType)) ∈ TB := tb_a3 2 rfl rfl
theorem tw_483 : (Jvm.Cond.methodLink "PageMaker" (238 : Nat) ({ cls := "PageMaker$EndedPage", name := "<init>", desc := "(LPageMaker$OpenPage;LPageMaker$Totals;)V" } : Jvm.MethodName)) ∈ TB := tb_a3 3 rfl rfl
theorem tw_484 : (Jvm.Cond.instanceMethod ({ cls := "PageMaker$EndedPage", name := "<init>", desc := "(LPageMaker$OpenPage;LPageMaker$Totals;)V" } : Jvm.MethodName)) ∈ TB := tb_a3 4 rfl rfl
theorem tw_485 : (Jvm.Cond.code ({ cls := "PageMaker$EndedPage", name := "<init>", desc := "(LPageMaker$OpenPage;LPageMaker$Totals;)V" } : Jvm.MethodName) prog_3_method_1_code (3 : Nat) (Option.none : Option Jvm.ClassFile.FieldType)) ∈ TB := tb_a3 5 rfl rfl
theorem tw_486 : (Jvm.Cond.methodLink "PageMaker$EndedPage" (1 : Nat) ({ cls := "java/lang/Object", name := "<init>", desc := "()V" } : Jvm.MethodName)) ∈ TB := tb_a3 6 rfl rfl
theorem tw_487 : (Jvm.Cond.methodLink "PageMaker$EndedPage" (55 : Nat) ({ cls := "PageMaker$Totals", name := "greatestOrder", desc := "()I" } : Jvm.MethodName)) ∈ TB := tb_a3 7 rfl rfl
theorem tw_488 : (Jvm.Cond.fieldLink "PageMaker$EndedPage" (13 : Nat) "PageMaker$EndedPage" "frame" "LPageMaker$Frame;") ∈ TB := tb_a3 8 rfl rfl
theorem tw_489 : (Jvm.Cond.fieldLink "PageMaker" (142 : Nat) "PageMaker$EndedPage" "frame" "LPageMaker$Frame;") ∈ TB := tb_a3 9 rfl rfl
theorem tw_490 : (Jvm.Cond.fieldLink "PageMaker$EndedPage" (20 : Nat) "PageMaker$EndedPage" "first" "I") ∈ TB := tb_a3 10 rfl rfl
theorem tw_491 : (Jvm.Cond.fieldLink "PageMaker" (99 : Nat) "PageMaker$EndedPage" "first" "I") ∈ TB := tb_a3 11 rfl rfl
theorem tw_492 : (Jvm.Cond.fieldLink "PageMaker$EndedPage" (24 : Nat) "PageMaker$EndedPage" "bestItem" "I") ∈ TB := tb_a3 12 rfl rfl
theorem tw_493 : (Jvm.Cond.fieldLink "PageMaker" (105 : Nat) "PageMaker$EndedPage" "bestItem" "I") ∈ TB := tb_a3 13 rfl rfl
theorem tw_494 : (Jvm.Cond.fieldLink "PageMaker$EndedPage" (28 : Nat) "PageMaker$EndedPage" "cost" "I") ∈ TB := tb_a3 14 rfl rfl
theorem tw_495 : (Jvm.Cond.fieldLink "PageMaker" (108 : Nat) "PageMaker$EndedPage" "cost" "I") ∈ TB := tb_a3 15 rfl rfl
theorem tw_496 : (Jvm.Cond.fieldLink "PageMaker$EndedPage" (34 : Nat) "PageMaker$EndedPage" "badness" "I") ∈ TB := tb_a3 16 rfl rfl
theorem tw_497 : (Jvm.Cond.fieldLink "PageMaker" (121 : Nat) "PageMaker$EndedPage" "badness" "I") ∈ TB := tb_a3 17 rfl rfl
theorem tw_498 : (Jvm.Cond.fieldLink "PageMaker$EndedPage" (40 : Nat) "PageMaker$EndedPage" "endingItem" "I") ∈ TB := tb_a3 18 rfl rfl
theorem tw_499 : (Jvm.Cond.fieldLink "PageMaker" (124 : Nat) "PageMaker$EndedPage" "endingItem" "I") ∈ TB := tb_a3 19 rfl rfl
theorem tw_500 : (Jvm.Cond.fieldLink "PageMaker$EndedPage" (52 : Nat) "PageMaker$EndedPage" "excess" "J") ∈ TB := tb_a3 20 rfl rfl
theorem tw_501 : (Jvm.Cond.fieldLink "PageMaker" (111 : Nat) "PageMaker$EndedPage" "excess" "J") ∈ TB := tb_a3 21 rfl rfl
theorem tw_502 : (Jvm.Cond.fieldLink "PageMaker$EndedPage" (59 : Nat) "PageMaker$EndedPage" "order" "I") ∈ TB := tb_a3 22 rfl rfl
theorem tw_503 : (Jvm.Cond.fieldLink "PageMaker" (115 : Nat) "PageMaker$EndedPage" "order" "I") ∈ TB := tb_a3 23 rfl rfl
theorem tw_504 : (Jvm.Cond.fieldLink "PageMaker$EndedPage" (66 : Nat) "PageMaker$EndedPage" "total" "J") ∈ TB := tb_a3 24 rfl rfl
theorem tw_505 : (Jvm.Cond.fieldLink "PageMaker" (118 : Nat) "PageMaker$EndedPage" "total" "J") ∈ TB := tb_a3 25 rfl rfl
theorem tw_506 : (Jvm.Cond.laysFinal "PageMaker$EndedPage" "PageMaker$EndedPage" "frame" "LPageMaker$Frame;") ∈ TB := tb_a3 26 rfl rfl
theorem tw_507 : (Jvm.Cond.soleField "PageMaker$EndedPage" "frame") ∈ TB := tb_a3 27 rfl rfl
theorem tw_508 : (Jvm.Cond.laysFinal "PageMaker$EndedPage" "PageMaker$EndedPage" "first" "I") ∈ TB := tb_a3 28 rfl rfl
theorem tw_509 : (Jvm.Cond.soleField "PageMaker$EndedPage" "first") ∈ TB := tb_a3 29 rfl rfl
theorem tw_510 : (Jvm.Cond.laysFinal "PageMaker$EndedPage" "PageMaker$EndedPage" "bestItem" "I") ∈ TB := tb_a3 30 rfl rfl
theorem tw_511 : (Jvm.Cond.soleField "PageMaker$EndedPage" "bestItem") ∈ TB := tb_a3 31 rfl rfl
theorem tw_512 : (Jvm.Cond.laysFinal "PageMaker$EndedPage" "PageMaker$EndedPage" "cost" "I") ∈ TB := tb_a3 32 rfl rfl
theorem tw_513 : (Jvm.Cond.soleField "PageMaker$EndedPage" "cost") ∈ TB := tb_a3 33 rfl rfl
theorem tw_514 : (Jvm.Cond.laysFinal "PageMaker$EndedPage" "PageMaker$EndedPage" "badness" "I") ∈ TB := tb_a3 34 rfl rfl
theorem tw_515 : (Jvm.Cond.soleField "PageMaker$EndedPage" "badness") ∈ TB := tb_a3 35 rfl rfl
theorem tw_516 : (Jvm.Cond.laysFinal "PageMaker$EndedPage" "PageMaker$EndedPage" "endingItem" "I") ∈ TB := tb_a3 36 rfl rfl
theorem tw_517 : (Jvm.Cond.soleField "PageMaker$EndedPage" "endingItem") ∈ TB := tb_a3 37 rfl rfl
theorem tw_518 : (Jvm.Cond.laysFinal "PageMaker$EndedPage" "PageMaker$EndedPage" "excess" "J") ∈ TB := tb_a3 38 rfl rfl
theorem tw_519 : (Jvm.Cond.soleField "PageMaker$EndedPage" "excess") ∈ TB := tb_a3 39 rfl rfl
theorem tw_520 : (Jvm.Cond.laysFinal "PageMaker$EndedPage" "PageMaker$EndedPage" "order" "I") ∈ TB := tb_a3 40 rfl rfl
theorem tw_521 : (Jvm.Cond.soleField "PageMaker$EndedPage" "order") ∈ TB := tb_a3 41 rfl rfl
theorem tw_522 : (Jvm.Cond.laysFinal "PageMaker$EndedPage" "PageMaker$EndedPage" "total" "J") ∈ TB := tb_a3 42 rfl rfl
theorem tw_523 : (Jvm.Cond.soleField "PageMaker$EndedPage" "total") ∈ TB := tb_a3 43 rfl rfl
theorem tw_524 : (Jvm.Cond.superclass "PageMaker$EndedPage" "java/lang/Object") ∈ TB := tb_a3 44 rfl rfl
theorem tw_525 : (Jvm.Cond.methodLink "PageMaker" (212 : Nat) ({ cls := "PageMaker", name := "takeIn", desc := "(ILPageMaker$Item;)V" } : Jvm.MethodName)) ∈ TB := tb_a3 45 rfl rfl
theorem tw_527 : (Jvm.Cond.instanceMethod ({ cls := "PageMaker", name := "takeIn", desc := "(ILPageMaker$Item;)V" } : Jvm.MethodName)) ∈ TB := tb_a3 47 rfl rfl
theorem tw_528 : (Jvm.Cond.code ({ cls := "PageMaker", name := "takeIn", desc := "(ILPageMaker$Item;)V" } : Jvm.MethodName) prog_1_method_21_code (4 : Nat) (Option.none : Option Jvm.ClassFile.FieldType)) ∈ TB := tb_a3 48 rfl rfl
theorem tw_529 : (Jvm.Cond.methodLink "PageMaker" (230 : Nat) ({ cls := "PageMaker$OpenPage", name := "add", desc := "(LPageMaker$Item;)V" } : Jvm.MethodName)) ∈ TB := tb_a3 49 rfl rfl
theorem tw_530 : (Jvm.Cond.instanceMethod ({ cls := "PageMaker$OpenPage", name := "add", desc := "(LPageMaker$Item;)V" } : Jvm.MethodName)) ∈ TB := tb_a3 50 rfl rfl
theorem tw_531 : (Jvm.Cond.selects "PageMaker$OpenPage" ({ cls := "PageMaker$OpenPage", name := "add", desc := "(LPageMaker$Item;)V" } : Jvm.MethodName) ({ cls := "PageMaker$OpenPage", name := "add", desc := "(LPageMaker$Item;)V" } : Jvm.MethodName)) ∈ TB := tb_a3 51 rfl rfl
theorem tw_532 : (Jvm.Cond.code ({ cls := "PageMaker$OpenPage", name := "add", desc := "(LPageMaker$Item;)V" } : Jvm.MethodName) prog_8_method_4_code (2 : Nat) (Option.none : Option Jvm.ClassFile.FieldType)) ∈ TB := tb_a3 52 rfl rfl
theorem tw_533 : (Jvm.Cond.methodLink "PageMaker$OpenPage" (54 : Nat) ({ cls := "PageMaker$Item", name := "addTo", desc := "(LPageMaker$Totals;LPageMaker$Frame;)V" } : Jvm.MethodName)) ∈ TB := tb_a3 53 rfl rfl
theorem tw_534 : (Jvm.Cond.methodLink "PageMaker" (233 : Nat) ({ cls := "PageMaker$OpenPage", name := "begin", desc := "(ILPageMaker$Box;LPageMaker$Frame;)V" } : Jvm.MethodName)) ∈ TB := tb_a3 54 rfl rfl
theorem tw_535 : (Jvm.Cond.instanceMethod ({ cls := "PageMaker$OpenPage", name := "begin", desc := "(ILPageMaker$Box;LPageMaker$Frame;)V" } : Jvm.MethodName)) ∈ TB := tb_a3 55 rfl rfl
theorem tw_536 : (Jvm.Cond.selects "PageMaker$OpenPage" ({ cls := "PageMaker$OpenPage", name := "begin", desc := "(ILPageMaker$Box;LPageMaker$Frame;)V" } : Jvm.MethodName) ({ cls := "PageMaker$OpenPage", name := "begin", desc := "(ILPageMaker$Box;LPageMaker$Frame;)V" } : Jvm.MethodName)) ∈ TB := tb_a3 56 rfl rfl
theorem tw_537 : (Jvm.Cond.code ({ cls := "PageMaker$OpenPage", name := "begin", desc := "(ILPageMaker$Box;LPageMaker$Frame;)V" } : Jvm.MethodName) prog_8_method_3_code (4 : Nat) (Option.none : Option Jvm.ClassFile.FieldType)) ∈ TB := tb_a3 57 rfl rfl
theorem tw_538 : (Jvm.Cond.methodLink "PageMaker$OpenPage" (43 : Nat) ({ cls := "PageMaker$Totals", name := "addTopGlue", desc := "(LPageMaker$Frame;LPageMaker$Box;)V" } : Jvm.MethodName)) ∈ TB := tb_a3 58 rfl rfl
theorem tw_539 : (Jvm.Cond.methodLink "PageMaker$OpenPage" (47 : Nat) ({ cls := "PageMaker$OpenPage", name := "add", desc := "(LPageMaker$Item;)V" } : Jvm.MethodName)) ∈ TB := tb_a3 59 rfl rfl
theorem tw_540 : (Jvm.Cond.methodLink "PageMakerLaw" (66 : Nat) ({ cls := "PageMakerLaw", name := "glue", desc := "(LPageMaker;IIII[J)I" } : Jvm.MethodName)) ∈ TB := tb_a3 60 rfl rfl
theorem tw_541 : (Jvm.Cond.static ({ cls := "PageMakerLaw", name := "glue", desc := "(LPageMaker;IIII[J)I" } : Jvm.MethodName)) ∈ TB := tb_a3 61 rfl rfl
theorem tw_542 : (Jvm.Cond.codeWith ({ cls := "PageMakerLaw", name := "glue", desc := "(LPageMaker;IIII[J)I" } : Jvm.MethodName) method_5_code (7 : Nat) (Option.some Jvm.ClassFile.FieldType.int) [((0 : Nat), (14 : Nat), (17 : Nat), (13 : Nat)), ((0 : Nat), (14 : Nat), (21 : Nat), (19 : Nat))]) ∈ TB := tb_a3 62 rfl rfl
theorem tw_543 : (Jvm.Cond.methodLink "PageMakerLaw" (21 : Nat) ({ cls := "PageMaker", name := "glue", desc := "(IIII)I" } : Jvm.MethodName)) ∈ TB := tb_a3 63 rfl rfl
theorem tw_544 : (Jvm.Cond.instanceMethod ({ cls := "PageMaker", name := "glue", desc := "(IIII)I" } : Jvm.MethodName)) ∈ TB := tb_a3 64 rfl rfl
theorem tw_545 : (Jvm.Cond.selects "PageMaker" ({ cls := "PageMaker", name := "glue", desc := "(IIII)I" } : Jvm.MethodName) ({ cls := "PageMaker", name := "glue", desc := "(IIII)I" } : Jvm.MethodName)) ∈ TB := tb_a3 65 rfl rfl
theorem tw_546 : (Jvm.Cond.code ({ cls := "PageMaker", name := "glue", desc := "(IIII)I" } : Jvm.MethodName) prog_1_method_4_code (5 : Nat) (Option.some Jvm.ClassFile.FieldType.int)) ∈ TB := tb_a3 66 rfl rfl
theorem tw_549 : (Jvm.Cond.instantiable "PageMaker$Glue" (4 : Nat)) ∈ TB := tb_a3 69 rfl rfl
theorem tw_550 : (Jvm.Cond.methodLink "PageMaker" (74 : Nat) ({ cls := "PageMaker$Glue", name := "<init>", desc := "(IIII)V" } : Jvm.MethodName)) ∈ TB := tb_a3 70 rfl rfl
theorem tw_551 : (Jvm.Cond.instanceMethod ({ cls := "PageMaker$Glue", name := "<init>", desc := "(IIII)V" } : Jvm.MethodName)) ∈ TB := tb_a3 71 rfl rfl
theorem tw_552 : (Jvm.Cond.code ({ cls := "PageMaker$Glue", name := "<init>", desc := "(IIII)V" } : Jvm.MethodName) prog_5_method_1_code (5 : Nat) (Option.none : Option Jvm.ClassFile.FieldType)) ∈ TB := tb_a3 72 rfl rfl
theorem tw_554 : (Jvm.Cond.fieldLink "PageMaker$Glue" (9 : Nat) "PageMaker$Glue" "width" "I") ∈ TB := tb_a3 74 rfl rfl
theorem tw_555 : (Jvm.Cond.fieldLink "PageMaker$Glue" (15 : Nat) "PageMaker$Glue" "stretch" "I") ∈ TB := tb_a3 75 rfl rfl
theorem tw_556 : (Jvm.Cond.fieldLink "PageMaker$Glue" (18 : Nat) "PageMaker$Glue" "order" "I") ∈ TB := tb_a3 76 rfl rfl
theorem tw_557 : (Jvm.Cond.fieldLink "PageMaker$Glue" (21 : Nat) "PageMaker$Glue" "shrink" "I") ∈ TB := tb_a3 77 rfl rfl
theorem tw_558 : (Jvm.Cond.laysFinal "PageMaker$Glue" "PageMaker$Glue" "width" "I") ∈ TB := tb_a3 78 rfl rfl
theorem tw_559 : (Jvm.Cond.soleField "PageMaker$Glue" "width") ∈ TB := tb_a3 79 rfl rfl
theorem tw_560 : (Jvm.Cond.laysFinal "PageMaker$Glue" "PageMaker$Glue" "stretch" "I") ∈ TB := tb_a3 80 rfl rfl
theorem tw_561 : (Jvm.Cond.soleField "PageMaker$Glue" "stretch") ∈ TB := tb_a3 81 rfl rfl
theorem tw_562 : (Jvm.Cond.laysFinal "PageMaker$Glue" "PageMaker$Glue" "order" "I") ∈ TB := tb_a3 82 rfl rfl
theorem tw_563 : (Jvm.Cond.soleField "PageMaker$Glue" "order") ∈ TB := tb_a3 83 rfl rfl
theorem tw_564 : (Jvm.Cond.laysFinal "PageMaker$Glue" "PageMaker$Glue" "shrink" "I") ∈ TB := tb_a3 84 rfl rfl
theorem tw_565 : (Jvm.Cond.soleField "PageMaker$Glue" "shrink") ∈ TB := tb_a3 85 rfl rfl
theorem tw_566 : (Jvm.Cond.superclass "PageMaker$Glue" "PageMaker$Item") ∈ TB := tb_a3 86 rfl rfl
theorem tw_567 : (Jvm.Cond.methodLink "PageMakerLaw" (70 : Nat) ({ cls := "PageMakerLaw", name := "kern", desc := "(LPageMaker;I[J)I" } : Jvm.MethodName)) ∈ TB := tb_a3 87 rfl rfl
theorem tw_568 : (Jvm.Cond.static ({ cls := "PageMakerLaw", name := "kern", desc := "(LPageMaker;I[J)I" } : Jvm.MethodName)) ∈ TB := tb_a3 88 rfl rfl
theorem tw_569 : (Jvm.Cond.codeWith ({ cls := "PageMakerLaw", name := "kern", desc := "(LPageMaker;I[J)I" } : Jvm.MethodName) method_6_code (4 : Nat) (Option.some Jvm.ClassFile.FieldType.int) [((0 : Nat), (9 : Nat), (12 : Nat), (13 : Nat)), ((0 : Nat), (9 : Nat), (15 : Nat), (19 : Nat))]) ∈ TB := tb_a3 89 rfl rfl
theorem tw_570 : (Jvm.Cond.methodLink "PageMakerLaw" (25 : Nat) ({ cls := "PageMaker", name := "kern", desc := "(I)I" } : Jvm.MethodName)) ∈ TB := tb_a3 90 rfl rfl
theorem tw_571 : (Jvm.Cond.instanceMethod ({ cls := "PageMaker", name := "kern", desc := "(I)I" } : Jvm.MethodName)) ∈ TB := tb_a3 91 rfl rfl
theorem tw_572 : (Jvm.Cond.selects "PageMaker" ({ cls := "PageMaker", name := "kern", desc := "(I)I" } : Jvm.MethodName) ({ cls := "PageMaker", name := "kern", desc := "(I)I" } : Jvm.MethodName)) ∈ TB := tb_a3 92 rfl rfl
theorem tw_573 : (Jvm.Cond.code ({ cls := "PageMaker", name := "kern", desc := "(I)I" } : Jvm.MethodName) prog_1_method_5_code (2 : Nat) (Option.some Jvm.ClassFile.FieldType.int)) ∈ TB := tb_a3 93 rfl rfl
theorem tw_575 : (Jvm.Cond.instantiable "PageMaker$Kern" (1 : Nat)) ∈ TB := tb_a3 95 rfl rfl
theorem tw_576 : (Jvm.Cond.methodLink "PageMaker" (81 : Nat) ({ cls := "PageMaker$Kern", name := "<init>", desc := "(I)V" } : Jvm.MethodName)) ∈ TB := tb_a3 96 rfl rfl
theorem tw_577 : (Jvm.Cond.instanceMethod ({ cls := "PageMaker$Kern", name := "<init>", desc := "(I)V" } : Jvm.MethodName)) ∈ TB := tb_a3 97 rfl rfl
theorem tw_578 : (Jvm.Cond.code ({ cls := "PageMaker$Kern", name := "<init>", desc := "(I)V" } : Jvm.MethodName) prog_7_method_1_code (2 : Nat) (Option.none : Option Jvm.ClassFile.FieldType)) ∈ TB := tb_a3 98 rfl rfl
theorem tw_580 : (Jvm.Cond.fieldLink "PageMaker$Kern" (7 : Nat) "PageMaker$Kern" "width" "I") ∈ TB := tb_a3 100 rfl rfl
theorem tw_581 : (Jvm.Cond.laysFinal "PageMaker$Kern" "PageMaker$Kern" "width" "I") ∈ TB := tb_a3 101 rfl rfl
theorem tw_582 : (Jvm.Cond.soleField "PageMaker$Kern" "width") ∈ TB := tb_a3 102 rfl rfl
theorem tw_583 : (Jvm.Cond.superclass "PageMaker$Kern" "PageMaker$Item") ∈ TB := tb_a3 103 rfl rfl
theorem tw_584 : (Jvm.Cond.methodLink "PageMakerLaw" (74 : Nat) ({ cls := "PageMakerLaw", name := "penalty", desc := "(LPageMaker;I[J)I" } : Jvm.MethodName)) ∈ TB := tb_a3 104 rfl rfl
theorem tw_585 : (Jvm.Cond.static ({ cls := "PageMakerLaw", name := "penalty", desc := "(LPageMaker;I[J)I" } : Jvm.MethodName)) ∈ TB := tb_a3 105 rfl rfl
theorem tw_586 : (Jvm.Cond.codeWith ({ cls := "PageMakerLaw", name := "penalty", desc := "(LPageMaker;I[J)I" } : Jvm.MethodName) method_7_code (4 : Nat) (Option.some Jvm.ClassFile.FieldType.int) [((0 : Nat), (9 : Nat), (12 : Nat), (13 : Nat)), ((0 : Nat), (9 : Nat), (15 : Nat), (19 : Nat))]) ∈ TB := tb_a3 106 rfl rfl
theorem tw_587 : (Jvm.Cond.methodLink "PageMakerLaw" (29 : Nat) ({ cls := "PageMaker", name := "penalty", desc := "(I)I" } : Jvm.MethodName)) ∈ TB := tb_a3 107 rfl rfl
theorem tw_588 : (Jvm.Cond.instanceMethod ({ cls := "PageMaker", name := "penalty", desc := "(I)I" } : Jvm.MethodName)) ∈ TB := tb_a3 108 rfl rfl
theorem tw_589 : (Jvm.Cond.selects "PageMaker" ({ cls := "PageMaker", name := "penalty", desc := "(I)I" } : Jvm.MethodName) ({ cls := "PageMaker", name := "penalty", desc := "(I)I" } : Jvm.MethodName)) ∈ TB := tb_a3 109 rfl rfl
theorem tw_590 : (Jvm.Cond.code ({ cls := "PageMaker", name := "penalty", desc := "(I)I" } : Jvm.MethodName) prog_1_method_6_code (2 : Nat) (Option.some Jvm.ClassFile.FieldType.int)) ∈ TB := tb_a3 110 rfl rfl
theorem tw_591 : (Jvm.Cond.constant "PageMaker" (84 : Nat) (-100000 : Int32)) ∈ TB := tb_a3 111 rfl rfl
theorem tw_593 : (Jvm.Cond.instantiable "PageMaker$Penalty" (1 : Nat)) ∈ TB := tb_a3 113 rfl rfl
theorem tw_594 : (Jvm.Cond.methodLink "PageMaker" (90 : Nat) ({ cls := "PageMaker$Penalty", name := "<init>", desc := "(I)V" } : Jvm.MethodName)) ∈ TB := tb_a3 114 rfl rfl
theorem tw_595 : (Jvm.Cond.instanceMethod ({ cls := "PageMaker$Penalty", name := "<init>", desc := "(I)V" } : Jvm.MethodName)) ∈ TB := tb_a3 115 rfl rfl
theorem tw_596 : (Jvm.Cond.code ({ cls := "PageMaker$Penalty", name := "<init>", desc := "(I)V" } : Jvm.MethodName) prog_9_method_1_code (2 : Nat) (Option.none : Option Jvm.ClassFile.FieldType)) ∈ TB := tb_a3 116 rfl rfl
theorem tw_598 : (Jvm.Cond.fieldLink "PageMaker$Penalty" (7 : Nat) "PageMaker$Penalty" "p" "I") ∈ TB := tb_a3 118 rfl rfl
theorem tw_599 : (Jvm.Cond.fieldLink "PageMaker" (220 : Nat) "PageMaker$Penalty" "p" "I") ∈ TB := tb_a3 119 rfl rfl
theorem tw_600 : (Jvm.Cond.laysFinal "PageMaker$Penalty" "PageMaker$Penalty" "p" "I") ∈ TB := tb_a3 120 rfl rfl
theorem tw_601 : (Jvm.Cond.soleField "PageMaker$Penalty" "p") ∈ TB := tb_a3 121 rfl rfl
theorem tw_602 : (Jvm.Cond.superclass "PageMaker$Penalty" "PageMaker$Item") ∈ TB := tb_a3 122 rfl rfl
theorem tw_603 : (Jvm.Cond.methodLink "PageMakerLaw" (85 : Nat) ({ cls := "PageMakerLaw", name := "page", desc := "(LPageMaker;II[J)I" } : Jvm.MethodName)) ∈ TB := tb_a3 123 rfl rfl
theorem tw_604 : (Jvm.Cond.static ({ cls := "PageMakerLaw", name := "page", desc := "(LPageMaker;II[J)I" } : Jvm.MethodName)) ∈ TB := tb_a3 124 rfl rfl
theorem tw_605 : (Jvm.Cond.codeWith ({ cls := "PageMakerLaw", name := "page", desc := "(LPageMaker;II[J)I" } : Jvm.MethodName) method_8_code (5 : Nat) (Option.some Jvm.ClassFile.FieldType.int) [((0 : Nat), (9 : Nat), (12 : Nat), (36 : Nat))]) ∈ TB := tb_a3 125 rfl rfl
theorem tw_606 : (Jvm.Cond.classLink "PageMakerLaw" (36 : Nat) "java/lang/IndexOutOfBoundsException") ∈ TB := tb_a3 126 rfl rfl
theorem tw_607 : (Jvm.Cond.methodLink "PageMakerLaw" (32 : Nat) ({ cls := "PageMaker", name := "page", desc := "(II)J" } : Jvm.MethodName)) ∈ TB := tb_a3 127 rfl rfl
theorem tw_608 : (Jvm.Cond.instanceMethod ({ cls := "PageMaker", name := "page", desc := "(II)J" } : Jvm.MethodName)) ∈ TB := tb_a3 128 rfl rfl
theorem tw_609 : (Jvm.Cond.selects "PageMaker" ({ cls := "PageMaker", name := "page", desc := "(II)J" } : Jvm.MethodName) ({ cls := "PageMaker", name := "page", desc := "(II)J" } : Jvm.MethodName)) ∈ TB := tb_a3 129 rfl rfl
theorem tw_610 : (Jvm.Cond.code ({ cls := "PageMaker", name := "page", desc := "(II)J" } : Jvm.MethodName) prog_1_method_9_code (4 : Nat) (Option.some Jvm.ClassFile.FieldType.long)) ∈ TB := tb_a3 130 rfl rfl
theorem tw_611 : (Jvm.Cond.methodLink "PageMaker" (95 : Nat) ({ cls := "PageMaker", name := "endedPage", desc := "(I)LPageMaker$EndedPage;" } : Jvm.MethodName)) ∈ TB := tb_a3 131 rfl rfl
theorem tw_613 : (Jvm.Cond.instanceMethod ({ cls := "PageMaker", name := "endedPage", desc := "(I)LPageMaker$EndedPage;" } : Jvm.MethodName)) ∈ TB := tb_a3 133 rfl rfl
theorem tw_614 : (Jvm.Cond.code ({ cls := "PageMaker", name := "endedPage", desc := "(I)LPageMaker$EndedPage;" } : Jvm.MethodName) prog_1_method_16_code (2 : Nat) (Option.some (Jvm.ClassFile.FieldType.object "PageMaker$EndedPage"))) ∈ TB := tb_a3 134 rfl rfl
theorem tw_615 : (Jvm.Cond.classLink "PageMaker" (127 : Nat) "java/lang/IndexOutOfBoundsException") ∈ TB := tb_a3 135 rfl rfl
theorem tw_616 : (Jvm.Cond.instantiable "java/lang/IndexOutOfBoundsException" (6 : Nat)) ∈ TB := tb_a3 136 rfl rfl
theorem tw_618 : (Jvm.Cond.selects "java/lang/IndexOutOfBoundsException" ({ cls := "java/lang/Throwable", name := "fillInStackTrace", desc := "(I)Ljava/lang/Throwable;" } : Jvm.MethodName) ({ cls := "java/lang/Throwable", name := "fillInStackTrace", desc := "(I)Ljava/lang/Throwable;" } : Jvm.MethodName)) ∈ TB := tb_a3 138 rfl rfl
theorem tw_619 : (Jvm.Cond.lays "java/lang/IndexOutOfBoundsException" "java/lang/Throwable" "cause" "Ljava/lang/Throwable;") ∈ TB := tb_a3 139 rfl rfl
theorem tw_620 : (Jvm.Cond.lays "java/lang/IndexOutOfBoundsException" "java/lang/Throwable" "stackTrace" "[Ljava/lang/StackTraceElement;") ∈ TB := tb_a3 140 rfl rfl
theorem tw_621 : (Jvm.Cond.lays "java/lang/IndexOutOfBoundsException" "java/lang/Throwable" "suppressedExceptions" "Ljava/util/List;") ∈ TB := tb_a3 141 rfl rfl
theorem tw_622 : (Jvm.Cond.lays "java/lang/IndexOutOfBoundsException" "java/lang/Throwable" "detailMessage" "Ljava/lang/String;") ∈ TB := tb_a3 142 rfl rfl
theorem tw_623 : (Jvm.Cond.lays "java/lang/IndexOutOfBoundsException" "java/lang/Throwable" "backtrace" "Ljava/lang/Object;") ∈ TB := tb_a3 143 rfl rfl
theorem tw_625 : (Jvm.Cond.methodLink "PageMaker" (131 : Nat) ({ cls := "java/lang/IndexOutOfBoundsException", name := "<init>", desc := "(Ljava/lang/String;)V" } : Jvm.MethodName)) ∈ TB := tb_a3 145 rfl rfl
theorem tw_626 : (Jvm.Cond.instanceMethod ({ cls := "java/lang/IndexOutOfBoundsException", name := "<init>", desc := "(Ljava/lang/String;)V" } : Jvm.MethodName)) ∈ TB := tb_a3 146 rfl rfl
theorem tw_627 : (Jvm.Cond.code ({ cls := "java/lang/IndexOutOfBoundsException", name := "<init>", desc := "(Ljava/lang/String;)V" } : Jvm.MethodName) prog_17_method_2_code (2 : Nat) (Option.none : Option Jvm.ClassFile.FieldType)) ∈ TB := tb_a3 147 rfl rfl
theorem tw_628 : (Jvm.Cond.methodLink "java/lang/IndexOutOfBoundsException" (7 : Nat) ({ cls := "java/lang/RuntimeException", name := "<init>", desc := "(Ljava/lang/String;)V" } : Jvm.MethodName)) ∈ TB := tb_a3 148 rfl rfl
theorem tw_629 : (Jvm.Cond.lays "java/lang/IndexOutOfBoundsException" "java/lang/Throwable" "depth" "I") ∈ TB := tb_a3 149 rfl rfl
theorem tw_630 : (Jvm.Cond.superclass "java/lang/IndexOutOfBoundsException" "java/lang/RuntimeException") ∈ TB := tb_a3 150 rfl rfl
theorem tw_632 : (Jvm.Cond.methodLink "PageMakerLaw" (89 : Nat) ({ cls := "PageMakerLaw", name := "stands", desc := "(LPageMaker;II[J)I" } : Jvm.MethodName)) ∈ TB := tb_a3 152 rfl rfl
theorem tw_633 : (Jvm.Cond.static ({ cls := "PageMakerLaw", name := "stands", desc := "(LPageMaker;II[J)I" } : Jvm.MethodName)) ∈ TB := tb_a3 153 rfl rfl
theorem tw_634 : (Jvm.Cond.codeWith ({ cls := "PageMakerLaw", name := "stands", desc := "(LPageMaker;II[J)I" } : Jvm.MethodName) method_9_code (5 : Nat) (Option.some Jvm.ClassFile.FieldType.int) [((0 : Nat), (9 : Nat), (12 : Nat), (36 : Nat))]) ∈ TB := tb_a3 154 rfl rfl
theorem tw_635 : (Jvm.Cond.methodLink "PageMakerLaw" (38 : Nat) ({ cls := "PageMaker", name := "stands", desc := "(II)J" } : Jvm.MethodName)) ∈ TB := tb_a3 155 rfl rfl
theorem tw_636 : (Jvm.Cond.instanceMethod ({ cls := "PageMaker", name := "stands", desc := "(II)J" } : Jvm.MethodName)) ∈ TB := tb_a3 156 rfl rfl
theorem tw_637 : (Jvm.Cond.selects "PageMaker" ({ cls := "PageMaker", name := "stands", desc := "(II)J" } : Jvm.MethodName) ({ cls := "PageMaker", name := "stands", desc := "(II)J" } : Jvm.MethodName)) ∈ TB := tb_a3 157 rfl rfl
theorem tw_638 : (Jvm.Cond.code ({ cls := "PageMaker", name := "stands", desc := "(II)J" } : Jvm.MethodName) prog_1_method_10_code (6 : Nat) (Option.some Jvm.ClassFile.FieldType.long)) ∈ TB := tb_a3 158 rfl rfl
theorem tw_639 : (Jvm.Cond.methodLink "PageMaker" (135 : Nat) ({ cls := "PageMaker$EndedPage", name := "holds", desc := "(I)Z" } : Jvm.MethodName)) ∈ TB := tb_a3 159 rfl rfl
theorem tw_640 : (Jvm.Cond.instanceMethod ({ cls := "PageMaker$EndedPage", name := "holds", desc := "(I)Z" } : Jvm.MethodName)) ∈ TB := tb_a3 160 rfl rfl
theorem tw_641 : (Jvm.Cond.selects "PageMaker$EndedPage" ({ cls := "PageMaker$EndedPage", name := "holds", desc := "(I)Z" } : Jvm.MethodName) ({ cls := "PageMaker$EndedPage", name := "holds", desc := "(I)Z" } : Jvm.MethodName)) ∈ TB := tb_a3 161 rfl rfl
theorem tw_642 : (Jvm.Cond.code ({ cls := "PageMaker$EndedPage", name := "holds", desc := "(I)Z" } : Jvm.MethodName) prog_3_method_2_code (2 : Nat) (Option.some Jvm.ClassFile.FieldType.boolean)) ∈ TB := tb_a3 162 rfl rfl
theorem tw_643 : (Jvm.Cond.methodLink "PageMaker" (160 : Nat) ({ cls := "PageMaker$EndedPage", name := "shareOf", desc := "(LPageMaker$Totals;)J" } : Jvm.MethodName)) ∈ TB := tb_a3 163 rfl rfl
theorem tw_644 : (Jvm.Cond.instanceMethod ({ cls := "PageMaker$EndedPage", name := "shareOf", desc := "(LPageMaker$Totals;)J" } : Jvm.MethodName)) ∈ TB := tb_a3 164 rfl rfl
theorem tw_645 : (Jvm.Cond.selects "PageMaker$EndedPage" ({ cls := "PageMaker$EndedPage", name := "shareOf", desc := "(LPageMaker$Totals;)J" } : Jvm.MethodName) ({ cls := "PageMaker$EndedPage", name := "shareOf", desc := "(LPageMaker$Totals;)J" } : Jvm.MethodName)) ∈ TB := tb_a3 165 rfl rfl
theorem tw_646 : (Jvm.Cond.code ({ cls := "PageMaker$EndedPage", name := "shareOf", desc := "(LPageMaker$Totals;)J" } : Jvm.MethodName) prog_3_method_3_code (2 : Nat) (Option.some Jvm.ClassFile.FieldType.long)) ∈ TB := tb_a3 166 rfl rfl
theorem tw_648 : (Jvm.Cond.static ({ cls := "PageMaker", name := "proportion", desc := "(JJJ)J" } : Jvm.MethodName)) ∈ TB := tb_a3 168 rfl rfl
theorem tw_649 : (Jvm.Cond.code ({ cls := "PageMaker", name := "proportion", desc := "(JJJ)J" } : Jvm.MethodName) prog_1_method_26_code (13 : Nat) (Option.some Jvm.ClassFile.FieldType.long)) ∈ TB := tb_a3 169 rfl rfl
theorem tw_650 : (Jvm.Cond.constantLong "PageMaker" (262 : Nat) (65535 : Int64)) ∈ TB := tb_a3 170 rfl rfl
theorem tw_651 : (Jvm.Cond.constantLong "PageMaker" (264 : Nat) (2 : Int64)) ∈ TB := tb_a3 171 rfl rfl
theorem tw_652 : (Jvm.Cond.methodLink "PageMaker$EndedPage" (78 : Nat) ({ cls := "java/lang/Math", name := "min", desc := "(JJ)J" } : Jvm.MethodName)) ∈ TB := tb_a3 172 rfl rfl
theorem tw_653 : (Jvm.Cond.static ({ cls := "java/lang/Math", name := "min", desc := "(JJ)J" } : Jvm.MethodName)) ∈ TB := tb_a3 173 rfl rfl
theorem tw_654 : (Jvm.Cond.code ({ cls := "java/lang/Math", name := "min", desc := "(JJ)J" } : Jvm.MethodName) prog_19_method_70_code (4 : Nat) (Option.some Jvm.ClassFile.FieldType.long)) ∈ TB := tb_a3 174 rfl rfl
theorem tw_656 : (Jvm.Cond.methodLink "PageMakerLaw" (92 : Nat) ({ cls := "PageMakerLaw", name := "where", desc := "(LPageMaker;I[J)I" } : Jvm.MethodName)) ∈ TB := tb_a3 176 rfl rfl
theorem tw_657 : (Jvm.Cond.static ({ cls := "PageMakerLaw", name := "where", desc := "(LPageMaker;I[J)I" } : Jvm.MethodName)) ∈ TB := tb_a3 177 rfl rfl
theorem tw_658 : (Jvm.Cond.codeWith ({ cls := "PageMakerLaw", name := "where", desc := "(LPageMaker;I[J)I" } : Jvm.MethodName) method_10_code (4 : Nat) (Option.some Jvm.ClassFile.FieldType.int) [((0 : Nat), (9 : Nat), (12 : Nat), (36 : Nat))]) ∈ TB := tb_a3 178 rfl rfl
theorem tw_659 : (Jvm.Cond.methodLink "PageMakerLaw" (41 : Nat) ({ cls := "PageMaker", name := "where", desc := "(I)I" } : Jvm.MethodName)) ∈ TB := tb_a3 179 rfl rfl
theorem tw_660 : (Jvm.Cond.instanceMethod ({ cls := "PageMaker", name := "where", desc := "(I)I" } : Jvm.MethodName)) ∈ TB := tb_a3 180 rfl rfl
theorem tw_661 : (Jvm.Cond.selects "PageMaker" ({ cls := "PageMaker", name := "where", desc := "(I)I" } : Jvm.MethodName) ({ cls := "PageMaker", name := "where", desc := "(I)I" } : Jvm.MethodName)) ∈ TB := tb_a3 181 rfl rfl
theorem tw_662 : (Jvm.Cond.code ({ cls := "PageMaker", name := "where", desc := "(I)I" } : Jvm.MethodName) prog_1_method_11_code (3 : Nat) (Option.some Jvm.ClassFile.FieldType.int)) ∈ TB := tb_a3 182 rfl rfl
theorem tw_664 : (Jvm.Cond.methodLink "PageMakerLaw" (95 : Nat) ({ cls := "PageMakerLaw", name := "open", desc := "(LPageMaker;I[J)I" } : Jvm.MethodName)) ∈ TB := tb_a3 184 rfl rfl
theorem tw_665 : (Jvm.Cond.static ({ cls := "PageMakerLaw", name := "open", desc := "(LPageMaker;I[J)I" } : Jvm.MethodName)) ∈ TB := tb_a3 185 rfl rfl
theorem tw_666 : (Jvm.Cond.codeWith ({ cls := "PageMakerLaw", name := "open", desc := "(LPageMaker;I[J)I" } : Jvm.MethodName) method_11_code (4 : Nat) (Option.some Jvm.ClassFile.FieldType.int) [((0 : Nat), (8 : Nat), (11 : Nat), (36 : Nat))]) ∈ TB := tb_a3 186 rfl rfl
theorem tw_667 : (Jvm.Cond.methodLink "PageMakerLaw" (44 : Nat) ({ cls := "PageMaker", name := "open", desc := "(I)J" } : Jvm.MethodName)) ∈ TB := tb_a3 187 rfl rfl
theorem tw_668 : (Jvm.Cond.instanceMethod ({ cls := "PageMaker", name := "open", desc := "(I)J" } : Jvm.MethodName)) ∈ TB := tb_a3 188 rfl rfl
theorem tw_669 : (Jvm.Cond.selects "PageMaker" ({ cls := "PageMaker", name := "open", desc := "(I)J" } : Jvm.MethodName) ({ cls := "PageMaker", name := "open", desc := "(I)J" } : Jvm.MethodName)) ∈ TB := tb_a3 189 rfl rfl
theorem tw_670 : (Jvm.Cond.code ({ cls := "PageMaker", name := "open", desc := "(I)J" } : Jvm.MethodName) prog_1_method_12_code (2 : Nat) (Option.some Jvm.ClassFile.FieldType.long)) ∈ TB := tb_a3 190 rfl rfl
theorem tw_672 : (Jvm.Cond.classLink "PageMakerLaw" (49 : Nat) "PageMakerModel") ∈ TB := tb_a3 192 rfl rfl
theorem tw_673 : (Jvm.Cond.instantiable "PageMakerModel" (26 : Nat)) ∈ TB := tb_a3 193 rfl rfl
theorem tw_674 : (Jvm.Cond.methodLink "PageMakerLaw" (51 : Nat) ({ cls := "PageMakerModel", name := "<init>", desc := "()V" } : Jvm.MethodName)) ∈ TB := tb_a3 194 rfl rfl
theorem tw_675 : (Jvm.Cond.instanceMethod ({ cls := "PageMakerModel", name := "<init>", desc := "()V" } : Jvm.MethodName)) ∈ TB := tb_a3 195 rfl rfl
theorem tw_676 : (Jvm.Cond.code ({ cls := "PageMakerModel", name := "<init>", desc := "()V" } : Jvm.MethodName) prog_12_method_1_code (1 : Nat) (Option.none : Option Jvm.ClassFile.FieldType)) ∈ TB := tb_a3 196 rfl rfl
theorem tw_677 : (Jvm.Cond.methodLink "PageMakerModel" (1 : Nat) ({ cls := "java/lang/Object", name := "<init>", desc := "()V" } : Jvm.MethodName)) ∈ TB := tb_a3 197 rfl rfl
theorem tw_678 : (Jvm.Cond.constant "PageMakerModel" (25 : Nat) (42152922 : Int32)) ∈ TB := tb_a3 198 rfl rfl
theorem tw_679 : (Jvm.Cond.constant "PageMakerModel" (30 : Nat) (655360 : Int32)) ∈ TB := tb_a3 199 rfl rfl
theorem tw_680 : (Jvm.Cond.constant "PageMakerModel" (34 : Nat) (262144 : Int32)) ∈ TB := tb_a3 200 rfl rfl
theorem tw_681 : (Jvm.Cond.constant "PageMakerModel" (66 : Nat) (1073741823 : Int32)) ∈ TB := tb_a3 201 rfl rfl
theorem tw_682 : (Jvm.Cond.fieldLink "PageMakerModel" (70 : Nat) "PageMakerModel" "thrown" "I") ∈ TB := tb_a3 202 rfl rfl
theorem tw_683 : (Jvm.Cond.fieldLink "PageMakerModel" (7 : Nat) "PageMakerModel" "kinds" "[I") ∈ TB := tb_a3 203 rfl rfl
theorem tw_684 : (Jvm.Cond.fieldLink "PageMakerModel" (13 : Nat) "PageMakerModel" "one" "[I") ∈ TB := tb_a3 204 rfl rfl
theorem tw_685 : (Jvm.Cond.fieldLink "PageMakerModel" (16 : Nat) "PageMakerModel" "two" "[I") ∈ TB := tb_a3 205 rfl rfl
theorem tw_686 : (Jvm.Cond.fieldLink "PageMakerModel" (19 : Nat) "PageMakerModel" "three" "[I") ∈ TB := tb_a3 206 rfl rfl
theorem tw_687 : (Jvm.Cond.fieldLink "PageMakerModel" (22 : Nat) "PageMakerModel" "order" "[I") ∈ TB := tb_a3 207 rfl rfl
theorem tw_688 : (Jvm.Cond.fieldLink "PageMakerModel" (124 : Nat) "PageMakerModel" "count" "I") ∈ TB := tb_a3 208 rfl rfl
theorem tw_689 : (Jvm.Cond.fieldLink "PageMakerModel" (26 : Nat) "PageMakerModel" "height" "I") ∈ TB := tb_a3 209 rfl rfl
theorem tw_690 : (Jvm.Cond.fieldLink "PageMakerModel" (31 : Nat) "PageMakerModel" "top" "I") ∈ TB := tb_a3 210 rfl rfl
theorem tw_691 : (Jvm.Cond.fieldLink "PageMakerModel" (35 : Nat) "PageMakerModel" "greatest" "I") ∈ TB := tb_a3 211 rfl rfl
theorem tw_692 : (Jvm.Cond.fieldLink "PageMakerModel" (38 : Nat) "PageMakerModel" "heights" "[I") ∈ TB := tb_a3 212 rfl rfl
theorem tw_693 : (Jvm.Cond.fieldLink "PageMakerModel" (41 : Nat) "PageMakerModel" "tops" "[I") ∈ TB := tb_a3 213 rfl rfl
theorem tw_694 : (Jvm.Cond.fieldLink "PageMakerModel" (44 : Nat) "PageMakerModel" "depths" "[I") ∈ TB := tb_a3 214 rfl rfl
theorem tw_695 : (Jvm.Cond.fieldLink "PageMakerModel" (47 : Nat) "PageMakerModel" "firsts" "[I") ∈ TB := tb_a3 215 rfl rfl
theorem tw_696 : (Jvm.Cond.fieldLink "PageMakerModel" (50 : Nat) "PageMakerModel" "ends" "[I") ∈ TB := tb_a3 216 rfl rfl
theorem tw_697 : (Jvm.Cond.fieldLink "PageMakerModel" (53 : Nat) "PageMakerModel" "costs" "[I") ∈ TB := tb_a3 217 rfl rfl
theorem tw_698 : (Jvm.Cond.fieldLink "PageMakerModel" (56 : Nat) "PageMakerModel" "enders" "[I") ∈ TB := tb_a3 218 rfl rfl
theorem tw_699 : (Jvm.Cond.fieldLink "PageMakerModel" (134 : Nat) "PageMakerModel" "pages" "I") ∈ TB := tb_a3 219 rfl rfl
theorem tw_700 : (Jvm.Cond.fieldLink "PageMakerModel" (131 : Nat) "PageMakerModel" "begin" "I") ∈ TB := tb_a3 220 rfl rfl
theorem tw_701 : (Jvm.Cond.fieldLink "PageMakerModel" (127 : Nat) "PageMakerModel" "isOpen" "Z") ∈ TB := tb_a3 221 rfl rfl
theorem tw_702 : (Jvm.Cond.fieldLink "PageMakerModel" (63 : Nat) "PageMakerModel" "best" "I") ∈ TB := tb_a3 222 rfl rfl
theorem tw_703 : (Jvm.Cond.fieldLink "PageMakerModel" (67 : Nat) "PageMakerModel" "least" "I") ∈ TB := tb_a3 223 rfl rfl
theorem tw_704 : (Jvm.Cond.fieldLink "PageMakerModel" (81 : Nat) "PageMakerModel" "length" "J") ∈ TB := tb_a3 224 rfl rfl
theorem tw_705 : (Jvm.Cond.fieldLink "PageMakerModel" (85 : Nat) "PageMakerModel" "depth" "J") ∈ TB := tb_a3 225 rfl rfl
theorem tw_706 : (Jvm.Cond.fieldLink "PageMakerModel" (59 : Nat) "PageMakerModel" "stretch" "[J") ∈ TB := tb_a3 226 rfl rfl
theorem tw_707 : (Jvm.Cond.fieldLink "PageMakerModel" (88 : Nat) "PageMakerModel" "shrink" "J") ∈ TB := tb_a3 227 rfl rfl
theorem tw_708 : (Jvm.Cond.lays "PageMakerModel" "PageMakerModel" "thrown" "I") ∈ TB := tb_a3 228 rfl rfl
theorem tw_709 : (Jvm.Cond.soleField "PageMakerModel" "thrown") ∈ TB := tb_a3 229 rfl rfl
theorem tw_710 : (Jvm.Cond.laysFinal "PageMakerModel" "PageMakerModel" "kinds" "[I") ∈ TB := tb_a3 230 rfl rfl
theorem tw_711 : (Jvm.Cond.soleField "PageMakerModel" "kinds") ∈ TB := tb_a3 231 rfl rfl
theorem tw_712 : (Jvm.Cond.laysFinal "PageMakerModel" "PageMakerModel" "one" "[I") ∈ TB := tb_a3 232 rfl rfl
theorem tw_713 : (Jvm.Cond.soleField "PageMakerModel" "one") ∈ TB := tb_a3 233 rfl rfl
theorem tw_714 : (Jvm.Cond.laysFinal "PageMakerModel" "PageMakerModel" "two" "[I") ∈ TB := tb_a3 234 rfl rfl
theorem tw_715 : (Jvm.Cond.soleField "PageMakerModel" "two") ∈ TB := tb_a3 235 rfl rfl
theorem tw_716 : (Jvm.Cond.laysFinal "PageMakerModel" "PageMakerModel" "three" "[I") ∈ TB := tb_a3 236 rfl rfl
theorem tw_717 : (Jvm.Cond.soleField "PageMakerModel" "three") ∈ TB := tb_a3 237 rfl rfl
theorem tw_718 : (Jvm.Cond.laysFinal "PageMakerModel" "PageMakerModel" "order" "[I") ∈ TB := tb_a3 238 rfl rfl
theorem tw_719 : (Jvm.Cond.soleField "PageMakerModel" "order") ∈ TB := tb_a3 239 rfl rfl
theorem tw_720 : (Jvm.Cond.lays "PageMakerModel" "PageMakerModel" "count" "I") ∈ TB := tb_a4 0 rfl rfl
theorem tw_721 : (Jvm.Cond.soleField "PageMakerModel" "count") ∈ TB := tb_a4 1 rfl rfl
theorem tw_722 : (Jvm.Cond.lays "PageMakerModel" "PageMakerModel" "height" "I") ∈ TB := tb_a4 2 rfl rfl
theorem tw_723 : (Jvm.Cond.soleField "PageMakerModel" "height") ∈ TB := tb_a4 3 rfl rfl
theorem tw_724 : (Jvm.Cond.lays "PageMakerModel" "PageMakerModel" "top" "I") ∈ TB := tb_a4 4 rfl rfl
theorem tw_725 : (Jvm.Cond.soleField "PageMakerModel" "top") ∈ TB := tb_a4 5 rfl rfl
theorem tw_726 : (Jvm.Cond.lays "PageMakerModel" "PageMakerModel" "greatest" "I") ∈ TB := tb_a4 6 rfl rfl
theorem tw_727 : (Jvm.Cond.soleField "PageMakerModel" "greatest") ∈ TB := tb_a4 7 rfl rfl
theorem tw_728 : (Jvm.Cond.laysFinal "PageMakerModel" "PageMakerModel" "heights" "[I") ∈ TB := tb_a4 8 rfl rfl
theorem tw_729 : (Jvm.Cond.soleField "PageMakerModel" "heights") ∈ TB := tb_a4 9 rfl rfl
theorem tw_730 : (Jvm.Cond.laysFinal "PageMakerModel" "PageMakerModel" "tops" "[I") ∈ TB := tb_a4 10 rfl rfl
theorem tw_731 : (Jvm.Cond.soleField "PageMakerModel" "tops") ∈ TB := tb_a4 11 rfl rfl
theorem tw_732 : (Jvm.Cond.laysFinal "PageMakerModel" "PageMakerModel" "depths" "[I") ∈ TB := tb_a4 12 rfl rfl
theorem tw_733 : (Jvm.Cond.soleField "PageMakerModel" "depths") ∈ TB := tb_a4 13 rfl rfl
theorem tw_734 : (Jvm.Cond.laysFinal "PageMakerModel" "PageMakerModel" "firsts" "[I") ∈ TB := tb_a4 14 rfl rfl
theorem tw_735 : (Jvm.Cond.soleField "PageMakerModel" "firsts") ∈ TB := tb_a4 15 rfl rfl
theorem tw_736 : (Jvm.Cond.laysFinal "PageMakerModel" "PageMakerModel" "ends" "[I") ∈ TB := tb_a4 16 rfl rfl
theorem tw_737 : (Jvm.Cond.soleField "PageMakerModel" "ends") ∈ TB := tb_a4 17 rfl rfl
theorem tw_738 : (Jvm.Cond.laysFinal "PageMakerModel" "PageMakerModel" "costs" "[I") ∈ TB := tb_a4 18 rfl rfl
theorem tw_739 : (Jvm.Cond.soleField "PageMakerModel" "costs") ∈ TB := tb_a4 19 rfl rfl
theorem tw_740 : (Jvm.Cond.laysFinal "PageMakerModel" "PageMakerModel" "enders" "[I") ∈ TB := tb_a4 20 rfl rfl
theorem tw_741 : (Jvm.Cond.soleField "PageMakerModel" "enders") ∈ TB := tb_a4 21 rfl rfl
theorem tw_742 : (Jvm.Cond.lays "PageMakerModel" "PageMakerModel" "pages" "I") ∈ TB := tb_a4 22 rfl rfl
theorem tw_743 : (Jvm.Cond.soleField "PageMakerModel" "pages") ∈ TB := tb_a4 23 rfl rfl
theorem tw_744 : (Jvm.Cond.lays "PageMakerModel" "PageMakerModel" "begin" "I") ∈ TB := tb_a4 24 rfl rfl
theorem tw_745 : (Jvm.Cond.soleField "PageMakerModel" "begin") ∈ TB := tb_a4 25 rfl rfl
theorem tw_746 : (Jvm.Cond.lays "PageMakerModel" "PageMakerModel" "isOpen" "Z") ∈ TB := tb_a4 26 rfl rfl
theorem tw_747 : (Jvm.Cond.soleField "PageMakerModel" "isOpen") ∈ TB := tb_a4 27 rfl rfl
theorem tw_748 : (Jvm.Cond.lays "PageMakerModel" "PageMakerModel" "best" "I") ∈ TB := tb_a4 28 rfl rfl
theorem tw_749 : (Jvm.Cond.soleField "PageMakerModel" "best") ∈ TB := tb_a4 29 rfl rfl
theorem tw_750 : (Jvm.Cond.lays "PageMakerModel" "PageMakerModel" "least" "I") ∈ TB := tb_a4 30 rfl rfl
theorem tw_751 : (Jvm.Cond.soleField "PageMakerModel" "least") ∈ TB := tb_a4 31 rfl rfl
theorem tw_752 : (Jvm.Cond.lays "PageMakerModel" "PageMakerModel" "length" "J") ∈ TB := tb_a4 32 rfl rfl
theorem tw_753 : (Jvm.Cond.soleField "PageMakerModel" "length") ∈ TB := tb_a4 33 rfl rfl
theorem tw_754 : (Jvm.Cond.lays "PageMakerModel" "PageMakerModel" "depth" "J") ∈ TB := tb_a4 34 rfl rfl
theorem tw_755 : (Jvm.Cond.soleField "PageMakerModel" "depth") ∈ TB := tb_a4 35 rfl rfl
theorem tw_756 : (Jvm.Cond.laysFinal "PageMakerModel" "PageMakerModel" "stretch" "[J") ∈ TB := tb_a4 36 rfl rfl
theorem tw_757 : (Jvm.Cond.soleField "PageMakerModel" "stretch") ∈ TB := tb_a4 37 rfl rfl
theorem tw_758 : (Jvm.Cond.lays "PageMakerModel" "PageMakerModel" "shrink" "J") ∈ TB := tb_a4 38 rfl rfl
theorem tw_759 : (Jvm.Cond.soleField "PageMakerModel" "shrink") ∈ TB := tb_a4 39 rfl rfl
theorem tw_760 : (Jvm.Cond.superclass "PageMakerModel" "java/lang/Object") ∈ TB := tb_a4 40 rfl rfl
theorem tw_761 : (Jvm.Cond.arrayClass Jvm.ClassFile.FieldType.int) ∈ TB := tb_a4 41 rfl rfl
theorem tw_762 : (Jvm.Cond.methodLink "PageMakerLaw" (58 : Nat) ({ cls := "PageMakerModel", name := "thrown", desc := "()I" } : Jvm.MethodName)) ∈ TB := tb_a4 42 rfl rfl
theorem tw_763 : (Jvm.Cond.instanceMethod ({ cls := "PageMakerModel", name := "thrown", desc := "()I" } : Jvm.MethodName)) ∈ TB := tb_a4 43 rfl rfl
theorem tw_764 : (Jvm.Cond.selects "PageMakerModel" ({ cls := "PageMakerModel", name := "thrown", desc := "()I" } : Jvm.MethodName) ({ cls := "PageMakerModel", name := "thrown", desc := "()I" } : Jvm.MethodName)) ∈ TB := tb_a4 44 rfl rfl
theorem tw_765 : (Jvm.Cond.code ({ cls := "PageMakerModel", name := "thrown", desc := "()I" } : Jvm.MethodName) prog_12_method_2_code (1 : Nat) (Option.some Jvm.ClassFile.FieldType.int)) ∈ TB := tb_a4 45 rfl rfl
theorem tw_766 : (Jvm.Cond.methodLink "PageMakerLaw" (57 : Nat) ({ cls := "PageMakerModel", name := "frame", desc := "(III)V" } : Jvm.MethodName)) ∈ TB := tb_a4 46 rfl rfl
theorem tw_767 : (Jvm.Cond.instanceMethod ({ cls := "PageMakerModel", name := "frame", desc := "(III)V" } : Jvm.MethodName)) ∈ TB := tb_a4 47 rfl rfl
theorem tw_768 : (Jvm.Cond.selects "PageMakerModel" ({ cls := "PageMakerModel", name := "frame", desc := "(III)V" } : Jvm.MethodName) ({ cls := "PageMakerModel", name := "frame", desc := "(III)V" } : Jvm.MethodName)) ∈ TB := tb_a4 48 rfl rfl
theorem tw_769 : (Jvm.Cond.code ({ cls := "PageMakerModel", name := "frame", desc := "(III)V" } : Jvm.MethodName) prog_12_method_5_code (4 : Nat) (Option.none : Option Jvm.ClassFile.FieldType)) ∈ TB := tb_a4 49 rfl rfl
theorem tw_770 : (Jvm.Cond.methodLink "PageMakerModel" (74 : Nat) ({ cls := "PageMakerModel", name := "isMore", desc := "(I)Z" } : Jvm.MethodName)) ∈ TB := tb_a4 50 rfl rfl
theorem tw_771 : (Jvm.Cond.static ({ cls := "PageMakerModel", name := "isMore", desc := "(I)Z" } : Jvm.MethodName)) ∈ TB := tb_a4 51 rfl rfl
theorem tw_772 : (Jvm.Cond.code ({ cls := "PageMakerModel", name := "isMore", desc := "(I)Z" } : Jvm.MethodName) prog_12_method_4_code (1 : Nat) (Option.some Jvm.ClassFile.FieldType.boolean)) ∈ TB := tb_a4 52 rfl rfl
theorem tw_773 : (Jvm.Cond.methodLink "PageMakerModel" (78 : Nat) ({ cls := "PageMakerModel", name := "isSize", desc := "(I)Z" } : Jvm.MethodName)) ∈ TB := tb_a4 53 rfl rfl
theorem tw_774 : (Jvm.Cond.static ({ cls := "PageMakerModel", name := "isSize", desc := "(I)Z" } : Jvm.MethodName)) ∈ TB := tb_a4 54 rfl rfl
theorem tw_775 : (Jvm.Cond.code ({ cls := "PageMakerModel", name := "isSize", desc := "(I)Z" } : Jvm.MethodName) prog_12_method_3_code (1 : Nat) (Option.some Jvm.ClassFile.FieldType.boolean)) ∈ TB := tb_a4 55 rfl rfl
theorem tw_776 : (Jvm.Cond.constant "PageMakerModel" (73 : Nat) (-1073741823 : Int32)) ∈ TB := tb_a4 56 rfl rfl
theorem tw_777 : (Jvm.Cond.methodLink "PageMakerLaw" (65 : Nat) ({ cls := "PageMakerModel", name := "box", desc := "(III)I" } : Jvm.MethodName)) ∈ TB := tb_a4 57 rfl rfl
theorem tw_778 : (Jvm.Cond.instanceMethod ({ cls := "PageMakerModel", name := "box", desc := "(III)I" } : Jvm.MethodName)) ∈ TB := tb_a4 58 rfl rfl
theorem tw_779 : (Jvm.Cond.selects "PageMakerModel" ({ cls := "PageMakerModel", name := "box", desc := "(III)I" } : Jvm.MethodName) ({ cls := "PageMakerModel", name := "box", desc := "(III)I" } : Jvm.MethodName)) ∈ TB := tb_a4 59 rfl rfl
theorem tw_780 : (Jvm.Cond.code ({ cls := "PageMakerModel", name := "box", desc := "(III)I" } : Jvm.MethodName) prog_12_method_18_code (4 : Nat) (Option.some Jvm.ClassFile.FieldType.int)) ∈ TB := tb_a4 60 rfl rfl
theorem tw_781 : (Jvm.Cond.methodLink "PageMakerModel" (154 : Nat) ({ cls := "PageMakerModel", name := "append", desc := "(IIIII)I" } : Jvm.MethodName)) ∈ TB := tb_a4 61 rfl rfl
theorem tw_783 : (Jvm.Cond.instanceMethod ({ cls := "PageMakerModel", name := "append", desc := "(IIIII)I" } : Jvm.MethodName)) ∈ TB := tb_a4 63 rfl rfl
theorem tw_784 : (Jvm.Cond.code ({ cls := "PageMakerModel", name := "append", desc := "(IIIII)I" } : Jvm.MethodName) prog_12_method_17_code (6 : Nat) (Option.some Jvm.ClassFile.FieldType.int)) ∈ TB := tb_a4 64 rfl rfl
theorem tw_785 : (Jvm.Cond.methodLink "PageMakerModel" (150 : Nat) ({ cls := "PageMakerModel", name := "goOn", desc := "()I" } : Jvm.MethodName)) ∈ TB := tb_a4 65 rfl rfl
theorem tw_787 : (Jvm.Cond.instanceMethod ({ cls := "PageMakerModel", name := "goOn", desc := "()I" } : Jvm.MethodName)) ∈ TB := tb_a4 67 rfl rfl
theorem tw_788 : (Jvm.Cond.code ({ cls := "PageMakerModel", name := "goOn", desc := "()I" } : Jvm.MethodName) prog_12_method_16_code (1 : Nat) (Option.some Jvm.ClassFile.FieldType.int)) ∈ TB := tb_a4 68 rfl rfl
theorem tw_789 : (Jvm.Cond.methodLink "PageMakerModel" (144 : Nat) ({ cls := "PageMakerModel", name := "openPage", desc := "()V" } : Jvm.MethodName)) ∈ TB := tb_a4 69 rfl rfl
theorem tw_791 : (Jvm.Cond.instanceMethod ({ cls := "PageMakerModel", name := "openPage", desc := "()V" } : Jvm.MethodName)) ∈ TB := tb_a4 71 rfl rfl
theorem tw_792 : (Jvm.Cond.code ({ cls := "PageMakerModel", name := "openPage", desc := "()V" } : Jvm.MethodName) prog_12_method_14_code (1 : Nat) (Option.none : Option Jvm.ClassFile.FieldType)) ∈ TB := tb_a4 72 rfl rfl
theorem tw_793 : (Jvm.Cond.methodLink "PageMakerModel" (147 : Nat) ({ cls := "PageMakerModel", name := "breaks", desc := "()Z" } : Jvm.MethodName)) ∈ TB := tb_a4 73 rfl rfl
theorem tw_795 : (Jvm.Cond.instanceMethod ({ cls := "PageMakerModel", name := "breaks", desc := "()Z" } : Jvm.MethodName)) ∈ TB := tb_a4 75 rfl rfl
theorem tw_796 : (Jvm.Cond.code ({ cls := "PageMakerModel", name := "breaks", desc := "()Z" } : Jvm.MethodName) prog_12_method_15_code (4 : Nat) (Option.some Jvm.ClassFile.FieldType.boolean)) ∈ TB := tb_a4 76 rfl rfl
theorem tw_797 : (Jvm.Cond.methodLink "PageMakerModel" (91 : Nat) ({ cls := "PageMakerModel", name := "clear", desc := "(I)V" } : Jvm.MethodName)) ∈ TB := tb_a4 77 rfl rfl
theorem tw_799 : (Jvm.Cond.instanceMethod ({ cls := "PageMakerModel", name := "clear", desc := "(I)V" } : Jvm.MethodName)) ∈ TB := tb_a4 79 rfl rfl
theorem tw_800 : (Jvm.Cond.code ({ cls := "PageMakerModel", name := "clear", desc := "(I)V" } : Jvm.MethodName) prog_12_method_6_code (3 : Nat) (Option.none : Option Jvm.ClassFile.FieldType)) ∈ TB := tb_a4 80 rfl rfl
theorem tw_801 : (Jvm.Cond.methodLink "PageMakerModel" (95 : Nat) ({ cls := "PageMakerModel", name := "add", desc := "(II)V" } : Jvm.MethodName)) ∈ TB := tb_a4 81 rfl rfl
theorem tw_803 : (Jvm.Cond.instanceMethod ({ cls := "PageMakerModel", name := "add", desc := "(II)V" } : Jvm.MethodName)) ∈ TB := tb_a4 83 rfl rfl
theorem tw_804 : (Jvm.Cond.code ({ cls := "PageMakerModel", name := "add", desc := "(II)V" } : Jvm.MethodName) prog_12_method_7_code (3 : Nat) (Option.none : Option Jvm.ClassFile.FieldType)) ∈ TB := tb_a4 84 rfl rfl
theorem tw_805 : (Jvm.Cond.methodLink "PageMakerModel" (137 : Nat) ({ cls := "PageMakerModel", name := "penaltyAt", desc := "(I)I" } : Jvm.MethodName)) ∈ TB := tb_a4 85 rfl rfl
theorem tw_807 : (Jvm.Cond.instanceMethod ({ cls := "PageMakerModel", name := "penaltyAt", desc := "(I)I" } : Jvm.MethodName)) ∈ TB := tb_a4 87 rfl rfl
theorem tw_808 : (Jvm.Cond.code ({ cls := "PageMakerModel", name := "penaltyAt", desc := "(I)I" } : Jvm.MethodName) prog_12_method_13_code (2 : Nat) (Option.some Jvm.ClassFile.FieldType.int)) ∈ TB := tb_a4 88 rfl rfl
theorem tw_809 : (Jvm.Cond.methodLink "PageMakerModel" (140 : Nat) ({ cls := "PageMakerModel", name := "cost", desc := "(II)I" } : Jvm.MethodName)) ∈ TB := tb_a4 89 rfl rfl
theorem tw_811 : (Jvm.Cond.instanceMethod ({ cls := "PageMakerModel", name := "cost", desc := "(II)I" } : Jvm.MethodName)) ∈ TB := tb_a4 91 rfl rfl
theorem tw_812 : (Jvm.Cond.code ({ cls := "PageMakerModel", name := "cost", desc := "(II)I" } : Jvm.MethodName) prog_12_method_12_code (4 : Nat) (Option.some Jvm.ClassFile.FieldType.int)) ∈ TB := tb_a4 92 rfl rfl
theorem tw_813 : (Jvm.Cond.methodLink "PageMakerModel" (119 : Nat) ({ cls := "PageMakerModel", name := "badness", desc := "(I)I" } : Jvm.MethodName)) ∈ TB := tb_a4 93 rfl rfl
theorem tw_815 : (Jvm.Cond.instanceMethod ({ cls := "PageMakerModel", name := "badness", desc := "(I)I" } : Jvm.MethodName)) ∈ TB := tb_a4 95 rfl rfl
theorem tw_816 : (Jvm.Cond.code ({ cls := "PageMakerModel", name := "badness", desc := "(I)I" } : Jvm.MethodName) prog_12_method_11_code (4 : Nat) (Option.some Jvm.ClassFile.FieldType.int)) ∈ TB := tb_a4 96 rfl rfl
theorem tw_817 : (Jvm.Cond.methodLink "PageMakerModel" (111 : Nat) ({ cls := "PageMakerModel", name := "isEndless", desc := "()Z" } : Jvm.MethodName)) ∈ TB := tb_a4 97 rfl rfl
theorem tw_819 : (Jvm.Cond.instanceMethod ({ cls := "PageMakerModel", name := "isEndless", desc := "()Z" } : Jvm.MethodName)) ∈ TB := tb_a4 99 rfl rfl
theorem tw_820 : (Jvm.Cond.code ({ cls := "PageMakerModel", name := "isEndless", desc := "()Z" } : Jvm.MethodName) prog_12_method_10_code (1 : Nat) (Option.some Jvm.ClassFile.FieldType.boolean)) ∈ TB := tb_a4 100 rfl rfl
theorem tw_821 : (Jvm.Cond.methodLink "PageMakerModel" (115 : Nat) ({ cls := "PageMakerModel", name := "bad", desc := "(JJ)I" } : Jvm.MethodName)) ∈ TB := tb_a4 101 rfl rfl
theorem tw_822 : (Jvm.Cond.static ({ cls := "PageMakerModel", name := "bad", desc := "(JJ)I" } : Jvm.MethodName)) ∈ TB := tb_a4 102 rfl rfl
theorem tw_823 : (Jvm.Cond.code ({ cls := "PageMakerModel", name := "bad", desc := "(JJ)I" } : Jvm.MethodName) prog_12_method_9_code (6 : Nat) (Option.some Jvm.ClassFile.FieldType.int)) ∈ TB := tb_a4 103 rfl rfl
theorem tw_824 : (Jvm.Cond.constantLong "PageMakerModel" (99 : Nat) (7230584 : Int64)) ∈ TB := tb_a4 104 rfl rfl
theorem tw_825 : (Jvm.Cond.constantLong "PageMakerModel" (101 : Nat) (297 : Int64)) ∈ TB := tb_a4 105 rfl rfl
theorem tw_826 : (Jvm.Cond.constantLong "PageMakerModel" (103 : Nat) (1663497 : Int64)) ∈ TB := tb_a4 106 rfl rfl
theorem tw_827 : (Jvm.Cond.constantLong "PageMakerModel" (105 : Nat) (1290 : Int64)) ∈ TB := tb_a4 107 rfl rfl
theorem tw_828 : (Jvm.Cond.constantLong "PageMakerModel" (107 : Nat) (131072 : Int64)) ∈ TB := tb_a4 108 rfl rfl
theorem tw_829 : (Jvm.Cond.constantLong "PageMakerModel" (109 : Nat) (262144 : Int64)) ∈ TB := tb_a4 109 rfl rfl
theorem tw_830 : (Jvm.Cond.constant "PageMakerModel" (123 : Nat) (100000 : Int32)) ∈ TB := tb_a4 110 rfl rfl
theorem tw_831 : (Jvm.Cond.methodLink "PageMakerLaw" (69 : Nat) ({ cls := "PageMakerModel", name := "glue", desc := "(IIII)I" } : Jvm.MethodName)) ∈ TB := tb_a4 111 rfl rfl
theorem tw_832 : (Jvm.Cond.instanceMethod ({ cls := "PageMakerModel", name := "glue", desc := "(IIII)I" } : Jvm.MethodName)) ∈ TB := tb_a4 112 rfl rfl
theorem tw_833 : (Jvm.Cond.selects "PageMakerModel" ({ cls := "PageMakerModel", name := "glue", desc := "(IIII)I" } : Jvm.MethodName) ({ cls := "PageMakerModel", name := "glue", desc := "(IIII)I" } : Jvm.MethodName)) ∈ TB := tb_a4 113 rfl rfl
theorem tw_834 : (Jvm.Cond.code ({ cls := "PageMakerModel", name := "glue", desc := "(IIII)I" } : Jvm.MethodName) prog_12_method_19_code (5 : Nat) (Option.some Jvm.ClassFile.FieldType.int)) ∈ TB := tb_a4 114 rfl rfl
theorem tw_835 : (Jvm.Cond.methodLink "PageMakerLaw" (73 : Nat) ({ cls := "PageMakerModel", name := "kern", desc := "(I)I" } : Jvm.MethodName)) ∈ TB := tb_a4 115 rfl rfl
theorem tw_836 : (Jvm.Cond.instanceMethod ({ cls := "PageMakerModel", name := "kern", desc := "(I)I" } : Jvm.MethodName)) ∈ TB := tb_a4 116 rfl rfl
theorem tw_837 : (Jvm.Cond.selects "PageMakerModel" ({ cls := "PageMakerModel", name := "kern", desc := "(I)I" } : Jvm.MethodName) ({ cls := "PageMakerModel", name := "kern", desc := "(I)I" } : Jvm.MethodName)) ∈ TB := tb_a4 117 rfl rfl
theorem tw_838 : (Jvm.Cond.code ({ cls := "PageMakerModel", name := "kern", desc := "(I)I" } : Jvm.MethodName) prog_12_method_20_code (2 : Nat) (Option.some Jvm.ClassFile.FieldType.int)) ∈ TB := tb_a4 118 rfl rfl
theorem tw_839 : (Jvm.Cond.methodLink "PageMakerLaw" (76 : Nat) ({ cls := "PageMakerModel", name := "penalty", desc := "(I)I" } : Jvm.MethodName)) ∈ TB := tb_a4 119 rfl rfl
theorem tw_840 : (Jvm.Cond.instanceMethod ({ cls := "PageMakerModel", name := "penalty", desc := "(I)I" } : Jvm.MethodName)) ∈ TB := tb_a4 120 rfl rfl
theorem tw_841 : (Jvm.Cond.selects "PageMakerModel" ({ cls := "PageMakerModel", name := "penalty", desc := "(I)I" } : Jvm.MethodName) ({ cls := "PageMakerModel", name := "penalty", desc := "(I)I" } : Jvm.MethodName)) ∈ TB := tb_a4 121 rfl rfl
theorem tw_842 : (Jvm.Cond.code ({ cls := "PageMakerModel", name := "penalty", desc := "(I)I" } : Jvm.MethodName) prog_12_method_21_code (2 : Nat) (Option.some Jvm.ClassFile.FieldType.int)) ∈ TB := tb_a4 122 rfl rfl
theorem tw_843 : (Jvm.Cond.constant "PageMakerModel" (158 : Nat) (-100000 : Int32)) ∈ TB := tb_a4 123 rfl rfl
theorem tw_844 : (Jvm.Cond.methodLink "PageMakerLaw" (80 : Nat) ({ cls := "PageMakerModel", name := "items", desc := "()I" } : Jvm.MethodName)) ∈ TB := tb_a4 124 rfl rfl
theorem tw_845 : (Jvm.Cond.instanceMethod ({ cls := "PageMakerModel", name := "items", desc := "()I" } : Jvm.MethodName)) ∈ TB := tb_a4 125 rfl rfl
theorem tw_846 : (Jvm.Cond.selects "PageMakerModel" ({ cls := "PageMakerModel", name := "items", desc := "()I" } : Jvm.MethodName) ({ cls := "PageMakerModel", name := "items", desc := "()I" } : Jvm.MethodName)) ∈ TB := tb_a4 126 rfl rfl
theorem tw_847 : (Jvm.Cond.code ({ cls := "PageMakerModel", name := "items", desc := "()I" } : Jvm.MethodName) prog_12_method_22_code (1 : Nat) (Option.some Jvm.ClassFile.FieldType.int)) ∈ TB := tb_a4 127 rfl rfl
theorem tw_848 : (Jvm.Cond.methodLink "PageMakerLaw" (84 : Nat) ({ cls := "PageMakerModel", name := "pages", desc := "()I" } : Jvm.MethodName)) ∈ TB := tb_a4 128 rfl rfl
theorem tw_849 : (Jvm.Cond.instanceMethod ({ cls := "PageMakerModel", name := "pages", desc := "()I" } : Jvm.MethodName)) ∈ TB := tb_a4 129 rfl rfl
theorem tw_850 : (Jvm.Cond.selects "PageMakerModel" ({ cls := "PageMakerModel", name := "pages", desc := "()I" } : Jvm.MethodName) ({ cls := "PageMakerModel", name := "pages", desc := "()I" } : Jvm.MethodName)) ∈ TB := tb_a4 130 rfl rfl
theorem tw_851 : (Jvm.Cond.code ({ cls := "PageMakerModel", name := "pages", desc := "()I" } : Jvm.MethodName) prog_12_method_23_code (1 : Nat) (Option.some Jvm.ClassFile.FieldType.int)) ∈ TB := tb_a4 131 rfl rfl
theorem tw_852 : (Jvm.Cond.methodLink "PageMakerLaw" (88 : Nat) ({ cls := "PageMakerModel", name := "page", desc := "(II)J" } : Jvm.MethodName)) ∈ TB := tb_a4 132 rfl rfl
theorem tw_853 : (Jvm.Cond.instanceMethod ({ cls := "PageMakerModel", name := "page", desc := "(II)J" } : Jvm.MethodName)) ∈ TB := tb_a4 133 rfl rfl
theorem tw_854 : (Jvm.Cond.selects "PageMakerModel" ({ cls := "PageMakerModel", name := "page", desc := "(II)J" } : Jvm.MethodName) ({ cls := "PageMakerModel", name := "page", desc := "(II)J" } : Jvm.MethodName)) ∈ TB := tb_a4 134 rfl rfl
theorem tw_855 : (Jvm.Cond.code ({ cls := "PageMakerModel", name := "page", desc := "(II)J" } : Jvm.MethodName) prog_12_method_25_code (5 : Nat) (Option.some Jvm.ClassFile.FieldType.long)) ∈ TB := tb_a4 135 rfl rfl
theorem tw_856 : (Jvm.Cond.methodLink "PageMakerModel" (159 : Nat) ({ cls := "PageMakerModel", name := "addUpTo", desc := "(II)V" } : Jvm.MethodName)) ∈ TB := tb_a4 136 rfl rfl
theorem tw_858 : (Jvm.Cond.instanceMethod ({ cls := "PageMakerModel", name := "addUpTo", desc := "(II)V" } : Jvm.MethodName)) ∈ TB := tb_a4 138 rfl rfl
theorem tw_859 : (Jvm.Cond.code ({ cls := "PageMakerModel", name := "addUpTo", desc := "(II)V" } : Jvm.MethodName) prog_12_method_8_code (4 : Nat) (Option.none : Option Jvm.ClassFile.FieldType)) ∈ TB := tb_a4 139 rfl rfl
theorem tw_860 : (Jvm.Cond.methodLink "PageMakerModel" (162 : Nat) ({ cls := "PageMakerModel", name := "orderOf", desc := "(J)I" } : Jvm.MethodName)) ∈ TB := tb_a4 140 rfl rfl
theorem tw_862 : (Jvm.Cond.instanceMethod ({ cls := "PageMakerModel", name := "orderOf", desc := "(J)I" } : Jvm.MethodName)) ∈ TB := tb_a4 142 rfl rfl
theorem tw_863 : (Jvm.Cond.code ({ cls := "PageMakerModel", name := "orderOf", desc := "(J)I" } : Jvm.MethodName) prog_12_method_24_code (5 : Nat) (Option.some Jvm.ClassFile.FieldType.int)) ∈ TB := tb_a4 143 rfl rfl
theorem tw_864 : (Jvm.Cond.methodLink "PageMakerLaw" (91 : Nat) ({ cls := "PageMakerModel", name := "stands", desc := "(II)J" } : Jvm.MethodName)) ∈ TB := tb_a4 144 rfl rfl
theorem tw_865 : (Jvm.Cond.instanceMethod ({ cls := "PageMakerModel", name := "stands", desc := "(II)J" } : Jvm.MethodName)) ∈ TB := tb_a4 145 rfl rfl
theorem tw_866 : (Jvm.Cond.selects "PageMakerModel" ({ cls := "PageMakerModel", name := "stands", desc := "(II)J" } : Jvm.MethodName) ({ cls := "PageMakerModel", name := "stands", desc := "(II)J" } : Jvm.MethodName)) ∈ TB := tb_a4 146 rfl rfl
theorem tw_867 : (Jvm.Cond.code ({ cls := "PageMakerModel", name := "stands", desc := "(II)J" } : Jvm.MethodName) prog_12_method_27_code (11 : Nat) (Option.some Jvm.ClassFile.FieldType.long)) ∈ TB := tb_a4 147 rfl rfl
theorem tw_868 : (Jvm.Cond.methodLink "PageMakerModel" (170 : Nat) ({ cls := "PageMakerModel", name := "nearest", desc := "(JJJ)J" } : Jvm.MethodName)) ∈ TB := tb_a4 148 rfl rfl
theorem tw_869 : (Jvm.Cond.static ({ cls := "PageMakerModel", name := "nearest", desc := "(JJJ)J" } : Jvm.MethodName)) ∈ TB := tb_a4 149 rfl rfl
theorem tw_870 : (Jvm.Cond.code ({ cls := "PageMakerModel", name := "nearest", desc := "(JJJ)J" } : Jvm.MethodName) prog_12_method_26_code (11 : Nat) (Option.some Jvm.ClassFile.FieldType.long)) ∈ TB := tb_a4 150 rfl rfl
theorem tw_871 : (Jvm.Cond.constantLong "PageMakerModel" (166 : Nat) (1048576 : Int64)) ∈ TB := tb_a4 151 rfl rfl
theorem tw_872 : (Jvm.Cond.constantLong "PageMakerModel" (168 : Nat) (1048575 : Int64)) ∈ TB := tb_a4 152 rfl rfl
theorem tw_873 : (Jvm.Cond.methodLink "PageMakerLaw" (94 : Nat) ({ cls := "PageMakerModel", name := "where", desc := "(I)I" } : Jvm.MethodName)) ∈ TB := tb_a4 153 rfl rfl
theorem tw_874 : (Jvm.Cond.instanceMethod ({ cls := "PageMakerModel", name := "where", desc := "(I)I" } : Jvm.MethodName)) ∈ TB := tb_a4 154 rfl rfl
theorem tw_875 : (Jvm.Cond.selects "PageMakerModel" ({ cls := "PageMakerModel", name := "where", desc := "(I)I" } : Jvm.MethodName) ({ cls := "PageMakerModel", name := "where", desc := "(I)I" } : Jvm.MethodName)) ∈ TB := tb_a4 155 rfl rfl
theorem tw_876 : (Jvm.Cond.code ({ cls := "PageMakerModel", name := "where", desc := "(I)I" } : Jvm.MethodName) prog_12_method_28_code (4 : Nat) (Option.some Jvm.ClassFile.FieldType.int)) ∈ TB := tb_a4 156 rfl rfl
theorem tw_877 : (Jvm.Cond.methodLink "PageMakerLaw" (97 : Nat) ({ cls := "PageMakerModel", name := "open", desc := "(I)J" } : Jvm.MethodName)) ∈ TB := tb_a4 157 rfl rfl
theorem tw_878 : (Jvm.Cond.instanceMethod ({ cls := "PageMakerModel", name := "open", desc := "(I)J" } : Jvm.MethodName)) ∈ TB := tb_a4 158 rfl rfl
theorem tw_879 : (Jvm.Cond.selects "PageMakerModel" ({ cls := "PageMakerModel", name := "open", desc := "(I)J" } : Jvm.MethodName) ({ cls := "PageMakerModel", name := "open", desc := "(I)J" } : Jvm.MethodName)) ∈ TB := tb_a4 159 rfl rfl
theorem tw_880 : (Jvm.Cond.code ({ cls := "PageMakerModel", name := "open", desc := "(I)J" } : Jvm.MethodName) prog_12_method_29_code (2 : Nat) (Option.some Jvm.ClassFile.FieldType.long)) ∈ TB := tb_a4 160 rfl rfl
theorem tw_881 : (Jvm.Cond.constantLong "PageMakerModel" (174 : Nat) (-1 : Int64)) ∈ TB := tb_a4 161 rfl rfl
theorem tw_882 : (Jvm.Cond.constantLong "PageMakerModel" (176 : Nat) (1073741823 : Int64)) ∈ TB := tb_a4 162 rfl rfl
theorem tw_883 : (Jvm.Cond.sameMethod "java/lang/Throwable" "java/lang/Throwable" "fillInStackTrace" "(I)Ljava/lang/Throwable;") ∈ TB := tb_a4 163 rfl rfl
theorem tw_893 : (Jvm.Cond.sameMethod "[Ljava/lang/Object;" "java/lang/Object" "getClass" "()Ljava/lang/Class;") ∈ TB := tb_a4 173 rfl rfl
theorem tw_894 : (Jvm.Cond.selects "[Ljava/lang/Object;" ({ cls := "java/lang/Object", name := "getClass", desc := "()Ljava/lang/Class;" } : Jvm.MethodName) ({ cls := "java/lang/Object", name := "getClass", desc := "()Ljava/lang/Class;" } : Jvm.MethodName)) ∈ TB := tb_a4 174 rfl rfl
theorem tp_0 : Cond.selects "java/lang/Throwable" ⟨"java/lang/Throwable", "fillInStackTrace", "(I)Ljava/lang/Throwable;"⟩ ⟨"java/lang/Throwable", "fillInStackTrace", "(I)Ljava/lang/Throwable;"⟩ ∈ TB := tb_pr 0 rfl rfl
theorem tp_1 : Cond.selects "PageMaker" ⟨"PageMaker", "needRoom", "()V"⟩ ⟨"PageMaker", "needRoom", "()V"⟩ ∈ TB := tb_pr 1 rfl rfl
theorem tp_2 : Cond.selects "PageMaker" ⟨"PageMaker", "comeIn", "(LPageMaker$Item;)I"⟩ ⟨"PageMaker", "comeIn", "(LPageMaker$Item;)I"⟩ ∈ TB := tb_pr 2 rfl rfl
theorem tp_3 : Cond.selects "java/util/ArrayList" ⟨"java/util/ArrayList", "add", "(Ljava/lang/Object;[Ljava/lang/Object;I)V"⟩ ⟨"java/util/ArrayList", "add", "(Ljava/lang/Object;[Ljava/lang/Object;I)V"⟩ ∈ TB := tb_pr 3 rfl rfl
theorem tp_4 : Cond.selects "java/util/ArrayList" ⟨"java/util/ArrayList", "grow", "()[Ljava/lang/Object;"⟩ ⟨"java/util/ArrayList", "grow", "()[Ljava/lang/Object;"⟩ ∈ TB := tb_pr 4 rfl rfl
theorem tp_5 : Cond.selects "java/util/ArrayList" ⟨"java/util/ArrayList", "grow", "(I)[Ljava/lang/Object;"⟩ ⟨"java/util/ArrayList", "grow", "(I)[Ljava/lang/Object;"⟩ ∈ TB := tb_pr 5 rfl rfl
theorem tp_6 : Cond.selects "PageMaker" ⟨"PageMaker", "lookFrom", "(I)V"⟩ ⟨"PageMaker", "lookFrom", "(I)V"⟩ ∈ TB := tb_pr 6 rfl rfl
theorem tp_7 : Cond.selects "PageMaker" ⟨"PageMaker", "isItem", "(I)Z"⟩ ⟨"PageMaker", "isItem", "(I)Z"⟩ ∈ TB := tb_pr 7 rfl rfl
theorem tp_8 : Cond.selects "PageMaker" ⟨"PageMaker", "breakEndsPage", "(ILPageMaker$Item;)Z"⟩ ⟨"PageMaker", "breakEndsPage", "(ILPageMaker$Item;)Z"⟩ ∈ TB := tb_pr 8 rfl rfl
theorem tp_9 : Cond.selects "PageMaker" ⟨"PageMaker", "endOpenPage", "()I"⟩ ⟨"PageMaker", "endOpenPage", "()I"⟩ ∈ TB := tb_pr 9 rfl rfl
theorem tp_10 : Cond.selects "PageMaker" ⟨"PageMaker", "totalsOf", "(LPageMaker$Frame;II)LPageMaker$Totals;"⟩ ⟨"PageMaker", "totalsOf", "(LPageMaker$Frame;II)LPageMaker$Totals;"⟩ ∈ TB := tb_pr 10 rfl rfl
theorem tp_11 : Cond.selects "PageMaker" ⟨"PageMaker", "takeIn", "(ILPageMaker$Item;)V"⟩ ⟨"PageMaker", "takeIn", "(ILPageMaker$Item;)V"⟩ ∈ TB := tb_pr 11 rfl rfl
theorem tp_12 : Cond.selects "PageMaker" ⟨"PageMaker", "endedPage", "(I)LPageMaker$EndedPage;"⟩ ⟨"PageMaker", "endedPage", "(I)LPageMaker$EndedPage;"⟩ ∈ TB := tb_pr 12 rfl rfl
theorem tp_13 : Cond.selects "PageMakerModel" ⟨"PageMakerModel", "append", "(IIIII)I"⟩ ⟨"PageMakerModel", "append", "(IIIII)I"⟩ ∈ TB := tb_pr 13 rfl rfl
theorem tp_14 : Cond.selects "PageMakerModel" ⟨"PageMakerModel", "goOn", "()I"⟩ ⟨"PageMakerModel", "goOn", "()I"⟩ ∈ TB := tb_pr 14 rfl rfl
theorem tp_15 : Cond.selects "PageMakerModel" ⟨"PageMakerModel", "openPage", "()V"⟩ ⟨"PageMakerModel", "openPage", "()V"⟩ ∈ TB := tb_pr 15 rfl rfl
theorem tp_16 : Cond.selects "PageMakerModel" ⟨"PageMakerModel", "breaks", "()Z"⟩ ⟨"PageMakerModel", "breaks", "()Z"⟩ ∈ TB := tb_pr 16 rfl rfl
theorem tp_17 : Cond.selects "PageMakerModel" ⟨"PageMakerModel", "clear", "(I)V"⟩ ⟨"PageMakerModel", "clear", "(I)V"⟩ ∈ TB := tb_pr 17 rfl rfl
theorem tp_18 : Cond.selects "PageMakerModel" ⟨"PageMakerModel", "add", "(II)V"⟩ ⟨"PageMakerModel", "add", "(II)V"⟩ ∈ TB := tb_pr 18 rfl rfl
theorem tp_19 : Cond.selects "PageMakerModel" ⟨"PageMakerModel", "penaltyAt", "(I)I"⟩ ⟨"PageMakerModel", "penaltyAt", "(I)I"⟩ ∈ TB := tb_pr 19 rfl rfl
theorem tp_20 : Cond.selects "PageMakerModel" ⟨"PageMakerModel", "cost", "(II)I"⟩ ⟨"PageMakerModel", "cost", "(II)I"⟩ ∈ TB := tb_pr 20 rfl rfl
theorem tp_21 : Cond.selects "PageMakerModel" ⟨"PageMakerModel", "badness", "(I)I"⟩ ⟨"PageMakerModel", "badness", "(I)I"⟩ ∈ TB := tb_pr 21 rfl rfl
theorem tp_22 : Cond.selects "PageMakerModel" ⟨"PageMakerModel", "isEndless", "()Z"⟩ ⟨"PageMakerModel", "isEndless", "()Z"⟩ ∈ TB := tb_pr 22 rfl rfl
theorem tp_23 : Cond.selects "PageMakerModel" ⟨"PageMakerModel", "addUpTo", "(II)V"⟩ ⟨"PageMakerModel", "addUpTo", "(II)V"⟩ ∈ TB := tb_pr 23 rfl rfl
theorem tp_24 : Cond.selects "PageMakerModel" ⟨"PageMakerModel", "orderOf", "(J)I"⟩ ⟨"PageMakerModel", "orderOf", "(J)I"⟩ ∈ TB := tb_pr 24 rfl rfl
/-! classes: fields (declarer, name, descriptor, final), types; the list of them -/
def T_AL : u_T := fun k => match k with
  | 0 => ("java/util/AbstractList", "modCount", "I", false)
  | 1 => ("java/util/ArrayList", "elementData", "[Ljava/lang/Object;", false)
  | _ => ("java/util/ArrayList", "size", "I", false)
def ty_AL : Nat → FieldType := fun k => match k with
  | 0 => .int
  | 1 => .array (.object "java/lang/Object")
  | _ => .int
theorem nm_AL : ∀ a, a < 3 → ∀ b, b < 3 → a ≠ b → (T_AL a).2.1 ≠ (T_AL b).2.1 := by decide +kernel
theorem to_AL : ∀ k, k < 3 → parseFieldDescriptor (T_AL k).2.2.1 = some (ty_AL k) := by decide +kernel
theorem in_AL : ∀ w ∈ u_ws "java/util/ArrayList" T_AL 3, w ∈ TB := by
  intro w h
  obtain ⟨k, hk, rfl⟩ := List.mem_map.mp h
  have hk := List.mem_range.mp hk
  match k, hk with
  | 0, _ => exact tw_58
  | 1, _ => exact tw_54
  | 2, _ => exact tw_56
def T_FR : u_T := fun k => match k with
  | 0 => ("PageMaker$Frame", "height", "I", true)
  | 1 => ("PageMaker$Frame", "top", "I", true)
  | _ => ("PageMaker$Frame", "greatest", "I", true)
def ty_FR : Nat → FieldType := fun k => match k with
  | 0 => .int
  | 1 => .int
  | _ => .int
theorem nm_FR : ∀ a, a < 3 → ∀ b, b < 3 → a ≠ b → (T_FR a).2.1 ≠ (T_FR b).2.1 := by decide +kernel
theorem to_FR : ∀ k, k < 3 → parseFieldDescriptor (T_FR k).2.2.1 = some (ty_FR k) := by decide +kernel
theorem in_FR : ∀ w ∈ u_ws "PageMaker$Frame" T_FR 3, w ∈ TB := by
  intro w h
  obtain ⟨k, hk, rfl⟩ := List.mem_map.mp h
  have hk := List.mem_range.mp hk
  match k, hk with
  | 0, _ => exact tw_77
  | 1, _ => exact tw_79
  | 2, _ => exact tw_81
def T_OP : u_T := fun k => match k with
  | 0 => ("PageMaker$OpenPage", "totals", "LPageMaker$Totals;", true)
  | 1 => ("PageMaker$OpenPage", "frame", "LPageMaker$Frame;", false)
  | 2 => ("PageMaker$OpenPage", "first", "I", false)
  | 3 => ("PageMaker$OpenPage", "lengthBeforeLast", "J", false)
  | 4 => ("PageMaker$OpenPage", "bestItem", "I", false)
  | 5 => ("PageMaker$OpenPage", "bestCost", "I", false)
  | 6 => ("PageMaker$OpenPage", "bestBadness", "I", false)
  | _ => ("PageMaker$OpenPage", "endingItem", "I", false)
def ty_OP : Nat → FieldType := fun k => match k with
  | 0 => .object "PageMaker$Totals"
  | 1 => .object "PageMaker$Frame"
  | 2 => .int
  | 3 => .long
  | 4 => .int
  | 5 => .int
  | 6 => .int
  | _ => .int
theorem nm_OP : ∀ a, a < 8 → ∀ b, b < 8 → a ≠ b → (T_OP a).2.1 ≠ (T_OP b).2.1 := by decide +kernel
theorem to_OP : ∀ k, k < 8 → parseFieldDescriptor (T_OP k).2.2.1 = some (ty_OP k) := by decide +kernel
theorem in_OP : ∀ w ∈ u_ws "PageMaker$OpenPage" T_OP 8, w ∈ TB := by
  intro w h
  obtain ⟨k, hk, rfl⟩ := List.mem_map.mp h
  have hk := List.mem_range.mp hk
  match k, hk with
  | 0, _ => exact tw_143
  | 1, _ => exact tw_145
  | 2, _ => exact tw_147
  | 3, _ => exact tw_149
  | 4, _ => exact tw_151
  | 5, _ => exact tw_153
  | 6, _ => exact tw_155
  | 7, _ => exact tw_157
def T_TO : u_T := fun k => match k with
  | 0 => ("PageMaker$Totals", "stretch", "[J", true)
  | 1 => ("PageMaker$Totals", "length", "J", false)
  | 2 => ("PageMaker$Totals", "depth", "J", false)
  | _ => ("PageMaker$Totals", "shrink", "J", false)
def ty_TO : Nat → FieldType := fun k => match k with
  | 0 => .array .long
  | 1 => .long
  | 2 => .long
  | _ => .long
theorem nm_TO : ∀ a, a < 4 → ∀ b, b < 4 → a ≠ b → (T_TO a).2.1 ≠ (T_TO b).2.1 := by decide +kernel
theorem to_TO : ∀ k, k < 4 → parseFieldDescriptor (T_TO k).2.2.1 = some (ty_TO k) := by decide +kernel
theorem in_TO : ∀ w ∈ u_ws "PageMaker$Totals" T_TO 4, w ∈ TB := by
  intro w h
  obtain ⟨k, hk, rfl⟩ := List.mem_map.mp h
  have hk := List.mem_range.mp hk
  match k, hk with
  | 0, _ => exact tw_112
  | 1, _ => exact tw_114
  | 2, _ => exact tw_116
  | 3, _ => exact tw_118
def T_PM : u_T := fun k => match k with
  | 0 => ("PageMaker", "allItems", "Ljava/util/ArrayList;", true)
  | 1 => ("PageMaker", "endedPages", "Ljava/util/ArrayList;", true)
  | 2 => ("PageMaker", "frameNow", "LPageMaker$Frame;", false)
  | _ => ("PageMaker", "openPage", "LPageMaker$OpenPage;", false)
def ty_PM : Nat → FieldType := fun k => match k with
  | 0 => .object "java/util/ArrayList"
  | 1 => .object "java/util/ArrayList"
  | 2 => .object "PageMaker$Frame"
  | _ => .object "PageMaker$OpenPage"
theorem nm_PM : ∀ a, a < 4 → ∀ b, b < 4 → a ≠ b → (T_PM a).2.1 ≠ (T_PM b).2.1 := by decide +kernel
theorem to_PM : ∀ k, k < 4 → parseFieldDescriptor (T_PM k).2.2.1 = some (ty_PM k) := by decide +kernel
theorem in_PM : ∀ w ∈ u_ws "PageMaker" T_PM 4, w ∈ TB := by
  intro w h
  obtain ⟨k, hk, rfl⟩ := List.mem_map.mp h
  have hk := List.mem_range.mp hk
  match k, hk with
  | 0, _ => exact tw_164
  | 1, _ => exact tw_166
  | 2, _ => exact tw_168
  | 3, _ => exact tw_170
def T_BX : u_T := fun k => match k with
  | 0 => ("PageMaker$Box", "height", "I", true)
  | _ => ("PageMaker$Box", "depth", "I", true)
def ty_BX : Nat → FieldType := fun k => match k with
  | 0 => .int
  | _ => .int
theorem nm_BX : ∀ a, a < 2 → ∀ b, b < 2 → a ≠ b → (T_BX a).2.1 ≠ (T_BX b).2.1 := by decide +kernel
theorem to_BX : ∀ k, k < 2 → parseFieldDescriptor (T_BX k).2.2.1 = some (ty_BX k) := by decide +kernel
theorem in_BX : ∀ w ∈ u_ws "PageMaker$Box" T_BX 2, w ∈ TB := by
  intro w h
  obtain ⟨k, hk, rfl⟩ := List.mem_map.mp h
  have hk := List.mem_range.mp hk
  match k, hk with
  | 0, _ => exact tw_311
  | 1, _ => exact tw_313
def T_GL : u_T := fun k => match k with
  | 0 => ("PageMaker$Glue", "width", "I", true)
  | 1 => ("PageMaker$Glue", "stretch", "I", true)
  | 2 => ("PageMaker$Glue", "order", "I", true)
  | _ => ("PageMaker$Glue", "shrink", "I", true)
def ty_GL : Nat → FieldType := fun k => match k with
  | 0 => .int
  | 1 => .int
  | 2 => .int
  | _ => .int
theorem nm_GL : ∀ a, a < 4 → ∀ b, b < 4 → a ≠ b → (T_GL a).2.1 ≠ (T_GL b).2.1 := by decide +kernel
theorem to_GL : ∀ k, k < 4 → parseFieldDescriptor (T_GL k).2.2.1 = some (ty_GL k) := by decide +kernel
theorem in_GL : ∀ w ∈ u_ws "PageMaker$Glue" T_GL 4, w ∈ TB := by
  intro w h
  obtain ⟨k, hk, rfl⟩ := List.mem_map.mp h
  have hk := List.mem_range.mp hk
  match k, hk with
  | 0, _ => exact tw_558
  | 1, _ => exact tw_560
  | 2, _ => exact tw_562
  | 3, _ => exact tw_564
def T_KE : u_T := fun k => match k with
  | _ => ("PageMaker$Kern", "width", "I", true)
def ty_KE : Nat → FieldType := fun k => match k with
  | _ => .int
theorem nm_KE : ∀ a, a < 1 → ∀ b, b < 1 → a ≠ b → (T_KE a).2.1 ≠ (T_KE b).2.1 := by decide +kernel
theorem to_KE : ∀ k, k < 1 → parseFieldDescriptor (T_KE k).2.2.1 = some (ty_KE k) := by decide +kernel
theorem in_KE : ∀ w ∈ u_ws "PageMaker$Kern" T_KE 1, w ∈ TB := by
  intro w h
  obtain ⟨k, hk, rfl⟩ := List.mem_map.mp h
  have hk := List.mem_range.mp hk
  match k, hk with
  | 0, _ => exact tw_581
def T_PE : u_T := fun k => match k with
  | _ => ("PageMaker$Penalty", "p", "I", true)
def ty_PE : Nat → FieldType := fun k => match k with
  | _ => .int
theorem nm_PE : ∀ a, a < 1 → ∀ b, b < 1 → a ≠ b → (T_PE a).2.1 ≠ (T_PE b).2.1 := by decide +kernel
theorem to_PE : ∀ k, k < 1 → parseFieldDescriptor (T_PE k).2.2.1 = some (ty_PE k) := by decide +kernel
theorem in_PE : ∀ w ∈ u_ws "PageMaker$Penalty" T_PE 1, w ∈ TB := by
  intro w h
  obtain ⟨k, hk, rfl⟩ := List.mem_map.mp h
  have hk := List.mem_range.mp hk
  match k, hk with
  | 0, _ => exact tw_600
def T_EP : u_T := fun k => match k with
  | 0 => ("PageMaker$EndedPage", "frame", "LPageMaker$Frame;", true)
  | 1 => ("PageMaker$EndedPage", "first", "I", true)
  | 2 => ("PageMaker$EndedPage", "bestItem", "I", true)
  | 3 => ("PageMaker$EndedPage", "cost", "I", true)
  | 4 => ("PageMaker$EndedPage", "badness", "I", true)
  | 5 => ("PageMaker$EndedPage", "endingItem", "I", true)
  | 6 => ("PageMaker$EndedPage", "excess", "J", true)
  | 7 => ("PageMaker$EndedPage", "order", "I", true)
  | _ => ("PageMaker$EndedPage", "total", "J", true)
def ty_EP : Nat → FieldType := fun k => match k with
  | 0 => .object "PageMaker$Frame"
  | 1 => .int
  | 2 => .int
  | 3 => .int
  | 4 => .int
  | 5 => .int
  | 6 => .long
  | 7 => .int
  | _ => .long
theorem nm_EP : ∀ a, a < 9 → ∀ b, b < 9 → a ≠ b → (T_EP a).2.1 ≠ (T_EP b).2.1 := by decide +kernel
theorem to_EP : ∀ k, k < 9 → parseFieldDescriptor (T_EP k).2.2.1 = some (ty_EP k) := by decide +kernel
theorem in_EP : ∀ w ∈ u_ws "PageMaker$EndedPage" T_EP 9, w ∈ TB := by
  intro w h
  obtain ⟨k, hk, rfl⟩ := List.mem_map.mp h
  have hk := List.mem_range.mp hk
  match k, hk with
  | 0, _ => exact tw_506
  | 1, _ => exact tw_508
  | 2, _ => exact tw_510
  | 3, _ => exact tw_512
  | 4, _ => exact tw_514
  | 5, _ => exact tw_516
  | 6, _ => exact tw_518
  | 7, _ => exact tw_520
  | 8, _ => exact tw_522
def T_MD : u_T := fun k => match k with
  | 0 => ("PageMakerModel", "thrown", "I", false)
  | 1 => ("PageMakerModel", "kinds", "[I", true)
  | 2 => ("PageMakerModel", "one", "[I", true)
  | 3 => ("PageMakerModel", "two", "[I", true)
  | 4 => ("PageMakerModel", "three", "[I", true)
  | 5 => ("PageMakerModel", "order", "[I", true)
  | 6 => ("PageMakerModel", "count", "I", false)
  | 7 => ("PageMakerModel", "height", "I", false)
  | 8 => ("PageMakerModel", "top", "I", false)
  | 9 => ("PageMakerModel", "greatest", "I", false)
  | 10 => ("PageMakerModel", "heights", "[I", true)
  | 11 => ("PageMakerModel", "tops", "[I", true)
  | 12 => ("PageMakerModel", "depths", "[I", true)
  | 13 => ("PageMakerModel", "firsts", "[I", true)
  | 14 => ("PageMakerModel", "ends", "[I", true)
  | 15 => ("PageMakerModel", "costs", "[I", true)
  | 16 => ("PageMakerModel", "enders", "[I", true)
  | 17 => ("PageMakerModel", "pages", "I", false)
  | 18 => ("PageMakerModel", "begin", "I", false)
  | 19 => ("PageMakerModel", "isOpen", "Z", false)
  | 20 => ("PageMakerModel", "best", "I", false)
  | 21 => ("PageMakerModel", "least", "I", false)
  | 22 => ("PageMakerModel", "length", "J", false)
  | 23 => ("PageMakerModel", "depth", "J", false)
  | 24 => ("PageMakerModel", "stretch", "[J", true)
  | _ => ("PageMakerModel", "shrink", "J", false)
def ty_MD : Nat → FieldType := fun k => match k with
  | 0 => .int
  | 1 => .array .int
  | 2 => .array .int
  | 3 => .array .int
  | 4 => .array .int
  | 5 => .array .int
  | 6 => .int
  | 7 => .int
  | 8 => .int
  | 9 => .int
  | 10 => .array .int
  | 11 => .array .int
  | 12 => .array .int
  | 13 => .array .int
  | 14 => .array .int
  | 15 => .array .int
  | 16 => .array .int
  | 17 => .int
  | 18 => .int
  | 19 => .boolean
  | 20 => .int
  | 21 => .int
  | 22 => .long
  | 23 => .long
  | 24 => .array .long
  | _ => .long
theorem nm_MD : ∀ a, a < 26 → ∀ b, b < 26 → a ≠ b → (T_MD a).2.1 ≠ (T_MD b).2.1 := by decide +kernel
theorem to_MD : ∀ k, k < 26 → parseFieldDescriptor (T_MD k).2.2.1 = some (ty_MD k) := by decide +kernel
theorem in_MD : ∀ w ∈ u_ws "PageMakerModel" T_MD 26, w ∈ TB := by
  intro w h
  obtain ⟨k, hk, rfl⟩ := List.mem_map.mp h
  have hk := List.mem_range.mp hk
  match k, hk with
  | 0, _ => exact tw_708
  | 1, _ => exact tw_710
  | 2, _ => exact tw_712
  | 3, _ => exact tw_714
  | 4, _ => exact tw_716
  | 5, _ => exact tw_718
  | 6, _ => exact tw_720
  | 7, _ => exact tw_722
  | 8, _ => exact tw_724
  | 9, _ => exact tw_726
  | 10, _ => exact tw_728
  | 11, _ => exact tw_730
  | 12, _ => exact tw_732
  | 13, _ => exact tw_734
  | 14, _ => exact tw_736
  | 15, _ => exact tw_738
  | 16, _ => exact tw_740
  | 17, _ => exact tw_742
  | 18, _ => exact tw_744
  | 19, _ => exact tw_746
  | 20, _ => exact tw_748
  | 21, _ => exact tw_750
  | 22, _ => exact tw_752
  | 23, _ => exact tw_754
  | 24, _ => exact tw_756
  | 25, _ => exact tw_758
  | k + 26, h9 => exact absurd h9 (by omega)
abbrev cls9 : List vw_C := [("java/util/ArrayList", T_AL, 3), ("PageMaker$Frame", T_FR, 3), ("PageMaker$OpenPage", T_OP, 8), ("PageMaker$Totals", T_TO, 4), ("PageMaker", T_PM, 4), ("PageMaker$Box", T_BX, 2), ("PageMaker$Glue", T_GL, 4), ("PageMaker$Kern", T_KE, 1), ("PageMaker$Penalty", T_PE, 1), ("PageMaker$EndedPage", T_EP, 9), ("PageMakerModel", T_MD, 26)]

/-! the tables' words that stay: one list for all methods -/
def TB : List Cond := lw_tbl.filter goodWord
theorem tb_in {w : Cond} (h : w ∈ lw_tbl) (g : goodWord w = true) : w ∈ TB := List.mem_filter.mpr ⟨h, g⟩
theorem tb_all : ∀ w ∈ TB, goodWord w = true := fun w h => (List.mem_filter.mp h).2
theorem tb_sub {w : Cond} (h : w ∈ TB) : w ∈ lw_tbl := (List.mem_filter.mp h).1
theorem tb_T {w : Cond} (h : w ∈ tables_1) (g : goodWord w = true) : w ∈ TB := tb_in (List.mem_append_right _ h) g
theorem tb1 {w : Cond} (i : Nat) (h : tables_1_1[i]? = some w) (g : goodWord w = true) : w ∈ TB := tb_T (List.mem_append_left _ (List.mem_of_getElem? (i := i) h)) g
theorem tr1 {w : Cond} (i : Nat) (h : tables_1_1[i]? = some w) : w ∈ lw_tbl := List.mem_append_right _ (List.mem_append_left _ (List.mem_of_getElem? (i := i) h))
theorem tb2 {w : Cond} (i : Nat) (h : tables_1_2[i]? = some w) (g : goodWord w = true) : w ∈ TB := tb_T (List.mem_append_right _ (List.mem_append_left _ (List.mem_of_getElem? (i := i) h))) g
theorem tr2 {w : Cond} (i : Nat) (h : tables_1_2[i]? = some w) : w ∈ lw_tbl := List.mem_append_right _ (List.mem_append_right _ (List.mem_append_left _ (List.mem_of_getElem? (i := i) h)))
theorem tb3 {w : Cond} (i : Nat) (h : tables_1_3[i]? = some w) (g : goodWord w = true) : w ∈ TB := tb_T (List.mem_append_right _ (List.mem_append_right _ (List.mem_append_left _ (List.mem_of_getElem? (i := i) h)))) g
theorem tr3 {w : Cond} (i : Nat) (h : tables_1_3[i]? = some w) : w ∈ lw_tbl := List.mem_append_right _ (List.mem_append_right _ (List.mem_append_right _ (List.mem_append_left _ (List.mem_of_getElem? (i := i) h))))
theorem tb4 {w : Cond} (i : Nat) (h : tables_1_4[i]? = some w) (g : goodWord w = true) : w ∈ TB := tb_T (List.mem_append_right _ (List.mem_append_right _ (List.mem_append_right _ (List.mem_append_left _ (List.mem_of_getElem? (i := i) h))))) g
theorem tr4 {w : Cond} (i : Nat) (h : tables_1_4[i]? = some w) : w ∈ lw_tbl := List.mem_append_right _ (List.mem_append_right _ (List.mem_append_right _ (List.mem_append_right _ (List.mem_append_left _ (List.mem_of_getElem? (i := i) h)))))
theorem tb5 {w : Cond} (i : Nat) (h : tables_1_5[i]? = some w) (g : goodWord w = true) : w ∈ TB := tb_T (List.mem_append_right _ (List.mem_append_right _ (List.mem_append_right _ (List.mem_append_right _ (List.mem_append_left _ (List.mem_of_getElem? (i := i) h)))))) g
theorem tr5 {w : Cond} (i : Nat) (h : tables_1_5[i]? = some w) : w ∈ lw_tbl := List.mem_append_right _ (List.mem_append_right _ (List.mem_append_right _ (List.mem_append_right _ (List.mem_append_right _ (List.mem_append_left _ (List.mem_of_getElem? (i := i) h))))))
theorem tb6 {w : Cond} (i : Nat) (h : tables_1_6[i]? = some w) (g : goodWord w = true) : w ∈ TB := tb_T (List.mem_append_right _ (List.mem_append_right _ (List.mem_append_right _ (List.mem_append_right _ (List.mem_append_right _ (List.mem_append_left _ (List.mem_of_getElem? (i := i) h))))))) g
theorem tr6 {w : Cond} (i : Nat) (h : tables_1_6[i]? = some w) : w ∈ lw_tbl := List.mem_append_right _ (List.mem_append_right _ (List.mem_append_right _ (List.mem_append_right _ (List.mem_append_right _ (List.mem_append_right _ (List.mem_append_left _ (List.mem_of_getElem? (i := i) h)))))))
theorem tb7 {w : Cond} (i : Nat) (h : tables_1_7[i]? = some w) (g : goodWord w = true) : w ∈ TB := tb_T (List.mem_append_right _ (List.mem_append_right _ (List.mem_append_right _ (List.mem_append_right _ (List.mem_append_right _ (List.mem_append_right _ (List.mem_append_left _ (List.mem_of_getElem? (i := i) h)))))))) g
theorem tr7 {w : Cond} (i : Nat) (h : tables_1_7[i]? = some w) : w ∈ lw_tbl := List.mem_append_right _ (List.mem_append_right _ (List.mem_append_right _ (List.mem_append_right _ (List.mem_append_right _ (List.mem_append_right _ (List.mem_append_right _ (List.mem_append_left _ (List.mem_of_getElem? (i := i) h))))))))
theorem tb8 {w : Cond} (i : Nat) (h : tables_1_8[i]? = some w) (g : goodWord w = true) : w ∈ TB := tb_T (List.mem_append_right _ (List.mem_append_right _ (List.mem_append_right _ (List.mem_append_right _ (List.mem_append_right _ (List.mem_append_right _ (List.mem_append_right _ (List.mem_append_left _ (List.mem_of_getElem? (i := i) h))))))))) g
theorem tr8 {w : Cond} (i : Nat) (h : tables_1_8[i]? = some w) : w ∈ lw_tbl := List.mem_append_right _ (List.mem_append_right _ (List.mem_append_right _ (List.mem_append_right _ (List.mem_append_right _ (List.mem_append_right _ (List.mem_append_right _ (List.mem_append_right _ (List.mem_append_left _ (List.mem_of_getElem? (i := i) h)))))))))
theorem tb9 {w : Cond} (i : Nat) (h : tables_1_9[i]? = some w) (g : goodWord w = true) : w ∈ TB := tb_T (List.mem_append_right _ (List.mem_append_right _ (List.mem_append_right _ (List.mem_append_right _ (List.mem_append_right _ (List.mem_append_right _ (List.mem_append_right _ (List.mem_append_right _ (List.mem_append_left _ (List.mem_of_getElem? (i := i) h)))))))))) g
theorem tr9 {w : Cond} (i : Nat) (h : tables_1_9[i]? = some w) : w ∈ lw_tbl := List.mem_append_right _ (List.mem_append_right _ (List.mem_append_right _ (List.mem_append_right _ (List.mem_append_right _ (List.mem_append_right _ (List.mem_append_right _ (List.mem_append_right _ (List.mem_append_right _ (List.mem_append_left _ (List.mem_of_getElem? (i := i) h))))))))))
theorem tb10 {w : Cond} (i : Nat) (h : tables_1_10[i]? = some w) (g : goodWord w = true) : w ∈ TB := tb_T (List.mem_append_right _ (List.mem_append_right _ (List.mem_append_right _ (List.mem_append_right _ (List.mem_append_right _ (List.mem_append_right _ (List.mem_append_right _ (List.mem_append_right _ (List.mem_append_right _ (List.mem_of_getElem? (i := i) h)))))))))) g
theorem tr10 {w : Cond} (i : Nat) (h : tables_1_10[i]? = some w) : w ∈ lw_tbl := List.mem_append_right _ (List.mem_append_right _ (List.mem_append_right _ (List.mem_append_right _ (List.mem_append_right _ (List.mem_append_right _ (List.mem_append_right _ (List.mem_append_right _ (List.mem_append_right _ (List.mem_append_right _ (List.mem_of_getElem? (i := i) h))))))))))
theorem w1_0 : (Jvm.Cond.initialized "SlateHandsLaw") ∈ TB := tb1 0 rfl rfl
theorem w1_1 : (Jvm.Cond.initialized "SlateHands") ∈ TB := tb1 1 rfl rfl
theorem w1_2 : (Jvm.Cond.initialized "SlateHands$Tape") ∈ TB := tb1 2 rfl rfl
theorem w1_3 : (Jvm.Cond.initialized "SlateHands$Reader") ∈ TB := tb1 3 rfl rfl
theorem w1_4 : (Jvm.Cond.initialized "SlateHands$Port") ∈ TB := tb1 4 rfl rfl
theorem w1_5 : (Jvm.Cond.initialized "SlateHands$Carries") ∈ TB := tb1 5 rfl rfl
theorem w1_6 : (Jvm.Cond.initialized "SlateHands$Slots") ∈ TB := tb1 6 rfl rfl
theorem w1_7 : (Jvm.Cond.initialized "SlateHands$Diary") ∈ TB := tb1 7 rfl rfl
theorem w1_8 : (Jvm.Cond.initialized "SlateHands$Course") ∈ TB := tb1 8 rfl rfl
theorem w1_9 : (Jvm.Cond.initialized "SlateHands$Paths") ∈ TB := tb1 9 rfl rfl
theorem w1_10 : (Jvm.Cond.initialized "SlateHands$Alone") ∈ TB := tb1 10 rfl rfl
theorem w1_11 : (Jvm.Cond.initialized "SlateHands$Weather") ∈ TB := tb1 11 rfl rfl
theorem w1_12 : (Jvm.Cond.initialized "SlateHands$Seen") ∈ TB := tb1 12 rfl rfl
theorem w1_13 : (Jvm.Cond.initialized "SlateHandsModel") ∈ TB := tb1 13 rfl rfl
theorem w1_14 : (Jvm.Cond.initialized "java/lang/Math") ∈ TB := tb1 14 rfl rfl
theorem w1_15 : (Jvm.Cond.initialized "java/lang/String") ∈ TB := tb1 15 rfl rfl
theorem w1_16 : (Jvm.Cond.initialized "java/lang/StringLatin1") ∈ TB := tb1 16 rfl rfl
theorem w1_17 : (Jvm.Cond.initialized "jdk/internal/util/Preconditions") ∈ TB := tb1 17 rfl rfl
theorem w1_18 : (Jvm.Cond.initialized "java/lang/StringUTF16") ∈ TB := tb1 18 rfl rfl
theorem w1_19 : (Jvm.Cond.initialized "java/lang/System") ∈ TB := tb1 19 rfl rfl
theorem w1_20 : (Jvm.Cond.initialized "java/util/Arrays") ∈ TB := tb1 20 rfl rfl
theorem w1_21 : (Jvm.Cond.initialized "java/lang/Integer") ∈ TB := tb1 21 rfl rfl
theorem w1_22 : (Jvm.Cond.classLink "SlateHandsLaw" (7 : Nat) "SlateHands") ∈ TB := tb1 22 rfl rfl
theorem w1_23 : (Jvm.Cond.instantiable "SlateHands" (14 : Nat)) ∈ TB := tb1 23 rfl rfl
theorem w1_24 : (Jvm.Cond.methodLink "SlateHandsLaw" (9 : Nat) ({ cls := "SlateHands", name := "<init>", desc := "()V" } : Jvm.MethodName)) ∈ TB := tb1 24 rfl rfl
theorem w1_25 : (Jvm.Cond.instanceMethod ({ cls := "SlateHands", name := "<init>", desc := "()V" } : Jvm.MethodName)) ∈ TB := tb1 25 rfl rfl
theorem w1_26 : (Jvm.Cond.code ({ cls := "SlateHands", name := "<init>", desc := "()V" } : Jvm.MethodName) prog_1_method_1_code (1 : Nat) (Option.none : Option Jvm.ClassFile.FieldType)) ∈ TB := tb1 26 rfl rfl
theorem w1_27 : (Jvm.Cond.methodLink "SlateHands" (3 : Nat) ({ cls := "java/lang/Object", name := "<init>", desc := "()V" } : Jvm.MethodName)) ∈ TB := tb1 27 rfl rfl
theorem w1_28 : (Jvm.Cond.instanceMethod ({ cls := "java/lang/Object", name := "<init>", desc := "()V" } : Jvm.MethodName)) ∈ TB := tb1 28 rfl rfl
theorem w1_29 : (Jvm.Cond.code ({ cls := "java/lang/Object", name := "<init>", desc := "()V" } : Jvm.MethodName) object_method_1_code (1 : Nat) (Option.none : Option Jvm.ClassFile.FieldType)) ∈ TB := tb1 29 rfl rfl
theorem w1_30 : (Jvm.Cond.classLink "SlateHands" (9 : Nat) "SlateHands$Tape") ∈ TB := tb1 30 rfl rfl
theorem w1_31 : (Jvm.Cond.instantiable "SlateHands$Tape" (6 : Nat)) ∈ TB := tb1 31 rfl rfl
theorem w1_33 : (Jvm.Cond.instanceMethod ({ cls := "SlateHands$Tape", name := "<init>", desc := "()V" } : Jvm.MethodName)) ∈ TB := tb1 33 rfl rfl
theorem w1_34 : (Jvm.Cond.code ({ cls := "SlateHands$Tape", name := "<init>", desc := "()V" } : Jvm.MethodName) prog_11_method_1_code (1 : Nat) (Option.none : Option Jvm.ClassFile.FieldType)) ∈ TB := tb1 34 rfl rfl
theorem w1_35 : (Jvm.Cond.methodLink "SlateHands$Tape" (3 : Nat) ({ cls := "java/lang/Object", name := "<init>", desc := "()V" } : Jvm.MethodName)) ∈ TB := tb1 35 rfl rfl
theorem w1_36 : (Jvm.Cond.fieldLink "SlateHands$Tape" (9 : Nat) "SlateHands$Tape" "bytes" "[B") ∈ TB := tb1 36 rfl rfl
theorem w1_37 : (Jvm.Cond.fieldLink "SlateHands" (89 : Nat) "SlateHands$Tape" "size" "I") ∈ TB := tb1 37 rfl rfl
theorem w1_38 : (Jvm.Cond.fieldLink "SlateHands$Tape" (15 : Nat) "SlateHands$Tape" "size" "I") ∈ TB := tb1 38 rfl rfl
theorem w1_39 : (Jvm.Cond.fieldLink "SlateHands$Reader" (31 : Nat) "SlateHands$Tape" "kind" "I") ∈ TB := tb1 39 rfl rfl
theorem w1_40 : (Jvm.Cond.fieldLink "SlateHands$Tape" (36 : Nat) "SlateHands$Tape" "kind" "I") ∈ TB := tb1 40 rfl rfl
theorem w1_41 : (Jvm.Cond.fieldLink "SlateHands$Tape" (22 : Nat) "SlateHands$Tape" "start" "I") ∈ TB := tb1 41 rfl rfl
theorem w1_42 : (Jvm.Cond.fieldLink "SlateHands$Reader" (179 : Nat) "SlateHands$Tape" "start" "I") ∈ TB := tb1 42 rfl rfl
theorem w1_43 : (Jvm.Cond.fieldLink "SlateHands$Tape" (33 : Nat) "SlateHands$Tape" "number" "I") ∈ TB := tb1 43 rfl rfl
theorem w1_44 : (Jvm.Cond.fieldLink "SlateHands$Reader" (144 : Nat) "SlateHands$Tape" "number" "I") ∈ TB := tb1 44 rfl rfl
theorem w1_45 : (Jvm.Cond.fieldLink "SlateHands$Tape" (19 : Nat) "SlateHands$Tape" "behind" "I") ∈ TB := tb1 45 rfl rfl
theorem w1_59 : (Jvm.Cond.arrayClass Jvm.ClassFile.FieldType.byte) ∈ TB := tb1 59 rfl rfl
theorem w1_60 : (Jvm.Cond.classLink "SlateHands" (16 : Nat) "SlateHands$Reader") ∈ TB := tb1 60 rfl rfl
theorem w1_61 : (Jvm.Cond.instantiable "SlateHands$Reader" (2 : Nat)) ∈ TB := tb1 61 rfl rfl
theorem w1_63 : (Jvm.Cond.instanceMethod ({ cls := "SlateHands$Reader", name := "<init>", desc := "()V" } : Jvm.MethodName)) ∈ TB := tb1 63 rfl rfl
theorem w1_64 : (Jvm.Cond.code ({ cls := "SlateHands$Reader", name := "<init>", desc := "()V" } : Jvm.MethodName) prog_8_method_1_code (1 : Nat) (Option.none : Option Jvm.ClassFile.FieldType)) ∈ TB := tb1 64 rfl rfl
theorem w1_65 : (Jvm.Cond.methodLink "SlateHands$Reader" (3 : Nat) ({ cls := "java/lang/Object", name := "<init>", desc := "()V" } : Jvm.MethodName)) ∈ TB := tb1 65 rfl rfl
theorem w1_66 : (Jvm.Cond.fieldLink "SlateHands$Reader" (15 : Nat) "SlateHands$Reader" "fault" "I") ∈ TB := tb1 66 rfl rfl
theorem w1_67 : (Jvm.Cond.fieldLink "SlateHands" (111 : Nat) "SlateHands$Reader" "fault" "I") ∈ TB := tb1 67 rfl rfl
theorem w1_68 : (Jvm.Cond.fieldLink "SlateHands$Reader" (9 : Nat) "SlateHands$Reader" "place" "I") ∈ TB := tb1 68 rfl rfl
theorem w1_69 : (Jvm.Cond.fieldLink "SlateHands" (114 : Nat) "SlateHands$Reader" "place" "I") ∈ TB := tb1 69 rfl rfl
theorem w1_75 : (Jvm.Cond.classLink "SlateHands" (23 : Nat) "SlateHands$Port") ∈ TB := tb1 75 rfl rfl
theorem w1_76 : (Jvm.Cond.instantiable "SlateHands$Port" (17 : Nat)) ∈ TB := tb1 76 rfl rfl
theorem w1_78 : (Jvm.Cond.instanceMethod ({ cls := "SlateHands$Port", name := "<init>", desc := "()V" } : Jvm.MethodName)) ∈ TB := tb1 78 rfl rfl
theorem w1_79 : (Jvm.Cond.code ({ cls := "SlateHands$Port", name := "<init>", desc := "()V" } : Jvm.MethodName) prog_7_method_1_code (1 : Nat) (Option.none : Option Jvm.ClassFile.FieldType)) ∈ TB := tb1 79 rfl rfl
theorem w1_80 : (Jvm.Cond.methodLink "SlateHands$Port" (3 : Nat) ({ cls := "java/lang/Object", name := "<init>", desc := "()V" } : Jvm.MethodName)) ∈ TB := tb1 80 rfl rfl
theorem w1_81 : (Jvm.Cond.classLink "SlateHands$Port" (36 : Nat) "SlateHands$Carries") ∈ TB := tb1 81 rfl rfl
theorem w1_82 : (Jvm.Cond.instantiable "SlateHands$Carries" (9 : Nat)) ∈ TB := tb1 82 rfl rfl
theorem w1_84 : (Jvm.Cond.instanceMethod ({ cls := "SlateHands$Carries", name := "<init>", desc := "()V" } : Jvm.MethodName)) ∈ TB := tb1 84 rfl rfl
theorem w1_85 : (Jvm.Cond.code ({ cls := "SlateHands$Carries", name := "<init>", desc := "()V" } : Jvm.MethodName) prog_3_method_1_code (1 : Nat) (Option.none : Option Jvm.ClassFile.FieldType)) ∈ TB := tb1 85 rfl rfl
theorem w1_86 : (Jvm.Cond.methodLink "SlateHands$Carries" (3 : Nat) ({ cls := "java/lang/Object", name := "<init>", desc := "()V" } : Jvm.MethodName)) ∈ TB := tb1 86 rfl rfl
theorem w1_87 : (Jvm.Cond.fieldLink "SlateHands$Carries" (30 : Nat) "SlateHands$Carries" "told" "I") ∈ TB := tb1 87 rfl rfl
theorem w1_88 : (Jvm.Cond.fieldLink "SlateHands$Reader" (54 : Nat) "SlateHands$Carries" "told" "I") ∈ TB := tb1 88 rfl rfl
theorem w1_89 : (Jvm.Cond.fieldLink "SlateHands" (403 : Nat) "SlateHands$Carries" "told" "I") ∈ TB := tb1 89 rfl rfl
theorem w1_90 : (Jvm.Cond.fieldLink "SlateHands$Carries" (34 : Nat) "SlateHands$Carries" "size" "I") ∈ TB := tb1 90 rfl rfl
theorem w1_91 : (Jvm.Cond.fieldLink "SlateHands$Reader" (49 : Nat) "SlateHands$Carries" "size" "I") ∈ TB := tb1 91 rfl rfl
theorem w1_92 : (Jvm.Cond.fieldLink "SlateHands$Course" (91 : Nat) "SlateHands$Carries" "size" "I") ∈ TB := tb1 92 rfl rfl
theorem w1_93 : (Jvm.Cond.fieldLink "SlateHands$Port" (89 : Nat) "SlateHands$Carries" "size" "I") ∈ TB := tb1 93 rfl rfl
theorem w1_94 : (Jvm.Cond.fieldLink "SlateHands" (217 : Nat) "SlateHands$Carries" "size" "I") ∈ TB := tb1 94 rfl rfl
theorem w1_95 : (Jvm.Cond.fieldLink "SlateHands$Carries" (37 : Nat) "SlateHands$Carries" "acts" "I") ∈ TB := tb1 95 rfl rfl
theorem w1_96 : (Jvm.Cond.fieldLink "SlateHands" (388 : Nat) "SlateHands$Carries" "acts" "I") ∈ TB := tb1 96 rfl rfl
theorem w1_97 : (Jvm.Cond.fieldLink "SlateHands$Carries" (9 : Nat) "SlateHands$Carries" "carrier" "[I") ∈ TB := tb1 97 rfl rfl
theorem w1_98 : (Jvm.Cond.fieldLink "SlateHands$Course" (122 : Nat) "SlateHands$Carries" "carrier" "[I") ∈ TB := tb1 98 rfl rfl
theorem w1_99 : (Jvm.Cond.fieldLink "SlateHands" (240 : Nat) "SlateHands$Carries" "carrier" "[I") ∈ TB := tb1 99 rfl rfl
theorem w1_100 : (Jvm.Cond.fieldLink "SlateHands$Carries" (15 : Nat) "SlateHands$Carries" "slate" "[I") ∈ TB := tb1 100 rfl rfl
theorem w1_101 : (Jvm.Cond.fieldLink "SlateHands$Course" (125 : Nat) "SlateHands$Carries" "slate" "[I") ∈ TB := tb1 101 rfl rfl
theorem w1_102 : (Jvm.Cond.fieldLink "SlateHands" (233 : Nat) "SlateHands$Carries" "slate" "[I") ∈ TB := tb1 102 rfl rfl
theorem w1_103 : (Jvm.Cond.fieldLink "SlateHands$Carries" (18 : Nat) "SlateHands$Carries" "house" "[I") ∈ TB := tb1 103 rfl rfl
theorem w1_104 : (Jvm.Cond.fieldLink "SlateHands$Course" (128 : Nat) "SlateHands$Carries" "house" "[I") ∈ TB := tb1 104 rfl rfl
theorem w1_105 : (Jvm.Cond.fieldLink "SlateHands$Carries" (21 : Nat) "SlateHands$Carries" "day" "[I") ∈ TB := tb1 105 rfl rfl
theorem w1_106 : (Jvm.Cond.fieldLink "SlateHands$Course" (96 : Nat) "SlateHands$Carries" "day" "[I") ∈ TB := tb1 106 rfl rfl
theorem w1_107 : (Jvm.Cond.fieldLink "SlateHands$Port" (100 : Nat) "SlateHands$Carries" "day" "[I") ∈ TB := tb1 107 rfl rfl
theorem w1_108 : (Jvm.Cond.fieldLink "SlateHands$Carries" (24 : Nat) "SlateHands$Carries" "actSlate" "[I") ∈ TB := tb1 108 rfl rfl
theorem w1_109 : (Jvm.Cond.fieldLink "SlateHands$Carries" (27 : Nat) "SlateHands$Carries" "actWord" "[I") ∈ TB := tb1 109 rfl rfl
theorem w1_129 : (Jvm.Cond.arrayClass Jvm.ClassFile.FieldType.int) ∈ TB := tb1 129 rfl rfl
theorem w1_130 : (Jvm.Cond.fieldLink "SlateHands$Port" (43 : Nat) "SlateHands$Port" "lines" "I") ∈ TB := tb1 130 rfl rfl
theorem w1_131 : (Jvm.Cond.fieldLink "SlateHands$Reader" (42 : Nat) "SlateHands$Port" "lines" "I") ∈ TB := tb1 131 rfl rfl
theorem w1_132 : (Jvm.Cond.fieldLink "SlateHands" (108 : Nat) "SlateHands$Port" "lines" "I") ∈ TB := tb1 132 rfl rfl
theorem w1_133 : (Jvm.Cond.fieldLink "SlateHands$Port" (47 : Nat) "SlateHands$Port" "days" "I") ∈ TB := tb1 133 rfl rfl
theorem w1_134 : (Jvm.Cond.fieldLink "SlateHands$Diary" (38 : Nat) "SlateHands$Port" "days" "I") ∈ TB := tb1 134 rfl rfl
theorem w1_135 : (Jvm.Cond.fieldLink "SlateHands$Seen" (37 : Nat) "SlateHands$Port" "days" "I") ∈ TB := tb1 135 rfl rfl
theorem w1_136 : (Jvm.Cond.fieldLink "SlateHands$Reader" (121 : Nat) "SlateHands$Port" "days" "I") ∈ TB := tb1 136 rfl rfl
theorem w1_137 : (Jvm.Cond.fieldLink "SlateHands$Course" (115 : Nat) "SlateHands$Port" "days" "I") ∈ TB := tb1 137 rfl rfl
theorem w1_138 : (Jvm.Cond.fieldLink "SlateHands$Weather" (74 : Nat) "SlateHands$Port" "days" "I") ∈ TB := tb1 138 rfl rfl
theorem w1_139 : (Jvm.Cond.fieldLink "SlateHands" (200 : Nat) "SlateHands$Port" "days" "I") ∈ TB := tb1 139 rfl rfl
theorem w1_140 : (Jvm.Cond.fieldLink "SlateHands$Course" (33 : Nat) "SlateHands$Port" "law" "I") ∈ TB := tb1 140 rfl rfl
theorem w1_141 : (Jvm.Cond.fieldLink "SlateHands$Port" (50 : Nat) "SlateHands$Port" "law" "I") ∈ TB := tb1 141 rfl rfl
theorem w1_142 : (Jvm.Cond.fieldLink "SlateHands$Reader" (125 : Nat) "SlateHands$Port" "law" "I") ∈ TB := tb1 142 rfl rfl
theorem w1_143 : (Jvm.Cond.fieldLink "SlateHands$Alone" (117 : Nat) "SlateHands$Port" "law" "I") ∈ TB := tb1 143 rfl rfl
theorem w1_144 : (Jvm.Cond.fieldLink "SlateHands" (422 : Nat) "SlateHands$Port" "law" "I") ∈ TB := tb1 144 rfl rfl
theorem w1_145 : (Jvm.Cond.fieldLink "SlateHands$Port" (53 : Nat) "SlateHands$Port" "odds" "I") ∈ TB := tb1 145 rfl rfl
theorem w1_146 : (Jvm.Cond.fieldLink "SlateHands$Weather" (54 : Nat) "SlateHands$Port" "odds" "I") ∈ TB := tb1 146 rfl rfl
theorem w1_147 : (Jvm.Cond.fieldLink "SlateHands$Reader" (129 : Nat) "SlateHands$Port" "odds" "I") ∈ TB := tb1 147 rfl rfl
theorem w1_148 : (Jvm.Cond.fieldLink "SlateHands" (423 : Nat) "SlateHands$Port" "odds" "I") ∈ TB := tb1 148 rfl rfl
theorem w1_149 : (Jvm.Cond.fieldLink "SlateHands$Port" (56 : Nat) "SlateHands$Port" "houses" "I") ∈ TB := tb1 149 rfl rfl
theorem w1_150 : (Jvm.Cond.fieldLink "SlateHands$Seen" (41 : Nat) "SlateHands$Port" "houses" "I") ∈ TB := tb1 150 rfl rfl
theorem w1_151 : (Jvm.Cond.fieldLink "SlateHands$Reader" (66 : Nat) "SlateHands$Port" "houses" "I") ∈ TB := tb1 151 rfl rfl
theorem w1_152 : (Jvm.Cond.fieldLink "SlateHands$Paths" (53 : Nat) "SlateHands$Port" "houses" "I") ∈ TB := tb1 152 rfl rfl
theorem w1_153 : (Jvm.Cond.fieldLink "SlateHands$Weather" (98 : Nat) "SlateHands$Port" "houses" "I") ∈ TB := tb1 153 rfl rfl
theorem w1_154 : (Jvm.Cond.fieldLink "SlateHands$Diary" (62 : Nat) "SlateHands$Port" "houses" "I") ∈ TB := tb1 154 rfl rfl
theorem w1_155 : (Jvm.Cond.fieldLink "SlateHands$Alone" (130 : Nat) "SlateHands$Port" "houses" "I") ∈ TB := tb1 155 rfl rfl
theorem w1_156 : (Jvm.Cond.fieldLink "SlateHands" (193 : Nat) "SlateHands$Port" "houses" "I") ∈ TB := tb1 156 rfl rfl
theorem w1_157 : (Jvm.Cond.fieldLink "SlateHands$Port" (59 : Nat) "SlateHands$Port" "ways" "I") ∈ TB := tb1 157 rfl rfl
theorem w1_158 : (Jvm.Cond.fieldLink "SlateHands$Paths" (33 : Nat) "SlateHands$Port" "ways" "I") ∈ TB := tb1 158 rfl rfl
theorem w1_159 : (Jvm.Cond.fieldLink "SlateHands$Reader" (78 : Nat) "SlateHands$Port" "ways" "I") ∈ TB := tb1 159 rfl rfl
theorem w1_160 : (Jvm.Cond.fieldLink "SlateHands" (302 : Nat) "SlateHands$Port" "ways" "I") ∈ TB := tb1 160 rfl rfl
theorem w1_161 : (Jvm.Cond.fieldLink "SlateHands$Port" (62 : Nat) "SlateHands$Port" "carriers" "I") ∈ TB := tb1 161 rfl rfl
theorem w1_162 : (Jvm.Cond.fieldLink "SlateHands$Course" (61 : Nat) "SlateHands$Port" "carriers" "I") ∈ TB := tb1 162 rfl rfl
theorem w1_163 : (Jvm.Cond.fieldLink "SlateHands$Reader" (86 : Nat) "SlateHands$Port" "carriers" "I") ∈ TB := tb1 163 rfl rfl
theorem w1_164 : (Jvm.Cond.fieldLink "SlateHands" (274 : Nat) "SlateHands$Port" "carriers" "I") ∈ TB := tb1 164 rfl rfl
theorem w1_165 : (Jvm.Cond.fieldLink "SlateHands$Port" (65 : Nat) "SlateHands$Port" "slates" "I") ∈ TB := tb1 165 rfl rfl
theorem w1_166 : (Jvm.Cond.fieldLink "SlateHands$Course" (73 : Nat) "SlateHands$Port" "slates" "I") ∈ TB := tb1 166 rfl rfl
theorem w1_167 : (Jvm.Cond.fieldLink "SlateHands$Reader" (94 : Nat) "SlateHands$Port" "slates" "I") ∈ TB := tb1 167 rfl rfl
theorem w1_168 : (Jvm.Cond.fieldLink "SlateHands$Weather" (87 : Nat) "SlateHands$Port" "slates" "I") ∈ TB := tb1 168 rfl rfl
theorem w1_169 : (Jvm.Cond.fieldLink "SlateHands" (248 : Nat) "SlateHands$Port" "slates" "I") ∈ TB := tb1 169 rfl rfl
theorem w1_170 : (Jvm.Cond.fieldLink "SlateHands$Port" (9 : Nat) "SlateHands$Port" "high" "[I") ∈ TB := tb1 170 rfl rfl
theorem w1_171 : (Jvm.Cond.fieldLink "SlateHands$Reader" (131 : Nat) "SlateHands$Port" "high" "[I") ∈ TB := tb1 171 rfl rfl
theorem w1_172 : (Jvm.Cond.fieldLink "SlateHands" (121 : Nat) "SlateHands$Port" "high" "[I") ∈ TB := tb1 172 rfl rfl
theorem w1_173 : (Jvm.Cond.fieldLink "SlateHands$Port" (15 : Nat) "SlateHands$Port" "wayFrom" "[I") ∈ TB := tb1 173 rfl rfl
theorem w1_174 : (Jvm.Cond.fieldLink "SlateHands$Paths" (39 : Nat) "SlateHands$Port" "wayFrom" "[I") ∈ TB := tb1 174 rfl rfl
theorem w1_175 : (Jvm.Cond.fieldLink "SlateHands$Reader" (147 : Nat) "SlateHands$Port" "wayFrom" "[I") ∈ TB := tb1 175 rfl rfl
theorem w1_176 : (Jvm.Cond.fieldLink "SlateHands$Port" (18 : Nat) "SlateHands$Port" "wayTo" "[I") ∈ TB := tb1 176 rfl rfl
theorem w1_177 : (Jvm.Cond.fieldLink "SlateHands$Paths" (46 : Nat) "SlateHands$Port" "wayTo" "[I") ∈ TB := tb1 177 rfl rfl
theorem w1_178 : (Jvm.Cond.fieldLink "SlateHands$Reader" (150 : Nat) "SlateHands$Port" "wayTo" "[I") ∈ TB := tb1 178 rfl rfl
theorem w1_179 : (Jvm.Cond.fieldLink "SlateHands$Port" (21 : Nat) "SlateHands$Port" "carrierHouse" "[I") ∈ TB := tb1 179 rfl rfl
theorem w1_180 : (Jvm.Cond.fieldLink "SlateHands$Course" (64 : Nat) "SlateHands$Port" "carrierHouse" "[I") ∈ TB := tb1 180 rfl rfl
theorem w1_181 : (Jvm.Cond.fieldLink "SlateHands$Reader" (153 : Nat) "SlateHands$Port" "carrierHouse" "[I") ∈ TB := tb1 181 rfl rfl
theorem w1_182 : (Jvm.Cond.fieldLink "SlateHands" (134 : Nat) "SlateHands$Port" "carrierHouse" "[I") ∈ TB := tb1 182 rfl rfl
theorem w1_183 : (Jvm.Cond.fieldLink "SlateHands$Port" (24 : Nat) "SlateHands$Port" "strong" "[I") ∈ TB := tb1 183 rfl rfl
theorem w1_184 : (Jvm.Cond.fieldLink "SlateHands$Reader" (158 : Nat) "SlateHands$Port" "strong" "[I") ∈ TB := tb1 184 rfl rfl
theorem w1_185 : (Jvm.Cond.fieldLink "SlateHands" (137 : Nat) "SlateHands$Port" "strong" "[I") ∈ TB := tb1 185 rfl rfl
theorem w1_186 : (Jvm.Cond.fieldLink "SlateHands$Course" (139 : Nat) "SlateHands$Port" "strong" "[I") ∈ TB := tb1 186 rfl rfl
theorem w1_187 : (Jvm.Cond.fieldLink "SlateHands$Port" (27 : Nat) "SlateHands$Port" "slateHouse" "[I") ∈ TB := tb1 187 rfl rfl
theorem w1_188 : (Jvm.Cond.fieldLink "SlateHands$Alone" (71 : Nat) "SlateHands$Port" "slateHouse" "[I") ∈ TB := tb1 188 rfl rfl
theorem w1_189 : (Jvm.Cond.fieldLink "SlateHands$Course" (76 : Nat) "SlateHands$Port" "slateHouse" "[I") ∈ TB := tb1 189 rfl rfl
theorem w1_190 : (Jvm.Cond.fieldLink "SlateHands$Reader" (162 : Nat) "SlateHands$Port" "slateHouse" "[I") ∈ TB := tb1 190 rfl rfl
theorem w1_191 : (Jvm.Cond.fieldLink "SlateHands" (351 : Nat) "SlateHands$Port" "slateHouse" "[I") ∈ TB := tb1 191 rfl rfl
theorem w1_192 : (Jvm.Cond.fieldLink "SlateHands$Port" (30 : Nat) "SlateHands$Port" "words" "[I") ∈ TB := tb1 192 rfl rfl
theorem w1_193 : (Jvm.Cond.fieldLink "SlateHands$Reader" (170 : Nat) "SlateHands$Port" "words" "[I") ∈ TB := tb1 193 rfl rfl
theorem w1_194 : (Jvm.Cond.fieldLink "SlateHands$Port" (33 : Nat) "SlateHands$Port" "heavy" "[I") ∈ TB := tb1 194 rfl rfl
theorem w1_195 : (Jvm.Cond.fieldLink "SlateHands" (147 : Nat) "SlateHands$Port" "heavy" "[I") ∈ TB := tb1 195 rfl rfl
theorem w1_196 : (Jvm.Cond.fieldLink "SlateHands$Reader" (167 : Nat) "SlateHands$Port" "heavy" "[I") ∈ TB := tb1 196 rfl rfl
theorem w1_197 : (Jvm.Cond.fieldLink "SlateHands$Port" (39 : Nat) "SlateHands$Port" "carries" "LSlateHands$Carries;") ∈ TB := tb1 197 rfl rfl
theorem w1_198 : (Jvm.Cond.fieldLink "SlateHands$Reader" (45 : Nat) "SlateHands$Port" "carries" "LSlateHands$Carries;") ∈ TB := tb1 198 rfl rfl
theorem w1_199 : (Jvm.Cond.fieldLink "SlateHands$Course" (87 : Nat) "SlateHands$Port" "carries" "LSlateHands$Carries;") ∈ TB := tb1 199 rfl rfl
theorem w1_200 : (Jvm.Cond.fieldLink "SlateHands" (213 : Nat) "SlateHands$Port" "carries" "LSlateHands$Carries;") ∈ TB := tb1 200 rfl rfl
theorem w1_237 : (Jvm.Cond.classLink "SlateHands" (37 : Nat) "SlateHands$Slots") ∈ TB := tb1 237 rfl rfl
theorem w1_238 : (Jvm.Cond.instantiable "SlateHands$Slots" (3 : Nat)) ∈ TB := tb1 238 rfl rfl
theorem w2_0 : (Jvm.Cond.instanceMethod ({ cls := "SlateHands$Slots", name := "<init>", desc := "()V" } : Jvm.MethodName)) ∈ TB := tb2 0 rfl rfl
theorem w2_1 : (Jvm.Cond.code ({ cls := "SlateHands$Slots", name := "<init>", desc := "()V" } : Jvm.MethodName) prog_10_method_1_code (1 : Nat) (Option.none : Option Jvm.ClassFile.FieldType)) ∈ TB := tb2 1 rfl rfl
theorem w2_2 : (Jvm.Cond.methodLink "SlateHands$Slots" (3 : Nat) ({ cls := "java/lang/Object", name := "<init>", desc := "()V" } : Jvm.MethodName)) ∈ TB := tb2 2 rfl rfl
theorem w2_3 : (Jvm.Cond.fieldLink "SlateHands$Slots" (11 : Nat) "SlateHands$Slots" "widths" "[I") ∈ TB := tb2 3 rfl rfl
theorem w2_4 : (Jvm.Cond.fieldLink "SlateHands$Slots" (15 : Nat) "SlateHands$Slots" "sizes" "[I") ∈ TB := tb2 4 rfl rfl
theorem w2_5 : (Jvm.Cond.fieldLink "SlateHands$Slots" (18 : Nat) "SlateHands$Slots" "numbers" "[J") ∈ TB := tb2 5 rfl rfl
theorem w2_13 : (Jvm.Cond.arrayClass Jvm.ClassFile.FieldType.long) ∈ TB := tb2 13 rfl rfl
theorem w2_14 : (Jvm.Cond.classLink "SlateHands" (44 : Nat) "SlateHands$Diary") ∈ TB := tb2 14 rfl rfl
theorem w2_15 : (Jvm.Cond.instantiable "SlateHands$Diary" (7 : Nat)) ∈ TB := tb2 15 rfl rfl
theorem w2_17 : (Jvm.Cond.instanceMethod ({ cls := "SlateHands$Diary", name := "<init>", desc := "()V" } : Jvm.MethodName)) ∈ TB := tb2 17 rfl rfl
theorem w2_18 : (Jvm.Cond.code ({ cls := "SlateHands$Diary", name := "<init>", desc := "()V" } : Jvm.MethodName) prog_5_method_1_code (1 : Nat) (Option.none : Option Jvm.ClassFile.FieldType)) ∈ TB := tb2 18 rfl rfl
theorem w2_19 : (Jvm.Cond.methodLink "SlateHands$Diary" (3 : Nat) ({ cls := "java/lang/Object", name := "<init>", desc := "()V" } : Jvm.MethodName)) ∈ TB := tb2 19 rfl rfl
theorem w2_20 : (Jvm.Cond.classLink "SlateHands$Diary" (9 : Nat) "SlateHands$Course") ∈ TB := tb2 20 rfl rfl
theorem w2_21 : (Jvm.Cond.instantiable "SlateHands$Course" (15 : Nat)) ∈ TB := tb2 21 rfl rfl
theorem w2_23 : (Jvm.Cond.instanceMethod ({ cls := "SlateHands$Course", name := "<init>", desc := "()V" } : Jvm.MethodName)) ∈ TB := tb2 23 rfl rfl
theorem w2_24 : (Jvm.Cond.code ({ cls := "SlateHands$Course", name := "<init>", desc := "()V" } : Jvm.MethodName) prog_4_method_1_code (1 : Nat) (Option.none : Option Jvm.ClassFile.FieldType)) ∈ TB := tb2 24 rfl rfl
theorem w2_25 : (Jvm.Cond.methodLink "SlateHands$Course" (3 : Nat) ({ cls := "java/lang/Object", name := "<init>", desc := "()V" } : Jvm.MethodName)) ∈ TB := tb2 25 rfl rfl
theorem w2_26 : (Jvm.Cond.fieldLink "SlateHands$Course" (39 : Nat) "SlateHands$Course" "law" "I") ∈ TB := tb2 26 rfl rfl
theorem w2_27 : (Jvm.Cond.fieldLink "SlateHands" (341 : Nat) "SlateHands$Course" "law" "I") ∈ TB := tb2 27 rfl rfl
theorem w2_28 : (Jvm.Cond.fieldLink "SlateHands$Course" (40 : Nat) "SlateHands$Course" "lostWay" "I") ∈ TB := tb2 28 rfl rfl
theorem w2_29 : (Jvm.Cond.fieldLink "SlateHands" (455 : Nat) "SlateHands$Course" "lostWay" "I") ∈ TB := tb2 29 rfl rfl
theorem w2_30 : (Jvm.Cond.fieldLink "SlateHands$Course" (43 : Nat) "SlateHands$Course" "shut" "I") ∈ TB := tb2 30 rfl rfl
theorem w2_31 : (Jvm.Cond.fieldLink "SlateHands" (458 : Nat) "SlateHands$Course" "shut" "I") ∈ TB := tb2 31 rfl rfl
theorem w2_32 : (Jvm.Cond.fieldLink "SlateHands$Course" (46 : Nat) "SlateHands$Course" "rain" "I") ∈ TB := tb2 32 rfl rfl
theorem w2_33 : (Jvm.Cond.fieldLink "SlateHands$Weather" (64 : Nat) "SlateHands$Course" "rain" "I") ∈ TB := tb2 33 rfl rfl
theorem w2_34 : (Jvm.Cond.fieldLink "SlateHands" (449 : Nat) "SlateHands$Course" "rain" "I") ∈ TB := tb2 34 rfl rfl
theorem w2_35 : (Jvm.Cond.fieldLink "SlateHands$Course" (49 : Nat) "SlateHands$Course" "movedSlate" "I") ∈ TB := tb2 35 rfl rfl
theorem w2_36 : (Jvm.Cond.fieldLink "SlateHands$Seen" (59 : Nat) "SlateHands$Course" "movedSlate" "I") ∈ TB := tb2 36 rfl rfl
theorem w2_37 : (Jvm.Cond.fieldLink "SlateHands$Course" (52 : Nat) "SlateHands$Course" "movedHouse" "I") ∈ TB := tb2 37 rfl rfl
theorem w2_38 : (Jvm.Cond.fieldLink "SlateHands$Seen" (62 : Nat) "SlateHands$Course" "movedHouse" "I") ∈ TB := tb2 38 rfl rfl
theorem w2_39 : (Jvm.Cond.fieldLink "SlateHands$Diary" (52 : Nat) "SlateHands$Course" "carriersOut" "I") ∈ TB := tb2 39 rfl rfl
theorem w2_40 : (Jvm.Cond.fieldLink "SlateHands$Course" (81 : Nat) "SlateHands$Course" "carriersOut" "I") ∈ TB := tb2 40 rfl rfl
theorem w2_41 : (Jvm.Cond.fieldLink "SlateHands$Course" (84 : Nat) "SlateHands$Course" "slatesOut" "I") ∈ TB := tb2 41 rfl rfl
theorem w2_42 : (Jvm.Cond.fieldLink "SlateHands$Course" (9 : Nat) "SlateHands$Course" "carrierHouse" "[I") ∈ TB := tb2 42 rfl rfl
theorem w2_43 : (Jvm.Cond.fieldLink "SlateHands$Diary" (79 : Nat) "SlateHands$Course" "carrierHouse" "[I") ∈ TB := tb2 43 rfl rfl
theorem w2_44 : (Jvm.Cond.fieldLink "SlateHands$Course" (15 : Nat) "SlateHands$Course" "slateHouse" "[I") ∈ TB := tb2 44 rfl rfl
theorem w2_45 : (Jvm.Cond.fieldLink "SlateHands$Diary" (86 : Nat) "SlateHands$Course" "slateHouse" "[I") ∈ TB := tb2 45 rfl rfl
theorem w2_46 : (Jvm.Cond.fieldLink "SlateHands$Course" (18 : Nat) "SlateHands$Course" "left" "[I") ∈ TB := tb2 46 rfl rfl
theorem w2_47 : (Jvm.Cond.fieldLink "SlateHands$Weather" (90 : Nat) "SlateHands$Course" "left" "[I") ∈ TB := tb2 47 rfl rfl
theorem w2_48 : (Jvm.Cond.fieldLink "SlateHands$Diary" (87 : Nat) "SlateHands$Course" "left" "[I") ∈ TB := tb2 48 rfl rfl
theorem w2_49 : (Jvm.Cond.fieldLink "SlateHands" (416 : Nat) "SlateHands$Course" "left" "[I") ∈ TB := tb2 49 rfl rfl
theorem w2_50 : (Jvm.Cond.fieldLink "SlateHands$Course" (21 : Nat) "SlateHands$Course" "known" "[I") ∈ TB := tb2 50 rfl rfl
theorem w2_51 : (Jvm.Cond.fieldLink "SlateHands$Diary" (88 : Nat) "SlateHands$Course" "known" "[I") ∈ TB := tb2 51 rfl rfl
theorem w2_52 : (Jvm.Cond.fieldLink "SlateHands$Course" (24 : Nat) "SlateHands$Course" "been" "[I") ∈ TB := tb2 52 rfl rfl
theorem w2_53 : (Jvm.Cond.fieldLink "SlateHands$Course" (27 : Nat) "SlateHands$Course" "reason" "[I") ∈ TB := tb2 53 rfl rfl
theorem w2_54 : (Jvm.Cond.fieldLink "SlateHands$Diary" (69 : Nat) "SlateHands$Course" "reason" "[I") ∈ TB := tb2 54 rfl rfl
theorem w2_55 : (Jvm.Cond.fieldLink "SlateHands$Course" (30 : Nat) "SlateHands$Course" "load" "[I") ∈ TB := tb2 55 rfl rfl
theorem w2_56 : (Jvm.Cond.fieldLink "SlateHands$Diary" (72 : Nat) "SlateHands$Course" "load" "[I") ∈ TB := tb2 56 rfl rfl
theorem w2_88 : (Jvm.Cond.fieldLink "SlateHands" (441 : Nat) "SlateHands$Diary" "fresh" "Z") ∈ TB := tb2 88 rfl rfl
theorem w2_89 : (Jvm.Cond.fieldLink "SlateHands$Diary" (12 : Nat) "SlateHands$Diary" "course" "LSlateHands$Course;") ∈ TB := tb2 89 rfl rfl
theorem w2_90 : (Jvm.Cond.fieldLink "SlateHands$Seen" (47 : Nat) "SlateHands$Diary" "course" "LSlateHands$Course;") ∈ TB := tb2 90 rfl rfl
theorem w2_91 : (Jvm.Cond.fieldLink "SlateHands" (332 : Nat) "SlateHands$Diary" "course" "LSlateHands$Course;") ∈ TB := tb2 91 rfl rfl
theorem w2_92 : (Jvm.Cond.fieldLink "SlateHands$Diary" (18 : Nat) "SlateHands$Diary" "carrierHouse" "[I") ∈ TB := tb2 92 rfl rfl
theorem w2_93 : (Jvm.Cond.fieldLink "SlateHands$Diary" (22 : Nat) "SlateHands$Diary" "slateHouse" "[I") ∈ TB := tb2 93 rfl rfl
theorem w2_94 : (Jvm.Cond.fieldLink "SlateHands$Diary" (25 : Nat) "SlateHands$Diary" "left" "[I") ∈ TB := tb2 94 rfl rfl
theorem w2_95 : (Jvm.Cond.fieldLink "SlateHands$Diary" (28 : Nat) "SlateHands$Diary" "known" "[I") ∈ TB := tb2 95 rfl rfl
theorem w2_96 : (Jvm.Cond.fieldLink "SlateHands$Diary" (31 : Nat) "SlateHands$Diary" "carriersOut" "[I") ∈ TB := tb2 96 rfl rfl
theorem w2_112 : (Jvm.Cond.classLink "SlateHands" (54 : Nat) "SlateHands$Paths") ∈ TB := tb2 112 rfl rfl
theorem w2_113 : (Jvm.Cond.instantiable "SlateHands$Paths" (1 : Nat)) ∈ TB := tb2 113 rfl rfl
theorem w2_115 : (Jvm.Cond.instanceMethod ({ cls := "SlateHands$Paths", name := "<init>", desc := "()V" } : Jvm.MethodName)) ∈ TB := tb2 115 rfl rfl
theorem w2_116 : (Jvm.Cond.code ({ cls := "SlateHands$Paths", name := "<init>", desc := "()V" } : Jvm.MethodName) prog_6_method_1_code (1 : Nat) (Option.none : Option Jvm.ClassFile.FieldType)) ∈ TB := tb2 116 rfl rfl
theorem w2_117 : (Jvm.Cond.methodLink "SlateHands$Paths" (3 : Nat) ({ cls := "java/lang/Object", name := "<init>", desc := "()V" } : Jvm.MethodName)) ∈ TB := tb2 117 rfl rfl
theorem w2_118 : (Jvm.Cond.fieldLink "SlateHands$Paths" (9 : Nat) "SlateHands$Paths" "climbs" "[I") ∈ TB := tb2 118 rfl rfl
theorem w2_122 : (Jvm.Cond.classLink "SlateHands" (61 : Nat) "SlateHands$Alone") ∈ TB := tb2 122 rfl rfl
theorem w2_123 : (Jvm.Cond.instantiable "SlateHands$Alone" (17 : Nat)) ∈ TB := tb2 123 rfl rfl
theorem w2_125 : (Jvm.Cond.instanceMethod ({ cls := "SlateHands$Alone", name := "<init>", desc := "()V" } : Jvm.MethodName)) ∈ TB := tb2 125 rfl rfl
theorem w2_126 : (Jvm.Cond.code ({ cls := "SlateHands$Alone", name := "<init>", desc := "()V" } : Jvm.MethodName) prog_2_method_1_code (1 : Nat) (Option.none : Option Jvm.ClassFile.FieldType)) ∈ TB := tb2 126 rfl rfl
theorem w2_127 : (Jvm.Cond.methodLink "SlateHands$Alone" (5 : Nat) ({ cls := "java/lang/Object", name := "<init>", desc := "()V" } : Jvm.MethodName)) ∈ TB := tb2 127 rfl rfl
theorem w2_128 : (Jvm.Cond.fieldLink "SlateHands$Alone" (11 : Nat) "SlateHands$Alone" "soonest" "[I") ∈ TB := tb2 128 rfl rfl
theorem w2_129 : (Jvm.Cond.fieldLink "SlateHands" (258 : Nat) "SlateHands$Alone" "soonest" "[I") ∈ TB := tb2 129 rfl rfl
theorem w2_130 : (Jvm.Cond.fieldLink "SlateHands$Alone" (15 : Nat) "SlateHands$Alone" "mostWords" "[I") ∈ TB := tb2 130 rfl rfl
theorem w2_131 : (Jvm.Cond.fieldLink "SlateHands" (261 : Nat) "SlateHands$Alone" "mostWords" "[I") ∈ TB := tb2 131 rfl rfl
theorem w2_132 : (Jvm.Cond.fieldLink "SlateHands$Alone" (18 : Nat) "SlateHands$Alone" "needed" "[I") ∈ TB := tb2 132 rfl rfl
theorem w2_133 : (Jvm.Cond.fieldLink "SlateHands" (271 : Nat) "SlateHands$Alone" "needed" "[I") ∈ TB := tb2 133 rfl rfl
theorem w2_134 : (Jvm.Cond.fieldLink "SlateHands$Alone" (21 : Nat) "SlateHands$Alone" "mostHouses" "[I") ∈ TB := tb2 134 rfl rfl
theorem w2_135 : (Jvm.Cond.fieldLink "SlateHands$Alone" (24 : Nat) "SlateHands$Alone" "weights" "[I") ∈ TB := tb2 135 rfl rfl
theorem w2_136 : (Jvm.Cond.fieldLink "SlateHands$Alone" (27 : Nat) "SlateHands$Alone" "words" "[I") ∈ TB := tb2 136 rfl rfl
theorem w2_137 : (Jvm.Cond.fieldLink "SlateHands$Alone" (30 : Nat) "SlateHands$Alone" "doors" "[I") ∈ TB := tb2 137 rfl rfl
theorem w2_138 : (Jvm.Cond.fieldLink "SlateHands$Alone" (33 : Nat) "SlateHands$Alone" "seenAt" "[I") ∈ TB := tb2 138 rfl rfl
theorem w2_139 : (Jvm.Cond.fieldLink "SlateHands$Alone" (36 : Nat) "SlateHands$Alone" "queue" "[I") ∈ TB := tb2 139 rfl rfl
theorem w2_140 : (Jvm.Cond.fieldLink "SlateHands$Alone" (68 : Nat) "SlateHands$Alone" "queued" "I") ∈ TB := tb2 140 rfl rfl
theorem w2_141 : (Jvm.Cond.fieldLink "SlateHands$Alone" (39 : Nat) "SlateHands$Alone" "firstAwaited" "[I") ∈ TB := tb2 141 rfl rfl
theorem w2_142 : (Jvm.Cond.fieldLink "SlateHands$Alone" (42 : Nat) "SlateHands$Alone" "nextAwaited" "[I") ∈ TB := tb2 142 rfl rfl
theorem w2_143 : (Jvm.Cond.fieldLink "SlateHands$Alone" (45 : Nat) "SlateHands$Alone" "awaited" "[I") ∈ TB := tb2 143 rfl rfl
theorem w2_144 : (Jvm.Cond.fieldLink "SlateHands$Alone" (92 : Nat) "SlateHands$Alone" "awaitedInAll" "I") ∈ TB := tb2 144 rfl rfl
theorem w2_145 : (Jvm.Cond.fieldLink "SlateHands$Alone" (48 : Nat) "SlateHands$Alone" "searchedSlate" "I") ∈ TB := tb2 145 rfl rfl
theorem w2_146 : (Jvm.Cond.fieldLink "SlateHands$Alone" (52 : Nat) "SlateHands$Alone" "searchedStrong" "I") ∈ TB := tb2 146 rfl rfl
theorem w2_147 : (Jvm.Cond.fieldLink "SlateHands$Alone" (55 : Nat) "SlateHands$Alone" "neededSlate" "I") ∈ TB := tb2 147 rfl rfl
theorem w2_183 : (Jvm.Cond.classLink "SlateHands" (68 : Nat) "SlateHands$Weather") ∈ TB := tb2 183 rfl rfl
theorem w2_184 : (Jvm.Cond.instantiable "SlateHands$Weather" (4 : Nat)) ∈ TB := tb2 184 rfl rfl
theorem w2_186 : (Jvm.Cond.instanceMethod ({ cls := "SlateHands$Weather", name := "<init>", desc := "()V" } : Jvm.MethodName)) ∈ TB := tb2 186 rfl rfl
theorem w2_187 : (Jvm.Cond.code ({ cls := "SlateHands$Weather", name := "<init>", desc := "()V" } : Jvm.MethodName) prog_12_method_1_code (1 : Nat) (Option.none : Option Jvm.ClassFile.FieldType)) ∈ TB := tb2 187 rfl rfl
theorem w2_188 : (Jvm.Cond.methodLink "SlateHands$Weather" (3 : Nat) ({ cls := "java/lang/Object", name := "<init>", desc := "()V" } : Jvm.MethodName)) ∈ TB := tb2 188 rfl rfl
theorem w2_189 : (Jvm.Cond.fieldLink "SlateHands$Weather" (18 : Nat) "SlateHands$Weather" "fresh" "Z") ∈ TB := tb2 189 rfl rfl
theorem w2_190 : (Jvm.Cond.fieldLink "SlateHands" (445 : Nat) "SlateHands$Weather" "fresh" "Z") ∈ TB := tb2 190 rfl rfl
theorem w2_191 : (Jvm.Cond.fieldLink "SlateHands$Weather" (50 : Nat) "SlateHands$Weather" "whole" "J") ∈ TB := tb2 191 rfl rfl
theorem w2_192 : (Jvm.Cond.fieldLink "SlateHands" (376 : Nat) "SlateHands$Weather" "whole" "J") ∈ TB := tb2 192 rfl rfl
theorem w2_193 : (Jvm.Cond.fieldLink "SlateHands$Weather" (9 : Nat) "SlateHands$Weather" "known" "[J") ∈ TB := tb2 193 rfl rfl
theorem w2_194 : (Jvm.Cond.fieldLink "SlateHands$Weather" (15 : Nat) "SlateHands$Weather" "words" "[J") ∈ TB := tb2 194 rfl rfl
theorem w2_204 : (Jvm.Cond.classLink "SlateHands" (75 : Nat) "SlateHands$Seen") ∈ TB := tb2 204 rfl rfl
theorem w2_205 : (Jvm.Cond.instantiable "SlateHands$Seen" (2 : Nat)) ∈ TB := tb2 205 rfl rfl
theorem w2_207 : (Jvm.Cond.instanceMethod ({ cls := "SlateHands$Seen", name := "<init>", desc := "()V" } : Jvm.MethodName)) ∈ TB := tb2 207 rfl rfl
theorem w2_208 : (Jvm.Cond.code ({ cls := "SlateHands$Seen", name := "<init>", desc := "()V" } : Jvm.MethodName) prog_9_method_1_code (1 : Nat) (Option.none : Option Jvm.ClassFile.FieldType)) ∈ TB := tb2 208 rfl rfl
theorem w2_209 : (Jvm.Cond.methodLink "SlateHands$Seen" (3 : Nat) ({ cls := "java/lang/Object", name := "<init>", desc := "()V" } : Jvm.MethodName)) ∈ TB := tb2 209 rfl rfl
theorem w2_210 : (Jvm.Cond.fieldLink "SlateHands$Seen" (44 : Nat) "SlateHands$Seen" "firstHouses" "I") ∈ TB := tb2 210 rfl rfl
theorem w2_211 : (Jvm.Cond.fieldLink "SlateHands" (322 : Nat) "SlateHands$Seen" "firstHouses" "I") ∈ TB := tb2 211 rfl rfl
theorem w2_212 : (Jvm.Cond.fieldLink "SlateHands$Seen" (11 : Nat) "SlateHands$Seen" "lay" "[I") ∈ TB := tb2 212 rfl rfl
theorem w2_218 : (Jvm.Cond.fieldLink "SlateHands" (12 : Nat) "SlateHands" "tape" "LSlateHands$Tape;") ∈ TB := tb2 218 rfl rfl
theorem w2_219 : (Jvm.Cond.fieldLink "SlateHands" (19 : Nat) "SlateHands" "reader" "LSlateHands$Reader;") ∈ TB := tb2 219 rfl rfl
theorem w2_220 : (Jvm.Cond.fieldLink "SlateHands" (26 : Nat) "SlateHands" "port" "LSlateHands$Port;") ∈ TB := tb2 220 rfl rfl
theorem w2_221 : (Jvm.Cond.fieldLink "SlateHands" (30 : Nat) "SlateHands" "draft" "LSlateHands$Port;") ∈ TB := tb2 221 rfl rfl
theorem w2_222 : (Jvm.Cond.fieldLink "SlateHands" (33 : Nat) "SlateHands" "images" "[LSlateHands$Port;") ∈ TB := tb2 222 rfl rfl
theorem w2_223 : (Jvm.Cond.fieldLink "SlateHands" (40 : Nat) "SlateHands" "slots" "LSlateHands$Slots;") ∈ TB := tb2 223 rfl rfl
theorem w2_224 : (Jvm.Cond.fieldLink "SlateHands" (47 : Nat) "SlateHands" "now" "LSlateHands$Diary;") ∈ TB := tb2 224 rfl rfl
theorem w2_225 : (Jvm.Cond.fieldLink "SlateHands" (51 : Nat) "SlateHands" "whatIf" "LSlateHands$Diary;") ∈ TB := tb2 225 rfl rfl
theorem w2_226 : (Jvm.Cond.fieldLink "SlateHands" (57 : Nat) "SlateHands" "paths" "LSlateHands$Paths;") ∈ TB := tb2 226 rfl rfl
theorem w2_227 : (Jvm.Cond.fieldLink "SlateHands" (64 : Nat) "SlateHands" "alone" "LSlateHands$Alone;") ∈ TB := tb2 227 rfl rfl
theorem w2_228 : (Jvm.Cond.fieldLink "SlateHands" (71 : Nat) "SlateHands" "weather" "LSlateHands$Weather;") ∈ TB := tb2 228 rfl rfl
theorem w2_229 : (Jvm.Cond.fieldLink "SlateHands" (78 : Nat) "SlateHands" "seen" "LSlateHands$Seen;") ∈ TB := tb2 229 rfl rfl
theorem w2_230 : (Jvm.Cond.fieldLink "SlateHands" (82 : Nat) "SlateHands" "gains" "[I") ∈ TB := tb2 230 rfl rfl
theorem w2_231 : (Jvm.Cond.fieldLink "SlateHands" (86 : Nat) "SlateHands" "otherGains" "[I") ∈ TB := tb2 231 rfl rfl
theorem w3_21 : (Jvm.Cond.methodLink "SlateHandsLaw" (13 : Nat) ({ cls := "SlateHands", name := "feed", desc := "(IIIII)I" } : Jvm.MethodName)) ∈ TB := tb3 21 rfl rfl
theorem w3_22 : (Jvm.Cond.instanceMethod ({ cls := "SlateHands", name := "feed", desc := "(IIIII)I" } : Jvm.MethodName)) ∈ TB := tb3 22 rfl rfl
theorem w3_23 : (Jvm.Cond.selects "SlateHands" ({ cls := "SlateHands", name := "feed", desc := "(IIIII)I" } : Jvm.MethodName) ({ cls := "SlateHands", name := "feed", desc := "(IIIII)I" } : Jvm.MethodName)) ∈ TB := tb3 23 rfl rfl
theorem w3_24 : (Jvm.Cond.code ({ cls := "SlateHands", name := "feed", desc := "(IIIII)I" } : Jvm.MethodName) prog_1_method_2_code (6 : Nat) (Option.some Jvm.ClassFile.FieldType.int)) ∈ TB := tb3 24 rfl rfl
theorem w3_25 : (Jvm.Cond.methodLink "SlateHands" (93 : Nat) ({ cls := "SlateHands$Tape", name := "add", desc := "(I)V" } : Jvm.MethodName)) ∈ TB := tb3 25 rfl rfl
theorem w3_26 : (Jvm.Cond.instanceMethod ({ cls := "SlateHands$Tape", name := "add", desc := "(I)V" } : Jvm.MethodName)) ∈ TB := tb3 26 rfl rfl
theorem w3_27 : (Jvm.Cond.selects "SlateHands$Tape" ({ cls := "SlateHands$Tape", name := "add", desc := "(I)V" } : Jvm.MethodName) ({ cls := "SlateHands$Tape", name := "add", desc := "(I)V" } : Jvm.MethodName)) ∈ TB := tb3 27 rfl rfl
theorem w3_28 : (Jvm.Cond.code ({ cls := "SlateHands$Tape", name := "add", desc := "(I)V" } : Jvm.MethodName) prog_11_method_2_code (3 : Nat) (Option.none : Option Jvm.ClassFile.FieldType)) ∈ TB := tb3 28 rfl rfl
theorem w3_29 : (Jvm.Cond.methodLink "SlateHandsLaw" (18 : Nat) ({ cls := "SlateHands", name := "end", desc := "(I)I" } : Jvm.MethodName)) ∈ TB := tb3 29 rfl rfl
theorem w3_30 : (Jvm.Cond.instanceMethod ({ cls := "SlateHands", name := "end", desc := "(I)I" } : Jvm.MethodName)) ∈ TB := tb3 30 rfl rfl
theorem w3_31 : (Jvm.Cond.selects "SlateHands" ({ cls := "SlateHands", name := "end", desc := "(I)I" } : Jvm.MethodName) ({ cls := "SlateHands", name := "end", desc := "(I)I" } : Jvm.MethodName)) ∈ TB := tb3 31 rfl rfl
theorem w3_32 : (Jvm.Cond.code ({ cls := "SlateHands", name := "end", desc := "(I)I" } : Jvm.MethodName) prog_1_method_3_code (2 : Nat) (Option.some Jvm.ClassFile.FieldType.int)) ∈ TB := tb3 32 rfl rfl
theorem w3_33 : (Jvm.Cond.methodLink "SlateHandsLaw" (23 : Nat) ({ cls := "SlateHands", name := "port", desc := "()I" } : Jvm.MethodName)) ∈ TB := tb3 33 rfl rfl
theorem w3_34 : (Jvm.Cond.instanceMethod ({ cls := "SlateHands", name := "port", desc := "()I" } : Jvm.MethodName)) ∈ TB := tb3 34 rfl rfl
theorem w3_35 : (Jvm.Cond.selects "SlateHands" ({ cls := "SlateHands", name := "port", desc := "()I" } : Jvm.MethodName) ({ cls := "SlateHands", name := "port", desc := "()I" } : Jvm.MethodName)) ∈ TB := tb3 35 rfl rfl
theorem w3_36 : (Jvm.Cond.code ({ cls := "SlateHands", name := "port", desc := "()I" } : Jvm.MethodName) prog_1_method_4_code (2 : Nat) (Option.some Jvm.ClassFile.FieldType.int)) ∈ TB := tb3 36 rfl rfl
theorem w3_37 : (Jvm.Cond.methodLink "SlateHands" (97 : Nat) ({ cls := "SlateHands$Reader", name := "read", desc := "(LSlateHands$Tape;LSlateHands$Port;)Z" } : Jvm.MethodName)) ∈ TB := tb3 37 rfl rfl
theorem w3_38 : (Jvm.Cond.instanceMethod ({ cls := "SlateHands$Reader", name := "read", desc := "(LSlateHands$Tape;LSlateHands$Port;)Z" } : Jvm.MethodName)) ∈ TB := tb3 38 rfl rfl
theorem w3_39 : (Jvm.Cond.selects "SlateHands$Reader" ({ cls := "SlateHands$Reader", name := "read", desc := "(LSlateHands$Tape;LSlateHands$Port;)Z" } : Jvm.MethodName) ({ cls := "SlateHands$Reader", name := "read", desc := "(LSlateHands$Tape;LSlateHands$Port;)Z" } : Jvm.MethodName)) ∈ TB := tb3 39 rfl rfl
theorem w3_40 : (Jvm.Cond.code ({ cls := "SlateHands$Reader", name := "read", desc := "(LSlateHands$Tape;LSlateHands$Port;)Z" } : Jvm.MethodName) prog_8_method_2_code (4 : Nat) (Option.some Jvm.ClassFile.FieldType.boolean)) ∈ TB := tb3 40 rfl rfl
theorem w3_41 : (Jvm.Cond.methodLink "SlateHands$Reader" (18 : Nat) ({ cls := "SlateHands$Port", name := "clear", desc := "()V" } : Jvm.MethodName)) ∈ TB := tb3 41 rfl rfl
theorem w3_42 : (Jvm.Cond.instanceMethod ({ cls := "SlateHands$Port", name := "clear", desc := "()V" } : Jvm.MethodName)) ∈ TB := tb3 42 rfl rfl
theorem w3_43 : (Jvm.Cond.selects "SlateHands$Port" ({ cls := "SlateHands$Port", name := "clear", desc := "()V" } : Jvm.MethodName) ({ cls := "SlateHands$Port", name := "clear", desc := "()V" } : Jvm.MethodName)) ∈ TB := tb3 43 rfl rfl
theorem w3_44 : (Jvm.Cond.code ({ cls := "SlateHands$Port", name := "clear", desc := "()V" } : Jvm.MethodName) prog_7_method_2_code (1 : Nat) (Option.none : Option Jvm.ClassFile.FieldType)) ∈ TB := tb3 44 rfl rfl
theorem w3_45 : (Jvm.Cond.methodLink "SlateHands$Port" (68 : Nat) ({ cls := "SlateHands$Carries", name := "clear", desc := "()V" } : Jvm.MethodName)) ∈ TB := tb3 45 rfl rfl
theorem w3_46 : (Jvm.Cond.instanceMethod ({ cls := "SlateHands$Carries", name := "clear", desc := "()V" } : Jvm.MethodName)) ∈ TB := tb3 46 rfl rfl
theorem w3_47 : (Jvm.Cond.selects "SlateHands$Carries" ({ cls := "SlateHands$Carries", name := "clear", desc := "()V" } : Jvm.MethodName) ({ cls := "SlateHands$Carries", name := "clear", desc := "()V" } : Jvm.MethodName)) ∈ TB := tb3 47 rfl rfl
theorem w3_48 : (Jvm.Cond.code ({ cls := "SlateHands$Carries", name := "clear", desc := "()V" } : Jvm.MethodName) prog_3_method_2_code (1 : Nat) (Option.none : Option Jvm.ClassFile.FieldType)) ∈ TB := tb3 48 rfl rfl
theorem w3_49 : (Jvm.Cond.methodLink "SlateHands$Reader" (23 : Nat) ({ cls := "SlateHands$Tape", name := "rewind", desc := "()V" } : Jvm.MethodName)) ∈ TB := tb3 49 rfl rfl
theorem w3_50 : (Jvm.Cond.instanceMethod ({ cls := "SlateHands$Tape", name := "rewind", desc := "()V" } : Jvm.MethodName)) ∈ TB := tb3 50 rfl rfl
theorem w3_51 : (Jvm.Cond.selects "SlateHands$Tape" ({ cls := "SlateHands$Tape", name := "rewind", desc := "()V" } : Jvm.MethodName) ({ cls := "SlateHands$Tape", name := "rewind", desc := "()V" } : Jvm.MethodName)) ∈ TB := tb3 51 rfl rfl
theorem w3_52 : (Jvm.Cond.code ({ cls := "SlateHands$Tape", name := "rewind", desc := "()V" } : Jvm.MethodName) prog_11_method_3_code (1 : Nat) (Option.none : Option Jvm.ClassFile.FieldType)) ∈ TB := tb3 52 rfl rfl
theorem w3_53 : (Jvm.Cond.methodLink "SlateHands$Reader" (28 : Nat) ({ cls := "SlateHands$Tape", name := "next", desc := "()V" } : Jvm.MethodName)) ∈ TB := tb3 53 rfl rfl
theorem w3_54 : (Jvm.Cond.instanceMethod ({ cls := "SlateHands$Tape", name := "next", desc := "()V" } : Jvm.MethodName)) ∈ TB := tb3 54 rfl rfl
theorem w3_55 : (Jvm.Cond.selects "SlateHands$Tape" ({ cls := "SlateHands$Tape", name := "next", desc := "()V" } : Jvm.MethodName) ({ cls := "SlateHands$Tape", name := "next", desc := "()V" } : Jvm.MethodName)) ∈ TB := tb3 55 rfl rfl
theorem w3_56 : (Jvm.Cond.code ({ cls := "SlateHands$Tape", name := "next", desc := "()V" } : Jvm.MethodName) prog_11_method_4_code (2 : Nat) (Option.none : Option Jvm.ClassFile.FieldType)) ∈ TB := tb3 56 rfl rfl
theorem w3_57 : (Jvm.Cond.methodLink "SlateHands$Tape" (25 : Nat) ({ cls := "SlateHands$Tape", name := "byteAt", desc := "(I)I" } : Jvm.MethodName)) ∈ TB := tb3 57 rfl rfl
theorem w3_59 : (Jvm.Cond.instanceMethod ({ cls := "SlateHands$Tape", name := "byteAt", desc := "(I)I" } : Jvm.MethodName)) ∈ TB := tb3 59 rfl rfl
theorem w3_60 : (Jvm.Cond.code ({ cls := "SlateHands$Tape", name := "byteAt", desc := "(I)I" } : Jvm.MethodName) prog_11_method_6_code (2 : Nat) (Option.some Jvm.ClassFile.FieldType.int)) ∈ TB := tb3 60 rfl rfl
theorem w3_61 : (Jvm.Cond.methodLink "SlateHands$Tape" (29 : Nat) ({ cls := "SlateHands$Tape", name := "isBlank", desc := "(I)Z" } : Jvm.MethodName)) ∈ TB := tb3 61 rfl rfl
theorem w3_62 : (Jvm.Cond.static ({ cls := "SlateHands$Tape", name := "isBlank", desc := "(I)Z" } : Jvm.MethodName)) ∈ TB := tb3 62 rfl rfl
theorem w3_63 : (Jvm.Cond.code ({ cls := "SlateHands$Tape", name := "isBlank", desc := "(I)Z" } : Jvm.MethodName) prog_11_method_8_code (1 : Nat) (Option.some Jvm.ClassFile.FieldType.boolean)) ∈ TB := tb3 63 rfl rfl
theorem w3_64 : (Jvm.Cond.methodLink "SlateHands$Tape" (39 : Nat) ({ cls := "SlateHands$Tape", name := "kindOf", desc := "(I)I" } : Jvm.MethodName)) ∈ TB := tb3 64 rfl rfl
theorem w3_65 : (Jvm.Cond.static ({ cls := "SlateHands$Tape", name := "kindOf", desc := "(I)I" } : Jvm.MethodName)) ∈ TB := tb3 65 rfl rfl
theorem w3_66 : (Jvm.Cond.code ({ cls := "SlateHands$Tape", name := "kindOf", desc := "(I)I" } : Jvm.MethodName) prog_11_method_7_code (1 : Nat) (Option.some Jvm.ClassFile.FieldType.int)) ∈ TB := tb3 66 rfl rfl
theorem w3_67 : (Jvm.Cond.methodLink "SlateHands$Tape" (42 : Nat) ({ cls := "java/lang/Math", name := "min", desc := "(II)I" } : Jvm.MethodName)) ∈ TB := tb3 67 rfl rfl
theorem w3_68 : (Jvm.Cond.static ({ cls := "java/lang/Math", name := "min", desc := "(II)I" } : Jvm.MethodName)) ∈ TB := tb3 68 rfl rfl
theorem w3_69 : (Jvm.Cond.code ({ cls := "java/lang/Math", name := "min", desc := "(II)I" } : Jvm.MethodName) prog_16_method_69_code (2 : Nat) (Option.some Jvm.ClassFile.FieldType.int)) ∈ TB := tb3 69 rfl rfl
theorem w3_70 : (Jvm.Cond.methodLink "SlateHands$Reader" (34 : Nat) ({ cls := "SlateHands$Reader", name := "readLine", desc := "(LSlateHands$Tape;LSlateHands$Port;)Z" } : Jvm.MethodName)) ∈ TB := tb3 70 rfl rfl
theorem w3_72 : (Jvm.Cond.instanceMethod ({ cls := "SlateHands$Reader", name := "readLine", desc := "(LSlateHands$Tape;LSlateHands$Port;)Z" } : Jvm.MethodName)) ∈ TB := tb3 72 rfl rfl
theorem w3_73 : (Jvm.Cond.code ({ cls := "SlateHands$Reader", name := "readLine", desc := "(LSlateHands$Tape;LSlateHands$Port;)Z" } : Jvm.MethodName) prog_8_method_3_code (3 : Nat) (Option.some Jvm.ClassFile.FieldType.boolean)) ∈ TB := tb3 73 rfl rfl
theorem w3_74 : (Jvm.Cond.methodLink "SlateHands$Reader" (57 : Nat) ({ cls := "SlateHands$Reader", name := "readPort", desc := "(LSlateHands$Tape;LSlateHands$Port;)Z" } : Jvm.MethodName)) ∈ TB := tb3 74 rfl rfl
theorem w3_76 : (Jvm.Cond.instanceMethod ({ cls := "SlateHands$Reader", name := "readPort", desc := "(LSlateHands$Tape;LSlateHands$Port;)Z" } : Jvm.MethodName)) ∈ TB := tb3 76 rfl rfl
theorem w3_77 : (Jvm.Cond.code ({ cls := "SlateHands$Reader", name := "readPort", desc := "(LSlateHands$Tape;LSlateHands$Port;)Z" } : Jvm.MethodName) prog_8_method_4_code (3 : Nat) (Option.some Jvm.ClassFile.FieldType.boolean)) ∈ TB := tb3 77 rfl rfl
theorem w3_79 : (Jvm.Cond.methodLink "SlateHands$Reader" (111 : Nat) ({ cls := "SlateHands$Reader", name := "readWord", desc := "(LSlateHands$Tape;Ljava/lang/String;)Z" } : Jvm.MethodName)) ∈ TB := tb3 79 rfl rfl
theorem w3_81 : (Jvm.Cond.instanceMethod ({ cls := "SlateHands$Reader", name := "readWord", desc := "(LSlateHands$Tape;Ljava/lang/String;)Z" } : Jvm.MethodName)) ∈ TB := tb3 81 rfl rfl
theorem w3_82 : (Jvm.Cond.code ({ cls := "SlateHands$Reader", name := "readWord", desc := "(LSlateHands$Tape;Ljava/lang/String;)Z" } : Jvm.MethodName) prog_8_method_11_code (3 : Nat) (Option.some Jvm.ClassFile.FieldType.boolean)) ∈ TB := tb3 82 rfl rfl
theorem w3_83 : (Jvm.Cond.methodLink "SlateHands$Reader" (62 : Nat) ({ cls := "SlateHands$Tape", name := "isAt", desc := "(Ljava/lang/String;)Z" } : Jvm.MethodName)) ∈ TB := tb3 83 rfl rfl
theorem w3_84 : (Jvm.Cond.instanceMethod ({ cls := "SlateHands$Tape", name := "isAt", desc := "(Ljava/lang/String;)Z" } : Jvm.MethodName)) ∈ TB := tb3 84 rfl rfl
theorem w3_85 : (Jvm.Cond.selects "SlateHands$Tape" ({ cls := "SlateHands$Tape", name := "isAt", desc := "(Ljava/lang/String;)Z" } : Jvm.MethodName) ({ cls := "SlateHands$Tape", name := "isAt", desc := "(Ljava/lang/String;)Z" } : Jvm.MethodName)) ∈ TB := tb3 85 rfl rfl
theorem w3_86 : (Jvm.Cond.code ({ cls := "SlateHands$Tape", name := "isAt", desc := "(Ljava/lang/String;)Z" } : Jvm.MethodName) prog_11_method_5_code (3 : Nat) (Option.some Jvm.ClassFile.FieldType.boolean)) ∈ TB := tb3 86 rfl rfl
theorem w3_87 : (Jvm.Cond.methodLink "SlateHands$Tape" (48 : Nat) ({ cls := "java/lang/String", name := "length", desc := "()I" } : Jvm.MethodName)) ∈ TB := tb3 87 rfl rfl
theorem w3_88 : (Jvm.Cond.instanceMethod ({ cls := "java/lang/String", name := "length", desc := "()I" } : Jvm.MethodName)) ∈ TB := tb3 88 rfl rfl
theorem w3_89 : (Jvm.Cond.selects "java/lang/String" ({ cls := "java/lang/String", name := "length", desc := "()I" } : Jvm.MethodName) ({ cls := "java/lang/String", name := "length", desc := "()I" } : Jvm.MethodName)) ∈ TB := tb3 89 rfl rfl
theorem w3_90 : (Jvm.Cond.code ({ cls := "java/lang/String", name := "length", desc := "()I" } : Jvm.MethodName) prog_17_method_54_code (1 : Nat) (Option.some Jvm.ClassFile.FieldType.int)) ∈ TB := tb3 90 rfl rfl
theorem w3_91 : (Jvm.Cond.methodLink "java/lang/String" (335 : Nat) ({ cls := "java/lang/String", name := "coder", desc := "()B" } : Jvm.MethodName)) ∈ TB := tb3 91 rfl rfl
theorem w3_92 : (Jvm.Cond.instanceMethod ({ cls := "java/lang/String", name := "coder", desc := "()B" } : Jvm.MethodName)) ∈ TB := tb3 92 rfl rfl
theorem w3_93 : (Jvm.Cond.selects "java/lang/String" ({ cls := "java/lang/String", name := "coder", desc := "()B" } : Jvm.MethodName) ({ cls := "java/lang/String", name := "coder", desc := "()B" } : Jvm.MethodName)) ∈ TB := tb3 93 rfl rfl
theorem w3_94 : (Jvm.Cond.code ({ cls := "java/lang/String", name := "coder", desc := "()B" } : Jvm.MethodName) prog_17_method_152_code (1 : Nat) (Option.some Jvm.ClassFile.FieldType.byte)) ∈ TB := tb3 94 rfl rfl
theorem w3_95 : (Jvm.Cond.fieldLink "java/lang/String" (38 : Nat) "java/lang/String" "COMPACT_STRINGS" "Z") ∈ TB := tb3 95 rfl rfl
theorem w3_97 : (Jvm.Cond.methodLink "SlateHands$Tape" (54 : Nat) ({ cls := "java/lang/String", name := "charAt", desc := "(I)C" } : Jvm.MethodName)) ∈ TB := tb3 97 rfl rfl
theorem w3_98 : (Jvm.Cond.instanceMethod ({ cls := "java/lang/String", name := "charAt", desc := "(I)C" } : Jvm.MethodName)) ∈ TB := tb3 98 rfl rfl
theorem w3_99 : (Jvm.Cond.selects "java/lang/String" ({ cls := "java/lang/String", name := "charAt", desc := "(I)C" } : Jvm.MethodName) ({ cls := "java/lang/String", name := "charAt", desc := "(I)C" } : Jvm.MethodName)) ∈ TB := tb3 99 rfl rfl
theorem w3_100 : (Jvm.Cond.code ({ cls := "java/lang/String", name := "charAt", desc := "(I)C" } : Jvm.MethodName) prog_17_method_56_code (2 : Nat) (Option.some Jvm.ClassFile.FieldType.char)) ∈ TB := tb3 100 rfl rfl
theorem w3_101 : (Jvm.Cond.methodLink "java/lang/String" (492 : Nat) ({ cls := "java/lang/String", name := "isLatin1", desc := "()Z" } : Jvm.MethodName)) ∈ TB := tb3 101 rfl rfl
theorem w3_102 : (Jvm.Cond.instanceMethod ({ cls := "java/lang/String", name := "isLatin1", desc := "()Z" } : Jvm.MethodName)) ∈ TB := tb3 102 rfl rfl
theorem w3_103 : (Jvm.Cond.selects "java/lang/String" ({ cls := "java/lang/String", name := "isLatin1", desc := "()Z" } : Jvm.MethodName) ({ cls := "java/lang/String", name := "isLatin1", desc := "()Z" } : Jvm.MethodName)) ∈ TB := tb3 103 rfl rfl
theorem w3_104 : (Jvm.Cond.code ({ cls := "java/lang/String", name := "isLatin1", desc := "()Z" } : Jvm.MethodName) prog_17_method_154_code (1 : Nat) (Option.some Jvm.ClassFile.FieldType.boolean)) ∈ TB := tb3 104 rfl rfl
theorem w3_105 : (Jvm.Cond.methodLink "java/lang/String" (495 : Nat) ({ cls := "java/lang/StringLatin1", name := "charAt", desc := "([BI)C" } : Jvm.MethodName)) ∈ TB := tb3 105 rfl rfl
theorem w3_106 : (Jvm.Cond.static ({ cls := "java/lang/StringLatin1", name := "charAt", desc := "([BI)C" } : Jvm.MethodName)) ∈ TB := tb3 106 rfl rfl
theorem w3_107 : (Jvm.Cond.code ({ cls := "java/lang/StringLatin1", name := "charAt", desc := "([BI)C" } : Jvm.MethodName) prog_18_method_2_code (2 : Nat) (Option.some Jvm.ClassFile.FieldType.char)) ∈ TB := tb3 107 rfl rfl
theorem w3_108 : (Jvm.Cond.methodLink "java/lang/StringLatin1" (9 : Nat) ({ cls := "java/lang/String", name := "checkIndex", desc := "(II)V" } : Jvm.MethodName)) ∈ TB := tb3 108 rfl rfl
theorem w3_109 : (Jvm.Cond.static ({ cls := "java/lang/String", name := "checkIndex", desc := "(II)V" } : Jvm.MethodName)) ∈ TB := tb3 109 rfl rfl
theorem w3_110 : (Jvm.Cond.code ({ cls := "java/lang/String", name := "checkIndex", desc := "(II)V" } : Jvm.MethodName) prog_17_method_155_code (2 : Nat) (Option.none : Option Jvm.ClassFile.FieldType)) ∈ TB := tb3 110 rfl rfl
theorem w3_111 : (Jvm.Cond.fieldLink "java/lang/String" (1053 : Nat) "jdk/internal/util/Preconditions" "SIOOBE_FORMATTER" "Ljava/util/function/BiFunction;") ∈ TB := tb3 111 rfl rfl
theorem w3_113 : (Jvm.Cond.methodLink "java/lang/String" (1059 : Nat) ({ cls := "jdk/internal/util/Preconditions", name := "checkIndex", desc := "(IILjava/util/function/BiFunction;)I" } : Jvm.MethodName)) ∈ TB := tb3 113 rfl rfl
theorem w3_114 : (Jvm.Cond.static ({ cls := "jdk/internal/util/Preconditions", name := "checkIndex", desc := "(IILjava/util/function/BiFunction;)I" } : Jvm.MethodName)) ∈ TB := tb3 114 rfl rfl
theorem w3_115 : (Jvm.Cond.code ({ cls := "jdk/internal/util/Preconditions", name := "checkIndex", desc := "(IILjava/util/function/BiFunction;)I" } : Jvm.MethodName) prog_22_method_11_code (3 : Nat) (Option.some Jvm.ClassFile.FieldType.int)) ∈ TB := tb3 115 rfl rfl
theorem w3_116 : (Jvm.Cond.methodLink "java/lang/String" (498 : Nat) ({ cls := "java/lang/StringUTF16", name := "charAt", desc := "([BI)C" } : Jvm.MethodName)) ∈ TB := tb3 116 rfl rfl
theorem w3_117 : (Jvm.Cond.static ({ cls := "java/lang/StringUTF16", name := "charAt", desc := "([BI)C" } : Jvm.MethodName)) ∈ TB := tb3 117 rfl rfl
theorem w3_118 : (Jvm.Cond.code ({ cls := "java/lang/StringUTF16", name := "charAt", desc := "([BI)C" } : Jvm.MethodName) prog_19_method_83_code (2 : Nat) (Option.some Jvm.ClassFile.FieldType.char)) ∈ TB := tb3 118 rfl rfl
theorem w3_119 : (Jvm.Cond.methodLink "java/lang/StringUTF16" (67 : Nat) ({ cls := "java/lang/StringUTF16", name := "checkIndex", desc := "(I[B)V" } : Jvm.MethodName)) ∈ TB := tb3 119 rfl rfl
theorem w3_120 : (Jvm.Cond.static ({ cls := "java/lang/StringUTF16", name := "checkIndex", desc := "(I[B)V" } : Jvm.MethodName)) ∈ TB := tb3 120 rfl rfl
theorem w3_121 : (Jvm.Cond.code ({ cls := "java/lang/StringUTF16", name := "checkIndex", desc := "(I[B)V" } : Jvm.MethodName) prog_19_method_91_code (2 : Nat) (Option.none : Option Jvm.ClassFile.FieldType)) ∈ TB := tb3 121 rfl rfl
theorem w3_122 : (Jvm.Cond.methodLink "java/lang/StringUTF16" (48 : Nat) ({ cls := "java/lang/StringUTF16", name := "length", desc := "([B)I" } : Jvm.MethodName)) ∈ TB := tb3 122 rfl rfl
theorem w3_123 : (Jvm.Cond.static ({ cls := "java/lang/StringUTF16", name := "length", desc := "([B)I" } : Jvm.MethodName)) ∈ TB := tb3 123 rfl rfl
theorem w3_124 : (Jvm.Cond.code ({ cls := "java/lang/StringUTF16", name := "length", desc := "([B)I" } : Jvm.MethodName) prog_19_method_6_code (1 : Nat) (Option.some Jvm.ClassFile.FieldType.int)) ∈ TB := tb3 124 rfl rfl
theorem w3_125 : (Jvm.Cond.methodLink "java/lang/StringUTF16" (414 : Nat) ({ cls := "java/lang/String", name := "checkIndex", desc := "(II)V" } : Jvm.MethodName)) ∈ TB := tb3 125 rfl rfl
theorem w3_126 : (Jvm.Cond.methodLink "java/lang/StringUTF16" (71 : Nat) ({ cls := "java/lang/StringUTF16", name := "getChar", desc := "([BI)C" } : Jvm.MethodName)) ∈ TB := tb3 126 rfl rfl
theorem w3_127 : (Jvm.Cond.static ({ cls := "java/lang/StringUTF16", name := "getChar", desc := "([BI)C" } : Jvm.MethodName)) ∈ TB := tb3 127 rfl rfl
theorem w3_128 : (Jvm.Cond.code ({ cls := "java/lang/StringUTF16", name := "getChar", desc := "([BI)C" } : Jvm.MethodName) prog_19_method_5_code (2 : Nat) (Option.some Jvm.ClassFile.FieldType.char)) ∈ TB := tb3 128 rfl rfl
theorem w3_129 : (Jvm.Cond.fieldLink "java/lang/StringUTF16" (44 : Nat) "java/lang/StringUTF16" "$assertionsDisabled" "Z") ∈ TB := tb3 129 rfl rfl
theorem w3_131 : (Jvm.Cond.fieldLink "java/lang/StringUTF16" (59 : Nat) "java/lang/StringUTF16" "HI_BYTE_SHIFT" "I") ∈ TB := tb3 131 rfl rfl
theorem w3_133 : (Jvm.Cond.fieldLink "java/lang/StringUTF16" (63 : Nat) "java/lang/StringUTF16" "LO_BYTE_SHIFT" "I") ∈ TB := tb3 133 rfl rfl
theorem w3_135 : (Jvm.Cond.methodLink "SlateHands$Reader" (105 : Nat) ({ cls := "SlateHands$Reader", name := "fail", desc := "(LSlateHands$Tape;I)Z" } : Jvm.MethodName)) ∈ TB := tb3 135 rfl rfl
theorem w3_137 : (Jvm.Cond.instanceMethod ({ cls := "SlateHands$Reader", name := "fail", desc := "(LSlateHands$Tape;I)Z" } : Jvm.MethodName)) ∈ TB := tb3 137 rfl rfl
theorem w3_138 : (Jvm.Cond.code ({ cls := "SlateHands$Reader", name := "fail", desc := "(LSlateHands$Tape;I)Z" } : Jvm.MethodName) prog_8_method_15_code (3 : Nat) (Option.some Jvm.ClassFile.FieldType.boolean)) ∈ TB := tb3 138 rfl rfl
theorem w3_140 : (Jvm.Cond.methodLink "SlateHands$Reader" (117 : Nat) ({ cls := "SlateHands$Reader", name := "readAmount", desc := "(LSlateHands$Tape;Ljava/lang/String;II)I" } : Jvm.MethodName)) ∈ TB := tb3 140 rfl rfl
theorem w3_142 : (Jvm.Cond.instanceMethod ({ cls := "SlateHands$Reader", name := "readAmount", desc := "(LSlateHands$Tape;Ljava/lang/String;II)I" } : Jvm.MethodName)) ∈ TB := tb3 142 rfl rfl
theorem w3_143 : (Jvm.Cond.code ({ cls := "SlateHands$Reader", name := "readAmount", desc := "(LSlateHands$Tape;Ljava/lang/String;II)I" } : Jvm.MethodName) prog_8_method_12_code (5 : Nat) (Option.some Jvm.ClassFile.FieldType.int)) ∈ TB := tb3 143 rfl rfl
theorem w3_144 : (Jvm.Cond.methodLink "SlateHands$Reader" (140 : Nat) ({ cls := "SlateHands$Reader", name := "readNumber", desc := "(LSlateHands$Tape;II)I" } : Jvm.MethodName)) ∈ TB := tb3 144 rfl rfl
theorem w3_146 : (Jvm.Cond.instanceMethod ({ cls := "SlateHands$Reader", name := "readNumber", desc := "(LSlateHands$Tape;II)I" } : Jvm.MethodName)) ∈ TB := tb3 146 rfl rfl
theorem w3_147 : (Jvm.Cond.code ({ cls := "SlateHands$Reader", name := "readNumber", desc := "(LSlateHands$Tape;II)I" } : Jvm.MethodName) prog_8_method_13_code (5 : Nat) (Option.some Jvm.ClassFile.FieldType.int)) ∈ TB := tb3 147 rfl rfl
theorem w3_151 : (Jvm.Cond.methodLink "SlateHands$Reader" (69 : Nat) ({ cls := "SlateHands$Reader", name := "hasRoom", desc := "(LSlateHands$Tape;II)Z" } : Jvm.MethodName)) ∈ TB := tb3 151 rfl rfl
theorem w3_153 : (Jvm.Cond.instanceMethod ({ cls := "SlateHands$Reader", name := "hasRoom", desc := "(LSlateHands$Tape;II)Z" } : Jvm.MethodName)) ∈ TB := tb3 153 rfl rfl
theorem w3_154 : (Jvm.Cond.code ({ cls := "SlateHands$Reader", name := "hasRoom", desc := "(LSlateHands$Tape;II)Z" } : Jvm.MethodName) prog_8_method_14_code (4 : Nat) (Option.some Jvm.ClassFile.FieldType.boolean)) ∈ TB := tb3 154 rfl rfl
theorem w3_155 : (Jvm.Cond.methodLink "SlateHands$Reader" (73 : Nat) ({ cls := "SlateHands$Reader", name := "readHouse", desc := "(LSlateHands$Tape;LSlateHands$Port;)Z" } : Jvm.MethodName)) ∈ TB := tb3 155 rfl rfl
theorem w3_157 : (Jvm.Cond.instanceMethod ({ cls := "SlateHands$Reader", name := "readHouse", desc := "(LSlateHands$Tape;LSlateHands$Port;)Z" } : Jvm.MethodName)) ∈ TB := tb3 157 rfl rfl
theorem w3_158 : (Jvm.Cond.code ({ cls := "SlateHands$Reader", name := "readHouse", desc := "(LSlateHands$Tape;LSlateHands$Port;)Z" } : Jvm.MethodName) prog_8_method_5_code (3 : Nat) (Option.some Jvm.ClassFile.FieldType.boolean)) ∈ TB := tb3 158 rfl rfl
theorem w3_161 : (Jvm.Cond.static ({ cls := "SlateHands", name := "put", desc := "([III)V" } : Jvm.MethodName)) ∈ TB := tb3 161 rfl rfl
theorem w3_162 : (Jvm.Cond.code ({ cls := "SlateHands", name := "put", desc := "([III)V" } : Jvm.MethodName) prog_1_method_66_code (3 : Nat) (Option.none : Option Jvm.ClassFile.FieldType)) ∈ TB := tb3 162 rfl rfl
theorem w3_164 : (Jvm.Cond.methodLink "SlateHands$Reader" (81 : Nat) ({ cls := "SlateHands$Reader", name := "readWay", desc := "(LSlateHands$Tape;LSlateHands$Port;)Z" } : Jvm.MethodName)) ∈ TB := tb3 164 rfl rfl
theorem w3_166 : (Jvm.Cond.instanceMethod ({ cls := "SlateHands$Reader", name := "readWay", desc := "(LSlateHands$Tape;LSlateHands$Port;)Z" } : Jvm.MethodName)) ∈ TB := tb3 166 rfl rfl
theorem w3_167 : (Jvm.Cond.code ({ cls := "SlateHands$Reader", name := "readWay", desc := "(LSlateHands$Tape;LSlateHands$Port;)Z" } : Jvm.MethodName) prog_8_method_6_code (4 : Nat) (Option.some Jvm.ClassFile.FieldType.boolean)) ∈ TB := tb3 167 rfl rfl
theorem w3_169 : (Jvm.Cond.methodLink "SlateHands$Reader" (89 : Nat) ({ cls := "SlateHands$Reader", name := "readCarrier", desc := "(LSlateHands$Tape;LSlateHands$Port;)Z" } : Jvm.MethodName)) ∈ TB := tb3 169 rfl rfl
theorem w3_171 : (Jvm.Cond.instanceMethod ({ cls := "SlateHands$Reader", name := "readCarrier", desc := "(LSlateHands$Tape;LSlateHands$Port;)Z" } : Jvm.MethodName)) ∈ TB := tb3 171 rfl rfl
theorem w3_172 : (Jvm.Cond.code ({ cls := "SlateHands$Reader", name := "readCarrier", desc := "(LSlateHands$Tape;LSlateHands$Port;)Z" } : Jvm.MethodName) prog_8_method_7_code (3 : Nat) (Option.some Jvm.ClassFile.FieldType.boolean)) ∈ TB := tb3 172 rfl rfl
theorem w3_176 : (Jvm.Cond.methodLink "SlateHands$Reader" (97 : Nat) ({ cls := "SlateHands$Reader", name := "readSlate", desc := "(LSlateHands$Tape;LSlateHands$Port;)Z" } : Jvm.MethodName)) ∈ TB := tb3 176 rfl rfl
theorem w3_178 : (Jvm.Cond.instanceMethod ({ cls := "SlateHands$Reader", name := "readSlate", desc := "(LSlateHands$Tape;LSlateHands$Port;)Z" } : Jvm.MethodName)) ∈ TB := tb3 178 rfl rfl
theorem w3_179 : (Jvm.Cond.code ({ cls := "SlateHands$Reader", name := "readSlate", desc := "(LSlateHands$Tape;LSlateHands$Port;)Z" } : Jvm.MethodName) prog_8_method_8_code (5 : Nat) (Option.some Jvm.ClassFile.FieldType.boolean)) ∈ TB := tb3 179 rfl rfl
theorem w3_182 : (Jvm.Cond.methodLink "SlateHands$Reader" (102 : Nat) ({ cls := "SlateHands$Reader", name := "readCarry", desc := "(LSlateHands$Tape;LSlateHands$Port;)Z" } : Jvm.MethodName)) ∈ TB := tb3 182 rfl rfl
theorem w3_184 : (Jvm.Cond.instanceMethod ({ cls := "SlateHands$Reader", name := "readCarry", desc := "(LSlateHands$Tape;LSlateHands$Port;)Z" } : Jvm.MethodName)) ∈ TB := tb3 184 rfl rfl
theorem w3_185 : (Jvm.Cond.code ({ cls := "SlateHands$Reader", name := "readCarry", desc := "(LSlateHands$Tape;LSlateHands$Port;)Z" } : Jvm.MethodName) prog_8_method_9_code (7 : Nat) (Option.some Jvm.ClassFile.FieldType.boolean)) ∈ TB := tb3 185 rfl rfl
theorem w3_187 : (Jvm.Cond.methodLink "SlateHands$Reader" (175 : Nat) ({ cls := "SlateHands$Carries", name := "add", desc := "(IIII)V" } : Jvm.MethodName)) ∈ TB := tb3 187 rfl rfl
theorem w3_188 : (Jvm.Cond.instanceMethod ({ cls := "SlateHands$Carries", name := "add", desc := "(IIII)V" } : Jvm.MethodName)) ∈ TB := tb3 188 rfl rfl
theorem w3_189 : (Jvm.Cond.selects "SlateHands$Carries" ({ cls := "SlateHands$Carries", name := "add", desc := "(IIII)V" } : Jvm.MethodName) ({ cls := "SlateHands$Carries", name := "add", desc := "(IIII)V" } : Jvm.MethodName)) ∈ TB := tb3 189 rfl rfl
theorem w3_190 : (Jvm.Cond.code ({ cls := "SlateHands$Carries", name := "add", desc := "(IIII)V" } : Jvm.MethodName) prog_3_method_4_code (5 : Nat) (Option.none : Option Jvm.ClassFile.FieldType)) ∈ TB := tb3 190 rfl rfl
theorem w3_192 : (Jvm.Cond.methodLink "SlateHands$Reader" (38 : Nat) ({ cls := "SlateHands$Reader", name := "readSign", desc := "(LSlateHands$Tape;)Z" } : Jvm.MethodName)) ∈ TB := tb3 192 rfl rfl
theorem w3_194 : (Jvm.Cond.instanceMethod ({ cls := "SlateHands$Reader", name := "readSign", desc := "(LSlateHands$Tape;)Z" } : Jvm.MethodName)) ∈ TB := tb3 194 rfl rfl
theorem w3_195 : (Jvm.Cond.code ({ cls := "SlateHands$Reader", name := "readSign", desc := "(LSlateHands$Tape;)Z" } : Jvm.MethodName) prog_8_method_10_code (2 : Nat) (Option.some Jvm.ClassFile.FieldType.boolean)) ∈ TB := tb3 195 rfl rfl
theorem w3_196 : (Jvm.Cond.methodLink "SlateHands" (101 : Nat) ({ cls := "SlateHands$Port", name := "copy", desc := "(LSlateHands$Port;)V" } : Jvm.MethodName)) ∈ TB := tb3 196 rfl rfl
theorem w3_197 : (Jvm.Cond.instanceMethod ({ cls := "SlateHands$Port", name := "copy", desc := "(LSlateHands$Port;)V" } : Jvm.MethodName)) ∈ TB := tb3 197 rfl rfl
theorem w3_198 : (Jvm.Cond.selects "SlateHands$Port" ({ cls := "SlateHands$Port", name := "copy", desc := "(LSlateHands$Port;)V" } : Jvm.MethodName) ({ cls := "SlateHands$Port", name := "copy", desc := "(LSlateHands$Port;)V" } : Jvm.MethodName)) ∈ TB := tb3 198 rfl rfl
theorem w3_199 : (Jvm.Cond.code ({ cls := "SlateHands$Port", name := "copy", desc := "(LSlateHands$Port;)V" } : Jvm.MethodName) prog_7_method_3_code (2 : Nat) (Option.none : Option Jvm.ClassFile.FieldType)) ∈ TB := tb3 199 rfl rfl
theorem w3_200 : (Jvm.Cond.methodLink "SlateHands$Port" (71 : Nat) ({ cls := "java/lang/System", name := "arraycopy", desc := "(Ljava/lang/Object;ILjava/lang/Object;II)V" } : Jvm.MethodName)) ∈ TB := tb3 200 rfl rfl
theorem w3_201 : (Jvm.Cond.static ({ cls := "java/lang/System", name := "arraycopy", desc := "(Ljava/lang/Object;ILjava/lang/Object;II)V" } : Jvm.MethodName)) ∈ TB := tb3 201 rfl rfl
theorem w3_202 : (Jvm.Cond.native ({ cls := "java/lang/System", name := "arraycopy", desc := "(Ljava/lang/Object;ILjava/lang/Object;II)V" } : Jvm.MethodName)) ∈ TB := tb3 202 rfl rfl
theorem w3_203 : (Jvm.Cond.methodLink "SlateHands$Port" (77 : Nat) ({ cls := "SlateHands$Carries", name := "copy", desc := "(LSlateHands$Carries;)V" } : Jvm.MethodName)) ∈ TB := tb3 203 rfl rfl
theorem w3_204 : (Jvm.Cond.instanceMethod ({ cls := "SlateHands$Carries", name := "copy", desc := "(LSlateHands$Carries;)V" } : Jvm.MethodName)) ∈ TB := tb3 204 rfl rfl
theorem w3_205 : (Jvm.Cond.selects "SlateHands$Carries" ({ cls := "SlateHands$Carries", name := "copy", desc := "(LSlateHands$Carries;)V" } : Jvm.MethodName) ({ cls := "SlateHands$Carries", name := "copy", desc := "(LSlateHands$Carries;)V" } : Jvm.MethodName)) ∈ TB := tb3 205 rfl rfl
theorem w3_206 : (Jvm.Cond.code ({ cls := "SlateHands$Carries", name := "copy", desc := "(LSlateHands$Carries;)V" } : Jvm.MethodName) prog_3_method_3_code (2 : Nat) (Option.none : Option Jvm.ClassFile.FieldType)) ∈ TB := tb3 206 rfl rfl
theorem w3_207 : (Jvm.Cond.methodLink "SlateHands$Carries" (40 : Nat) ({ cls := "java/lang/System", name := "arraycopy", desc := "(Ljava/lang/Object;ILjava/lang/Object;II)V" } : Jvm.MethodName)) ∈ TB := tb3 207 rfl rfl
theorem w3_208 : (Jvm.Cond.methodLink "SlateHands" (105 : Nat) ({ cls := "SlateHands", name := "makeStale", desc := "()V" } : Jvm.MethodName)) ∈ TB := tb3 208 rfl rfl
theorem w3_210 : (Jvm.Cond.instanceMethod ({ cls := "SlateHands", name := "makeStale", desc := "()V" } : Jvm.MethodName)) ∈ TB := tb3 210 rfl rfl
theorem w3_211 : (Jvm.Cond.code ({ cls := "SlateHands", name := "makeStale", desc := "()V" } : Jvm.MethodName) prog_1_method_72_code (1 : Nat) (Option.none : Option Jvm.ClassFile.FieldType)) ∈ TB := tb3 211 rfl rfl
theorem w3_212 : (Jvm.Cond.methodLink "SlateHands" (446 : Nat) ({ cls := "SlateHands$Alone", name := "forget", desc := "()V" } : Jvm.MethodName)) ∈ TB := tb3 212 rfl rfl
theorem w3_213 : (Jvm.Cond.instanceMethod ({ cls := "SlateHands$Alone", name := "forget", desc := "()V" } : Jvm.MethodName)) ∈ TB := tb3 213 rfl rfl
theorem w3_214 : (Jvm.Cond.selects "SlateHands$Alone" ({ cls := "SlateHands$Alone", name := "forget", desc := "()V" } : Jvm.MethodName) ({ cls := "SlateHands$Alone", name := "forget", desc := "()V" } : Jvm.MethodName)) ∈ TB := tb3 214 rfl rfl
theorem w3_215 : (Jvm.Cond.code ({ cls := "SlateHands$Alone", name := "forget", desc := "()V" } : Jvm.MethodName) prog_2_method_2_code (1 : Nat) (Option.none : Option Jvm.ClassFile.FieldType)) ∈ TB := tb3 215 rfl rfl
theorem w3_216 : (Jvm.Cond.methodLink "SlateHandsLaw" (28 : Nat) ({ cls := "SlateHands", name := "fault", desc := "(I)I" } : Jvm.MethodName)) ∈ TB := tb3 216 rfl rfl
theorem w3_217 : (Jvm.Cond.instanceMethod ({ cls := "SlateHands", name := "fault", desc := "(I)I" } : Jvm.MethodName)) ∈ TB := tb3 217 rfl rfl
theorem w3_218 : (Jvm.Cond.selects "SlateHands" ({ cls := "SlateHands", name := "fault", desc := "(I)I" } : Jvm.MethodName) ({ cls := "SlateHands", name := "fault", desc := "(I)I" } : Jvm.MethodName)) ∈ TB := tb3 218 rfl rfl
theorem w3_219 : (Jvm.Cond.code ({ cls := "SlateHands", name := "fault", desc := "(I)I" } : Jvm.MethodName) prog_1_method_5_code (2 : Nat) (Option.some Jvm.ClassFile.FieldType.int)) ∈ TB := tb3 219 rfl rfl
theorem w3_220 : (Jvm.Cond.methodLink "SlateHandsLaw" (32 : Nat) ({ cls := "SlateHands", name := "house", desc := "(I)I" } : Jvm.MethodName)) ∈ TB := tb3 220 rfl rfl
theorem w3_221 : (Jvm.Cond.instanceMethod ({ cls := "SlateHands", name := "house", desc := "(I)I" } : Jvm.MethodName)) ∈ TB := tb3 221 rfl rfl
theorem w3_222 : (Jvm.Cond.selects "SlateHands" ({ cls := "SlateHands", name := "house", desc := "(I)I" } : Jvm.MethodName) ({ cls := "SlateHands", name := "house", desc := "(I)I" } : Jvm.MethodName)) ∈ TB := tb3 222 rfl rfl
theorem w3_223 : (Jvm.Cond.code ({ cls := "SlateHands", name := "house", desc := "(I)I" } : Jvm.MethodName) prog_1_method_6_code (2 : Nat) (Option.some Jvm.ClassFile.FieldType.int)) ∈ TB := tb3 223 rfl rfl
theorem w3_224 : (Jvm.Cond.methodLink "SlateHands" (117 : Nat) ({ cls := "SlateHands$Port", name := "isHouse", desc := "(I)Z" } : Jvm.MethodName)) ∈ TB := tb3 224 rfl rfl
theorem w3_225 : (Jvm.Cond.instanceMethod ({ cls := "SlateHands$Port", name := "isHouse", desc := "(I)Z" } : Jvm.MethodName)) ∈ TB := tb3 225 rfl rfl
theorem w3_226 : (Jvm.Cond.selects "SlateHands$Port" ({ cls := "SlateHands$Port", name := "isHouse", desc := "(I)Z" } : Jvm.MethodName) ({ cls := "SlateHands$Port", name := "isHouse", desc := "(I)Z" } : Jvm.MethodName)) ∈ TB := tb3 226 rfl rfl
theorem w3_227 : (Jvm.Cond.code ({ cls := "SlateHands$Port", name := "isHouse", desc := "(I)Z" } : Jvm.MethodName) prog_7_method_5_code (2 : Nat) (Option.some Jvm.ClassFile.FieldType.boolean)) ∈ TB := tb3 227 rfl rfl
theorem w3_228 : (Jvm.Cond.methodLink "SlateHands" (124 : Nat) ({ cls := "SlateHands", name := "cell", desc := "([II)I" } : Jvm.MethodName)) ∈ TB := tb3 228 rfl rfl
theorem w3_229 : (Jvm.Cond.static ({ cls := "SlateHands", name := "cell", desc := "([II)I" } : Jvm.MethodName)) ∈ TB := tb3 229 rfl rfl
theorem w3_230 : (Jvm.Cond.code ({ cls := "SlateHands", name := "cell", desc := "([II)I" } : Jvm.MethodName) prog_1_method_65_code (2 : Nat) (Option.some Jvm.ClassFile.FieldType.int)) ∈ TB := tb3 230 rfl rfl
theorem w3_231 : (Jvm.Cond.methodLink "SlateHandsLaw" (36 : Nat) ({ cls := "SlateHands", name := "carrier", desc := "(II)I" } : Jvm.MethodName)) ∈ TB := tb3 231 rfl rfl
theorem w3_232 : (Jvm.Cond.instanceMethod ({ cls := "SlateHands", name := "carrier", desc := "(II)I" } : Jvm.MethodName)) ∈ TB := tb3 232 rfl rfl
theorem w3_233 : (Jvm.Cond.selects "SlateHands" ({ cls := "SlateHands", name := "carrier", desc := "(II)I" } : Jvm.MethodName) ({ cls := "SlateHands", name := "carrier", desc := "(II)I" } : Jvm.MethodName)) ∈ TB := tb3 233 rfl rfl
theorem w3_234 : (Jvm.Cond.code ({ cls := "SlateHands", name := "carrier", desc := "(II)I" } : Jvm.MethodName) prog_1_method_7_code (3 : Nat) (Option.some Jvm.ClassFile.FieldType.int)) ∈ TB := tb3 234 rfl rfl
theorem w3_235 : (Jvm.Cond.methodLink "SlateHands" (128 : Nat) ({ cls := "SlateHands$Port", name := "isCarrier", desc := "(I)Z" } : Jvm.MethodName)) ∈ TB := tb3 235 rfl rfl
theorem w3_236 : (Jvm.Cond.instanceMethod ({ cls := "SlateHands$Port", name := "isCarrier", desc := "(I)Z" } : Jvm.MethodName)) ∈ TB := tb3 236 rfl rfl
theorem w3_237 : (Jvm.Cond.selects "SlateHands$Port" ({ cls := "SlateHands$Port", name := "isCarrier", desc := "(I)Z" } : Jvm.MethodName) ({ cls := "SlateHands$Port", name := "isCarrier", desc := "(I)Z" } : Jvm.MethodName)) ∈ TB := tb3 237 rfl rfl
theorem w3_238 : (Jvm.Cond.code ({ cls := "SlateHands$Port", name := "isCarrier", desc := "(I)Z" } : Jvm.MethodName) prog_7_method_7_code (2 : Nat) (Option.some Jvm.ClassFile.FieldType.boolean)) ∈ TB := tb3 238 rfl rfl
theorem w3_239 : (Jvm.Cond.methodLink "SlateHands" (131 : Nat) ({ cls := "SlateHands", name := "isChoice", desc := "(I)Z" } : Jvm.MethodName)) ∈ TB := tb3 239 rfl rfl
theorem w4_0 : (Jvm.Cond.static ({ cls := "SlateHands", name := "isChoice", desc := "(I)Z" } : Jvm.MethodName)) ∈ TB := tb4 0 rfl rfl
theorem w4_1 : (Jvm.Cond.code ({ cls := "SlateHands", name := "isChoice", desc := "(I)Z" } : Jvm.MethodName) prog_1_method_68_code (1 : Nat) (Option.some Jvm.ClassFile.FieldType.boolean)) ∈ TB := tb4 1 rfl rfl
theorem w4_2 : (Jvm.Cond.methodLink "SlateHandsLaw" (41 : Nat) ({ cls := "SlateHands", name := "word", desc := "(II)I" } : Jvm.MethodName)) ∈ TB := tb4 2 rfl rfl
theorem w4_3 : (Jvm.Cond.instanceMethod ({ cls := "SlateHands", name := "word", desc := "(II)I" } : Jvm.MethodName)) ∈ TB := tb4 3 rfl rfl
theorem w4_4 : (Jvm.Cond.selects "SlateHands" ({ cls := "SlateHands", name := "word", desc := "(II)I" } : Jvm.MethodName) ({ cls := "SlateHands", name := "word", desc := "(II)I" } : Jvm.MethodName)) ∈ TB := tb4 4 rfl rfl
theorem w4_5 : (Jvm.Cond.code ({ cls := "SlateHands", name := "word", desc := "(II)I" } : Jvm.MethodName) prog_1_method_8_code (3 : Nat) (Option.some Jvm.ClassFile.FieldType.int)) ∈ TB := tb4 5 rfl rfl
theorem w4_6 : (Jvm.Cond.methodLink "SlateHands" (140 : Nat) ({ cls := "SlateHands$Port", name := "isSlate", desc := "(I)Z" } : Jvm.MethodName)) ∈ TB := tb4 6 rfl rfl
theorem w4_7 : (Jvm.Cond.instanceMethod ({ cls := "SlateHands$Port", name := "isSlate", desc := "(I)Z" } : Jvm.MethodName)) ∈ TB := tb4 7 rfl rfl
theorem w4_8 : (Jvm.Cond.selects "SlateHands$Port" ({ cls := "SlateHands$Port", name := "isSlate", desc := "(I)Z" } : Jvm.MethodName) ({ cls := "SlateHands$Port", name := "isSlate", desc := "(I)Z" } : Jvm.MethodName)) ∈ TB := tb4 8 rfl rfl
theorem w4_9 : (Jvm.Cond.code ({ cls := "SlateHands$Port", name := "isSlate", desc := "(I)Z" } : Jvm.MethodName) prog_7_method_8_code (2 : Nat) (Option.some Jvm.ClassFile.FieldType.boolean)) ∈ TB := tb4 9 rfl rfl
theorem w4_10 : (Jvm.Cond.methodLink "SlateHands" (143 : Nat) ({ cls := "SlateHands$Port", name := "isWord", desc := "(II)Z" } : Jvm.MethodName)) ∈ TB := tb4 10 rfl rfl
theorem w4_11 : (Jvm.Cond.instanceMethod ({ cls := "SlateHands$Port", name := "isWord", desc := "(II)Z" } : Jvm.MethodName)) ∈ TB := tb4 11 rfl rfl
theorem w4_12 : (Jvm.Cond.selects "SlateHands$Port" ({ cls := "SlateHands$Port", name := "isWord", desc := "(II)Z" } : Jvm.MethodName) ({ cls := "SlateHands$Port", name := "isWord", desc := "(II)Z" } : Jvm.MethodName)) ∈ TB := tb4 12 rfl rfl
theorem w4_13 : (Jvm.Cond.code ({ cls := "SlateHands$Port", name := "isWord", desc := "(II)Z" } : Jvm.MethodName) prog_7_method_9_code (3 : Nat) (Option.some Jvm.ClassFile.FieldType.boolean)) ∈ TB := tb4 13 rfl rfl
theorem w4_15 : (Jvm.Cond.methodLink "SlateHandsLaw" (45 : Nat) ({ cls := "SlateHands", name := "doors", desc := "(I)I" } : Jvm.MethodName)) ∈ TB := tb4 15 rfl rfl
theorem w4_16 : (Jvm.Cond.instanceMethod ({ cls := "SlateHands", name := "doors", desc := "(I)I" } : Jvm.MethodName)) ∈ TB := tb4 16 rfl rfl
theorem w4_17 : (Jvm.Cond.selects "SlateHands" ({ cls := "SlateHands", name := "doors", desc := "(I)I" } : Jvm.MethodName) ({ cls := "SlateHands", name := "doors", desc := "(I)I" } : Jvm.MethodName)) ∈ TB := tb4 17 rfl rfl
theorem w4_18 : (Jvm.Cond.code ({ cls := "SlateHands", name := "doors", desc := "(I)I" } : Jvm.MethodName) prog_1_method_9_code (2 : Nat) (Option.some Jvm.ClassFile.FieldType.int)) ∈ TB := tb4 18 rfl rfl
theorem w4_19 : (Jvm.Cond.methodLink "SlateHands" (150 : Nat) ({ cls := "SlateHands$Port", name := "doorsOf", desc := "(II)I" } : Jvm.MethodName)) ∈ TB := tb4 19 rfl rfl
theorem w4_20 : (Jvm.Cond.instanceMethod ({ cls := "SlateHands$Port", name := "doorsOf", desc := "(II)I" } : Jvm.MethodName)) ∈ TB := tb4 20 rfl rfl
theorem w4_21 : (Jvm.Cond.selects "SlateHands$Port" ({ cls := "SlateHands$Port", name := "doorsOf", desc := "(II)I" } : Jvm.MethodName) ({ cls := "SlateHands$Port", name := "doorsOf", desc := "(II)I" } : Jvm.MethodName)) ∈ TB := tb4 21 rfl rfl
theorem w4_22 : (Jvm.Cond.code ({ cls := "SlateHands$Port", name := "doorsOf", desc := "(II)I" } : Jvm.MethodName) prog_7_method_20_code (7 : Nat) (Option.some Jvm.ClassFile.FieldType.int)) ∈ TB := tb4 22 rfl rfl
theorem w4_23 : (Jvm.Cond.methodLink "SlateHandsLaw" (49 : Nat) ({ cls := "SlateHands", name := "far", desc := "(II)I" } : Jvm.MethodName)) ∈ TB := tb4 23 rfl rfl
theorem w4_24 : (Jvm.Cond.instanceMethod ({ cls := "SlateHands", name := "far", desc := "(II)I" } : Jvm.MethodName)) ∈ TB := tb4 24 rfl rfl
theorem w4_25 : (Jvm.Cond.selects "SlateHands" ({ cls := "SlateHands", name := "far", desc := "(II)I" } : Jvm.MethodName) ({ cls := "SlateHands", name := "far", desc := "(II)I" } : Jvm.MethodName)) ∈ TB := tb4 25 rfl rfl
theorem w4_26 : (Jvm.Cond.code ({ cls := "SlateHands", name := "far", desc := "(II)I" } : Jvm.MethodName) prog_1_method_10_code (3 : Nat) (Option.some Jvm.ClassFile.FieldType.int)) ∈ TB := tb4 26 rfl rfl
theorem w4_27 : (Jvm.Cond.methodLink "SlateHands" (154 : Nat) ({ cls := "SlateHands$Port", name := "areHouses", desc := "(II)Z" } : Jvm.MethodName)) ∈ TB := tb4 27 rfl rfl
theorem w4_28 : (Jvm.Cond.instanceMethod ({ cls := "SlateHands$Port", name := "areHouses", desc := "(II)Z" } : Jvm.MethodName)) ∈ TB := tb4 28 rfl rfl
theorem w4_29 : (Jvm.Cond.selects "SlateHands$Port" ({ cls := "SlateHands$Port", name := "areHouses", desc := "(II)Z" } : Jvm.MethodName) ({ cls := "SlateHands$Port", name := "areHouses", desc := "(II)Z" } : Jvm.MethodName)) ∈ TB := tb4 29 rfl rfl
theorem w4_30 : (Jvm.Cond.code ({ cls := "SlateHands$Port", name := "areHouses", desc := "(II)Z" } : Jvm.MethodName) prog_7_method_6_code (3 : Nat) (Option.some Jvm.ClassFile.FieldType.boolean)) ∈ TB := tb4 30 rfl rfl
theorem w4_31 : (Jvm.Cond.methodLink "SlateHands$Port" (81 : Nat) ({ cls := "SlateHands$Port", name := "isHouse", desc := "(I)Z" } : Jvm.MethodName)) ∈ TB := tb4 31 rfl rfl
theorem w4_32 : (Jvm.Cond.methodLink "SlateHands" (157 : Nat) ({ cls := "SlateHands$Paths", name := "fewestWays", desc := "(LSlateHands$Port;II)I" } : Jvm.MethodName)) ∈ TB := tb4 32 rfl rfl
theorem w4_33 : (Jvm.Cond.instanceMethod ({ cls := "SlateHands$Paths", name := "fewestWays", desc := "(LSlateHands$Port;II)I" } : Jvm.MethodName)) ∈ TB := tb4 33 rfl rfl
theorem w4_34 : (Jvm.Cond.selects "SlateHands$Paths" ({ cls := "SlateHands$Paths", name := "fewestWays", desc := "(LSlateHands$Port;II)I" } : Jvm.MethodName) ({ cls := "SlateHands$Paths", name := "fewestWays", desc := "(LSlateHands$Port;II)I" } : Jvm.MethodName)) ∈ TB := tb4 34 rfl rfl
theorem w4_35 : (Jvm.Cond.code ({ cls := "SlateHands$Paths", name := "fewestWays", desc := "(LSlateHands$Port;II)I" } : Jvm.MethodName) prog_6_method_2_code (6 : Nat) (Option.some Jvm.ClassFile.FieldType.int)) ∈ TB := tb4 35 rfl rfl
theorem w4_37 : (Jvm.Cond.static ({ cls := "SlateHands", name := "hasBit", desc := "(II)Z" } : Jvm.MethodName)) ∈ TB := tb4 37 rfl rfl
theorem w4_38 : (Jvm.Cond.code ({ cls := "SlateHands", name := "hasBit", desc := "(II)Z" } : Jvm.MethodName) prog_1_method_67_code (2 : Nat) (Option.some Jvm.ClassFile.FieldType.boolean)) ∈ TB := tb4 38 rfl rfl
theorem w4_39 : (Jvm.Cond.methodLink "SlateHands$Paths" (19 : Nat) ({ cls := "SlateHands$Paths", name := "nextTo", desc := "(LSlateHands$Port;I)I" } : Jvm.MethodName)) ∈ TB := tb4 39 rfl rfl
theorem w4_40 : (Jvm.Cond.static ({ cls := "SlateHands$Paths", name := "nextTo", desc := "(LSlateHands$Port;I)I" } : Jvm.MethodName)) ∈ TB := tb4 40 rfl rfl
theorem w4_41 : (Jvm.Cond.code ({ cls := "SlateHands$Paths", name := "nextTo", desc := "(LSlateHands$Port;I)I" } : Jvm.MethodName) prog_6_method_4_code (4 : Nat) (Option.some Jvm.ClassFile.FieldType.int)) ∈ TB := tb4 41 rfl rfl
theorem w4_42 : (Jvm.Cond.methodLink "SlateHands$Paths" (56 : Nat) ({ cls := "SlateHands$Port", name := "doorsOf", desc := "(II)I" } : Jvm.MethodName)) ∈ TB := tb4 42 rfl rfl
theorem w4_43 : (Jvm.Cond.methodLink "SlateHandsLaw" (53 : Nat) ({ cls := "SlateHands", name := "climb", desc := "(II)I" } : Jvm.MethodName)) ∈ TB := tb4 43 rfl rfl
theorem w4_44 : (Jvm.Cond.instanceMethod ({ cls := "SlateHands", name := "climb", desc := "(II)I" } : Jvm.MethodName)) ∈ TB := tb4 44 rfl rfl
theorem w4_45 : (Jvm.Cond.selects "SlateHands" ({ cls := "SlateHands", name := "climb", desc := "(II)I" } : Jvm.MethodName) ({ cls := "SlateHands", name := "climb", desc := "(II)I" } : Jvm.MethodName)) ∈ TB := tb4 45 rfl rfl
theorem w4_46 : (Jvm.Cond.code ({ cls := "SlateHands", name := "climb", desc := "(II)I" } : Jvm.MethodName) prog_1_method_11_code (3 : Nat) (Option.some Jvm.ClassFile.FieldType.int)) ∈ TB := tb4 46 rfl rfl
theorem w4_47 : (Jvm.Cond.methodLink "SlateHands" (161 : Nat) ({ cls := "SlateHands$Paths", name := "leastClimb", desc := "(LSlateHands$Port;II)I" } : Jvm.MethodName)) ∈ TB := tb4 47 rfl rfl
theorem w4_48 : (Jvm.Cond.instanceMethod ({ cls := "SlateHands$Paths", name := "leastClimb", desc := "(LSlateHands$Port;II)I" } : Jvm.MethodName)) ∈ TB := tb4 48 rfl rfl
theorem w4_49 : (Jvm.Cond.selects "SlateHands$Paths" ({ cls := "SlateHands$Paths", name := "leastClimb", desc := "(LSlateHands$Port;II)I" } : Jvm.MethodName) ({ cls := "SlateHands$Paths", name := "leastClimb", desc := "(LSlateHands$Port;II)I" } : Jvm.MethodName)) ∈ TB := tb4 49 rfl rfl
theorem w4_50 : (Jvm.Cond.code ({ cls := "SlateHands$Paths", name := "leastClimb", desc := "(LSlateHands$Port;II)I" } : Jvm.MethodName) prog_6_method_3_code (6 : Nat) (Option.some Jvm.ClassFile.FieldType.int)) ∈ TB := tb4 50 rfl rfl
theorem w4_51 : (Jvm.Cond.methodLink "SlateHands$Paths" (23 : Nat) ({ cls := "java/util/Arrays", name := "fill", desc := "([II)V" } : Jvm.MethodName)) ∈ TB := tb4 51 rfl rfl
theorem w4_52 : (Jvm.Cond.static ({ cls := "java/util/Arrays", name := "fill", desc := "([II)V" } : Jvm.MethodName)) ∈ TB := tb4 52 rfl rfl
theorem w4_53 : (Jvm.Cond.code ({ cls := "java/util/Arrays", name := "fill", desc := "([II)V" } : Jvm.MethodName) prog_21_method_103_code (4 : Nat) (Option.none : Option Jvm.ClassFile.FieldType)) ∈ TB := tb4 53 rfl rfl
theorem w4_56 : (Jvm.Cond.methodLink "SlateHands$Paths" (49 : Nat) ({ cls := "SlateHands$Paths", name := "improve", desc := "(LSlateHands$Port;II)V" } : Jvm.MethodName)) ∈ TB := tb4 56 rfl rfl
theorem w4_58 : (Jvm.Cond.instanceMethod ({ cls := "SlateHands$Paths", name := "improve", desc := "(LSlateHands$Port;II)V" } : Jvm.MethodName)) ∈ TB := tb4 58 rfl rfl
theorem w4_59 : (Jvm.Cond.code ({ cls := "SlateHands$Paths", name := "improve", desc := "(LSlateHands$Port;II)V" } : Jvm.MethodName) prog_6_method_5_code (7 : Nat) (Option.none : Option Jvm.ClassFile.FieldType)) ∈ TB := tb4 59 rfl rfl
theorem w4_60 : (Jvm.Cond.methodLink "SlateHands$Paths" (60 : Nat) ({ cls := "SlateHands$Port", name := "climbTo", desc := "(II)I" } : Jvm.MethodName)) ∈ TB := tb4 60 rfl rfl
theorem w4_61 : (Jvm.Cond.instanceMethod ({ cls := "SlateHands$Port", name := "climbTo", desc := "(II)I" } : Jvm.MethodName)) ∈ TB := tb4 61 rfl rfl
theorem w4_62 : (Jvm.Cond.selects "SlateHands$Port" ({ cls := "SlateHands$Port", name := "climbTo", desc := "(II)I" } : Jvm.MethodName) ({ cls := "SlateHands$Port", name := "climbTo", desc := "(II)I" } : Jvm.MethodName)) ∈ TB := tb4 62 rfl rfl
theorem w4_63 : (Jvm.Cond.code ({ cls := "SlateHands$Port", name := "climbTo", desc := "(II)I" } : Jvm.MethodName) prog_7_method_21_code (3 : Nat) (Option.some Jvm.ClassFile.FieldType.int)) ∈ TB := tb4 63 rfl rfl
theorem w4_64 : (Jvm.Cond.methodLink "SlateHands$Port" (117 : Nat) ({ cls := "java/lang/Math", name := "max", desc := "(II)I" } : Jvm.MethodName)) ∈ TB := tb4 64 rfl rfl
theorem w4_65 : (Jvm.Cond.static ({ cls := "java/lang/Math", name := "max", desc := "(II)I" } : Jvm.MethodName)) ∈ TB := tb4 65 rfl rfl
theorem w4_66 : (Jvm.Cond.code ({ cls := "java/lang/Math", name := "max", desc := "(II)I" } : Jvm.MethodName) prog_16_method_65_code (2 : Nat) (Option.some Jvm.ClassFile.FieldType.int)) ∈ TB := tb4 66 rfl rfl
theorem w4_67 : (Jvm.Cond.methodLink "SlateHandsLaw" (57 : Nat) ({ cls := "SlateHands", name := "at", desc := "(II)I" } : Jvm.MethodName)) ∈ TB := tb4 67 rfl rfl
theorem w4_68 : (Jvm.Cond.instanceMethod ({ cls := "SlateHands", name := "at", desc := "(II)I" } : Jvm.MethodName)) ∈ TB := tb4 68 rfl rfl
theorem w4_69 : (Jvm.Cond.selects "SlateHands" ({ cls := "SlateHands", name := "at", desc := "(II)I" } : Jvm.MethodName) ({ cls := "SlateHands", name := "at", desc := "(II)I" } : Jvm.MethodName)) ∈ TB := tb4 69 rfl rfl
theorem w4_70 : (Jvm.Cond.code ({ cls := "SlateHands", name := "at", desc := "(II)I" } : Jvm.MethodName) prog_1_method_12_code (3 : Nat) (Option.some Jvm.ClassFile.FieldType.int)) ∈ TB := tb4 70 rfl rfl
theorem w4_71 : (Jvm.Cond.methodLink "SlateHands" (164 : Nat) ({ cls := "SlateHands$Port", name := "isDay", desc := "(I)Z" } : Jvm.MethodName)) ∈ TB := tb4 71 rfl rfl
theorem w4_72 : (Jvm.Cond.instanceMethod ({ cls := "SlateHands$Port", name := "isDay", desc := "(I)Z" } : Jvm.MethodName)) ∈ TB := tb4 72 rfl rfl
theorem w4_73 : (Jvm.Cond.selects "SlateHands$Port" ({ cls := "SlateHands$Port", name := "isDay", desc := "(I)Z" } : Jvm.MethodName) ({ cls := "SlateHands$Port", name := "isDay", desc := "(I)Z" } : Jvm.MethodName)) ∈ TB := tb4 73 rfl rfl
theorem w4_74 : (Jvm.Cond.code ({ cls := "SlateHands$Port", name := "isDay", desc := "(I)Z" } : Jvm.MethodName) prog_7_method_11_code (2 : Nat) (Option.some Jvm.ClassFile.FieldType.boolean)) ∈ TB := tb4 74 rfl rfl
theorem w4_75 : (Jvm.Cond.methodLink "SlateHands$Port" (92 : Nat) ({ cls := "SlateHands$Port", name := "isTold", desc := "()Z" } : Jvm.MethodName)) ∈ TB := tb4 75 rfl rfl
theorem w4_76 : (Jvm.Cond.instanceMethod ({ cls := "SlateHands$Port", name := "isTold", desc := "()Z" } : Jvm.MethodName)) ∈ TB := tb4 76 rfl rfl
theorem w4_77 : (Jvm.Cond.selects "SlateHands$Port" ({ cls := "SlateHands$Port", name := "isTold", desc := "()Z" } : Jvm.MethodName) ({ cls := "SlateHands$Port", name := "isTold", desc := "()Z" } : Jvm.MethodName)) ∈ TB := tb4 77 rfl rfl
theorem w4_78 : (Jvm.Cond.code ({ cls := "SlateHands$Port", name := "isTold", desc := "()Z" } : Jvm.MethodName) prog_7_method_4_code (1 : Nat) (Option.some Jvm.ClassFile.FieldType.boolean)) ∈ TB := tb4 78 rfl rfl
theorem w4_79 : (Jvm.Cond.methodLink "SlateHands" (167 : Nat) ({ cls := "SlateHands", name := "today", desc := "()LSlateHands$Diary;" } : Jvm.MethodName)) ∈ TB := tb4 79 rfl rfl
theorem w4_81 : (Jvm.Cond.instanceMethod ({ cls := "SlateHands", name := "today", desc := "()LSlateHands$Diary;" } : Jvm.MethodName)) ∈ TB := tb4 81 rfl rfl
theorem w4_82 : (Jvm.Cond.code ({ cls := "SlateHands", name := "today", desc := "()LSlateHands$Diary;" } : Jvm.MethodName) prog_1_method_73_code (1 : Nat) (Option.some (Jvm.ClassFile.FieldType.object "SlateHands$Diary"))) ∈ TB := tb4 82 rfl rfl
theorem w4_83 : (Jvm.Cond.methodLink "SlateHands" (336 : Nat) ({ cls := "SlateHands$Course", name := "setAsTold", desc := "(LSlateHands$Port;)V" } : Jvm.MethodName)) ∈ TB := tb4 83 rfl rfl
theorem w4_84 : (Jvm.Cond.instanceMethod ({ cls := "SlateHands$Course", name := "setAsTold", desc := "(LSlateHands$Port;)V" } : Jvm.MethodName)) ∈ TB := tb4 84 rfl rfl
theorem w4_85 : (Jvm.Cond.selects "SlateHands$Course" ({ cls := "SlateHands$Course", name := "setAsTold", desc := "(LSlateHands$Port;)V" } : Jvm.MethodName) ({ cls := "SlateHands$Course", name := "setAsTold", desc := "(LSlateHands$Port;)V" } : Jvm.MethodName)) ∈ TB := tb4 85 rfl rfl
theorem w4_86 : (Jvm.Cond.code ({ cls := "SlateHands$Course", name := "setAsTold", desc := "(LSlateHands$Port;)V" } : Jvm.MethodName) prog_4_method_2_code (2 : Nat) (Option.none : Option Jvm.ClassFile.FieldType)) ∈ TB := tb4 86 rfl rfl
theorem w4_87 : (Jvm.Cond.methodLink "SlateHands" (344 : Nat) ({ cls := "SlateHands$Diary", name := "fill", desc := "(LSlateHands$Port;)V" } : Jvm.MethodName)) ∈ TB := tb4 87 rfl rfl
theorem w4_88 : (Jvm.Cond.instanceMethod ({ cls := "SlateHands$Diary", name := "fill", desc := "(LSlateHands$Port;)V" } : Jvm.MethodName)) ∈ TB := tb4 88 rfl rfl
theorem w4_89 : (Jvm.Cond.selects "SlateHands$Diary" ({ cls := "SlateHands$Diary", name := "fill", desc := "(LSlateHands$Port;)V" } : Jvm.MethodName) ({ cls := "SlateHands$Diary", name := "fill", desc := "(LSlateHands$Port;)V" } : Jvm.MethodName)) ∈ TB := tb4 89 rfl rfl
theorem w4_90 : (Jvm.Cond.code ({ cls := "SlateHands$Diary", name := "fill", desc := "(LSlateHands$Port;)V" } : Jvm.MethodName) prog_5_method_2_code (3 : Nat) (Option.none : Option Jvm.ClassFile.FieldType)) ∈ TB := tb4 90 rfl rfl
theorem w4_91 : (Jvm.Cond.methodLink "SlateHands$Diary" (34 : Nat) ({ cls := "SlateHands$Course", name := "begin", desc := "(LSlateHands$Port;)V" } : Jvm.MethodName)) ∈ TB := tb4 91 rfl rfl
theorem w4_92 : (Jvm.Cond.instanceMethod ({ cls := "SlateHands$Course", name := "begin", desc := "(LSlateHands$Port;)V" } : Jvm.MethodName)) ∈ TB := tb4 92 rfl rfl
theorem w4_93 : (Jvm.Cond.selects "SlateHands$Course" ({ cls := "SlateHands$Course", name := "begin", desc := "(LSlateHands$Port;)V" } : Jvm.MethodName) ({ cls := "SlateHands$Course", name := "begin", desc := "(LSlateHands$Port;)V" } : Jvm.MethodName)) ∈ TB := tb4 93 rfl rfl
theorem w4_94 : (Jvm.Cond.code ({ cls := "SlateHands$Course", name := "begin", desc := "(LSlateHands$Port;)V" } : Jvm.MethodName) prog_4_method_3_code (4 : Nat) (Option.none : Option Jvm.ClassFile.FieldType)) ∈ TB := tb4 94 rfl rfl
theorem w4_95 : (Jvm.Cond.methodLink "SlateHands$Course" (55 : Nat) ({ cls := "java/util/Arrays", name := "fill", desc := "([II)V" } : Jvm.MethodName)) ∈ TB := tb4 95 rfl rfl
theorem w4_98 : (Jvm.Cond.methodLink "SlateHands$Course" (77 : Nat) ({ cls := "SlateHands$Port", name := "leftAtFirst", desc := "(I)I" } : Jvm.MethodName)) ∈ TB := tb4 98 rfl rfl
theorem w4_99 : (Jvm.Cond.instanceMethod ({ cls := "SlateHands$Port", name := "leftAtFirst", desc := "(I)I" } : Jvm.MethodName)) ∈ TB := tb4 99 rfl rfl
theorem w4_100 : (Jvm.Cond.selects "SlateHands$Port" ({ cls := "SlateHands$Port", name := "leftAtFirst", desc := "(I)I" } : Jvm.MethodName) ({ cls := "SlateHands$Port", name := "leftAtFirst", desc := "(I)I" } : Jvm.MethodName)) ∈ TB := tb4 100 rfl rfl
theorem w4_101 : (Jvm.Cond.code ({ cls := "SlateHands$Port", name := "leftAtFirst", desc := "(I)I" } : Jvm.MethodName) prog_7_method_17_code (2 : Nat) (Option.some Jvm.ClassFile.FieldType.int)) ∈ TB := tb4 101 rfl rfl
theorem w4_102 : (Jvm.Cond.methodLink "SlateHands$Port" (106 : Nat) ({ cls := "SlateHands$Port", name := "allWords", desc := "(I)I" } : Jvm.MethodName)) ∈ TB := tb4 102 rfl rfl
theorem w4_103 : (Jvm.Cond.instanceMethod ({ cls := "SlateHands$Port", name := "allWords", desc := "(I)I" } : Jvm.MethodName)) ∈ TB := tb4 103 rfl rfl
theorem w4_104 : (Jvm.Cond.selects "SlateHands$Port" ({ cls := "SlateHands$Port", name := "allWords", desc := "(I)I" } : Jvm.MethodName) ({ cls := "SlateHands$Port", name := "allWords", desc := "(I)I" } : Jvm.MethodName)) ∈ TB := tb4 104 rfl rfl
theorem w4_105 : (Jvm.Cond.code ({ cls := "SlateHands$Port", name := "allWords", desc := "(I)I" } : Jvm.MethodName) prog_7_method_16_code (2 : Nat) (Option.some Jvm.ClassFile.FieldType.int)) ∈ TB := tb4 105 rfl rfl
theorem w4_106 : (Jvm.Cond.methodLink "SlateHands$Port" (110 : Nat) ({ cls := "SlateHands$Carries", name := "rubbedByActs", desc := "(I)I" } : Jvm.MethodName)) ∈ TB := tb4 106 rfl rfl
theorem w4_107 : (Jvm.Cond.instanceMethod ({ cls := "SlateHands$Carries", name := "rubbedByActs", desc := "(I)I" } : Jvm.MethodName)) ∈ TB := tb4 107 rfl rfl
theorem w4_108 : (Jvm.Cond.selects "SlateHands$Carries" ({ cls := "SlateHands$Carries", name := "rubbedByActs", desc := "(I)I" } : Jvm.MethodName) ({ cls := "SlateHands$Carries", name := "rubbedByActs", desc := "(I)I" } : Jvm.MethodName)) ∈ TB := tb4 108 rfl rfl
theorem w4_109 : (Jvm.Cond.code ({ cls := "SlateHands$Carries", name := "rubbedByActs", desc := "(I)I" } : Jvm.MethodName) prog_3_method_7_code (4 : Nat) (Option.some Jvm.ClassFile.FieldType.int)) ∈ TB := tb4 109 rfl rfl
theorem w4_111 : (Jvm.Cond.methodLink "SlateHands$Diary" (44 : Nat) ({ cls := "SlateHands$Diary", name := "note", desc := "(I)V" } : Jvm.MethodName)) ∈ TB := tb4 111 rfl rfl
theorem w4_113 : (Jvm.Cond.instanceMethod ({ cls := "SlateHands$Diary", name := "note", desc := "(I)V" } : Jvm.MethodName)) ∈ TB := tb4 113 rfl rfl
theorem w4_114 : (Jvm.Cond.code ({ cls := "SlateHands$Diary", name := "note", desc := "(I)V" } : Jvm.MethodName) prog_5_method_12_code (2 : Nat) (Option.none : Option Jvm.ClassFile.FieldType)) ∈ TB := tb4 114 rfl rfl
theorem w4_115 : (Jvm.Cond.methodLink "SlateHands$Diary" (80 : Nat) ({ cls := "java/lang/System", name := "arraycopy", desc := "(Ljava/lang/Object;ILjava/lang/Object;II)V" } : Jvm.MethodName)) ∈ TB := tb4 115 rfl rfl
theorem w4_116 : (Jvm.Cond.methodLink "SlateHands$Diary" (48 : Nat) ({ cls := "SlateHands$Course", name := "passDay", desc := "(LSlateHands$Port;I)V" } : Jvm.MethodName)) ∈ TB := tb4 116 rfl rfl
theorem w4_117 : (Jvm.Cond.instanceMethod ({ cls := "SlateHands$Course", name := "passDay", desc := "(LSlateHands$Port;I)V" } : Jvm.MethodName)) ∈ TB := tb4 117 rfl rfl
theorem w4_118 : (Jvm.Cond.selects "SlateHands$Course" ({ cls := "SlateHands$Course", name := "passDay", desc := "(LSlateHands$Port;I)V" } : Jvm.MethodName) ({ cls := "SlateHands$Course", name := "passDay", desc := "(LSlateHands$Port;I)V" } : Jvm.MethodName)) ∈ TB := tb4 118 rfl rfl
theorem w4_119 : (Jvm.Cond.code ({ cls := "SlateHands$Course", name := "passDay", desc := "(LSlateHands$Port;I)V" } : Jvm.MethodName) prog_4_method_4_code (5 : Nat) (Option.none : Option Jvm.ClassFile.FieldType)) ∈ TB := tb4 119 rfl rfl
theorem w4_120 : (Jvm.Cond.methodLink "SlateHands$Course" (99 : Nat) ({ cls := "SlateHands$Course", name := "hindrance", desc := "(LSlateHands$Port;I)I" } : Jvm.MethodName)) ∈ TB := tb4 120 rfl rfl
theorem w4_122 : (Jvm.Cond.instanceMethod ({ cls := "SlateHands$Course", name := "hindrance", desc := "(LSlateHands$Port;I)I" } : Jvm.MethodName)) ∈ TB := tb4 122 rfl rfl
theorem w4_123 : (Jvm.Cond.code ({ cls := "SlateHands$Course", name := "hindrance", desc := "(LSlateHands$Port;I)I" } : Jvm.MethodName) prog_4_method_7_code (7 : Nat) (Option.some Jvm.ClassFile.FieldType.int)) ∈ TB := tb4 123 rfl rfl
theorem w4_125 : (Jvm.Cond.methodLink "SlateHands$Course" (131 : Nat) ({ cls := "SlateHands$Port", name := "doorsOf", desc := "(II)I" } : Jvm.MethodName)) ∈ TB := tb4 125 rfl rfl
theorem w4_126 : (Jvm.Cond.methodLink "SlateHands$Course" (135 : Nat) ({ cls := "SlateHands$Course", name := "loadTo", desc := "(LSlateHands$Port;II)I" } : Jvm.MethodName)) ∈ TB := tb4 126 rfl rfl
theorem w4_128 : (Jvm.Cond.instanceMethod ({ cls := "SlateHands$Course", name := "loadTo", desc := "(LSlateHands$Port;II)I" } : Jvm.MethodName)) ∈ TB := tb4 128 rfl rfl
theorem w4_129 : (Jvm.Cond.code ({ cls := "SlateHands$Course", name := "loadTo", desc := "(LSlateHands$Port;II)I" } : Jvm.MethodName) prog_4_method_8_code (5 : Nat) (Option.some Jvm.ClassFile.FieldType.int)) ∈ TB := tb4 129 rfl rfl
theorem w4_130 : (Jvm.Cond.methodLink "SlateHands$Course" (142 : Nat) ({ cls := "SlateHands$Port", name := "weightOf", desc := "(II)I" } : Jvm.MethodName)) ∈ TB := tb4 130 rfl rfl
theorem w4_131 : (Jvm.Cond.instanceMethod ({ cls := "SlateHands$Port", name := "weightOf", desc := "(II)I" } : Jvm.MethodName)) ∈ TB := tb4 131 rfl rfl
theorem w4_132 : (Jvm.Cond.selects "SlateHands$Port" ({ cls := "SlateHands$Port", name := "weightOf", desc := "(II)I" } : Jvm.MethodName) ({ cls := "SlateHands$Port", name := "weightOf", desc := "(II)I" } : Jvm.MethodName)) ∈ TB := tb4 132 rfl rfl
theorem w4_133 : (Jvm.Cond.code ({ cls := "SlateHands$Port", name := "weightOf", desc := "(II)I" } : Jvm.MethodName) prog_7_method_18_code (5 : Nat) (Option.some Jvm.ClassFile.FieldType.int)) ∈ TB := tb4 133 rfl rfl
theorem w4_135 : (Jvm.Cond.methodLink "SlateHands$Course" (145 : Nat) ({ cls := "SlateHands$Port", name := "climbTo", desc := "(II)I" } : Jvm.MethodName)) ∈ TB := tb4 135 rfl rfl
theorem w4_136 : (Jvm.Cond.methodLink "SlateHands$Course" (107 : Nat) ({ cls := "SlateHands$Course", name := "carryOut", desc := "(LSlateHands$Port;IZ)V" } : Jvm.MethodName)) ∈ TB := tb4 136 rfl rfl
theorem w4_138 : (Jvm.Cond.instanceMethod ({ cls := "SlateHands$Course", name := "carryOut", desc := "(LSlateHands$Port;IZ)V" } : Jvm.MethodName)) ∈ TB := tb4 138 rfl rfl
theorem w4_139 : (Jvm.Cond.code ({ cls := "SlateHands$Course", name := "carryOut", desc := "(LSlateHands$Port;IZ)V" } : Jvm.MethodName) prog_4_method_9_code (9 : Nat) (Option.none : Option Jvm.ClassFile.FieldType)) ∈ TB := tb4 139 rfl rfl
theorem w4_140 : (Jvm.Cond.methodLink "SlateHands$Course" (148 : Nat) ({ cls := "SlateHands$Port", name := "leftByLaw", desc := "(III)I" } : Jvm.MethodName)) ∈ TB := tb4 140 rfl rfl
theorem w4_141 : (Jvm.Cond.instanceMethod ({ cls := "SlateHands$Port", name := "leftByLaw", desc := "(III)I" } : Jvm.MethodName)) ∈ TB := tb4 141 rfl rfl
theorem w4_142 : (Jvm.Cond.selects "SlateHands$Port" ({ cls := "SlateHands$Port", name := "leftByLaw", desc := "(III)I" } : Jvm.MethodName) ({ cls := "SlateHands$Port", name := "leftByLaw", desc := "(III)I" } : Jvm.MethodName)) ∈ TB := tb4 142 rfl rfl
theorem w4_143 : (Jvm.Cond.code ({ cls := "SlateHands$Port", name := "leftByLaw", desc := "(III)I" } : Jvm.MethodName) prog_7_method_22_code (10 : Nat) (Option.some Jvm.ClassFile.FieldType.int)) ∈ TB := tb4 143 rfl rfl
theorem w4_145 : (Jvm.Cond.methodLink "SlateHands" (171 : Nat) ({ cls := "SlateHands$Diary", name := "carrierOn", desc := "(II)I" } : Jvm.MethodName)) ∈ TB := tb4 145 rfl rfl
theorem w4_146 : (Jvm.Cond.instanceMethod ({ cls := "SlateHands$Diary", name := "carrierOn", desc := "(II)I" } : Jvm.MethodName)) ∈ TB := tb4 146 rfl rfl
theorem w4_147 : (Jvm.Cond.selects "SlateHands$Diary" ({ cls := "SlateHands$Diary", name := "carrierOn", desc := "(II)I" } : Jvm.MethodName) ({ cls := "SlateHands$Diary", name := "carrierOn", desc := "(II)I" } : Jvm.MethodName)) ∈ TB := tb4 147 rfl rfl
theorem w4_148 : (Jvm.Cond.code ({ cls := "SlateHands$Diary", name := "carrierOn", desc := "(II)I" } : Jvm.MethodName) prog_5_method_3_code (3 : Nat) (Option.some Jvm.ClassFile.FieldType.int)) ∈ TB := tb4 148 rfl rfl
theorem w4_150 : (Jvm.Cond.methodLink "SlateHandsLaw" (61 : Nat) ({ cls := "SlateHands", name := "lies", desc := "(II)I" } : Jvm.MethodName)) ∈ TB := tb4 150 rfl rfl
theorem w4_151 : (Jvm.Cond.instanceMethod ({ cls := "SlateHands", name := "lies", desc := "(II)I" } : Jvm.MethodName)) ∈ TB := tb4 151 rfl rfl
theorem w4_152 : (Jvm.Cond.selects "SlateHands" ({ cls := "SlateHands", name := "lies", desc := "(II)I" } : Jvm.MethodName) ({ cls := "SlateHands", name := "lies", desc := "(II)I" } : Jvm.MethodName)) ∈ TB := tb4 152 rfl rfl
theorem w4_153 : (Jvm.Cond.code ({ cls := "SlateHands", name := "lies", desc := "(II)I" } : Jvm.MethodName) prog_1_method_13_code (3 : Nat) (Option.some Jvm.ClassFile.FieldType.int)) ∈ TB := tb4 153 rfl rfl
theorem w4_154 : (Jvm.Cond.methodLink "SlateHands" (174 : Nat) ({ cls := "SlateHands", name := "isSlateOn", desc := "(II)Z" } : Jvm.MethodName)) ∈ TB := tb4 154 rfl rfl
theorem w4_156 : (Jvm.Cond.instanceMethod ({ cls := "SlateHands", name := "isSlateOn", desc := "(II)Z" } : Jvm.MethodName)) ∈ TB := tb4 156 rfl rfl
theorem w4_157 : (Jvm.Cond.code ({ cls := "SlateHands", name := "isSlateOn", desc := "(II)Z" } : Jvm.MethodName) prog_1_method_75_code (3 : Nat) (Option.some Jvm.ClassFile.FieldType.boolean)) ∈ TB := tb4 157 rfl rfl
theorem w4_158 : (Jvm.Cond.methodLink "SlateHands" (177 : Nat) ({ cls := "SlateHands$Diary", name := "slateOn", desc := "(II)I" } : Jvm.MethodName)) ∈ TB := tb4 158 rfl rfl
theorem w4_159 : (Jvm.Cond.instanceMethod ({ cls := "SlateHands$Diary", name := "slateOn", desc := "(II)I" } : Jvm.MethodName)) ∈ TB := tb4 159 rfl rfl
theorem w4_160 : (Jvm.Cond.selects "SlateHands$Diary" ({ cls := "SlateHands$Diary", name := "slateOn", desc := "(II)I" } : Jvm.MethodName) ({ cls := "SlateHands$Diary", name := "slateOn", desc := "(II)I" } : Jvm.MethodName)) ∈ TB := tb4 160 rfl rfl
theorem w4_161 : (Jvm.Cond.code ({ cls := "SlateHands$Diary", name := "slateOn", desc := "(II)I" } : Jvm.MethodName) prog_5_method_4_code (3 : Nat) (Option.some Jvm.ClassFile.FieldType.int)) ∈ TB := tb4 161 rfl rfl
theorem w4_162 : (Jvm.Cond.methodLink "SlateHandsLaw" (65 : Nat) ({ cls := "SlateHands", name := "left", desc := "(II)I" } : Jvm.MethodName)) ∈ TB := tb4 162 rfl rfl
theorem w4_163 : (Jvm.Cond.instanceMethod ({ cls := "SlateHands", name := "left", desc := "(II)I" } : Jvm.MethodName)) ∈ TB := tb4 163 rfl rfl
theorem w4_164 : (Jvm.Cond.selects "SlateHands" ({ cls := "SlateHands", name := "left", desc := "(II)I" } : Jvm.MethodName) ({ cls := "SlateHands", name := "left", desc := "(II)I" } : Jvm.MethodName)) ∈ TB := tb4 164 rfl rfl
theorem w4_165 : (Jvm.Cond.code ({ cls := "SlateHands", name := "left", desc := "(II)I" } : Jvm.MethodName) prog_1_method_14_code (3 : Nat) (Option.some Jvm.ClassFile.FieldType.int)) ∈ TB := tb4 165 rfl rfl
theorem w4_166 : (Jvm.Cond.methodLink "SlateHands" (180 : Nat) ({ cls := "SlateHands$Diary", name := "leftOn", desc := "(II)I" } : Jvm.MethodName)) ∈ TB := tb4 166 rfl rfl
theorem w4_167 : (Jvm.Cond.instanceMethod ({ cls := "SlateHands$Diary", name := "leftOn", desc := "(II)I" } : Jvm.MethodName)) ∈ TB := tb4 167 rfl rfl
theorem w4_168 : (Jvm.Cond.selects "SlateHands$Diary" ({ cls := "SlateHands$Diary", name := "leftOn", desc := "(II)I" } : Jvm.MethodName) ({ cls := "SlateHands$Diary", name := "leftOn", desc := "(II)I" } : Jvm.MethodName)) ∈ TB := tb4 168 rfl rfl
theorem w4_169 : (Jvm.Cond.code ({ cls := "SlateHands$Diary", name := "leftOn", desc := "(II)I" } : Jvm.MethodName) prog_5_method_5_code (3 : Nat) (Option.some Jvm.ClassFile.FieldType.int)) ∈ TB := tb4 169 rfl rfl
theorem w4_170 : (Jvm.Cond.methodLink "SlateHandsLaw" (69 : Nat) ({ cls := "SlateHands", name := "weight", desc := "(II)I" } : Jvm.MethodName)) ∈ TB := tb4 170 rfl rfl
theorem w4_171 : (Jvm.Cond.instanceMethod ({ cls := "SlateHands", name := "weight", desc := "(II)I" } : Jvm.MethodName)) ∈ TB := tb4 171 rfl rfl
theorem w4_172 : (Jvm.Cond.selects "SlateHands" ({ cls := "SlateHands", name := "weight", desc := "(II)I" } : Jvm.MethodName) ({ cls := "SlateHands", name := "weight", desc := "(II)I" } : Jvm.MethodName)) ∈ TB := tb4 172 rfl rfl
theorem w4_173 : (Jvm.Cond.code ({ cls := "SlateHands", name := "weight", desc := "(II)I" } : Jvm.MethodName) prog_1_method_15_code (3 : Nat) (Option.some Jvm.ClassFile.FieldType.int)) ∈ TB := tb4 173 rfl rfl
theorem w4_174 : (Jvm.Cond.methodLink "SlateHands" (183 : Nat) ({ cls := "SlateHands$Port", name := "weightOf", desc := "(II)I" } : Jvm.MethodName)) ∈ TB := tb4 174 rfl rfl
theorem w4_175 : (Jvm.Cond.methodLink "SlateHandsLaw" (73 : Nat) ({ cls := "SlateHands", name := "knows", desc := "(III)I" } : Jvm.MethodName)) ∈ TB := tb4 175 rfl rfl
theorem w4_176 : (Jvm.Cond.instanceMethod ({ cls := "SlateHands", name := "knows", desc := "(III)I" } : Jvm.MethodName)) ∈ TB := tb4 176 rfl rfl
theorem w4_177 : (Jvm.Cond.selects "SlateHands" ({ cls := "SlateHands", name := "knows", desc := "(III)I" } : Jvm.MethodName) ({ cls := "SlateHands", name := "knows", desc := "(III)I" } : Jvm.MethodName)) ∈ TB := tb4 177 rfl rfl
theorem w4_178 : (Jvm.Cond.code ({ cls := "SlateHands", name := "knows", desc := "(III)I" } : Jvm.MethodName) prog_1_method_16_code (4 : Nat) (Option.some Jvm.ClassFile.FieldType.int)) ∈ TB := tb4 178 rfl rfl
theorem w4_179 : (Jvm.Cond.methodLink "SlateHands" (186 : Nat) ({ cls := "SlateHands$Diary", name := "knownOn", desc := "(III)I" } : Jvm.MethodName)) ∈ TB := tb4 179 rfl rfl
theorem w4_180 : (Jvm.Cond.instanceMethod ({ cls := "SlateHands$Diary", name := "knownOn", desc := "(III)I" } : Jvm.MethodName)) ∈ TB := tb4 180 rfl rfl
theorem w4_181 : (Jvm.Cond.selects "SlateHands$Diary" ({ cls := "SlateHands$Diary", name := "knownOn", desc := "(III)I" } : Jvm.MethodName) ({ cls := "SlateHands$Diary", name := "knownOn", desc := "(III)I" } : Jvm.MethodName)) ∈ TB := tb4 181 rfl rfl
theorem w4_182 : (Jvm.Cond.code ({ cls := "SlateHands$Diary", name := "knownOn", desc := "(III)I" } : Jvm.MethodName) prog_5_method_6_code (4 : Nat) (Option.some Jvm.ClassFile.FieldType.int)) ∈ TB := tb4 182 rfl rfl
theorem w4_183 : (Jvm.Cond.methodLink "SlateHandsLaw" (78 : Nat) ({ cls := "SlateHands", name := "heard", desc := "(II)I" } : Jvm.MethodName)) ∈ TB := tb4 183 rfl rfl
theorem w4_184 : (Jvm.Cond.instanceMethod ({ cls := "SlateHands", name := "heard", desc := "(II)I" } : Jvm.MethodName)) ∈ TB := tb4 184 rfl rfl
theorem w4_185 : (Jvm.Cond.selects "SlateHands" ({ cls := "SlateHands", name := "heard", desc := "(II)I" } : Jvm.MethodName) ({ cls := "SlateHands", name := "heard", desc := "(II)I" } : Jvm.MethodName)) ∈ TB := tb4 185 rfl rfl
theorem w4_186 : (Jvm.Cond.code ({ cls := "SlateHands", name := "heard", desc := "(II)I" } : Jvm.MethodName) prog_1_method_17_code (3 : Nat) (Option.some Jvm.ClassFile.FieldType.int)) ∈ TB := tb4 186 rfl rfl
theorem w4_187 : (Jvm.Cond.methodLink "SlateHands" (190 : Nat) ({ cls := "SlateHands$Diary", name := "hearersOn", desc := "(LSlateHands$Port;II)I" } : Jvm.MethodName)) ∈ TB := tb4 187 rfl rfl
theorem w4_188 : (Jvm.Cond.instanceMethod ({ cls := "SlateHands$Diary", name := "hearersOn", desc := "(LSlateHands$Port;II)I" } : Jvm.MethodName)) ∈ TB := tb4 188 rfl rfl
theorem w4_189 : (Jvm.Cond.selects "SlateHands$Diary" ({ cls := "SlateHands$Diary", name := "hearersOn", desc := "(LSlateHands$Port;II)I" } : Jvm.MethodName) ({ cls := "SlateHands$Diary", name := "hearersOn", desc := "(LSlateHands$Port;II)I" } : Jvm.MethodName)) ∈ TB := tb4 189 rfl rfl
theorem w4_190 : (Jvm.Cond.code ({ cls := "SlateHands$Diary", name := "hearersOn", desc := "(LSlateHands$Port;II)I" } : Jvm.MethodName) prog_5_method_7_code (6 : Nat) (Option.some Jvm.ClassFile.FieldType.int)) ∈ TB := tb4 190 rfl rfl
theorem w4_191 : (Jvm.Cond.methodLink "SlateHands$Diary" (65 : Nat) ({ cls := "SlateHands$Diary", name := "knownOn", desc := "(III)I" } : Jvm.MethodName)) ∈ TB := tb4 191 rfl rfl
theorem w4_192 : (Jvm.Cond.methodLink "SlateHandsLaw" (82 : Nat) ({ cls := "SlateHands", name := "full", desc := "(II)I" } : Jvm.MethodName)) ∈ TB := tb4 192 rfl rfl
theorem w4_193 : (Jvm.Cond.instanceMethod ({ cls := "SlateHands", name := "full", desc := "(II)I" } : Jvm.MethodName)) ∈ TB := tb4 193 rfl rfl
theorem w4_194 : (Jvm.Cond.selects "SlateHands" ({ cls := "SlateHands", name := "full", desc := "(II)I" } : Jvm.MethodName) ({ cls := "SlateHands", name := "full", desc := "(II)I" } : Jvm.MethodName)) ∈ TB := tb4 194 rfl rfl
theorem w4_195 : (Jvm.Cond.code ({ cls := "SlateHands", name := "full", desc := "(II)I" } : Jvm.MethodName) prog_1_method_18_code (5 : Nat) (Option.some Jvm.ClassFile.FieldType.int)) ∈ TB := tb4 195 rfl rfl
theorem w4_196 : (Jvm.Cond.methodLink "SlateHands" (196 : Nat) ({ cls := "SlateHands$Port", name := "allWords", desc := "(I)I" } : Jvm.MethodName)) ∈ TB := tb4 196 rfl rfl
theorem w4_197 : (Jvm.Cond.methodLink "SlateHandsLaw" (86 : Nat) ({ cls := "SlateHands", name := "when", desc := "(II)I" } : Jvm.MethodName)) ∈ TB := tb4 197 rfl rfl
theorem w4_198 : (Jvm.Cond.instanceMethod ({ cls := "SlateHands", name := "when", desc := "(II)I" } : Jvm.MethodName)) ∈ TB := tb4 198 rfl rfl
theorem w4_199 : (Jvm.Cond.selects "SlateHands" ({ cls := "SlateHands", name := "when", desc := "(II)I" } : Jvm.MethodName) ({ cls := "SlateHands", name := "when", desc := "(II)I" } : Jvm.MethodName)) ∈ TB := tb4 199 rfl rfl
theorem w4_200 : (Jvm.Cond.code ({ cls := "SlateHands", name := "when", desc := "(II)I" } : Jvm.MethodName) prog_1_method_19_code (4 : Nat) (Option.some Jvm.ClassFile.FieldType.int)) ∈ TB := tb4 200 rfl rfl
theorem w4_201 : (Jvm.Cond.methodLink "SlateHandsLaw" (90 : Nat) ({ cls := "SlateHands", name := "done", desc := "(I)I" } : Jvm.MethodName)) ∈ TB := tb4 201 rfl rfl
theorem w4_202 : (Jvm.Cond.instanceMethod ({ cls := "SlateHands", name := "done", desc := "(I)I" } : Jvm.MethodName)) ∈ TB := tb4 202 rfl rfl
theorem w4_203 : (Jvm.Cond.selects "SlateHands" ({ cls := "SlateHands", name := "done", desc := "(I)I" } : Jvm.MethodName) ({ cls := "SlateHands", name := "done", desc := "(I)I" } : Jvm.MethodName)) ∈ TB := tb4 203 rfl rfl
theorem w4_204 : (Jvm.Cond.code ({ cls := "SlateHands", name := "done", desc := "(I)I" } : Jvm.MethodName) prog_1_method_20_code (2 : Nat) (Option.some Jvm.ClassFile.FieldType.int)) ∈ TB := tb4 204 rfl rfl
theorem w4_205 : (Jvm.Cond.methodLink "SlateHands" (203 : Nat) ({ cls := "SlateHands$Port", name := "isCarry", desc := "(I)Z" } : Jvm.MethodName)) ∈ TB := tb4 205 rfl rfl
theorem w4_206 : (Jvm.Cond.instanceMethod ({ cls := "SlateHands$Port", name := "isCarry", desc := "(I)Z" } : Jvm.MethodName)) ∈ TB := tb4 206 rfl rfl
theorem w4_207 : (Jvm.Cond.selects "SlateHands$Port" ({ cls := "SlateHands$Port", name := "isCarry", desc := "(I)Z" } : Jvm.MethodName) ({ cls := "SlateHands$Port", name := "isCarry", desc := "(I)Z" } : Jvm.MethodName)) ∈ TB := tb4 207 rfl rfl
theorem w4_208 : (Jvm.Cond.code ({ cls := "SlateHands$Port", name := "isCarry", desc := "(I)Z" } : Jvm.MethodName) prog_7_method_10_code (2 : Nat) (Option.some Jvm.ClassFile.FieldType.boolean)) ∈ TB := tb4 208 rfl rfl
theorem w4_209 : (Jvm.Cond.methodLink "SlateHands" (206 : Nat) ({ cls := "SlateHands$Diary", name := "reasonOf", desc := "(I)I" } : Jvm.MethodName)) ∈ TB := tb4 209 rfl rfl
theorem w4_210 : (Jvm.Cond.instanceMethod ({ cls := "SlateHands$Diary", name := "reasonOf", desc := "(I)I" } : Jvm.MethodName)) ∈ TB := tb4 210 rfl rfl
theorem w4_211 : (Jvm.Cond.selects "SlateHands$Diary" ({ cls := "SlateHands$Diary", name := "reasonOf", desc := "(I)I" } : Jvm.MethodName) ({ cls := "SlateHands$Diary", name := "reasonOf", desc := "(I)I" } : Jvm.MethodName)) ∈ TB := tb4 211 rfl rfl
theorem w4_212 : (Jvm.Cond.code ({ cls := "SlateHands$Diary", name := "reasonOf", desc := "(I)I" } : Jvm.MethodName) prog_5_method_9_code (2 : Nat) (Option.some Jvm.ClassFile.FieldType.int)) ∈ TB := tb4 212 rfl rfl
theorem w4_213 : (Jvm.Cond.methodLink "SlateHandsLaw" (94 : Nat) ({ cls := "SlateHands", name := "dones", desc := "()I" } : Jvm.MethodName)) ∈ TB := tb4 213 rfl rfl
theorem w4_214 : (Jvm.Cond.instanceMethod ({ cls := "SlateHands", name := "dones", desc := "()I" } : Jvm.MethodName)) ∈ TB := tb4 214 rfl rfl
theorem w4_215 : (Jvm.Cond.selects "SlateHands" ({ cls := "SlateHands", name := "dones", desc := "()I" } : Jvm.MethodName) ({ cls := "SlateHands", name := "dones", desc := "()I" } : Jvm.MethodName)) ∈ TB := tb4 215 rfl rfl
theorem w4_216 : (Jvm.Cond.code ({ cls := "SlateHands", name := "dones", desc := "()I" } : Jvm.MethodName) prog_1_method_21_code (3 : Nat) (Option.some Jvm.ClassFile.FieldType.int)) ∈ TB := tb4 216 rfl rfl
theorem w4_217 : (Jvm.Cond.methodLink "SlateHands" (209 : Nat) ({ cls := "SlateHands$Port", name := "isTold", desc := "()Z" } : Jvm.MethodName)) ∈ TB := tb4 217 rfl rfl
theorem w4_218 : (Jvm.Cond.methodLink "SlateHandsLaw" (98 : Nat) ({ cls := "SlateHands", name := "why", desc := "(I)I" } : Jvm.MethodName)) ∈ TB := tb4 218 rfl rfl
theorem w4_219 : (Jvm.Cond.instanceMethod ({ cls := "SlateHands", name := "why", desc := "(I)I" } : Jvm.MethodName)) ∈ TB := tb4 219 rfl rfl
theorem w4_220 : (Jvm.Cond.selects "SlateHands" ({ cls := "SlateHands", name := "why", desc := "(I)I" } : Jvm.MethodName) ({ cls := "SlateHands", name := "why", desc := "(I)I" } : Jvm.MethodName)) ∈ TB := tb4 220 rfl rfl
theorem w4_221 : (Jvm.Cond.code ({ cls := "SlateHands", name := "why", desc := "(I)I" } : Jvm.MethodName) prog_1_method_22_code (2 : Nat) (Option.some Jvm.ClassFile.FieldType.int)) ∈ TB := tb4 221 rfl rfl
theorem w4_222 : (Jvm.Cond.methodLink "SlateHandsLaw" (102 : Nat) ({ cls := "SlateHands", name := "load", desc := "(I)I" } : Jvm.MethodName)) ∈ TB := tb4 222 rfl rfl
theorem w4_223 : (Jvm.Cond.instanceMethod ({ cls := "SlateHands", name := "load", desc := "(I)I" } : Jvm.MethodName)) ∈ TB := tb4 223 rfl rfl
theorem w4_224 : (Jvm.Cond.selects "SlateHands" ({ cls := "SlateHands", name := "load", desc := "(I)I" } : Jvm.MethodName) ({ cls := "SlateHands", name := "load", desc := "(I)I" } : Jvm.MethodName)) ∈ TB := tb4 224 rfl rfl
theorem w4_225 : (Jvm.Cond.code ({ cls := "SlateHands", name := "load", desc := "(I)I" } : Jvm.MethodName) prog_1_method_23_code (2 : Nat) (Option.some Jvm.ClassFile.FieldType.int)) ∈ TB := tb4 225 rfl rfl
theorem w4_226 : (Jvm.Cond.methodLink "SlateHands" (220 : Nat) ({ cls := "SlateHands$Diary", name := "loadOf", desc := "(I)I" } : Jvm.MethodName)) ∈ TB := tb4 226 rfl rfl
theorem w4_227 : (Jvm.Cond.instanceMethod ({ cls := "SlateHands$Diary", name := "loadOf", desc := "(I)I" } : Jvm.MethodName)) ∈ TB := tb4 227 rfl rfl
theorem w4_228 : (Jvm.Cond.selects "SlateHands$Diary" ({ cls := "SlateHands$Diary", name := "loadOf", desc := "(I)I" } : Jvm.MethodName) ({ cls := "SlateHands$Diary", name := "loadOf", desc := "(I)I" } : Jvm.MethodName)) ∈ TB := tb4 228 rfl rfl
theorem w4_229 : (Jvm.Cond.code ({ cls := "SlateHands$Diary", name := "loadOf", desc := "(I)I" } : Jvm.MethodName) prog_5_method_10_code (2 : Nat) (Option.some Jvm.ClassFile.FieldType.int)) ∈ TB := tb4 229 rfl rfl
theorem w4_230 : (Jvm.Cond.methodLink "SlateHandsLaw" (106 : Nat) ({ cls := "SlateHands", name := "idle", desc := "(I)I" } : Jvm.MethodName)) ∈ TB := tb4 230 rfl rfl
theorem w4_231 : (Jvm.Cond.instanceMethod ({ cls := "SlateHands", name := "idle", desc := "(I)I" } : Jvm.MethodName)) ∈ TB := tb4 231 rfl rfl
theorem w4_232 : (Jvm.Cond.selects "SlateHands" ({ cls := "SlateHands", name := "idle", desc := "(I)I" } : Jvm.MethodName) ({ cls := "SlateHands", name := "idle", desc := "(I)I" } : Jvm.MethodName)) ∈ TB := tb4 232 rfl rfl
theorem w4_233 : (Jvm.Cond.code ({ cls := "SlateHands", name := "idle", desc := "(I)I" } : Jvm.MethodName) prog_1_method_24_code (2 : Nat) (Option.some Jvm.ClassFile.FieldType.int)) ∈ TB := tb4 233 rfl rfl
theorem w4_234 : (Jvm.Cond.methodLink "SlateHands" (223 : Nat) ({ cls := "SlateHands$Port", name := "isDayAhead", desc := "(I)Z" } : Jvm.MethodName)) ∈ TB := tb4 234 rfl rfl
theorem w4_235 : (Jvm.Cond.instanceMethod ({ cls := "SlateHands$Port", name := "isDayAhead", desc := "(I)Z" } : Jvm.MethodName)) ∈ TB := tb4 235 rfl rfl
theorem w4_236 : (Jvm.Cond.selects "SlateHands$Port" ({ cls := "SlateHands$Port", name := "isDayAhead", desc := "(I)Z" } : Jvm.MethodName) ({ cls := "SlateHands$Port", name := "isDayAhead", desc := "(I)Z" } : Jvm.MethodName)) ∈ TB := tb4 236 rfl rfl
theorem w4_237 : (Jvm.Cond.code ({ cls := "SlateHands$Port", name := "isDayAhead", desc := "(I)Z" } : Jvm.MethodName) prog_7_method_12_code (2 : Nat) (Option.some Jvm.ClassFile.FieldType.boolean)) ∈ TB := tb4 237 rfl rfl
theorem w4_238 : (Jvm.Cond.methodLink "SlateHands" (226 : Nat) ({ cls := "SlateHands$Port", name := "allCarriers", desc := "()I" } : Jvm.MethodName)) ∈ TB := tb4 238 rfl rfl
theorem w4_239 : (Jvm.Cond.instanceMethod ({ cls := "SlateHands$Port", name := "allCarriers", desc := "()I" } : Jvm.MethodName)) ∈ TB := tb4 239 rfl rfl
theorem w5_0 : (Jvm.Cond.selects "SlateHands$Port" ({ cls := "SlateHands$Port", name := "allCarriers", desc := "()I" } : Jvm.MethodName) ({ cls := "SlateHands$Port", name := "allCarriers", desc := "()I" } : Jvm.MethodName)) ∈ TB := tb5 0 rfl rfl
theorem w5_1 : (Jvm.Cond.code ({ cls := "SlateHands$Port", name := "allCarriers", desc := "()I" } : Jvm.MethodName) prog_7_method_15_code (1 : Nat) (Option.some Jvm.ClassFile.FieldType.int)) ∈ TB := tb5 1 rfl rfl
theorem w5_2 : (Jvm.Cond.methodLink "SlateHands" (230 : Nat) ({ cls := "SlateHands$Diary", name := "outOn", desc := "(I)I" } : Jvm.MethodName)) ∈ TB := tb5 2 rfl rfl
theorem w5_3 : (Jvm.Cond.instanceMethod ({ cls := "SlateHands$Diary", name := "outOn", desc := "(I)I" } : Jvm.MethodName)) ∈ TB := tb5 3 rfl rfl
theorem w5_4 : (Jvm.Cond.selects "SlateHands$Diary" ({ cls := "SlateHands$Diary", name := "outOn", desc := "(I)I" } : Jvm.MethodName) ({ cls := "SlateHands$Diary", name := "outOn", desc := "(I)I" } : Jvm.MethodName)) ∈ TB := tb5 4 rfl rfl
theorem w5_5 : (Jvm.Cond.code ({ cls := "SlateHands$Diary", name := "outOn", desc := "(I)I" } : Jvm.MethodName) prog_5_method_8_code (2 : Nat) (Option.some Jvm.ClassFile.FieldType.int)) ∈ TB := tb5 5 rfl rfl
theorem w5_6 : (Jvm.Cond.methodLink "SlateHandsLaw" (110 : Nat) ({ cls := "SlateHands", name := "moves", desc := "(I)I" } : Jvm.MethodName)) ∈ TB := tb5 6 rfl rfl
theorem w5_7 : (Jvm.Cond.instanceMethod ({ cls := "SlateHands", name := "moves", desc := "(I)I" } : Jvm.MethodName)) ∈ TB := tb5 7 rfl rfl
theorem w5_8 : (Jvm.Cond.selects "SlateHands" ({ cls := "SlateHands", name := "moves", desc := "(I)I" } : Jvm.MethodName) ({ cls := "SlateHands", name := "moves", desc := "(I)I" } : Jvm.MethodName)) ∈ TB := tb5 8 rfl rfl
theorem w5_9 : (Jvm.Cond.code ({ cls := "SlateHands", name := "moves", desc := "(I)I" } : Jvm.MethodName) prog_1_method_25_code (2 : Nat) (Option.some Jvm.ClassFile.FieldType.int)) ∈ TB := tb5 9 rfl rfl
theorem w5_10 : (Jvm.Cond.methodLink "SlateHands" (236 : Nat) ({ cls := "SlateHands$Diary", name := "countDone", desc := "([III)I" } : Jvm.MethodName)) ∈ TB := tb5 10 rfl rfl
theorem w5_11 : (Jvm.Cond.instanceMethod ({ cls := "SlateHands$Diary", name := "countDone", desc := "([III)I" } : Jvm.MethodName)) ∈ TB := tb5 11 rfl rfl
theorem w5_12 : (Jvm.Cond.selects "SlateHands$Diary" ({ cls := "SlateHands$Diary", name := "countDone", desc := "([III)I" } : Jvm.MethodName) ({ cls := "SlateHands$Diary", name := "countDone", desc := "([III)I" } : Jvm.MethodName)) ∈ TB := tb5 12 rfl rfl
theorem w5_13 : (Jvm.Cond.code ({ cls := "SlateHands$Diary", name := "countDone", desc := "([III)I" } : Jvm.MethodName) prog_5_method_11_code (6 : Nat) (Option.some Jvm.ClassFile.FieldType.int)) ∈ TB := tb5 13 rfl rfl
theorem w5_14 : (Jvm.Cond.methodLink "SlateHands$Diary" (75 : Nat) ({ cls := "SlateHands$Diary", name := "reasonOf", desc := "(I)I" } : Jvm.MethodName)) ∈ TB := tb5 14 rfl rfl
theorem w5_15 : (Jvm.Cond.methodLink "SlateHandsLaw" (114 : Nat) ({ cls := "SlateHands", name := "trips", desc := "(I)I" } : Jvm.MethodName)) ∈ TB := tb5 15 rfl rfl
theorem w5_16 : (Jvm.Cond.instanceMethod ({ cls := "SlateHands", name := "trips", desc := "(I)I" } : Jvm.MethodName)) ∈ TB := tb5 16 rfl rfl
theorem w5_17 : (Jvm.Cond.selects "SlateHands" ({ cls := "SlateHands", name := "trips", desc := "(I)I" } : Jvm.MethodName) ({ cls := "SlateHands", name := "trips", desc := "(I)I" } : Jvm.MethodName)) ∈ TB := tb5 17 rfl rfl
theorem w5_18 : (Jvm.Cond.code ({ cls := "SlateHands", name := "trips", desc := "(I)I" } : Jvm.MethodName) prog_1_method_26_code (2 : Nat) (Option.some Jvm.ClassFile.FieldType.int)) ∈ TB := tb5 18 rfl rfl
theorem w5_19 : (Jvm.Cond.methodLink "SlateHandsLaw" (118 : Nat) ({ cls := "SlateHands", name := "toil", desc := "(I)I" } : Jvm.MethodName)) ∈ TB := tb5 19 rfl rfl
theorem w5_20 : (Jvm.Cond.instanceMethod ({ cls := "SlateHands", name := "toil", desc := "(I)I" } : Jvm.MethodName)) ∈ TB := tb5 20 rfl rfl
theorem w5_21 : (Jvm.Cond.selects "SlateHands" ({ cls := "SlateHands", name := "toil", desc := "(I)I" } : Jvm.MethodName) ({ cls := "SlateHands", name := "toil", desc := "(I)I" } : Jvm.MethodName)) ∈ TB := tb5 21 rfl rfl
theorem w5_22 : (Jvm.Cond.code ({ cls := "SlateHands", name := "toil", desc := "(I)I" } : Jvm.MethodName) prog_1_method_27_code (4 : Nat) (Option.some Jvm.ClassFile.FieldType.int)) ∈ TB := tb5 22 rfl rfl
theorem w5_23 : (Jvm.Cond.methodLink "SlateHandsLaw" (122 : Nat) ({ cls := "SlateHands", name := "rubbed", desc := "(I)I" } : Jvm.MethodName)) ∈ TB := tb5 23 rfl rfl
theorem w5_24 : (Jvm.Cond.instanceMethod ({ cls := "SlateHands", name := "rubbed", desc := "(I)I" } : Jvm.MethodName)) ∈ TB := tb5 24 rfl rfl
theorem w5_25 : (Jvm.Cond.selects "SlateHands" ({ cls := "SlateHands", name := "rubbed", desc := "(I)I" } : Jvm.MethodName) ({ cls := "SlateHands", name := "rubbed", desc := "(I)I" } : Jvm.MethodName)) ∈ TB := tb5 25 rfl rfl
theorem w5_26 : (Jvm.Cond.code ({ cls := "SlateHands", name := "rubbed", desc := "(I)I" } : Jvm.MethodName) prog_1_method_28_code (2 : Nat) (Option.some Jvm.ClassFile.FieldType.int)) ∈ TB := tb5 26 rfl rfl
theorem w5_27 : (Jvm.Cond.methodLink "SlateHands" (243 : Nat) ({ cls := "java/lang/Integer", name := "bitCount", desc := "(I)I" } : Jvm.MethodName)) ∈ TB := tb5 27 rfl rfl
theorem w5_28 : (Jvm.Cond.static ({ cls := "java/lang/Integer", name := "bitCount", desc := "(I)I" } : Jvm.MethodName)) ∈ TB := tb5 28 rfl rfl
theorem w5_29 : (Jvm.Cond.code ({ cls := "java/lang/Integer", name := "bitCount", desc := "(I)I" } : Jvm.MethodName) prog_15_method_49_code (1 : Nat) (Option.some Jvm.ClassFile.FieldType.int)) ∈ TB := tb5 29 rfl rfl
theorem w5_30 : (Jvm.Cond.constant "java/lang/Integer" (265 : Nat) (1431655765 : Int32)) ∈ TB := tb5 30 rfl rfl
theorem w5_31 : (Jvm.Cond.constant "java/lang/Integer" (266 : Nat) (858993459 : Int32)) ∈ TB := tb5 31 rfl rfl
theorem w5_32 : (Jvm.Cond.constant "java/lang/Integer" (267 : Nat) (252645135 : Int32)) ∈ TB := tb5 32 rfl rfl
theorem w5_33 : (Jvm.Cond.methodLink "SlateHandsLaw" (126 : Nat) ({ cls := "SlateHands", name := "gossip", desc := "()I" } : Jvm.MethodName)) ∈ TB := tb5 33 rfl rfl
theorem w5_34 : (Jvm.Cond.instanceMethod ({ cls := "SlateHands", name := "gossip", desc := "()I" } : Jvm.MethodName)) ∈ TB := tb5 34 rfl rfl
theorem w5_35 : (Jvm.Cond.selects "SlateHands" ({ cls := "SlateHands", name := "gossip", desc := "()I" } : Jvm.MethodName) ({ cls := "SlateHands", name := "gossip", desc := "()I" } : Jvm.MethodName)) ∈ TB := tb5 35 rfl rfl
theorem w5_36 : (Jvm.Cond.code ({ cls := "SlateHands", name := "gossip", desc := "()I" } : Jvm.MethodName) prog_1_method_29_code (7 : Nat) (Option.some Jvm.ClassFile.FieldType.int)) ∈ TB := tb5 36 rfl rfl
theorem w5_37 : (Jvm.Cond.methodLink "SlateHandsLaw" (130 : Nat) ({ cls := "SlateHands", name := "famous", desc := "()I" } : Jvm.MethodName)) ∈ TB := tb5 37 rfl rfl
theorem w5_38 : (Jvm.Cond.instanceMethod ({ cls := "SlateHands", name := "famous", desc := "()I" } : Jvm.MethodName)) ∈ TB := tb5 38 rfl rfl
theorem w5_39 : (Jvm.Cond.selects "SlateHands" ({ cls := "SlateHands", name := "famous", desc := "()I" } : Jvm.MethodName) ({ cls := "SlateHands", name := "famous", desc := "()I" } : Jvm.MethodName)) ∈ TB := tb5 39 rfl rfl
theorem w5_40 : (Jvm.Cond.code ({ cls := "SlateHands", name := "famous", desc := "()I" } : Jvm.MethodName) prog_1_method_30_code (6 : Nat) (Option.some Jvm.ClassFile.FieldType.int)) ∈ TB := tb5 40 rfl rfl
theorem w5_41 : (Jvm.Cond.methodLink "SlateHandsLaw" (134 : Nat) ({ cls := "SlateHands", name := "brings", desc := "(III)I" } : Jvm.MethodName)) ∈ TB := tb5 41 rfl rfl
theorem w5_42 : (Jvm.Cond.instanceMethod ({ cls := "SlateHands", name := "brings", desc := "(III)I" } : Jvm.MethodName)) ∈ TB := tb5 42 rfl rfl
theorem w5_43 : (Jvm.Cond.selects "SlateHands" ({ cls := "SlateHands", name := "brings", desc := "(III)I" } : Jvm.MethodName) ({ cls := "SlateHands", name := "brings", desc := "(III)I" } : Jvm.MethodName)) ∈ TB := tb5 43 rfl rfl
theorem w5_44 : (Jvm.Cond.code ({ cls := "SlateHands", name := "brings", desc := "(III)I" } : Jvm.MethodName) prog_1_method_31_code (4 : Nat) (Option.some Jvm.ClassFile.FieldType.int)) ∈ TB := tb5 44 rfl rfl
theorem w5_45 : (Jvm.Cond.methodLink "SlateHands" (251 : Nat) ({ cls := "SlateHands", name := "areAlone", desc := "(II)Z" } : Jvm.MethodName)) ∈ TB := tb5 45 rfl rfl
theorem w5_47 : (Jvm.Cond.instanceMethod ({ cls := "SlateHands", name := "areAlone", desc := "(II)Z" } : Jvm.MethodName)) ∈ TB := tb5 47 rfl rfl
theorem w5_48 : (Jvm.Cond.code ({ cls := "SlateHands", name := "areAlone", desc := "(II)Z" } : Jvm.MethodName) prog_1_method_76_code (3 : Nat) (Option.some Jvm.ClassFile.FieldType.boolean)) ∈ TB := tb5 48 rfl rfl
theorem w5_49 : (Jvm.Cond.methodLink "SlateHands" (254 : Nat) ({ cls := "SlateHands$Alone", name := "search", desc := "(LSlateHands$Port;II)V" } : Jvm.MethodName)) ∈ TB := tb5 49 rfl rfl
theorem w5_50 : (Jvm.Cond.instanceMethod ({ cls := "SlateHands$Alone", name := "search", desc := "(LSlateHands$Port;II)V" } : Jvm.MethodName)) ∈ TB := tb5 50 rfl rfl
theorem w5_51 : (Jvm.Cond.selects "SlateHands$Alone" ({ cls := "SlateHands$Alone", name := "search", desc := "(LSlateHands$Port;II)V" } : Jvm.MethodName) ({ cls := "SlateHands$Alone", name := "search", desc := "(LSlateHands$Port;II)V" } : Jvm.MethodName)) ∈ TB := tb5 51 rfl rfl
theorem w5_52 : (Jvm.Cond.code ({ cls := "SlateHands$Alone", name := "search", desc := "(LSlateHands$Port;II)V" } : Jvm.MethodName) prog_2_method_3_code (6 : Nat) (Option.none : Option Jvm.ClassFile.FieldType)) ∈ TB := tb5 52 rfl rfl
theorem w5_53 : (Jvm.Cond.methodLink "SlateHands$Alone" (58 : Nat) ({ cls := "SlateHands$Alone", name := "prepare", desc := "(LSlateHands$Port;I)V" } : Jvm.MethodName)) ∈ TB := tb5 53 rfl rfl
theorem w5_55 : (Jvm.Cond.instanceMethod ({ cls := "SlateHands$Alone", name := "prepare", desc := "(LSlateHands$Port;I)V" } : Jvm.MethodName)) ∈ TB := tb5 55 rfl rfl
theorem w5_56 : (Jvm.Cond.code ({ cls := "SlateHands$Alone", name := "prepare", desc := "(LSlateHands$Port;I)V" } : Jvm.MethodName) prog_2_method_8_code (5 : Nat) (Option.none : Option Jvm.ClassFile.FieldType)) ∈ TB := tb5 56 rfl rfl
theorem w5_57 : (Jvm.Cond.methodLink "SlateHands$Alone" (62 : Nat) ({ cls := "java/util/Arrays", name := "fill", desc := "([II)V" } : Jvm.MethodName)) ∈ TB := tb5 57 rfl rfl
theorem w5_58 : (Jvm.Cond.methodLink "SlateHands$Alone" (102 : Nat) ({ cls := "SlateHands$Port", name := "leftAtFirst", desc := "(I)I" } : Jvm.MethodName)) ∈ TB := tb5 58 rfl rfl
theorem w5_59 : (Jvm.Cond.methodLink "SlateHands$Alone" (123 : Nat) ({ cls := "SlateHands$Port", name := "weightOf", desc := "(II)I" } : Jvm.MethodName)) ∈ TB := tb5 59 rfl rfl
theorem w5_61 : (Jvm.Cond.methodLink "SlateHands$Alone" (106 : Nat) ({ cls := "java/lang/Integer", name := "bitCount", desc := "(I)I" } : Jvm.MethodName)) ∈ TB := tb5 61 rfl rfl
theorem w5_62 : (Jvm.Cond.methodLink "SlateHands$Alone" (126 : Nat) ({ cls := "SlateHands$Port", name := "leftByLaw", desc := "(III)I" } : Jvm.MethodName)) ∈ TB := tb5 62 rfl rfl
theorem w5_63 : (Jvm.Cond.methodLink "SlateHands$Alone" (133 : Nat) ({ cls := "SlateHands$Port", name := "doorsOf", desc := "(II)I" } : Jvm.MethodName)) ∈ TB := tb5 63 rfl rfl
theorem w5_65 : (Jvm.Cond.methodLink "SlateHands$Alone" (84 : Nat) ({ cls := "SlateHands$Alone", name := "enter", desc := "(III)V" } : Jvm.MethodName)) ∈ TB := tb5 65 rfl rfl
theorem w5_67 : (Jvm.Cond.instanceMethod ({ cls := "SlateHands$Alone", name := "enter", desc := "(III)V" } : Jvm.MethodName)) ∈ TB := tb5 67 rfl rfl
theorem w5_68 : (Jvm.Cond.code ({ cls := "SlateHands$Alone", name := "enter", desc := "(III)V" } : Jvm.MethodName) prog_2_method_10_code (4 : Nat) (Option.none : Option Jvm.ClassFile.FieldType)) ∈ TB := tb5 68 rfl rfl
theorem w5_69 : (Jvm.Cond.methodLink "SlateHands$Alone" (140 : Nat) ({ cls := "SlateHands$Alone", name := "markSeen", desc := "(II)Z" } : Jvm.MethodName)) ∈ TB := tb5 69 rfl rfl
theorem w5_71 : (Jvm.Cond.instanceMethod ({ cls := "SlateHands$Alone", name := "markSeen", desc := "(II)Z" } : Jvm.MethodName)) ∈ TB := tb5 71 rfl rfl
theorem w5_72 : (Jvm.Cond.code ({ cls := "SlateHands$Alone", name := "markSeen", desc := "(II)Z" } : Jvm.MethodName) prog_2_method_9_code (4 : Nat) (Option.some Jvm.ClassFile.FieldType.boolean)) ∈ TB := tb5 72 rfl rfl
theorem w5_74 : (Jvm.Cond.methodLink "SlateHands$Alone" (111 : Nat) ({ cls := "java/lang/Math", name := "max", desc := "(II)I" } : Jvm.MethodName)) ∈ TB := tb5 74 rfl rfl
theorem w5_75 : (Jvm.Cond.methodLink "SlateHands$Alone" (88 : Nat) ({ cls := "SlateHands$Alone", name := "leave", desc := "(LSlateHands$Port;II)V" } : Jvm.MethodName)) ∈ TB := tb5 75 rfl rfl
theorem w5_77 : (Jvm.Cond.instanceMethod ({ cls := "SlateHands$Alone", name := "leave", desc := "(LSlateHands$Port;II)V" } : Jvm.MethodName)) ∈ TB := tb5 77 rfl rfl
theorem w5_78 : (Jvm.Cond.code ({ cls := "SlateHands$Alone", name := "leave", desc := "(LSlateHands$Port;II)V" } : Jvm.MethodName) prog_2_method_11_code (10 : Nat) (Option.none : Option Jvm.ClassFile.FieldType)) ∈ TB := tb5 78 rfl rfl
theorem w5_79 : (Jvm.Cond.methodLink "SlateHands$Alone" (143 : Nat) ({ cls := "SlateHands$Alone", name := "houseOf", desc := "(I)I" } : Jvm.MethodName)) ∈ TB := tb5 79 rfl rfl
theorem w5_80 : (Jvm.Cond.static ({ cls := "SlateHands$Alone", name := "houseOf", desc := "(I)I" } : Jvm.MethodName)) ∈ TB := tb5 80 rfl rfl
theorem w5_81 : (Jvm.Cond.code ({ cls := "SlateHands$Alone", name := "houseOf", desc := "(I)I" } : Jvm.MethodName) prog_2_method_14_code (1 : Nat) (Option.some Jvm.ClassFile.FieldType.int)) ∈ TB := tb5 81 rfl rfl
theorem w5_82 : (Jvm.Cond.methodLink "SlateHands$Alone" (146 : Nat) ({ cls := "SlateHands$Alone", name := "setOf", desc := "(I)I" } : Jvm.MethodName)) ∈ TB := tb5 82 rfl rfl
theorem w5_83 : (Jvm.Cond.static ({ cls := "SlateHands$Alone", name := "setOf", desc := "(I)I" } : Jvm.MethodName)) ∈ TB := tb5 83 rfl rfl
theorem w5_84 : (Jvm.Cond.code ({ cls := "SlateHands$Alone", name := "setOf", desc := "(I)I" } : Jvm.MethodName) prog_2_method_15_code (1 : Nat) (Option.some Jvm.ClassFile.FieldType.int)) ∈ TB := tb5 84 rfl rfl
theorem w5_85 : (Jvm.Cond.methodLink "SlateHands$Alone" (149 : Nat) ({ cls := "SlateHands$Port", name := "climbTo", desc := "(II)I" } : Jvm.MethodName)) ∈ TB := tb5 85 rfl rfl
theorem w5_86 : (Jvm.Cond.methodLink "SlateHandsLaw" (138 : Nat) ({ cls := "SlateHands", name := "saves", desc := "(III)I" } : Jvm.MethodName)) ∈ TB := tb5 86 rfl rfl
theorem w5_87 : (Jvm.Cond.instanceMethod ({ cls := "SlateHands", name := "saves", desc := "(III)I" } : Jvm.MethodName)) ∈ TB := tb5 87 rfl rfl
theorem w5_88 : (Jvm.Cond.selects "SlateHands" ({ cls := "SlateHands", name := "saves", desc := "(III)I" } : Jvm.MethodName) ({ cls := "SlateHands", name := "saves", desc := "(III)I" } : Jvm.MethodName)) ∈ TB := tb5 88 rfl rfl
theorem w5_89 : (Jvm.Cond.code ({ cls := "SlateHands", name := "saves", desc := "(III)I" } : Jvm.MethodName) prog_1_method_32_code (4 : Nat) (Option.some Jvm.ClassFile.FieldType.int)) ∈ TB := tb5 89 rfl rfl
theorem w5_90 : (Jvm.Cond.methodLink "SlateHandsLaw" (142 : Nat) ({ cls := "SlateHands", name := "can", desc := "(II)I" } : Jvm.MethodName)) ∈ TB := tb5 90 rfl rfl
theorem w5_91 : (Jvm.Cond.instanceMethod ({ cls := "SlateHands", name := "can", desc := "(II)I" } : Jvm.MethodName)) ∈ TB := tb5 91 rfl rfl
theorem w5_92 : (Jvm.Cond.selects "SlateHands" ({ cls := "SlateHands", name := "can", desc := "(II)I" } : Jvm.MethodName) ({ cls := "SlateHands", name := "can", desc := "(II)I" } : Jvm.MethodName)) ∈ TB := tb5 92 rfl rfl
theorem w5_93 : (Jvm.Cond.code ({ cls := "SlateHands", name := "can", desc := "(II)I" } : Jvm.MethodName) prog_1_method_33_code (3 : Nat) (Option.some Jvm.ClassFile.FieldType.int)) ∈ TB := tb5 93 rfl rfl
theorem w5_94 : (Jvm.Cond.methodLink "SlateHands" (264 : Nat) ({ cls := "SlateHands$Alone", name := "housesReached", desc := "()I" } : Jvm.MethodName)) ∈ TB := tb5 94 rfl rfl
theorem w5_95 : (Jvm.Cond.instanceMethod ({ cls := "SlateHands$Alone", name := "housesReached", desc := "()I" } : Jvm.MethodName)) ∈ TB := tb5 95 rfl rfl
theorem w5_96 : (Jvm.Cond.selects "SlateHands$Alone" ({ cls := "SlateHands$Alone", name := "housesReached", desc := "()I" } : Jvm.MethodName) ({ cls := "SlateHands$Alone", name := "housesReached", desc := "()I" } : Jvm.MethodName)) ∈ TB := tb5 96 rfl rfl
theorem w5_97 : (Jvm.Cond.code ({ cls := "SlateHands$Alone", name := "housesReached", desc := "()I" } : Jvm.MethodName) prog_2_method_5_code (3 : Nat) (Option.some Jvm.ClassFile.FieldType.int)) ∈ TB := tb5 97 rfl rfl
theorem w5_98 : (Jvm.Cond.methodLink "SlateHandsLaw" (146 : Nat) ({ cls := "SlateHands", name := "needs", desc := "(II)I" } : Jvm.MethodName)) ∈ TB := tb5 98 rfl rfl
theorem w5_99 : (Jvm.Cond.instanceMethod ({ cls := "SlateHands", name := "needs", desc := "(II)I" } : Jvm.MethodName)) ∈ TB := tb5 99 rfl rfl
theorem w5_100 : (Jvm.Cond.selects "SlateHands" ({ cls := "SlateHands", name := "needs", desc := "(II)I" } : Jvm.MethodName) ({ cls := "SlateHands", name := "needs", desc := "(II)I" } : Jvm.MethodName)) ∈ TB := tb5 100 rfl rfl
theorem w5_101 : (Jvm.Cond.code ({ cls := "SlateHands", name := "needs", desc := "(II)I" } : Jvm.MethodName) prog_1_method_34_code (3 : Nat) (Option.some Jvm.ClassFile.FieldType.int)) ∈ TB := tb5 101 rfl rfl
theorem w5_102 : (Jvm.Cond.methodLink "SlateHands" (267 : Nat) ({ cls := "SlateHands$Alone", name := "findNeeds", desc := "(LSlateHands$Port;I)V" } : Jvm.MethodName)) ∈ TB := tb5 102 rfl rfl
theorem w5_103 : (Jvm.Cond.instanceMethod ({ cls := "SlateHands$Alone", name := "findNeeds", desc := "(LSlateHands$Port;I)V" } : Jvm.MethodName)) ∈ TB := tb5 103 rfl rfl
theorem w5_104 : (Jvm.Cond.selects "SlateHands$Alone" ({ cls := "SlateHands$Alone", name := "findNeeds", desc := "(LSlateHands$Port;I)V" } : Jvm.MethodName) ({ cls := "SlateHands$Alone", name := "findNeeds", desc := "(LSlateHands$Port;I)V" } : Jvm.MethodName)) ∈ TB := tb5 104 rfl rfl
theorem w5_105 : (Jvm.Cond.code ({ cls := "SlateHands$Alone", name := "findNeeds", desc := "(LSlateHands$Port;I)V" } : Jvm.MethodName) prog_2_method_4_code (7 : Nat) (Option.none : Option Jvm.ClassFile.FieldType)) ∈ TB := tb5 105 rfl rfl
theorem w5_106 : (Jvm.Cond.methodLink "SlateHands$Alone" (95 : Nat) ({ cls := "SlateHands$Alone", name := "await", desc := "(II)V" } : Jvm.MethodName)) ∈ TB := tb5 106 rfl rfl
theorem w5_108 : (Jvm.Cond.instanceMethod ({ cls := "SlateHands$Alone", name := "await", desc := "(II)V" } : Jvm.MethodName)) ∈ TB := tb5 108 rfl rfl
theorem w5_109 : (Jvm.Cond.code ({ cls := "SlateHands$Alone", name := "await", desc := "(II)V" } : Jvm.MethodName) prog_2_method_12_code (4 : Nat) (Option.none : Option Jvm.ClassFile.FieldType)) ∈ TB := tb5 109 rfl rfl
theorem w5_110 : (Jvm.Cond.methodLink "SlateHands$Alone" (99 : Nat) ({ cls := "SlateHands$Alone", name := "settle", desc := "(LSlateHands$Port;II)V" } : Jvm.MethodName)) ∈ TB := tb5 110 rfl rfl
theorem w5_112 : (Jvm.Cond.instanceMethod ({ cls := "SlateHands$Alone", name := "settle", desc := "(LSlateHands$Port;II)V" } : Jvm.MethodName)) ∈ TB := tb5 112 rfl rfl
theorem w5_113 : (Jvm.Cond.code ({ cls := "SlateHands$Alone", name := "settle", desc := "(LSlateHands$Port;II)V" } : Jvm.MethodName) prog_2_method_13_code (9 : Nat) (Option.none : Option Jvm.ClassFile.FieldType)) ∈ TB := tb5 113 rfl rfl
theorem w5_114 : (Jvm.Cond.methodLink "SlateHandsLaw" (150 : Nat) ({ cls := "SlateHands", name := "porter", desc := "(II)I" } : Jvm.MethodName)) ∈ TB := tb5 114 rfl rfl
theorem w5_115 : (Jvm.Cond.instanceMethod ({ cls := "SlateHands", name := "porter", desc := "(II)I" } : Jvm.MethodName)) ∈ TB := tb5 115 rfl rfl
theorem w5_116 : (Jvm.Cond.selects "SlateHands" ({ cls := "SlateHands", name := "porter", desc := "(II)I" } : Jvm.MethodName) ({ cls := "SlateHands", name := "porter", desc := "(II)I" } : Jvm.MethodName)) ∈ TB := tb5 116 rfl rfl
theorem w5_117 : (Jvm.Cond.code ({ cls := "SlateHands", name := "porter", desc := "(II)I" } : Jvm.MethodName) prog_1_method_35_code (7 : Nat) (Option.some Jvm.ClassFile.FieldType.int)) ∈ TB := tb5 117 rfl rfl
theorem w5_118 : (Jvm.Cond.methodLink "SlateHandsLaw" (154 : Nat) ({ cls := "SlateHands", name := "tells", desc := "(III)I" } : Jvm.MethodName)) ∈ TB := tb5 118 rfl rfl
theorem w5_119 : (Jvm.Cond.instanceMethod ({ cls := "SlateHands", name := "tells", desc := "(III)I" } : Jvm.MethodName)) ∈ TB := tb5 119 rfl rfl
theorem w5_120 : (Jvm.Cond.selects "SlateHands" ({ cls := "SlateHands", name := "tells", desc := "(III)I" } : Jvm.MethodName) ({ cls := "SlateHands", name := "tells", desc := "(III)I" } : Jvm.MethodName)) ∈ TB := tb5 120 rfl rfl
theorem w5_121 : (Jvm.Cond.code ({ cls := "SlateHands", name := "tells", desc := "(III)I" } : Jvm.MethodName) prog_1_method_36_code (4 : Nat) (Option.some Jvm.ClassFile.FieldType.int)) ∈ TB := tb5 121 rfl rfl
theorem w5_122 : (Jvm.Cond.methodLink "SlateHands" (277 : Nat) ({ cls := "SlateHands$Alone", name := "mostHearers", desc := "(LSlateHands$Port;II)I" } : Jvm.MethodName)) ∈ TB := tb5 122 rfl rfl
theorem w5_123 : (Jvm.Cond.instanceMethod ({ cls := "SlateHands$Alone", name := "mostHearers", desc := "(LSlateHands$Port;II)I" } : Jvm.MethodName)) ∈ TB := tb5 123 rfl rfl
theorem w5_124 : (Jvm.Cond.selects "SlateHands$Alone" ({ cls := "SlateHands$Alone", name := "mostHearers", desc := "(LSlateHands$Port;II)I" } : Jvm.MethodName) ({ cls := "SlateHands$Alone", name := "mostHearers", desc := "(LSlateHands$Port;II)I" } : Jvm.MethodName)) ∈ TB := tb5 124 rfl rfl
theorem w5_125 : (Jvm.Cond.code ({ cls := "SlateHands$Alone", name := "mostHearers", desc := "(LSlateHands$Port;II)I" } : Jvm.MethodName) prog_2_method_7_code (7 : Nat) (Option.some Jvm.ClassFile.FieldType.int)) ∈ TB := tb5 125 rfl rfl
theorem w5_126 : (Jvm.Cond.methodLink "SlateHands$Alone" (120 : Nat) ({ cls := "java/lang/Math", name := "min", desc := "(II)I" } : Jvm.MethodName)) ∈ TB := tb5 126 rfl rfl
theorem w5_127 : (Jvm.Cond.methodLink "SlateHandsLaw" (158 : Nat) ({ cls := "SlateHands", name := "cart", desc := "(III)I" } : Jvm.MethodName)) ∈ TB := tb5 127 rfl rfl
theorem w5_128 : (Jvm.Cond.instanceMethod ({ cls := "SlateHands", name := "cart", desc := "(III)I" } : Jvm.MethodName)) ∈ TB := tb5 128 rfl rfl
theorem w5_129 : (Jvm.Cond.selects "SlateHands" ({ cls := "SlateHands", name := "cart", desc := "(III)I" } : Jvm.MethodName) ({ cls := "SlateHands", name := "cart", desc := "(III)I" } : Jvm.MethodName)) ∈ TB := tb5 129 rfl rfl
theorem w5_130 : (Jvm.Cond.code ({ cls := "SlateHands", name := "cart", desc := "(III)I" } : Jvm.MethodName) prog_1_method_37_code (4 : Nat) (Option.some Jvm.ClassFile.FieldType.int)) ∈ TB := tb5 130 rfl rfl
theorem w5_131 : (Jvm.Cond.methodLink "SlateHands" (280 : Nat) ({ cls := "SlateHands$Port", name := "isCart", desc := "(I)Z" } : Jvm.MethodName)) ∈ TB := tb5 131 rfl rfl
theorem w5_132 : (Jvm.Cond.instanceMethod ({ cls := "SlateHands$Port", name := "isCart", desc := "(I)Z" } : Jvm.MethodName)) ∈ TB := tb5 132 rfl rfl
theorem w5_133 : (Jvm.Cond.selects "SlateHands$Port" ({ cls := "SlateHands$Port", name := "isCart", desc := "(I)Z" } : Jvm.MethodName) ({ cls := "SlateHands$Port", name := "isCart", desc := "(I)Z" } : Jvm.MethodName)) ∈ TB := tb5 133 rfl rfl
theorem w5_134 : (Jvm.Cond.code ({ cls := "SlateHands$Port", name := "isCart", desc := "(I)Z" } : Jvm.MethodName) prog_7_method_13_code (2 : Nat) (Option.some Jvm.ClassFile.FieldType.boolean)) ∈ TB := tb5 134 rfl rfl
theorem w5_135 : (Jvm.Cond.methodLink "SlateHands$Port" (96 : Nat) ({ cls := "SlateHands$Port", name := "allCarriers", desc := "()I" } : Jvm.MethodName)) ∈ TB := tb5 135 rfl rfl
theorem w5_136 : (Jvm.Cond.methodLink "SlateHands" (283 : Nat) ({ cls := "SlateHands$Port", name := "strongTogether", desc := "(I)I" } : Jvm.MethodName)) ∈ TB := tb5 136 rfl rfl
theorem w5_137 : (Jvm.Cond.instanceMethod ({ cls := "SlateHands$Port", name := "strongTogether", desc := "(I)I" } : Jvm.MethodName)) ∈ TB := tb5 137 rfl rfl
theorem w5_138 : (Jvm.Cond.selects "SlateHands$Port" ({ cls := "SlateHands$Port", name := "strongTogether", desc := "(I)I" } : Jvm.MethodName) ({ cls := "SlateHands$Port", name := "strongTogether", desc := "(I)I" } : Jvm.MethodName)) ∈ TB := tb5 138 rfl rfl
theorem w5_139 : (Jvm.Cond.code ({ cls := "SlateHands$Port", name := "strongTogether", desc := "(I)I" } : Jvm.MethodName) prog_7_method_19_code (4 : Nat) (Option.some Jvm.ClassFile.FieldType.int)) ∈ TB := tb5 139 rfl rfl
theorem w5_140 : (Jvm.Cond.methodLink "SlateHandsLaw" (162 : Nat) ({ cls := "SlateHands", name := "four", desc := "(II)I" } : Jvm.MethodName)) ∈ TB := tb5 140 rfl rfl
theorem w5_141 : (Jvm.Cond.instanceMethod ({ cls := "SlateHands", name := "four", desc := "(II)I" } : Jvm.MethodName)) ∈ TB := tb5 141 rfl rfl
theorem w5_142 : (Jvm.Cond.selects "SlateHands" ({ cls := "SlateHands", name := "four", desc := "(II)I" } : Jvm.MethodName) ({ cls := "SlateHands", name := "four", desc := "(II)I" } : Jvm.MethodName)) ∈ TB := tb5 142 rfl rfl
theorem w5_143 : (Jvm.Cond.code ({ cls := "SlateHands", name := "four", desc := "(II)I" } : Jvm.MethodName) prog_1_method_38_code (7 : Nat) (Option.some Jvm.ClassFile.FieldType.int)) ∈ TB := tb5 143 rfl rfl
theorem w5_144 : (Jvm.Cond.methodLink "SlateHandsLaw" (166 : Nat) ({ cls := "SlateHands", name := "share", desc := "(III)I" } : Jvm.MethodName)) ∈ TB := tb5 144 rfl rfl
theorem w5_145 : (Jvm.Cond.instanceMethod ({ cls := "SlateHands", name := "share", desc := "(III)I" } : Jvm.MethodName)) ∈ TB := tb5 145 rfl rfl
theorem w5_146 : (Jvm.Cond.selects "SlateHands" ({ cls := "SlateHands", name := "share", desc := "(III)I" } : Jvm.MethodName) ({ cls := "SlateHands", name := "share", desc := "(III)I" } : Jvm.MethodName)) ∈ TB := tb5 146 rfl rfl
theorem w5_147 : (Jvm.Cond.code ({ cls := "SlateHands", name := "share", desc := "(III)I" } : Jvm.MethodName) prog_1_method_39_code (8 : Nat) (Option.some Jvm.ClassFile.FieldType.int)) ∈ TB := tb5 147 rfl rfl
theorem w5_148 : (Jvm.Cond.methodLink "SlateHands" (286 : Nat) ({ cls := "SlateHands", name := "hasBit", desc := "(II)Z" } : Jvm.MethodName)) ∈ TB := tb5 148 rfl rfl
theorem w5_149 : (Jvm.Cond.methodLink "SlateHands" (289 : Nat) ({ cls := "SlateHands", name := "housesOfCart", desc := "(I)I" } : Jvm.MethodName)) ∈ TB := tb5 149 rfl rfl
theorem w5_151 : (Jvm.Cond.instanceMethod ({ cls := "SlateHands", name := "housesOfCart", desc := "(I)I" } : Jvm.MethodName)) ∈ TB := tb5 151 rfl rfl
theorem w5_152 : (Jvm.Cond.code ({ cls := "SlateHands", name := "housesOfCart", desc := "(I)I" } : Jvm.MethodName) prog_1_method_82_code (2 : Nat) (Option.some Jvm.ClassFile.FieldType.int)) ∈ TB := tb5 152 rfl rfl
theorem w5_153 : (Jvm.Cond.methodLink "SlateHands" (461 : Nat) ({ cls := "SlateHands$Alone", name := "housesFor", desc := "(I)I" } : Jvm.MethodName)) ∈ TB := tb5 153 rfl rfl
theorem w5_154 : (Jvm.Cond.instanceMethod ({ cls := "SlateHands$Alone", name := "housesFor", desc := "(I)I" } : Jvm.MethodName)) ∈ TB := tb5 154 rfl rfl
theorem w5_155 : (Jvm.Cond.selects "SlateHands$Alone" ({ cls := "SlateHands$Alone", name := "housesFor", desc := "(I)I" } : Jvm.MethodName) ({ cls := "SlateHands$Alone", name := "housesFor", desc := "(I)I" } : Jvm.MethodName)) ∈ TB := tb5 155 rfl rfl
theorem w5_156 : (Jvm.Cond.code ({ cls := "SlateHands$Alone", name := "housesFor", desc := "(I)I" } : Jvm.MethodName) prog_2_method_6_code (4 : Nat) (Option.some Jvm.ClassFile.FieldType.int)) ∈ TB := tb5 156 rfl rfl
theorem w5_157 : (Jvm.Cond.methodLink "SlateHands" (292 : Nat) ({ cls := "SlateHands", name := "ordersWith", desc := "(I)I" } : Jvm.MethodName)) ∈ TB := tb5 157 rfl rfl
theorem w5_159 : (Jvm.Cond.instanceMethod ({ cls := "SlateHands", name := "ordersWith", desc := "(I)I" } : Jvm.MethodName)) ∈ TB := tb5 159 rfl rfl
theorem w5_160 : (Jvm.Cond.code ({ cls := "SlateHands", name := "ordersWith", desc := "(I)I" } : Jvm.MethodName) prog_1_method_83_code (2 : Nat) (Option.some Jvm.ClassFile.FieldType.int)) ∈ TB := tb5 160 rfl rfl
theorem w5_161 : (Jvm.Cond.fieldLink "SlateHands" (295 : Nat) "SlateHands" "FACTORIALS" "[I") ∈ TB := tb5 161 rfl rfl
theorem w5_163 : (Jvm.Cond.methodLink "SlateHands" (298 : Nat) ({ cls := "SlateHands", name := "inLowestTerms", desc := "(JJI)J" } : Jvm.MethodName)) ∈ TB := tb5 163 rfl rfl
theorem w5_164 : (Jvm.Cond.static ({ cls := "SlateHands", name := "inLowestTerms", desc := "(JJI)J" } : Jvm.MethodName)) ∈ TB := tb5 164 rfl rfl
theorem w5_165 : (Jvm.Cond.code ({ cls := "SlateHands", name := "inLowestTerms", desc := "(JJI)J" } : Jvm.MethodName) prog_1_method_71_code (12 : Nat) (Option.some Jvm.ClassFile.FieldType.long)) ∈ TB := tb5 165 rfl rfl
theorem w5_166 : (Jvm.Cond.methodLink "SlateHandsLaw" (170 : Nat) ({ cls := "SlateHands", name := "block", desc := "(I)I" } : Jvm.MethodName)) ∈ TB := tb5 166 rfl rfl
theorem w5_167 : (Jvm.Cond.instanceMethod ({ cls := "SlateHands", name := "block", desc := "(I)I" } : Jvm.MethodName)) ∈ TB := tb5 167 rfl rfl
theorem w5_168 : (Jvm.Cond.selects "SlateHands" ({ cls := "SlateHands", name := "block", desc := "(I)I" } : Jvm.MethodName) ({ cls := "SlateHands", name := "block", desc := "(I)I" } : Jvm.MethodName)) ∈ TB := tb5 168 rfl rfl
theorem w5_169 : (Jvm.Cond.code ({ cls := "SlateHands", name := "block", desc := "(I)I" } : Jvm.MethodName) prog_1_method_40_code (6 : Nat) (Option.some Jvm.ClassFile.FieldType.int)) ∈ TB := tb5 169 rfl rfl
theorem w5_170 : (Jvm.Cond.methodLink "SlateHands" (305 : Nat) ({ cls := "SlateHands", name := "hearersWithout", desc := "(II)I" } : Jvm.MethodName)) ∈ TB := tb5 170 rfl rfl
theorem w5_172 : (Jvm.Cond.instanceMethod ({ cls := "SlateHands", name := "hearersWithout", desc := "(II)I" } : Jvm.MethodName)) ∈ TB := tb5 172 rfl rfl
theorem w5_173 : (Jvm.Cond.code ({ cls := "SlateHands", name := "hearersWithout", desc := "(II)I" } : Jvm.MethodName) prog_1_method_78_code (3 : Nat) (Option.some Jvm.ClassFile.FieldType.int)) ∈ TB := tb5 173 rfl rfl
theorem w5_174 : (Jvm.Cond.methodLink "SlateHandsLaw" (174 : Nat) ({ cls := "SlateHands", name := "by", desc := "(II)I" } : Jvm.MethodName)) ∈ TB := tb5 174 rfl rfl
theorem w5_175 : (Jvm.Cond.instanceMethod ({ cls := "SlateHands", name := "by", desc := "(II)I" } : Jvm.MethodName)) ∈ TB := tb5 175 rfl rfl
theorem w5_176 : (Jvm.Cond.selects "SlateHands" ({ cls := "SlateHands", name := "by", desc := "(II)I" } : Jvm.MethodName) ({ cls := "SlateHands", name := "by", desc := "(II)I" } : Jvm.MethodName)) ∈ TB := tb5 176 rfl rfl
theorem w5_177 : (Jvm.Cond.code ({ cls := "SlateHands", name := "by", desc := "(II)I" } : Jvm.MethodName) prog_1_method_41_code (3 : Nat) (Option.some Jvm.ClassFile.FieldType.int)) ∈ TB := tb5 177 rfl rfl
theorem w5_178 : (Jvm.Cond.methodLink "SlateHands" (308 : Nat) ({ cls := "SlateHands", name := "isLaw", desc := "(I)Z" } : Jvm.MethodName)) ∈ TB := tb5 178 rfl rfl
theorem w5_179 : (Jvm.Cond.static ({ cls := "SlateHands", name := "isLaw", desc := "(I)Z" } : Jvm.MethodName)) ∈ TB := tb5 179 rfl rfl
theorem w5_180 : (Jvm.Cond.code ({ cls := "SlateHands", name := "isLaw", desc := "(I)Z" } : Jvm.MethodName) prog_1_method_69_code (1 : Nat) (Option.some Jvm.ClassFile.FieldType.boolean)) ∈ TB := tb5 180 rfl rfl
theorem w5_181 : (Jvm.Cond.methodLink "SlateHands" (311 : Nat) ({ cls := "SlateHands", name := "hearersBy", desc := "(II)I" } : Jvm.MethodName)) ∈ TB := tb5 181 rfl rfl
theorem w5_183 : (Jvm.Cond.instanceMethod ({ cls := "SlateHands", name := "hearersBy", desc := "(II)I" } : Jvm.MethodName)) ∈ TB := tb5 183 rfl rfl
theorem w5_184 : (Jvm.Cond.code ({ cls := "SlateHands", name := "hearersBy", desc := "(II)I" } : Jvm.MethodName) prog_1_method_79_code (3 : Nat) (Option.some Jvm.ClassFile.FieldType.int)) ∈ TB := tb5 184 rfl rfl
theorem w5_185 : (Jvm.Cond.methodLink "SlateHandsLaw" (178 : Nat) ({ cls := "SlateHands", name := "law", desc := "(I)I" } : Jvm.MethodName)) ∈ TB := tb5 185 rfl rfl
theorem w5_186 : (Jvm.Cond.instanceMethod ({ cls := "SlateHands", name := "law", desc := "(I)I" } : Jvm.MethodName)) ∈ TB := tb5 186 rfl rfl
theorem w5_187 : (Jvm.Cond.selects "SlateHands" ({ cls := "SlateHands", name := "law", desc := "(I)I" } : Jvm.MethodName) ({ cls := "SlateHands", name := "law", desc := "(I)I" } : Jvm.MethodName)) ∈ TB := tb5 187 rfl rfl
theorem w5_188 : (Jvm.Cond.code ({ cls := "SlateHands", name := "law", desc := "(I)I" } : Jvm.MethodName) prog_1_method_42_code (6 : Nat) (Option.some Jvm.ClassFile.FieldType.int)) ∈ TB := tb5 188 rfl rfl
theorem w5_189 : (Jvm.Cond.methodLink "SlateHandsLaw" (182 : Nat) ({ cls := "SlateHands", name := "firsts", desc := "(II)I" } : Jvm.MethodName)) ∈ TB := tb5 189 rfl rfl
theorem w5_190 : (Jvm.Cond.instanceMethod ({ cls := "SlateHands", name := "firsts", desc := "(II)I" } : Jvm.MethodName)) ∈ TB := tb5 190 rfl rfl
theorem w5_191 : (Jvm.Cond.selects "SlateHands" ({ cls := "SlateHands", name := "firsts", desc := "(II)I" } : Jvm.MethodName) ({ cls := "SlateHands", name := "firsts", desc := "(II)I" } : Jvm.MethodName)) ∈ TB := tb5 191 rfl rfl
theorem w5_192 : (Jvm.Cond.code ({ cls := "SlateHands", name := "firsts", desc := "(II)I" } : Jvm.MethodName) prog_1_method_43_code (4 : Nat) (Option.some Jvm.ClassFile.FieldType.int)) ∈ TB := tb5 192 rfl rfl
theorem w5_193 : (Jvm.Cond.methodLink "SlateHands" (314 : Nat) ({ cls := "SlateHands$Seen", name := "wrongRow", desc := "(LSlateHands$Port;LSlateHands$Slots;II)I" } : Jvm.MethodName)) ∈ TB := tb5 193 rfl rfl
theorem w5_194 : (Jvm.Cond.instanceMethod ({ cls := "SlateHands$Seen", name := "wrongRow", desc := "(LSlateHands$Port;LSlateHands$Slots;II)I" } : Jvm.MethodName)) ∈ TB := tb5 194 rfl rfl
theorem w5_195 : (Jvm.Cond.selects "SlateHands$Seen" ({ cls := "SlateHands$Seen", name := "wrongRow", desc := "(LSlateHands$Port;LSlateHands$Slots;II)I" } : Jvm.MethodName) ({ cls := "SlateHands$Seen", name := "wrongRow", desc := "(LSlateHands$Port;LSlateHands$Slots;II)I" } : Jvm.MethodName)) ∈ TB := tb5 195 rfl rfl
theorem w5_196 : (Jvm.Cond.code ({ cls := "SlateHands$Seen", name := "wrongRow", desc := "(LSlateHands$Port;LSlateHands$Slots;II)I" } : Jvm.MethodName) prog_9_method_2_code (11 : Nat) (Option.some Jvm.ClassFile.FieldType.int)) ∈ TB := tb5 196 rfl rfl
theorem w5_197 : (Jvm.Cond.methodLink "SlateHands$Seen" (15 : Nat) ({ cls := "SlateHands$Slots", name := "isSlot", desc := "(I)Z" } : Jvm.MethodName)) ∈ TB := tb5 197 rfl rfl
theorem w5_198 : (Jvm.Cond.instanceMethod ({ cls := "SlateHands$Slots", name := "isSlot", desc := "(I)Z" } : Jvm.MethodName)) ∈ TB := tb5 198 rfl rfl
theorem w5_199 : (Jvm.Cond.selects "SlateHands$Slots" ({ cls := "SlateHands$Slots", name := "isSlot", desc := "(I)Z" } : Jvm.MethodName) ({ cls := "SlateHands$Slots", name := "isSlot", desc := "(I)Z" } : Jvm.MethodName)) ∈ TB := tb5 199 rfl rfl
theorem w5_200 : (Jvm.Cond.code ({ cls := "SlateHands$Slots", name := "isSlot", desc := "(I)Z" } : Jvm.MethodName) prog_10_method_2_code (2 : Nat) (Option.some Jvm.ClassFile.FieldType.boolean)) ∈ TB := tb5 200 rfl rfl
theorem w5_201 : (Jvm.Cond.methodLink "SlateHands$Seen" (21 : Nat) ({ cls := "SlateHands$Port", name := "isSlate", desc := "(I)Z" } : Jvm.MethodName)) ∈ TB := tb5 201 rfl rfl
theorem w5_202 : (Jvm.Cond.methodLink "SlateHands$Seen" (26 : Nat) ({ cls := "SlateHands$Slots", name := "hasRow", desc := "(I)Z" } : Jvm.MethodName)) ∈ TB := tb5 202 rfl rfl
theorem w5_203 : (Jvm.Cond.instanceMethod ({ cls := "SlateHands$Slots", name := "hasRow", desc := "(I)Z" } : Jvm.MethodName)) ∈ TB := tb5 203 rfl rfl
theorem w5_204 : (Jvm.Cond.selects "SlateHands$Slots" ({ cls := "SlateHands$Slots", name := "hasRow", desc := "(I)Z" } : Jvm.MethodName) ({ cls := "SlateHands$Slots", name := "hasRow", desc := "(I)Z" } : Jvm.MethodName)) ∈ TB := tb5 204 rfl rfl
theorem w5_205 : (Jvm.Cond.code ({ cls := "SlateHands$Slots", name := "hasRow", desc := "(I)Z" } : Jvm.MethodName) prog_10_method_3_code (2 : Nat) (Option.some Jvm.ClassFile.FieldType.boolean)) ∈ TB := tb5 205 rfl rfl
theorem w5_207 : (Jvm.Cond.methodLink "SlateHands$Seen" (29 : Nat) ({ cls := "SlateHands$Slots", name := "sizeOf", desc := "(I)I" } : Jvm.MethodName)) ∈ TB := tb5 207 rfl rfl
theorem w5_208 : (Jvm.Cond.instanceMethod ({ cls := "SlateHands$Slots", name := "sizeOf", desc := "(I)I" } : Jvm.MethodName)) ∈ TB := tb5 208 rfl rfl
theorem w5_209 : (Jvm.Cond.selects "SlateHands$Slots" ({ cls := "SlateHands$Slots", name := "sizeOf", desc := "(I)I" } : Jvm.MethodName) ({ cls := "SlateHands$Slots", name := "sizeOf", desc := "(I)I" } : Jvm.MethodName)) ∈ TB := tb5 209 rfl rfl
theorem w5_210 : (Jvm.Cond.code ({ cls := "SlateHands$Slots", name := "sizeOf", desc := "(I)I" } : Jvm.MethodName) prog_10_method_4_code (2 : Nat) (Option.some Jvm.ClassFile.FieldType.int)) ∈ TB := tb5 210 rfl rfl
theorem w5_211 : (Jvm.Cond.methodLink "SlateHands$Seen" (33 : Nat) ({ cls := "SlateHands$Slots", name := "numberAt", desc := "(II)J" } : Jvm.MethodName)) ∈ TB := tb5 211 rfl rfl
theorem w5_212 : (Jvm.Cond.instanceMethod ({ cls := "SlateHands$Slots", name := "numberAt", desc := "(II)J" } : Jvm.MethodName)) ∈ TB := tb5 212 rfl rfl
theorem w5_213 : (Jvm.Cond.selects "SlateHands$Slots" ({ cls := "SlateHands$Slots", name := "numberAt", desc := "(II)J" } : Jvm.MethodName) ({ cls := "SlateHands$Slots", name := "numberAt", desc := "(II)J" } : Jvm.MethodName)) ∈ TB := tb5 213 rfl rfl
theorem w5_214 : (Jvm.Cond.code ({ cls := "SlateHands$Slots", name := "numberAt", desc := "(II)J" } : Jvm.MethodName) prog_10_method_5_code (4 : Nat) (Option.some Jvm.ClassFile.FieldType.long)) ∈ TB := tb5 214 rfl rfl
theorem w5_215 : (Jvm.Cond.methodLink "SlateHands" (318 : Nat) ({ cls := "SlateHands$Seen", name := "findFirsts", desc := "(LSlateHands$Port;LSlateHands$Slots;IILSlateHands$Diary;)V" } : Jvm.MethodName)) ∈ TB := tb5 215 rfl rfl
theorem w5_216 : (Jvm.Cond.instanceMethod ({ cls := "SlateHands$Seen", name := "findFirsts", desc := "(LSlateHands$Port;LSlateHands$Slots;IILSlateHands$Diary;)V" } : Jvm.MethodName)) ∈ TB := tb5 216 rfl rfl
theorem w5_217 : (Jvm.Cond.selects "SlateHands$Seen" ({ cls := "SlateHands$Seen", name := "findFirsts", desc := "(LSlateHands$Port;LSlateHands$Slots;IILSlateHands$Diary;)V" } : Jvm.MethodName) ({ cls := "SlateHands$Seen", name := "findFirsts", desc := "(LSlateHands$Port;LSlateHands$Slots;IILSlateHands$Diary;)V" } : Jvm.MethodName)) ∈ TB := tb5 217 rfl rfl
theorem w5_218 : (Jvm.Cond.code ({ cls := "SlateHands$Seen", name := "findFirsts", desc := "(LSlateHands$Port;LSlateHands$Slots;IILSlateHands$Diary;)V" } : Jvm.MethodName) prog_9_method_3_code (8 : Nat) (Option.none : Option Jvm.ClassFile.FieldType)) ∈ TB := tb5 218 rfl rfl
theorem w5_219 : (Jvm.Cond.methodLink "SlateHands$Seen" (53 : Nat) ({ cls := "SlateHands$Course", name := "setAsTold", desc := "(LSlateHands$Port;)V" } : Jvm.MethodName)) ∈ TB := tb5 219 rfl rfl
theorem w5_220 : (Jvm.Cond.methodLink "SlateHands$Seen" (65 : Nat) ({ cls := "SlateHands$Diary", name := "fill", desc := "(LSlateHands$Port;)V" } : Jvm.MethodName)) ∈ TB := tb5 220 rfl rfl
theorem w5_221 : (Jvm.Cond.methodLink "SlateHands$Seen" (68 : Nat) ({ cls := "SlateHands$Diary", name := "slateOn", desc := "(II)I" } : Jvm.MethodName)) ∈ TB := tb5 221 rfl rfl
theorem w5_223 : (Jvm.Cond.methodLink "SlateHands$Seen" (76 : Nat) ({ cls := "SlateHands$Seen", name := "isAsSeen", desc := "(LSlateHands$Slots;IILSlateHands$Diary;)Z" } : Jvm.MethodName)) ∈ TB := tb5 223 rfl rfl
theorem w5_224 : (Jvm.Cond.instanceMethod ({ cls := "SlateHands$Seen", name := "isAsSeen", desc := "(LSlateHands$Slots;IILSlateHands$Diary;)Z" } : Jvm.MethodName)) ∈ TB := tb5 224 rfl rfl
theorem w5_225 : (Jvm.Cond.selects "SlateHands$Seen" ({ cls := "SlateHands$Seen", name := "isAsSeen", desc := "(LSlateHands$Slots;IILSlateHands$Diary;)Z" } : Jvm.MethodName) ({ cls := "SlateHands$Seen", name := "isAsSeen", desc := "(LSlateHands$Slots;IILSlateHands$Diary;)Z" } : Jvm.MethodName)) ∈ TB := tb5 225 rfl rfl
theorem w5_226 : (Jvm.Cond.code ({ cls := "SlateHands$Seen", name := "isAsSeen", desc := "(LSlateHands$Slots;IILSlateHands$Diary;)Z" } : Jvm.MethodName) prog_9_method_4_code (7 : Nat) (Option.some Jvm.ClassFile.FieldType.boolean)) ∈ TB := tb5 226 rfl rfl
theorem w5_227 : (Jvm.Cond.methodLink "SlateHandsLaw" (186 : Nat) ({ cls := "SlateHands", name := "ask", desc := "(II)I" } : Jvm.MethodName)) ∈ TB := tb5 227 rfl rfl
theorem w5_228 : (Jvm.Cond.instanceMethod ({ cls := "SlateHands", name := "ask", desc := "(II)I" } : Jvm.MethodName)) ∈ TB := tb5 228 rfl rfl
theorem w5_229 : (Jvm.Cond.selects "SlateHands" ({ cls := "SlateHands", name := "ask", desc := "(II)I" } : Jvm.MethodName) ({ cls := "SlateHands", name := "ask", desc := "(II)I" } : Jvm.MethodName)) ∈ TB := tb5 229 rfl rfl
theorem w5_230 : (Jvm.Cond.code ({ cls := "SlateHands", name := "ask", desc := "(II)I" } : Jvm.MethodName) prog_1_method_44_code (4 : Nat) (Option.some Jvm.ClassFile.FieldType.int)) ∈ TB := tb5 230 rfl rfl
theorem w5_231 : (Jvm.Cond.methodLink "SlateHands" (325 : Nat) ({ cls := "SlateHands$Seen", name := "bestDay", desc := "(LSlateHands$Port;)I" } : Jvm.MethodName)) ∈ TB := tb5 231 rfl rfl
theorem w5_232 : (Jvm.Cond.instanceMethod ({ cls := "SlateHands$Seen", name := "bestDay", desc := "(LSlateHands$Port;)I" } : Jvm.MethodName)) ∈ TB := tb5 232 rfl rfl
theorem w5_233 : (Jvm.Cond.selects "SlateHands$Seen" ({ cls := "SlateHands$Seen", name := "bestDay", desc := "(LSlateHands$Port;)I" } : Jvm.MethodName) ({ cls := "SlateHands$Seen", name := "bestDay", desc := "(LSlateHands$Port;)I" } : Jvm.MethodName)) ∈ TB := tb5 233 rfl rfl
theorem w5_234 : (Jvm.Cond.code ({ cls := "SlateHands$Seen", name := "bestDay", desc := "(LSlateHands$Port;)I" } : Jvm.MethodName) prog_9_method_5_code (6 : Nat) (Option.some Jvm.ClassFile.FieldType.int)) ∈ TB := tb5 234 rfl rfl
theorem w5_235 : (Jvm.Cond.methodLink "SlateHands$Seen" (80 : Nat) ({ cls := "java/lang/Integer", name := "bitCount", desc := "(I)I" } : Jvm.MethodName)) ∈ TB := tb5 235 rfl rfl
theorem w5_236 : (Jvm.Cond.methodLink "SlateHands$Seen" (85 : Nat) ({ cls := "SlateHands$Seen", name := "leftAtWorst", desc := "(I)I" } : Jvm.MethodName)) ∈ TB := tb5 236 rfl rfl
theorem w5_237 : (Jvm.Cond.instanceMethod ({ cls := "SlateHands$Seen", name := "leftAtWorst", desc := "(I)I" } : Jvm.MethodName)) ∈ TB := tb5 237 rfl rfl
theorem w5_238 : (Jvm.Cond.selects "SlateHands$Seen" ({ cls := "SlateHands$Seen", name := "leftAtWorst", desc := "(I)I" } : Jvm.MethodName) ({ cls := "SlateHands$Seen", name := "leftAtWorst", desc := "(I)I" } : Jvm.MethodName)) ∈ TB := tb5 238 rfl rfl
theorem w5_239 : (Jvm.Cond.code ({ cls := "SlateHands$Seen", name := "leftAtWorst", desc := "(I)I" } : Jvm.MethodName) prog_9_method_6_code (6 : Nat) (Option.some Jvm.ClassFile.FieldType.int)) ∈ TB := tb5 239 rfl rfl
theorem w6_2 : (Jvm.Cond.methodLink "SlateHands$Seen" (96 : Nat) ({ cls := "java/lang/Math", name := "max", desc := "(II)I" } : Jvm.MethodName)) ∈ TB := tb6 2 rfl rfl
theorem w6_3 : (Jvm.Cond.methodLink "SlateHandsLaw" (190 : Nat) ({ cls := "SlateHands", name := "leaves", desc := "(II)I" } : Jvm.MethodName)) ∈ TB := tb6 3 rfl rfl
theorem w6_4 : (Jvm.Cond.instanceMethod ({ cls := "SlateHands", name := "leaves", desc := "(II)I" } : Jvm.MethodName)) ∈ TB := tb6 4 rfl rfl
theorem w6_5 : (Jvm.Cond.selects "SlateHands" ({ cls := "SlateHands", name := "leaves", desc := "(II)I" } : Jvm.MethodName) ({ cls := "SlateHands", name := "leaves", desc := "(II)I" } : Jvm.MethodName)) ∈ TB := tb6 5 rfl rfl
theorem w6_6 : (Jvm.Cond.code ({ cls := "SlateHands", name := "leaves", desc := "(II)I" } : Jvm.MethodName) prog_1_method_45_code (5 : Nat) (Option.some Jvm.ClassFile.FieldType.int)) ∈ TB := tb6 6 rfl rfl
theorem w6_7 : (Jvm.Cond.methodLink "SlateHands" (329 : Nat) ({ cls := "SlateHands$Seen", name := "leftAtWorst", desc := "(I)I" } : Jvm.MethodName)) ∈ TB := tb6 7 rfl rfl
theorem w6_8 : (Jvm.Cond.methodLink "SlateHandsLaw" (194 : Nat) ({ cls := "SlateHands", name := "laws", desc := "(II)I" } : Jvm.MethodName)) ∈ TB := tb6 8 rfl rfl
theorem w6_9 : (Jvm.Cond.instanceMethod ({ cls := "SlateHands", name := "laws", desc := "(II)I" } : Jvm.MethodName)) ∈ TB := tb6 9 rfl rfl
theorem w6_10 : (Jvm.Cond.selects "SlateHands" ({ cls := "SlateHands", name := "laws", desc := "(II)I" } : Jvm.MethodName) ({ cls := "SlateHands", name := "laws", desc := "(II)I" } : Jvm.MethodName)) ∈ TB := tb6 10 rfl rfl
theorem w6_11 : (Jvm.Cond.code ({ cls := "SlateHands", name := "laws", desc := "(II)I" } : Jvm.MethodName) prog_1_method_46_code (8 : Nat) (Option.some Jvm.ClassFile.FieldType.int)) ∈ TB := tb6 11 rfl rfl
theorem w6_12 : (Jvm.Cond.methodLink "SlateHands" (347 : Nat) ({ cls := "SlateHands$Seen", name := "isAsSeen", desc := "(LSlateHands$Slots;IILSlateHands$Diary;)Z" } : Jvm.MethodName)) ∈ TB := tb6 12 rfl rfl
theorem w6_13 : (Jvm.Cond.methodLink "SlateHandsLaw" (198 : Nat) ({ cls := "SlateHands", name := "beside", desc := "(I)I" } : Jvm.MethodName)) ∈ TB := tb6 13 rfl rfl
theorem w6_14 : (Jvm.Cond.instanceMethod ({ cls := "SlateHands", name := "beside", desc := "(I)I" } : Jvm.MethodName)) ∈ TB := tb6 14 rfl rfl
theorem w6_15 : (Jvm.Cond.selects "SlateHands" ({ cls := "SlateHands", name := "beside", desc := "(I)I" } : Jvm.MethodName) ({ cls := "SlateHands", name := "beside", desc := "(I)I" } : Jvm.MethodName)) ∈ TB := tb6 15 rfl rfl
theorem w6_16 : (Jvm.Cond.code ({ cls := "SlateHands", name := "beside", desc := "(I)I" } : Jvm.MethodName) prog_1_method_47_code (6 : Nat) (Option.some Jvm.ClassFile.FieldType.int)) ∈ TB := tb6 16 rfl rfl
theorem w6_17 : (Jvm.Cond.methodLink "SlateHandsLaw" (202 : Nat) ({ cls := "SlateHands", name := "rests", desc := "(III)I" } : Jvm.MethodName)) ∈ TB := tb6 17 rfl rfl
theorem w6_18 : (Jvm.Cond.instanceMethod ({ cls := "SlateHands", name := "rests", desc := "(III)I" } : Jvm.MethodName)) ∈ TB := tb6 18 rfl rfl
theorem w6_19 : (Jvm.Cond.selects "SlateHands" ({ cls := "SlateHands", name := "rests", desc := "(III)I" } : Jvm.MethodName) ({ cls := "SlateHands", name := "rests", desc := "(III)I" } : Jvm.MethodName)) ∈ TB := tb6 19 rfl rfl
theorem w6_20 : (Jvm.Cond.code ({ cls := "SlateHands", name := "rests", desc := "(III)I" } : Jvm.MethodName) prog_1_method_48_code (8 : Nat) (Option.some Jvm.ClassFile.FieldType.int)) ∈ TB := tb6 20 rfl rfl
theorem w6_21 : (Jvm.Cond.methodLink "SlateHands" (354 : Nat) ({ cls := "SlateHands", name := "isGame", desc := "(III)Z" } : Jvm.MethodName)) ∈ TB := tb6 21 rfl rfl
theorem w6_23 : (Jvm.Cond.instanceMethod ({ cls := "SlateHands", name := "isGame", desc := "(III)Z" } : Jvm.MethodName)) ∈ TB := tb6 23 rfl rfl
theorem w6_24 : (Jvm.Cond.code ({ cls := "SlateHands", name := "isGame", desc := "(III)Z" } : Jvm.MethodName) prog_1_method_77_code (4 : Nat) (Option.some Jvm.ClassFile.FieldType.boolean)) ∈ TB := tb6 24 rfl rfl
theorem w6_25 : (Jvm.Cond.methodLink "SlateHands" (358 : Nat) ({ cls := "SlateHands", name := "shutBy", desc := "(IIII)V" } : Jvm.MethodName)) ∈ TB := tb6 25 rfl rfl
theorem w6_27 : (Jvm.Cond.instanceMethod ({ cls := "SlateHands", name := "shutBy", desc := "(IIII)V" } : Jvm.MethodName)) ∈ TB := tb6 27 rfl rfl
theorem w6_28 : (Jvm.Cond.code ({ cls := "SlateHands", name := "shutBy", desc := "(IIII)V" } : Jvm.MethodName) prog_1_method_80_code (5 : Nat) (Option.none : Option Jvm.ClassFile.FieldType)) ∈ TB := tb6 28 rfl rfl
theorem w6_29 : (Jvm.Cond.methodLink "SlateHands" (452 : Nat) ({ cls := "SlateHands$Course", name := "runThrough", desc := "(LSlateHands$Port;)V" } : Jvm.MethodName)) ∈ TB := tb6 29 rfl rfl
theorem w6_30 : (Jvm.Cond.instanceMethod ({ cls := "SlateHands$Course", name := "runThrough", desc := "(LSlateHands$Port;)V" } : Jvm.MethodName)) ∈ TB := tb6 30 rfl rfl
theorem w6_31 : (Jvm.Cond.selects "SlateHands$Course" ({ cls := "SlateHands$Course", name := "runThrough", desc := "(LSlateHands$Port;)V" } : Jvm.MethodName) ({ cls := "SlateHands$Course", name := "runThrough", desc := "(LSlateHands$Port;)V" } : Jvm.MethodName)) ∈ TB := tb6 31 rfl rfl
theorem w6_32 : (Jvm.Cond.code ({ cls := "SlateHands$Course", name := "runThrough", desc := "(LSlateHands$Port;)V" } : Jvm.MethodName) prog_4_method_5_code (3 : Nat) (Option.none : Option Jvm.ClassFile.FieldType)) ∈ TB := tb6 32 rfl rfl
theorem w6_33 : (Jvm.Cond.methodLink "SlateHands$Course" (111 : Nat) ({ cls := "SlateHands$Course", name := "begin", desc := "(LSlateHands$Port;)V" } : Jvm.MethodName)) ∈ TB := tb6 33 rfl rfl
theorem w6_34 : (Jvm.Cond.methodLink "SlateHands$Course" (118 : Nat) ({ cls := "SlateHands$Course", name := "passDay", desc := "(LSlateHands$Port;I)V" } : Jvm.MethodName)) ∈ TB := tb6 34 rfl rfl
theorem w6_35 : (Jvm.Cond.methodLink "SlateHands" (362 : Nat) ({ cls := "SlateHands", name := "gainOf", desc := "(II)I" } : Jvm.MethodName)) ∈ TB := tb6 35 rfl rfl
theorem w6_37 : (Jvm.Cond.instanceMethod ({ cls := "SlateHands", name := "gainOf", desc := "(II)I" } : Jvm.MethodName)) ∈ TB := tb6 37 rfl rfl
theorem w6_38 : (Jvm.Cond.code ({ cls := "SlateHands", name := "gainOf", desc := "(II)I" } : Jvm.MethodName) prog_1_method_81_code (4 : Nat) (Option.some Jvm.ClassFile.FieldType.int)) ∈ TB := tb6 38 rfl rfl
theorem w6_39 : (Jvm.Cond.methodLink "SlateHands" (419 : Nat) ({ cls := "SlateHands$Course", name := "knownBy", desc := "(II)I" } : Jvm.MethodName)) ∈ TB := tb6 39 rfl rfl
theorem w6_40 : (Jvm.Cond.instanceMethod ({ cls := "SlateHands$Course", name := "knownBy", desc := "(II)I" } : Jvm.MethodName)) ∈ TB := tb6 40 rfl rfl
theorem w6_41 : (Jvm.Cond.selects "SlateHands$Course" ({ cls := "SlateHands$Course", name := "knownBy", desc := "(II)I" } : Jvm.MethodName) ({ cls := "SlateHands$Course", name := "knownBy", desc := "(II)I" } : Jvm.MethodName)) ∈ TB := tb6 41 rfl rfl
theorem w6_42 : (Jvm.Cond.code ({ cls := "SlateHands$Course", name := "knownBy", desc := "(II)I" } : Jvm.MethodName) prog_4_method_6_code (3 : Nat) (Option.some Jvm.ClassFile.FieldType.int)) ∈ TB := tb6 42 rfl rfl
theorem w6_43 : (Jvm.Cond.methodLink "SlateHands" (365 : Nat) ({ cls := "SlateHands", name := "put", desc := "([III)V" } : Jvm.MethodName)) ∈ TB := tb6 43 rfl rfl
theorem w6_44 : (Jvm.Cond.methodLink "SlateHandsLaw" (206 : Nat) ({ cls := "SlateHands", name := "gets", desc := "(IIIII)I" } : Jvm.MethodName)) ∈ TB := tb6 44 rfl rfl
theorem w6_45 : (Jvm.Cond.instanceMethod ({ cls := "SlateHands", name := "gets", desc := "(IIIII)I" } : Jvm.MethodName)) ∈ TB := tb6 45 rfl rfl
theorem w6_46 : (Jvm.Cond.selects "SlateHands" ({ cls := "SlateHands", name := "gets", desc := "(IIIII)I" } : Jvm.MethodName) ({ cls := "SlateHands", name := "gets", desc := "(IIIII)I" } : Jvm.MethodName)) ∈ TB := tb6 46 rfl rfl
theorem w6_47 : (Jvm.Cond.code ({ cls := "SlateHands", name := "gets", desc := "(IIIII)I" } : Jvm.MethodName) prog_1_method_49_code (6 : Nat) (Option.some Jvm.ClassFile.FieldType.int)) ∈ TB := tb6 47 rfl rfl
theorem w6_48 : (Jvm.Cond.methodLink "SlateHandsLaw" (210 : Nat) ({ cls := "SlateHands", name := "chance", desc := "(III)I" } : Jvm.MethodName)) ∈ TB := tb6 48 rfl rfl
theorem w6_49 : (Jvm.Cond.instanceMethod ({ cls := "SlateHands", name := "chance", desc := "(III)I" } : Jvm.MethodName)) ∈ TB := tb6 49 rfl rfl
theorem w6_50 : (Jvm.Cond.selects "SlateHands" ({ cls := "SlateHands", name := "chance", desc := "(III)I" } : Jvm.MethodName) ({ cls := "SlateHands", name := "chance", desc := "(III)I" } : Jvm.MethodName)) ∈ TB := tb6 50 rfl rfl
theorem w6_51 : (Jvm.Cond.code ({ cls := "SlateHands", name := "chance", desc := "(III)I" } : Jvm.MethodName) prog_1_method_50_code (4 : Nat) (Option.some Jvm.ClassFile.FieldType.int)) ∈ TB := tb6 51 rfl rfl
theorem w6_52 : (Jvm.Cond.methodLink "SlateHands" (369 : Nat) ({ cls := "SlateHands$Weather", name := "fill", desc := "(LSlateHands$Port;LSlateHands$Course;)V" } : Jvm.MethodName)) ∈ TB := tb6 52 rfl rfl
theorem w6_53 : (Jvm.Cond.instanceMethod ({ cls := "SlateHands$Weather", name := "fill", desc := "(LSlateHands$Port;LSlateHands$Course;)V" } : Jvm.MethodName)) ∈ TB := tb6 53 rfl rfl
theorem w6_54 : (Jvm.Cond.selects "SlateHands$Weather" ({ cls := "SlateHands$Weather", name := "fill", desc := "(LSlateHands$Port;LSlateHands$Course;)V" } : Jvm.MethodName) ({ cls := "SlateHands$Weather", name := "fill", desc := "(LSlateHands$Port;LSlateHands$Course;)V" } : Jvm.MethodName)) ∈ TB := tb6 54 rfl rfl
theorem w6_55 : (Jvm.Cond.code ({ cls := "SlateHands$Weather", name := "fill", desc := "(LSlateHands$Port;LSlateHands$Course;)V" } : Jvm.MethodName) prog_12_method_2_code (10 : Nat) (Option.none : Option Jvm.ClassFile.FieldType)) ∈ TB := tb6 55 rfl rfl
theorem w6_56 : (Jvm.Cond.methodLink "SlateHands$Weather" (22 : Nat) ({ cls := "java/util/Arrays", name := "fill", desc := "([JJ)V" } : Jvm.MethodName)) ∈ TB := tb6 56 rfl rfl
theorem w6_57 : (Jvm.Cond.static ({ cls := "java/util/Arrays", name := "fill", desc := "([JJ)V" } : Jvm.MethodName)) ∈ TB := tb6 57 rfl rfl
theorem w6_58 : (Jvm.Cond.code ({ cls := "java/util/Arrays", name := "fill", desc := "([JJ)V" } : Jvm.MethodName) prog_21_method_101_code (5 : Nat) (Option.none : Option Jvm.ClassFile.FieldType)) ∈ TB := tb6 58 rfl rfl
theorem w6_59 : (Jvm.Cond.methodLink "SlateHands$Weather" (28 : Nat) ({ cls := "SlateHands$Port", name := "busyDays", desc := "()I" } : Jvm.MethodName)) ∈ TB := tb6 59 rfl rfl
theorem w6_60 : (Jvm.Cond.instanceMethod ({ cls := "SlateHands$Port", name := "busyDays", desc := "()I" } : Jvm.MethodName)) ∈ TB := tb6 60 rfl rfl
theorem w6_61 : (Jvm.Cond.selects "SlateHands$Port" ({ cls := "SlateHands$Port", name := "busyDays", desc := "()I" } : Jvm.MethodName) ({ cls := "SlateHands$Port", name := "busyDays", desc := "()I" } : Jvm.MethodName)) ∈ TB := tb6 61 rfl rfl
theorem w6_62 : (Jvm.Cond.code ({ cls := "SlateHands$Port", name := "busyDays", desc := "()I" } : Jvm.MethodName) prog_7_method_14_code (4 : Nat) (Option.some Jvm.ClassFile.FieldType.int)) ∈ TB := tb6 62 rfl rfl
theorem w6_63 : (Jvm.Cond.methodLink "SlateHands$Port" (103 : Nat) ({ cls := "SlateHands$Port", name := "isDayAhead", desc := "(I)Z" } : Jvm.MethodName)) ∈ TB := tb6 63 rfl rfl
theorem w6_64 : (Jvm.Cond.methodLink "SlateHands$Weather" (34 : Nat) ({ cls := "java/lang/Integer", name := "bitCount", desc := "(I)I" } : Jvm.MethodName)) ∈ TB := tb6 64 rfl rfl
theorem w6_65 : (Jvm.Cond.methodLink "SlateHands$Weather" (40 : Nat) ({ cls := "java/lang/Math", name := "min", desc := "(II)I" } : Jvm.MethodName)) ∈ TB := tb6 65 rfl rfl
theorem w6_66 : (Jvm.Cond.methodLink "SlateHands$Weather" (46 : Nat) ({ cls := "SlateHands$Weather", name := "power", desc := "(II)J" } : Jvm.MethodName)) ∈ TB := tb6 66 rfl rfl
theorem w6_67 : (Jvm.Cond.static ({ cls := "SlateHands$Weather", name := "power", desc := "(II)J" } : Jvm.MethodName)) ∈ TB := tb6 67 rfl rfl
theorem w6_68 : (Jvm.Cond.code ({ cls := "SlateHands$Weather", name := "power", desc := "(II)J" } : Jvm.MethodName) prog_12_method_7_code (5 : Nat) (Option.some Jvm.ClassFile.FieldType.long)) ∈ TB := tb6 68 rfl rfl
theorem w6_69 : (Jvm.Cond.methodLink "SlateHands$Weather" (58 : Nat) ({ cls := "SlateHands$Course", name := "setAsTold", desc := "(LSlateHands$Port;)V" } : Jvm.MethodName)) ∈ TB := tb6 69 rfl rfl
theorem w6_70 : (Jvm.Cond.methodLink "SlateHands$Weather" (67 : Nat) ({ cls := "SlateHands$Course", name := "runThrough", desc := "(LSlateHands$Port;)V" } : Jvm.MethodName)) ∈ TB := tb6 70 rfl rfl
theorem w6_71 : (Jvm.Cond.methodLink "SlateHands$Weather" (70 : Nat) ({ cls := "SlateHands$Weather", name := "addUp", desc := "(LSlateHands$Port;LSlateHands$Course;J)V" } : Jvm.MethodName)) ∈ TB := tb6 71 rfl rfl
theorem w6_73 : (Jvm.Cond.instanceMethod ({ cls := "SlateHands$Weather", name := "addUp", desc := "(LSlateHands$Port;LSlateHands$Course;J)V" } : Jvm.MethodName)) ∈ TB := tb6 73 rfl rfl
theorem w6_74 : (Jvm.Cond.code ({ cls := "SlateHands$Weather", name := "addUp", desc := "(LSlateHands$Port;LSlateHands$Course;J)V" } : Jvm.MethodName) prog_12_method_6_code (8 : Nat) (Option.none : Option Jvm.ClassFile.FieldType)) ∈ TB := tb6 74 rfl rfl
theorem w6_76 : (Jvm.Cond.methodLink "SlateHands$Weather" (101 : Nat) ({ cls := "SlateHands$Course", name := "knownBy", desc := "(II)I" } : Jvm.MethodName)) ∈ TB := tb6 76 rfl rfl
theorem w6_77 : (Jvm.Cond.methodLink "SlateHands" (372 : Nat) ({ cls := "SlateHands$Weather", name := "likelyKnown", desc := "(II)J" } : Jvm.MethodName)) ∈ TB := tb6 77 rfl rfl
theorem w6_78 : (Jvm.Cond.instanceMethod ({ cls := "SlateHands$Weather", name := "likelyKnown", desc := "(II)J" } : Jvm.MethodName)) ∈ TB := tb6 78 rfl rfl
theorem w6_79 : (Jvm.Cond.selects "SlateHands$Weather" ({ cls := "SlateHands$Weather", name := "likelyKnown", desc := "(II)J" } : Jvm.MethodName) ({ cls := "SlateHands$Weather", name := "likelyKnown", desc := "(II)J" } : Jvm.MethodName)) ∈ TB := tb6 79 rfl rfl
theorem w6_80 : (Jvm.Cond.code ({ cls := "SlateHands$Weather", name := "likelyKnown", desc := "(II)J" } : Jvm.MethodName) prog_12_method_3_code (4 : Nat) (Option.some Jvm.ClassFile.FieldType.long)) ∈ TB := tb6 80 rfl rfl
theorem w6_81 : (Jvm.Cond.methodLink "SlateHandsLaw" (214 : Nat) ({ cls := "SlateHands", name := "mean", desc := "(II)J" } : Jvm.MethodName)) ∈ TB := tb6 81 rfl rfl
theorem w6_82 : (Jvm.Cond.instanceMethod ({ cls := "SlateHands", name := "mean", desc := "(II)J" } : Jvm.MethodName)) ∈ TB := tb6 82 rfl rfl
theorem w6_83 : (Jvm.Cond.selects "SlateHands" ({ cls := "SlateHands", name := "mean", desc := "(II)J" } : Jvm.MethodName) ({ cls := "SlateHands", name := "mean", desc := "(II)J" } : Jvm.MethodName)) ∈ TB := tb6 83 rfl rfl
theorem w6_84 : (Jvm.Cond.code ({ cls := "SlateHands", name := "mean", desc := "(II)J" } : Jvm.MethodName) prog_1_method_51_code (3 : Nat) (Option.some Jvm.ClassFile.FieldType.long)) ∈ TB := tb6 84 rfl rfl
theorem w6_85 : (Jvm.Cond.constantLong "SlateHands" (380 : Nat) (-2 : Int64)) ∈ TB := tb6 85 rfl rfl
theorem w6_86 : (Jvm.Cond.constantLong "SlateHands" (382 : Nat) (-3 : Int64)) ∈ TB := tb6 86 rfl rfl
theorem w6_87 : (Jvm.Cond.methodLink "SlateHands" (384 : Nat) ({ cls := "SlateHands$Weather", name := "wordsLeft", desc := "(I)J" } : Jvm.MethodName)) ∈ TB := tb6 87 rfl rfl
theorem w6_88 : (Jvm.Cond.instanceMethod ({ cls := "SlateHands$Weather", name := "wordsLeft", desc := "(I)J" } : Jvm.MethodName)) ∈ TB := tb6 88 rfl rfl
theorem w6_89 : (Jvm.Cond.selects "SlateHands$Weather" ({ cls := "SlateHands$Weather", name := "wordsLeft", desc := "(I)J" } : Jvm.MethodName) ({ cls := "SlateHands$Weather", name := "wordsLeft", desc := "(I)J" } : Jvm.MethodName)) ∈ TB := tb6 89 rfl rfl
theorem w6_90 : (Jvm.Cond.code ({ cls := "SlateHands$Weather", name := "wordsLeft", desc := "(I)J" } : Jvm.MethodName) prog_12_method_4_code (2 : Nat) (Option.some Jvm.ClassFile.FieldType.long)) ∈ TB := tb6 90 rfl rfl
theorem w6_91 : (Jvm.Cond.methodLink "SlateHandsLaw" (219 : Nat) ({ cls := "SlateHands", name := "carry", desc := "(IIII)I" } : Jvm.MethodName)) ∈ TB := tb6 91 rfl rfl
theorem w6_92 : (Jvm.Cond.instanceMethod ({ cls := "SlateHands", name := "carry", desc := "(IIII)I" } : Jvm.MethodName)) ∈ TB := tb6 92 rfl rfl
theorem w6_93 : (Jvm.Cond.selects "SlateHands" ({ cls := "SlateHands", name := "carry", desc := "(IIII)I" } : Jvm.MethodName) ({ cls := "SlateHands", name := "carry", desc := "(IIII)I" } : Jvm.MethodName)) ∈ TB := tb6 93 rfl rfl
theorem w6_94 : (Jvm.Cond.code ({ cls := "SlateHands", name := "carry", desc := "(IIII)I" } : Jvm.MethodName) prog_1_method_52_code (5 : Nat) (Option.some Jvm.ClassFile.FieldType.int)) ∈ TB := tb6 94 rfl rfl
theorem w6_95 : (Jvm.Cond.methodLink "SlateHands" (391 : Nat) ({ cls := "SlateHands$Carries", name := "add", desc := "(IIII)V" } : Jvm.MethodName)) ∈ TB := tb6 95 rfl rfl
theorem w6_96 : (Jvm.Cond.methodLink "SlateHands" (393 : Nat) ({ cls := "SlateHands$Carries", name := "addAct", desc := "(II)V" } : Jvm.MethodName)) ∈ TB := tb6 96 rfl rfl
theorem w6_97 : (Jvm.Cond.instanceMethod ({ cls := "SlateHands$Carries", name := "addAct", desc := "(II)V" } : Jvm.MethodName)) ∈ TB := tb6 97 rfl rfl
theorem w6_98 : (Jvm.Cond.selects "SlateHands$Carries" ({ cls := "SlateHands$Carries", name := "addAct", desc := "(II)V" } : Jvm.MethodName) ({ cls := "SlateHands$Carries", name := "addAct", desc := "(II)V" } : Jvm.MethodName)) ∈ TB := tb6 98 rfl rfl
theorem w6_99 : (Jvm.Cond.code ({ cls := "SlateHands$Carries", name := "addAct", desc := "(II)V" } : Jvm.MethodName) prog_3_method_5_code (3 : Nat) (Option.none : Option Jvm.ClassFile.FieldType)) ∈ TB := tb6 99 rfl rfl
theorem w6_100 : (Jvm.Cond.methodLink "SlateHandsLaw" (224 : Nat) ({ cls := "SlateHands", name := "rub", desc := "(II)I" } : Jvm.MethodName)) ∈ TB := tb6 100 rfl rfl
theorem w6_101 : (Jvm.Cond.instanceMethod ({ cls := "SlateHands", name := "rub", desc := "(II)I" } : Jvm.MethodName)) ∈ TB := tb6 101 rfl rfl
theorem w6_102 : (Jvm.Cond.selects "SlateHands" ({ cls := "SlateHands", name := "rub", desc := "(II)I" } : Jvm.MethodName) ({ cls := "SlateHands", name := "rub", desc := "(II)I" } : Jvm.MethodName)) ∈ TB := tb6 102 rfl rfl
theorem w6_103 : (Jvm.Cond.code ({ cls := "SlateHands", name := "rub", desc := "(II)I" } : Jvm.MethodName) prog_1_method_53_code (4 : Nat) (Option.some Jvm.ClassFile.FieldType.int)) ∈ TB := tb6 103 rfl rfl
theorem w6_104 : (Jvm.Cond.methodLink "SlateHands" (397 : Nat) ({ cls := "SlateHands$Port", name := "leftAtFirst", desc := "(I)I" } : Jvm.MethodName)) ∈ TB := tb6 104 rfl rfl
theorem w6_105 : (Jvm.Cond.methodLink "SlateHandsLaw" (228 : Nat) ({ cls := "SlateHands", name := "undo", desc := "()I" } : Jvm.MethodName)) ∈ TB := tb6 105 rfl rfl
theorem w6_106 : (Jvm.Cond.instanceMethod ({ cls := "SlateHands", name := "undo", desc := "()I" } : Jvm.MethodName)) ∈ TB := tb6 106 rfl rfl
theorem w6_107 : (Jvm.Cond.selects "SlateHands" ({ cls := "SlateHands", name := "undo", desc := "()I" } : Jvm.MethodName) ({ cls := "SlateHands", name := "undo", desc := "()I" } : Jvm.MethodName)) ∈ TB := tb6 107 rfl rfl
theorem w6_108 : (Jvm.Cond.code ({ cls := "SlateHands", name := "undo", desc := "()I" } : Jvm.MethodName) prog_1_method_54_code (1 : Nat) (Option.some Jvm.ClassFile.FieldType.int)) ∈ TB := tb6 108 rfl rfl
theorem w6_109 : (Jvm.Cond.methodLink "SlateHands" (400 : Nat) ({ cls := "SlateHands$Carries", name := "takeBack", desc := "()V" } : Jvm.MethodName)) ∈ TB := tb6 109 rfl rfl
theorem w6_110 : (Jvm.Cond.instanceMethod ({ cls := "SlateHands$Carries", name := "takeBack", desc := "()V" } : Jvm.MethodName)) ∈ TB := tb6 110 rfl rfl
theorem w6_111 : (Jvm.Cond.selects "SlateHands$Carries" ({ cls := "SlateHands$Carries", name := "takeBack", desc := "()V" } : Jvm.MethodName) ({ cls := "SlateHands$Carries", name := "takeBack", desc := "()V" } : Jvm.MethodName)) ∈ TB := tb6 111 rfl rfl
theorem w6_112 : (Jvm.Cond.code ({ cls := "SlateHands$Carries", name := "takeBack", desc := "()V" } : Jvm.MethodName) prog_3_method_6_code (1 : Nat) (Option.none : Option Jvm.ClassFile.FieldType)) ∈ TB := tb6 112 rfl rfl
theorem w6_113 : (Jvm.Cond.methodLink "SlateHandsLaw" (232 : Nat) ({ cls := "SlateHands", name := "anew", desc := "()I" } : Jvm.MethodName)) ∈ TB := tb6 113 rfl rfl
theorem w6_114 : (Jvm.Cond.instanceMethod ({ cls := "SlateHands", name := "anew", desc := "()I" } : Jvm.MethodName)) ∈ TB := tb6 114 rfl rfl
theorem w6_115 : (Jvm.Cond.selects "SlateHands" ({ cls := "SlateHands", name := "anew", desc := "()I" } : Jvm.MethodName) ({ cls := "SlateHands", name := "anew", desc := "()I" } : Jvm.MethodName)) ∈ TB := tb6 115 rfl rfl
theorem w6_116 : (Jvm.Cond.code ({ cls := "SlateHands", name := "anew", desc := "()I" } : Jvm.MethodName) prog_1_method_55_code (2 : Nat) (Option.some Jvm.ClassFile.FieldType.int)) ∈ TB := tb6 116 rfl rfl
theorem w6_117 : (Jvm.Cond.methodLink "SlateHandsLaw" (236 : Nat) ({ cls := "SlateHands", name := "drawn", desc := "(II)I" } : Jvm.MethodName)) ∈ TB := tb6 117 rfl rfl
theorem w6_118 : (Jvm.Cond.instanceMethod ({ cls := "SlateHands", name := "drawn", desc := "(II)I" } : Jvm.MethodName)) ∈ TB := tb6 118 rfl rfl
theorem w6_119 : (Jvm.Cond.selects "SlateHands" ({ cls := "SlateHands", name := "drawn", desc := "(II)I" } : Jvm.MethodName) ({ cls := "SlateHands", name := "drawn", desc := "(II)I" } : Jvm.MethodName)) ∈ TB := tb6 119 rfl rfl
theorem w6_120 : (Jvm.Cond.code ({ cls := "SlateHands", name := "drawn", desc := "(II)I" } : Jvm.MethodName) prog_1_method_56_code (6 : Nat) (Option.some Jvm.ClassFile.FieldType.int)) ∈ TB := tb6 120 rfl rfl
theorem w6_121 : (Jvm.Cond.methodLink "SlateHands" (406 : Nat) ({ cls := "SlateHands", name := "isSeed", desc := "(I)Z" } : Jvm.MethodName)) ∈ TB := tb6 121 rfl rfl
theorem w6_122 : (Jvm.Cond.static ({ cls := "SlateHands", name := "isSeed", desc := "(I)Z" } : Jvm.MethodName)) ∈ TB := tb6 122 rfl rfl
theorem w6_123 : (Jvm.Cond.code ({ cls := "SlateHands", name := "isSeed", desc := "(I)Z" } : Jvm.MethodName) prog_1_method_70_code (1 : Nat) (Option.some Jvm.ClassFile.FieldType.boolean)) ∈ TB := tb6 123 rfl rfl
theorem w6_124 : (Jvm.Cond.constant "SlateHands" (440 : Nat) (2000000000 : Int32)) ∈ TB := tb6 124 rfl rfl
theorem w6_125 : (Jvm.Cond.methodLink "SlateHands" (409 : Nat) ({ cls := "SlateHands$Weather", name := "rainDrawn", desc := "(LSlateHands$Port;J)I" } : Jvm.MethodName)) ∈ TB := tb6 125 rfl rfl
theorem w6_126 : (Jvm.Cond.instanceMethod ({ cls := "SlateHands$Weather", name := "rainDrawn", desc := "(LSlateHands$Port;J)I" } : Jvm.MethodName)) ∈ TB := tb6 126 rfl rfl
theorem w6_127 : (Jvm.Cond.selects "SlateHands$Weather" ({ cls := "SlateHands$Weather", name := "rainDrawn", desc := "(LSlateHands$Port;J)I" } : Jvm.MethodName) ({ cls := "SlateHands$Weather", name := "rainDrawn", desc := "(LSlateHands$Port;J)I" } : Jvm.MethodName)) ∈ TB := tb6 127 rfl rfl
theorem w6_128 : (Jvm.Cond.code ({ cls := "SlateHands$Weather", name := "rainDrawn", desc := "(LSlateHands$Port;J)I" } : Jvm.MethodName) prog_12_method_5_code (8 : Nat) (Option.some Jvm.ClassFile.FieldType.int)) ∈ TB := tb6 128 rfl rfl
theorem w6_129 : (Jvm.Cond.constantLong "SlateHands$Weather" (77 : Nat) (1103515245 : Int64)) ∈ TB := tb6 129 rfl rfl
theorem w6_130 : (Jvm.Cond.constantLong "SlateHands$Weather" (79 : Nat) (12345 : Int64)) ∈ TB := tb6 130 rfl rfl
theorem w6_131 : (Jvm.Cond.constantLong "SlateHands$Weather" (81 : Nat) (2147483648 : Int64)) ∈ TB := tb6 131 rfl rfl
theorem w6_132 : (Jvm.Cond.constantLong "SlateHands$Weather" (83 : Nat) (65536 : Int64)) ∈ TB := tb6 132 rfl rfl
theorem w6_133 : (Jvm.Cond.constantLong "SlateHands$Weather" (85 : Nat) (10 : Int64)) ∈ TB := tb6 133 rfl rfl
theorem w6_134 : (Jvm.Cond.methodLink "SlateHands" (413 : Nat) ({ cls := "SlateHands", name := "runInRain", desc := "(I)V" } : Jvm.MethodName)) ∈ TB := tb6 134 rfl rfl
theorem w6_136 : (Jvm.Cond.instanceMethod ({ cls := "SlateHands", name := "runInRain", desc := "(I)V" } : Jvm.MethodName)) ∈ TB := tb6 136 rfl rfl
theorem w6_137 : (Jvm.Cond.code ({ cls := "SlateHands", name := "runInRain", desc := "(I)V" } : Jvm.MethodName) prog_1_method_74_code (2 : Nat) (Option.none : Option Jvm.ClassFile.FieldType)) ∈ TB := tb6 137 rfl rfl
theorem w6_138 : (Jvm.Cond.methodLink "SlateHandsLaw" (240 : Nat) ({ cls := "SlateHands", name := "luck", desc := "(IIII)I" } : Jvm.MethodName)) ∈ TB := tb6 138 rfl rfl
theorem w6_139 : (Jvm.Cond.instanceMethod ({ cls := "SlateHands", name := "luck", desc := "(IIII)I" } : Jvm.MethodName)) ∈ TB := tb6 139 rfl rfl
theorem w6_140 : (Jvm.Cond.selects "SlateHands" ({ cls := "SlateHands", name := "luck", desc := "(IIII)I" } : Jvm.MethodName) ({ cls := "SlateHands", name := "luck", desc := "(IIII)I" } : Jvm.MethodName)) ∈ TB := tb6 140 rfl rfl
theorem w6_141 : (Jvm.Cond.code ({ cls := "SlateHands", name := "luck", desc := "(IIII)I" } : Jvm.MethodName) prog_1_method_57_code (8 : Nat) (Option.some Jvm.ClassFile.FieldType.int)) ∈ TB := tb6 141 rfl rfl
theorem w6_142 : (Jvm.Cond.methodLink "SlateHandsLaw" (244 : Nat) ({ cls := "SlateHands", name := "rate", desc := "(II)I" } : Jvm.MethodName)) ∈ TB := tb6 142 rfl rfl
theorem w6_143 : (Jvm.Cond.instanceMethod ({ cls := "SlateHands", name := "rate", desc := "(II)I" } : Jvm.MethodName)) ∈ TB := tb6 143 rfl rfl
theorem w6_144 : (Jvm.Cond.selects "SlateHands" ({ cls := "SlateHands", name := "rate", desc := "(II)I" } : Jvm.MethodName) ({ cls := "SlateHands", name := "rate", desc := "(II)I" } : Jvm.MethodName)) ∈ TB := tb6 144 rfl rfl
theorem w6_145 : (Jvm.Cond.code ({ cls := "SlateHands", name := "rate", desc := "(II)I" } : Jvm.MethodName) prog_1_method_58_code (4 : Nat) (Option.some Jvm.ClassFile.FieldType.int)) ∈ TB := tb6 145 rfl rfl
theorem w6_146 : (Jvm.Cond.methodLink "SlateHandsLaw" (248 : Nat) ({ cls := "SlateHands", name := "count", desc := "(I)I" } : Jvm.MethodName)) ∈ TB := tb6 146 rfl rfl
theorem w6_147 : (Jvm.Cond.instanceMethod ({ cls := "SlateHands", name := "count", desc := "(I)I" } : Jvm.MethodName)) ∈ TB := tb6 147 rfl rfl
theorem w6_148 : (Jvm.Cond.selects "SlateHands" ({ cls := "SlateHands", name := "count", desc := "(I)I" } : Jvm.MethodName) ({ cls := "SlateHands", name := "count", desc := "(I)I" } : Jvm.MethodName)) ∈ TB := tb6 148 rfl rfl
theorem w6_149 : (Jvm.Cond.code ({ cls := "SlateHands", name := "count", desc := "(I)I" } : Jvm.MethodName) prog_1_method_59_code (2 : Nat) (Option.some Jvm.ClassFile.FieldType.int)) ∈ TB := tb6 149 rfl rfl
theorem w6_150 : (Jvm.Cond.methodLink "SlateHands" (426 : Nat) ({ cls := "SlateHands$Slots", name := "howMany", desc := "()I" } : Jvm.MethodName)) ∈ TB := tb6 150 rfl rfl
theorem w6_151 : (Jvm.Cond.instanceMethod ({ cls := "SlateHands$Slots", name := "howMany", desc := "()I" } : Jvm.MethodName)) ∈ TB := tb6 151 rfl rfl
theorem w6_152 : (Jvm.Cond.selects "SlateHands$Slots" ({ cls := "SlateHands$Slots", name := "howMany", desc := "()I" } : Jvm.MethodName) ({ cls := "SlateHands$Slots", name := "howMany", desc := "()I" } : Jvm.MethodName)) ∈ TB := tb6 152 rfl rfl
theorem w6_153 : (Jvm.Cond.code ({ cls := "SlateHands$Slots", name := "howMany", desc := "()I" } : Jvm.MethodName) prog_10_method_6_code (3 : Nat) (Option.some Jvm.ClassFile.FieldType.int)) ∈ TB := tb6 153 rfl rfl
theorem w6_154 : (Jvm.Cond.methodLink "SlateHands$Slots" (26 : Nat) ({ cls := "SlateHands$Slots", name := "hasRow", desc := "(I)Z" } : Jvm.MethodName)) ∈ TB := tb6 154 rfl rfl
theorem w6_155 : (Jvm.Cond.methodLink "SlateHandsLaw" (252 : Nat) ({ cls := "SlateHands", name := "image", desc := "(I)I" } : Jvm.MethodName)) ∈ TB := tb6 155 rfl rfl
theorem w6_156 : (Jvm.Cond.instanceMethod ({ cls := "SlateHands", name := "image", desc := "(I)I" } : Jvm.MethodName)) ∈ TB := tb6 156 rfl rfl
theorem w6_157 : (Jvm.Cond.selects "SlateHands" ({ cls := "SlateHands", name := "image", desc := "(I)I" } : Jvm.MethodName) ({ cls := "SlateHands", name := "image", desc := "(I)I" } : Jvm.MethodName)) ∈ TB := tb6 157 rfl rfl
theorem w6_158 : (Jvm.Cond.code ({ cls := "SlateHands", name := "image", desc := "(I)I" } : Jvm.MethodName) prog_1_method_60_code (2 : Nat) (Option.some Jvm.ClassFile.FieldType.int)) ∈ TB := tb6 158 rfl rfl
theorem w6_159 : (Jvm.Cond.methodLink "SlateHandsLaw" (256 : Nat) ({ cls := "SlateHands", name := "back", desc := "(I)I" } : Jvm.MethodName)) ∈ TB := tb6 159 rfl rfl
theorem w6_160 : (Jvm.Cond.instanceMethod ({ cls := "SlateHands", name := "back", desc := "(I)I" } : Jvm.MethodName)) ∈ TB := tb6 160 rfl rfl
theorem w6_161 : (Jvm.Cond.selects "SlateHands" ({ cls := "SlateHands", name := "back", desc := "(I)I" } : Jvm.MethodName) ({ cls := "SlateHands", name := "back", desc := "(I)I" } : Jvm.MethodName)) ∈ TB := tb6 161 rfl rfl
theorem w6_162 : (Jvm.Cond.code ({ cls := "SlateHands", name := "back", desc := "(I)I" } : Jvm.MethodName) prog_1_method_61_code (2 : Nat) (Option.some Jvm.ClassFile.FieldType.int)) ∈ TB := tb6 162 rfl rfl
theorem w6_163 : (Jvm.Cond.methodLink "SlateHandsLaw" (260 : Nat) ({ cls := "SlateHands", name := "row", desc := "(III)I" } : Jvm.MethodName)) ∈ TB := tb6 163 rfl rfl
theorem w6_164 : (Jvm.Cond.instanceMethod ({ cls := "SlateHands", name := "row", desc := "(III)I" } : Jvm.MethodName)) ∈ TB := tb6 164 rfl rfl
theorem w6_165 : (Jvm.Cond.selects "SlateHands" ({ cls := "SlateHands", name := "row", desc := "(III)I" } : Jvm.MethodName) ({ cls := "SlateHands", name := "row", desc := "(III)I" } : Jvm.MethodName)) ∈ TB := tb6 165 rfl rfl
theorem w6_166 : (Jvm.Cond.code ({ cls := "SlateHands", name := "row", desc := "(III)I" } : Jvm.MethodName) prog_1_method_62_code (4 : Nat) (Option.some Jvm.ClassFile.FieldType.int)) ∈ TB := tb6 166 rfl rfl
theorem w6_167 : (Jvm.Cond.methodLink "SlateHands" (429 : Nat) ({ cls := "SlateHands$Slots", name := "make", desc := "(III)I" } : Jvm.MethodName)) ∈ TB := tb6 167 rfl rfl
theorem w6_168 : (Jvm.Cond.instanceMethod ({ cls := "SlateHands$Slots", name := "make", desc := "(III)I" } : Jvm.MethodName)) ∈ TB := tb6 168 rfl rfl
theorem w6_169 : (Jvm.Cond.selects "SlateHands$Slots" ({ cls := "SlateHands$Slots", name := "make", desc := "(III)I" } : Jvm.MethodName) ({ cls := "SlateHands$Slots", name := "make", desc := "(III)I" } : Jvm.MethodName)) ∈ TB := tb6 169 rfl rfl
theorem w6_170 : (Jvm.Cond.code ({ cls := "SlateHands$Slots", name := "make", desc := "(III)I" } : Jvm.MethodName) prog_10_method_7_code (5 : Nat) (Option.some Jvm.ClassFile.FieldType.int)) ∈ TB := tb6 170 rfl rfl
theorem w6_171 : (Jvm.Cond.methodLink "SlateHands$Slots" (30 : Nat) ({ cls := "SlateHands$Slots", name := "isSlot", desc := "(I)Z" } : Jvm.MethodName)) ∈ TB := tb6 171 rfl rfl
theorem w6_173 : (Jvm.Cond.methodLink "SlateHands$Slots" (37 : Nat) ({ cls := "SlateHands$Slots", name := "set", desc := "(IIJ)I" } : Jvm.MethodName)) ∈ TB := tb6 173 rfl rfl
theorem w6_174 : (Jvm.Cond.instanceMethod ({ cls := "SlateHands$Slots", name := "set", desc := "(IIJ)I" } : Jvm.MethodName)) ∈ TB := tb6 174 rfl rfl
theorem w6_175 : (Jvm.Cond.selects "SlateHands$Slots" ({ cls := "SlateHands$Slots", name := "set", desc := "(IIJ)I" } : Jvm.MethodName) ({ cls := "SlateHands$Slots", name := "set", desc := "(IIJ)I" } : Jvm.MethodName)) ∈ TB := tb6 175 rfl rfl
theorem w6_176 : (Jvm.Cond.code ({ cls := "SlateHands$Slots", name := "set", desc := "(IIJ)I" } : Jvm.MethodName) prog_10_method_8_code (6 : Nat) (Option.some Jvm.ClassFile.FieldType.int)) ∈ TB := tb6 176 rfl rfl
theorem w6_177 : (Jvm.Cond.methodLink "SlateHands$Slots" (41 : Nat) ({ cls := "SlateHands$Slots", name := "sizeOf", desc := "(I)I" } : Jvm.MethodName)) ∈ TB := tb6 177 rfl rfl
theorem w6_178 : (Jvm.Cond.methodLink "SlateHands$Slots" (45 : Nat) ({ cls := "SlateHands$Slots", name := "cut", desc := "(JI)J" } : Jvm.MethodName)) ∈ TB := tb6 178 rfl rfl
theorem w6_179 : (Jvm.Cond.static ({ cls := "SlateHands$Slots", name := "cut", desc := "(JI)J" } : Jvm.MethodName)) ∈ TB := tb6 179 rfl rfl
theorem w6_180 : (Jvm.Cond.code ({ cls := "SlateHands$Slots", name := "cut", desc := "(JI)J" } : Jvm.MethodName) prog_10_method_11_code (3 : Nat) (Option.some Jvm.ClassFile.FieldType.long)) ∈ TB := tb6 180 rfl rfl
theorem w6_181 : (Jvm.Cond.methodLink "SlateHandsLaw" (266 : Nat) ({ cls := "SlateHands", name := "write", desc := "(IIJ)I" } : Jvm.MethodName)) ∈ TB := tb6 181 rfl rfl
theorem w6_182 : (Jvm.Cond.instanceMethod ({ cls := "SlateHands", name := "write", desc := "(IIJ)I" } : Jvm.MethodName)) ∈ TB := tb6 182 rfl rfl
theorem w6_183 : (Jvm.Cond.selects "SlateHands" ({ cls := "SlateHands", name := "write", desc := "(IIJ)I" } : Jvm.MethodName) ({ cls := "SlateHands", name := "write", desc := "(IIJ)I" } : Jvm.MethodName)) ∈ TB := tb6 183 rfl rfl
theorem w6_184 : (Jvm.Cond.code ({ cls := "SlateHands", name := "write", desc := "(IIJ)I" } : Jvm.MethodName) prog_1_method_63_code (5 : Nat) (Option.some Jvm.ClassFile.FieldType.int)) ∈ TB := tb6 184 rfl rfl
theorem w6_185 : (Jvm.Cond.methodLink "SlateHands" (432 : Nat) ({ cls := "SlateHands$Slots", name := "set", desc := "(IIJ)I" } : Jvm.MethodName)) ∈ TB := tb6 185 rfl rfl
theorem w6_186 : (Jvm.Cond.methodLink "SlateHandsLaw" (271 : Nat) ({ cls := "SlateHands", name := "paste", desc := "(IIIII)I" } : Jvm.MethodName)) ∈ TB := tb6 186 rfl rfl
theorem w6_187 : (Jvm.Cond.instanceMethod ({ cls := "SlateHands", name := "paste", desc := "(IIIII)I" } : Jvm.MethodName)) ∈ TB := tb6 187 rfl rfl
theorem w6_188 : (Jvm.Cond.selects "SlateHands" ({ cls := "SlateHands", name := "paste", desc := "(IIIII)I" } : Jvm.MethodName) ({ cls := "SlateHands", name := "paste", desc := "(IIIII)I" } : Jvm.MethodName)) ∈ TB := tb6 188 rfl rfl
theorem w6_189 : (Jvm.Cond.code ({ cls := "SlateHands", name := "paste", desc := "(IIIII)I" } : Jvm.MethodName) prog_1_method_64_code (6 : Nat) (Option.some Jvm.ClassFile.FieldType.int)) ∈ TB := tb6 189 rfl rfl
theorem w6_190 : (Jvm.Cond.methodLink "SlateHands" (436 : Nat) ({ cls := "SlateHands$Slots", name := "move", desc := "(IIIII)I" } : Jvm.MethodName)) ∈ TB := tb6 190 rfl rfl
theorem w6_191 : (Jvm.Cond.instanceMethod ({ cls := "SlateHands$Slots", name := "move", desc := "(IIIII)I" } : Jvm.MethodName)) ∈ TB := tb6 191 rfl rfl
theorem w6_192 : (Jvm.Cond.selects "SlateHands$Slots" ({ cls := "SlateHands$Slots", name := "move", desc := "(IIIII)I" } : Jvm.MethodName) ({ cls := "SlateHands$Slots", name := "move", desc := "(IIIII)I" } : Jvm.MethodName)) ∈ TB := tb6 192 rfl rfl
theorem w6_193 : (Jvm.Cond.code ({ cls := "SlateHands$Slots", name := "move", desc := "(IIIII)I" } : Jvm.MethodName) prog_10_method_9_code (6 : Nat) (Option.some Jvm.ClassFile.FieldType.int)) ∈ TB := tb6 193 rfl rfl
theorem w6_194 : (Jvm.Cond.methodLink "SlateHands$Slots" (49 : Nat) ({ cls := "SlateHands$Slots", name := "isWithin", desc := "(III)Z" } : Jvm.MethodName)) ∈ TB := tb6 194 rfl rfl
theorem w6_196 : (Jvm.Cond.instanceMethod ({ cls := "SlateHands$Slots", name := "isWithin", desc := "(III)Z" } : Jvm.MethodName)) ∈ TB := tb6 196 rfl rfl
theorem w6_197 : (Jvm.Cond.code ({ cls := "SlateHands$Slots", name := "isWithin", desc := "(III)Z" } : Jvm.MethodName) prog_10_method_10_code (4 : Nat) (Option.some Jvm.ClassFile.FieldType.boolean)) ∈ TB := tb6 197 rfl rfl
theorem w6_198 : (Jvm.Cond.methodLink "SlateHands$Slots" (53 : Nat) ({ cls := "java/lang/System", name := "arraycopy", desc := "(Ljava/lang/Object;ILjava/lang/Object;II)V" } : Jvm.MethodName)) ∈ TB := tb6 198 rfl rfl
theorem w6_199 : (Jvm.Cond.classLink "SlateHandsLaw" (10 : Nat) "SlateHandsModel") ∈ TB := tb6 199 rfl rfl
theorem w6_200 : (Jvm.Cond.instantiable "SlateHandsModel" (55 : Nat)) ∈ TB := tb6 200 rfl rfl
theorem w6_201 : (Jvm.Cond.methodLink "SlateHandsLaw" (12 : Nat) ({ cls := "SlateHandsModel", name := "<init>", desc := "()V" } : Jvm.MethodName)) ∈ TB := tb6 201 rfl rfl
theorem w6_202 : (Jvm.Cond.instanceMethod ({ cls := "SlateHandsModel", name := "<init>", desc := "()V" } : Jvm.MethodName)) ∈ TB := tb6 202 rfl rfl
theorem w6_203 : (Jvm.Cond.code ({ cls := "SlateHandsModel", name := "<init>", desc := "()V" } : Jvm.MethodName) prog_14_method_1_code (2 : Nat) (Option.none : Option Jvm.ClassFile.FieldType)) ∈ TB := tb6 203 rfl rfl
theorem w6_204 : (Jvm.Cond.methodLink "SlateHandsModel" (1 : Nat) ({ cls := "java/lang/Object", name := "<init>", desc := "()V" } : Jvm.MethodName)) ∈ TB := tb6 204 rfl rfl
theorem w6_205 : (Jvm.Cond.fieldLink "SlateHandsModel" (122 : Nat) "SlateHandsModel" "thrown" "I") ∈ TB := tb6 205 rfl rfl
theorem w6_206 : (Jvm.Cond.fieldLink "SlateHandsModel" (7 : Nat) "SlateHandsModel" "width" "[I") ∈ TB := tb6 206 rfl rfl
theorem w6_207 : (Jvm.Cond.fieldLink "SlateHandsModel" (13 : Nat) "SlateHandsModel" "many" "[I") ∈ TB := tb6 207 rfl rfl
theorem w6_208 : (Jvm.Cond.fieldLink "SlateHandsModel" (16 : Nat) "SlateHandsModel" "cells" "[J") ∈ TB := tb6 208 rfl rfl
theorem w6_209 : (Jvm.Cond.fieldLink "SlateHandsModel" (20 : Nat) "SlateHandsModel" "moved" "[J") ∈ TB := tb6 209 rfl rfl
theorem w6_210 : (Jvm.Cond.fieldLink "SlateHandsModel" (23 : Nat) "SlateHandsModel" "tape" "[B") ∈ TB := tb6 210 rfl rfl
theorem w6_211 : (Jvm.Cond.fieldLink "SlateHandsModel" (139 : Nat) "SlateHandsModel" "taped" "I") ∈ TB := tb6 211 rfl rfl
theorem w6_212 : (Jvm.Cond.fieldLink "SlateHandsModel" (146 : Nat) "SlateHandsModel" "spot" "I") ∈ TB := tb6 212 rfl rfl
theorem w6_213 : (Jvm.Cond.fieldLink "SlateHandsModel" (163 : Nat) "SlateHandsModel" "token" "I") ∈ TB := tb6 213 rfl rfl
theorem w6_214 : (Jvm.Cond.fieldLink "SlateHandsModel" (153 : Nat) "SlateHandsModel" "place" "I") ∈ TB := tb6 214 rfl rfl
theorem w6_215 : (Jvm.Cond.fieldLink "SlateHandsModel" (156 : Nat) "SlateHandsModel" "value" "I") ∈ TB := tb6 215 rfl rfl
theorem w6_216 : (Jvm.Cond.fieldLink "SlateHandsModel" (159 : Nat) "SlateHandsModel" "word" "J") ∈ TB := tb6 216 rfl rfl
theorem w6_217 : (Jvm.Cond.fieldLink "SlateHandsModel" (174 : Nat) "SlateHandsModel" "bad" "I") ∈ TB := tb6 217 rfl rfl
theorem w6_218 : (Jvm.Cond.fieldLink "SlateHandsModel" (177 : Nat) "SlateHandsModel" "badPlace" "I") ∈ TB := tb6 218 rfl rfl
theorem w6_219 : (Jvm.Cond.fieldLink "SlateHandsModel" (201 : Nat) "SlateHandsModel" "fault" "I") ∈ TB := tb6 219 rfl rfl
theorem w6_220 : (Jvm.Cond.fieldLink "SlateHandsModel" (27 : Nat) "SlateHandsModel" "faultPlace" "I") ∈ TB := tb6 220 rfl rfl
theorem w6_221 : (Jvm.Cond.fieldLink "SlateHandsModel" (31 : Nat) "SlateHandsModel" "lines" "[I") ∈ TB := tb6 221 rfl rfl
theorem w6_222 : (Jvm.Cond.fieldLink "SlateHandsModel" (34 : Nat) "SlateHandsModel" "has" "[I") ∈ TB := tb6 222 rfl rfl
theorem w6_223 : (Jvm.Cond.fieldLink "SlateHandsModel" (37 : Nat) "SlateHandsModel" "high" "[I") ∈ TB := tb6 223 rfl rfl
theorem w6_224 : (Jvm.Cond.fieldLink "SlateHandsModel" (40 : Nat) "SlateHandsModel" "way" "[I") ∈ TB := tb6 224 rfl rfl
theorem w6_225 : (Jvm.Cond.fieldLink "SlateHandsModel" (43 : Nat) "SlateHandsModel" "man" "[I") ∈ TB := tb6 225 rfl rfl
theorem w6_226 : (Jvm.Cond.fieldLink "SlateHandsModel" (46 : Nat) "SlateHandsModel" "slateHouse" "[I") ∈ TB := tb6 226 rfl rfl
theorem w6_227 : (Jvm.Cond.fieldLink "SlateHandsModel" (49 : Nat) "SlateHandsModel" "wordMany" "[I") ∈ TB := tb6 227 rfl rfl
theorem w6_228 : (Jvm.Cond.fieldLink "SlateHandsModel" (52 : Nat) "SlateHandsModel" "heavy" "[I") ∈ TB := tb6 228 rfl rfl
theorem w6_229 : (Jvm.Cond.fieldLink "SlateHandsModel" (55 : Nat) "SlateHandsModel" "told" "[I") ∈ TB := tb6 229 rfl rfl
theorem w6_230 : (Jvm.Cond.fieldLink "SlateHandsModel" (58 : Nat) "SlateHandsModel" "act" "[I") ∈ TB := tb6 230 rfl rfl
theorem w6_231 : (Jvm.Cond.fieldLink "SlateHandsModel" (61 : Nat) "SlateHandsModel" "isKept" "[Z") ∈ TB := tb6 231 rfl rfl
theorem w6_232 : (Jvm.Cond.fieldLink "SlateHandsModel" (310 : Nat) "SlateHandsModel" "law" "I") ∈ TB := tb6 232 rfl rfl
theorem w6_233 : (Jvm.Cond.fieldLink "SlateHandsModel" (313 : Nat) "SlateHandsModel" "rain" "I") ∈ TB := tb6 233 rfl rfl
theorem w6_234 : (Jvm.Cond.fieldLink "SlateHandsModel" (316 : Nat) "SlateHandsModel" "closed" "I") ∈ TB := tb6 234 rfl rfl
theorem w6_235 : (Jvm.Cond.fieldLink "SlateHandsModel" (319 : Nat) "SlateHandsModel" "shut" "I") ∈ TB := tb6 235 rfl rfl
theorem w6_236 : (Jvm.Cond.fieldLink "SlateHandsModel" (65 : Nat) "SlateHandsModel" "firstHouse" "[I") ∈ TB := tb6 236 rfl rfl
theorem w6_237 : (Jvm.Cond.fieldLink "SlateHandsModel" (68 : Nat) "SlateHandsModel" "firstLeft" "[I") ∈ TB := tb6 237 rfl rfl
theorem w6_238 : (Jvm.Cond.fieldLink "SlateHandsModel" (71 : Nat) "SlateHandsModel" "manAt" "[I") ∈ TB := tb6 238 rfl rfl
theorem w6_239 : (Jvm.Cond.fieldLink "SlateHandsModel" (74 : Nat) "SlateHandsModel" "slateAt" "[I") ∈ TB := tb6 239 rfl rfl
theorem w7_0 : (Jvm.Cond.fieldLink "SlateHandsModel" (77 : Nat) "SlateHandsModel" "leftAt" "[I") ∈ TB := tb7 0 rfl rfl
theorem w7_1 : (Jvm.Cond.fieldLink "SlateHandsModel" (80 : Nat) "SlateHandsModel" "knownAt" "[I") ∈ TB := tb7 1 rfl rfl
theorem w7_2 : (Jvm.Cond.fieldLink "SlateHandsModel" (83 : Nat) "SlateHandsModel" "manNow" "[I") ∈ TB := tb7 2 rfl rfl
theorem w7_3 : (Jvm.Cond.fieldLink "SlateHandsModel" (86 : Nat) "SlateHandsModel" "slateNow" "[I") ∈ TB := tb7 3 rfl rfl
theorem w7_4 : (Jvm.Cond.fieldLink "SlateHandsModel" (89 : Nat) "SlateHandsModel" "leftNow" "[I") ∈ TB := tb7 4 rfl rfl
theorem w7_5 : (Jvm.Cond.fieldLink "SlateHandsModel" (92 : Nat) "SlateHandsModel" "metNow" "[I") ∈ TB := tb7 5 rfl rfl
theorem w7_6 : (Jvm.Cond.fieldLink "SlateHandsModel" (95 : Nat) "SlateHandsModel" "knownNow" "[I") ∈ TB := tb7 6 rfl rfl
theorem w7_7 : (Jvm.Cond.fieldLink "SlateHandsModel" (98 : Nat) "SlateHandsModel" "whyNot0" "[I") ∈ TB := tb7 7 rfl rfl
theorem w7_8 : (Jvm.Cond.fieldLink "SlateHandsModel" (101 : Nat) "SlateHandsModel" "loadOf" "[I") ∈ TB := tb7 8 rfl rfl
theorem w7_9 : (Jvm.Cond.fieldLink "SlateHandsModel" (104 : Nat) "SlateHandsModel" "comesWith" "[I") ∈ TB := tb7 9 rfl rfl
theorem w7_10 : (Jvm.Cond.fieldLink "SlateHandsModel" (329 : Nat) "SlateHandsModel" "manGone" "I") ∈ TB := tb7 10 rfl rfl
theorem w7_11 : (Jvm.Cond.fieldLink "SlateHandsModel" (332 : Nat) "SlateHandsModel" "slateGone" "I") ∈ TB := tb7 11 rfl rfl
theorem w7_12 : (Jvm.Cond.fieldLink "SlateHandsModel" (107 : Nat) "SlateHandsModel" "dist" "[I") ∈ TB := tb7 12 rfl rfl
theorem w7_13 : (Jvm.Cond.fieldLink "SlateHandsModel" (110 : Nat) "SlateHandsModel" "leftBy" "[I") ∈ TB := tb7 13 rfl rfl
theorem w7_14 : (Jvm.Cond.fieldLink "SlateHandsModel" (113 : Nat) "SlateHandsModel" "since" "[I") ∈ TB := tb7 14 rfl rfl
theorem w7_15 : (Jvm.Cond.fieldLink "SlateHandsModel" (116 : Nat) "SlateHandsModel" "queue" "[I") ∈ TB := tb7 15 rfl rfl
theorem w7_16 : (Jvm.Cond.fieldLink "SlateHandsModel" (440 : Nat) "SlateHandsModel" "seenBits" "I") ∈ TB := tb7 16 rfl rfl
theorem w7_17 : (Jvm.Cond.fieldLink "SlateHandsModel" (446 : Nat) "SlateHandsModel" "askBest" "I") ∈ TB := tb7 17 rfl rfl
theorem w7_18 : (Jvm.Cond.fieldLink "SlateHandsModel" (449 : Nat) "SlateHandsModel" "askLeaves" "I") ∈ TB := tb7 18 rfl rfl
theorem w7_19 : (Jvm.Cond.fieldLink "SlateHandsModel" (119 : Nat) "SlateHandsModel" "often" "[I") ∈ TB := tb7 19 rfl rfl
theorem w7_131 : (Jvm.Cond.arrayClass Jvm.ClassFile.FieldType.boolean) ∈ TB := tb7 131 rfl rfl
theorem w7_132 : (Jvm.Cond.methodLink "SlateHandsLaw" (263 : Nat) ({ cls := "SlateHandsModel", name := "row", desc := "(III)I" } : Jvm.MethodName)) ∈ TB := tb7 132 rfl rfl
theorem w7_133 : (Jvm.Cond.instanceMethod ({ cls := "SlateHandsModel", name := "row", desc := "(III)I" } : Jvm.MethodName)) ∈ TB := tb7 133 rfl rfl
theorem w7_134 : (Jvm.Cond.selects "SlateHandsModel" ({ cls := "SlateHandsModel", name := "row", desc := "(III)I" } : Jvm.MethodName) ({ cls := "SlateHandsModel", name := "row", desc := "(III)I" } : Jvm.MethodName)) ∈ TB := tb7 134 rfl rfl
theorem w7_135 : (Jvm.Cond.code ({ cls := "SlateHandsModel", name := "row", desc := "(III)I" } : Jvm.MethodName) prog_14_method_5_code (5 : Nat) (Option.some Jvm.ClassFile.FieldType.int)) ∈ TB := tb7 135 rfl rfl
theorem w7_136 : (Jvm.Cond.methodLink "SlateHandsModel" (131 : Nat) ({ cls := "SlateHandsModel", name := "isSlot", desc := "(I)Z" } : Jvm.MethodName)) ∈ TB := tb7 136 rfl rfl
theorem w7_137 : (Jvm.Cond.static ({ cls := "SlateHandsModel", name := "isSlot", desc := "(I)Z" } : Jvm.MethodName)) ∈ TB := tb7 137 rfl rfl
theorem w7_138 : (Jvm.Cond.code ({ cls := "SlateHandsModel", name := "isSlot", desc := "(I)Z" } : Jvm.MethodName) prog_14_method_4_code (1 : Nat) (Option.some Jvm.ClassFile.FieldType.boolean)) ∈ TB := tb7 138 rfl rfl
theorem w7_139 : (Jvm.Cond.constantLong "SlateHandsModel" (125 : Nat) (3 : Int64)) ∈ TB := tb7 139 rfl rfl
theorem w7_140 : (Jvm.Cond.methodLink "SlateHandsModel" (127 : Nat) ({ cls := "SlateHandsModel", name := "in", desc := "(JJJ)Z" } : Jvm.MethodName)) ∈ TB := tb7 140 rfl rfl
theorem w7_141 : (Jvm.Cond.static ({ cls := "SlateHandsModel", name := "in", desc := "(JJJ)Z" } : Jvm.MethodName)) ∈ TB := tb7 141 rfl rfl
theorem w7_142 : (Jvm.Cond.code ({ cls := "SlateHandsModel", name := "in", desc := "(JJJ)Z" } : Jvm.MethodName) prog_14_method_3_code (6 : Nat) (Option.some Jvm.ClassFile.FieldType.boolean)) ∈ TB := tb7 142 rfl rfl
theorem w7_143 : (Jvm.Cond.methodLink "SlateHandsLaw" (270 : Nat) ({ cls := "SlateHandsModel", name := "write", desc := "(IIJ)I" } : Jvm.MethodName)) ∈ TB := tb7 143 rfl rfl
theorem w7_144 : (Jvm.Cond.instanceMethod ({ cls := "SlateHandsModel", name := "write", desc := "(IIJ)I" } : Jvm.MethodName)) ∈ TB := tb7 144 rfl rfl
theorem w7_145 : (Jvm.Cond.selects "SlateHandsModel" ({ cls := "SlateHandsModel", name := "write", desc := "(IIJ)I" } : Jvm.MethodName) ({ cls := "SlateHandsModel", name := "write", desc := "(IIJ)I" } : Jvm.MethodName)) ∈ TB := tb7 145 rfl rfl
theorem w7_146 : (Jvm.Cond.code ({ cls := "SlateHandsModel", name := "write", desc := "(IIJ)I" } : Jvm.MethodName) prog_14_method_7_code (5 : Nat) (Option.some Jvm.ClassFile.FieldType.int)) ∈ TB := tb7 146 rfl rfl
theorem w7_147 : (Jvm.Cond.methodLink "SlateHandsModel" (135 : Nat) ({ cls := "SlateHandsModel", name := "cut", desc := "(JI)J" } : Jvm.MethodName)) ∈ TB := tb7 147 rfl rfl
theorem w7_148 : (Jvm.Cond.static ({ cls := "SlateHandsModel", name := "cut", desc := "(JI)J" } : Jvm.MethodName)) ∈ TB := tb7 148 rfl rfl
theorem w7_149 : (Jvm.Cond.code ({ cls := "SlateHandsModel", name := "cut", desc := "(JI)J" } : Jvm.MethodName) prog_14_method_6_code (3 : Nat) (Option.some Jvm.ClassFile.FieldType.long)) ∈ TB := tb7 149 rfl rfl
theorem w7_150 : (Jvm.Cond.methodLink "SlateHandsLaw" (274 : Nat) ({ cls := "SlateHandsModel", name := "paste", desc := "(IIIII)I" } : Jvm.MethodName)) ∈ TB := tb7 150 rfl rfl
theorem w7_151 : (Jvm.Cond.instanceMethod ({ cls := "SlateHandsModel", name := "paste", desc := "(IIIII)I" } : Jvm.MethodName)) ∈ TB := tb7 151 rfl rfl
theorem w7_152 : (Jvm.Cond.selects "SlateHandsModel" ({ cls := "SlateHandsModel", name := "paste", desc := "(IIIII)I" } : Jvm.MethodName) ({ cls := "SlateHandsModel", name := "paste", desc := "(IIIII)I" } : Jvm.MethodName)) ∈ TB := tb7 152 rfl rfl
theorem w7_153 : (Jvm.Cond.code ({ cls := "SlateHandsModel", name := "paste", desc := "(IIIII)I" } : Jvm.MethodName) prog_14_method_8_code (7 : Nat) (Option.some Jvm.ClassFile.FieldType.int)) ∈ TB := tb7 153 rfl rfl
theorem w7_154 : (Jvm.Cond.methodLink "SlateHandsLaw" (17 : Nat) ({ cls := "SlateHandsModel", name := "feed", desc := "(IIIII)I" } : Jvm.MethodName)) ∈ TB := tb7 154 rfl rfl
theorem w7_155 : (Jvm.Cond.instanceMethod ({ cls := "SlateHandsModel", name := "feed", desc := "(IIIII)I" } : Jvm.MethodName)) ∈ TB := tb7 155 rfl rfl
theorem w7_156 : (Jvm.Cond.selects "SlateHandsModel" ({ cls := "SlateHandsModel", name := "feed", desc := "(IIIII)I" } : Jvm.MethodName) ({ cls := "SlateHandsModel", name := "feed", desc := "(IIIII)I" } : Jvm.MethodName)) ∈ TB := tb7 156 rfl rfl
theorem w7_157 : (Jvm.Cond.code ({ cls := "SlateHandsModel", name := "feed", desc := "(IIIII)I" } : Jvm.MethodName) prog_14_method_9_code (6 : Nat) (Option.some Jvm.ClassFile.FieldType.int)) ∈ TB := tb7 157 rfl rfl
theorem w7_158 : (Jvm.Cond.methodLink "SlateHandsModel" (142 : Nat) ({ cls := "SlateHandsModel", name := "four", desc := "(I)V" } : Jvm.MethodName)) ∈ TB := tb7 158 rfl rfl
theorem w7_160 : (Jvm.Cond.instanceMethod ({ cls := "SlateHandsModel", name := "four", desc := "(I)V" } : Jvm.MethodName)) ∈ TB := tb7 160 rfl rfl
theorem w7_161 : (Jvm.Cond.code ({ cls := "SlateHandsModel", name := "four", desc := "(I)V" } : Jvm.MethodName) prog_14_method_10_code (3 : Nat) (Option.none : Option Jvm.ClassFile.FieldType)) ∈ TB := tb7 161 rfl rfl
theorem w7_162 : (Jvm.Cond.methodLink "SlateHandsLaw" (22 : Nat) ({ cls := "SlateHandsModel", name := "end", desc := "(I)I" } : Jvm.MethodName)) ∈ TB := tb7 162 rfl rfl
theorem w7_163 : (Jvm.Cond.instanceMethod ({ cls := "SlateHandsModel", name := "end", desc := "(I)I" } : Jvm.MethodName)) ∈ TB := tb7 163 rfl rfl
theorem w7_164 : (Jvm.Cond.selects "SlateHandsModel" ({ cls := "SlateHandsModel", name := "end", desc := "(I)I" } : Jvm.MethodName) ({ cls := "SlateHandsModel", name := "end", desc := "(I)I" } : Jvm.MethodName)) ∈ TB := tb7 164 rfl rfl
theorem w7_165 : (Jvm.Cond.code ({ cls := "SlateHandsModel", name := "end", desc := "(I)I" } : Jvm.MethodName) prog_14_method_11_code (2 : Nat) (Option.some Jvm.ClassFile.FieldType.int)) ∈ TB := tb7 165 rfl rfl
theorem w7_166 : (Jvm.Cond.methodLink "SlateHandsLaw" (31 : Nat) ({ cls := "SlateHandsModel", name := "fault", desc := "(I)I" } : Jvm.MethodName)) ∈ TB := tb7 166 rfl rfl
theorem w7_167 : (Jvm.Cond.instanceMethod ({ cls := "SlateHandsModel", name := "fault", desc := "(I)I" } : Jvm.MethodName)) ∈ TB := tb7 167 rfl rfl
theorem w7_168 : (Jvm.Cond.selects "SlateHandsModel" ({ cls := "SlateHandsModel", name := "fault", desc := "(I)I" } : Jvm.MethodName) ({ cls := "SlateHandsModel", name := "fault", desc := "(I)I" } : Jvm.MethodName)) ∈ TB := tb7 168 rfl rfl
theorem w7_169 : (Jvm.Cond.code ({ cls := "SlateHandsModel", name := "fault", desc := "(I)I" } : Jvm.MethodName) prog_14_method_24_code (2 : Nat) (Option.some Jvm.ClassFile.FieldType.int)) ∈ TB := tb7 169 rfl rfl
theorem w7_170 : (Jvm.Cond.methodLink "SlateHandsLaw" (27 : Nat) ({ cls := "SlateHandsModel", name := "port", desc := "()I" } : Jvm.MethodName)) ∈ TB := tb7 170 rfl rfl
theorem w7_171 : (Jvm.Cond.instanceMethod ({ cls := "SlateHandsModel", name := "port", desc := "()I" } : Jvm.MethodName)) ∈ TB := tb7 171 rfl rfl
theorem w7_172 : (Jvm.Cond.selects "SlateHandsModel" ({ cls := "SlateHandsModel", name := "port", desc := "()I" } : Jvm.MethodName) ({ cls := "SlateHandsModel", name := "port", desc := "()I" } : Jvm.MethodName)) ∈ TB := tb7 172 rfl rfl
theorem w7_173 : (Jvm.Cond.code ({ cls := "SlateHandsModel", name := "port", desc := "()I" } : Jvm.MethodName) prog_14_method_36_code (1 : Nat) (Option.some Jvm.ClassFile.FieldType.int)) ∈ TB := tb7 173 rfl rfl
theorem w7_174 : (Jvm.Cond.methodLink "SlateHandsModel" (258 : Nat) ({ cls := "SlateHandsModel", name := "clears", desc := "()V" } : Jvm.MethodName)) ∈ TB := tb7 174 rfl rfl
theorem w7_176 : (Jvm.Cond.instanceMethod ({ cls := "SlateHandsModel", name := "clears", desc := "()V" } : Jvm.MethodName)) ∈ TB := tb7 176 rfl rfl
theorem w7_177 : (Jvm.Cond.code ({ cls := "SlateHandsModel", name := "clears", desc := "()V" } : Jvm.MethodName) prog_14_method_35_code (2 : Nat) (Option.none : Option Jvm.ClassFile.FieldType)) ∈ TB := tb7 177 rfl rfl
theorem w7_178 : (Jvm.Cond.methodLink "SlateHandsModel" (215 : Nat) ({ cls := "SlateHandsModel", name := "tellsOf", desc := "(II)V" } : Jvm.MethodName)) ∈ TB := tb7 178 rfl rfl
theorem w7_180 : (Jvm.Cond.instanceMethod ({ cls := "SlateHandsModel", name := "tellsOf", desc := "(II)V" } : Jvm.MethodName)) ∈ TB := tb7 180 rfl rfl
theorem w7_181 : (Jvm.Cond.code ({ cls := "SlateHandsModel", name := "tellsOf", desc := "(II)V" } : Jvm.MethodName) prog_14_method_26_code (3 : Nat) (Option.none : Option Jvm.ClassFile.FieldType)) ∈ TB := tb7 181 rfl rfl
theorem w7_182 : (Jvm.Cond.methodLink "SlateHandsModel" (261 : Nat) ({ cls := "SlateHandsModel", name := "begins", desc := "()V" } : Jvm.MethodName)) ∈ TB := tb7 182 rfl rfl
theorem w7_184 : (Jvm.Cond.instanceMethod ({ cls := "SlateHandsModel", name := "begins", desc := "()V" } : Jvm.MethodName)) ∈ TB := tb7 184 rfl rfl
theorem w7_185 : (Jvm.Cond.code ({ cls := "SlateHandsModel", name := "begins", desc := "()V" } : Jvm.MethodName) prog_14_method_22_code (1 : Nat) (Option.none : Option Jvm.ClassFile.FieldType)) ∈ TB := tb7 185 rfl rfl
theorem w7_186 : (Jvm.Cond.methodLink "SlateHandsModel" (184 : Nat) ({ cls := "SlateHandsModel", name := "next", desc := "()V" } : Jvm.MethodName)) ∈ TB := tb7 186 rfl rfl
theorem w7_188 : (Jvm.Cond.instanceMethod ({ cls := "SlateHandsModel", name := "next", desc := "()V" } : Jvm.MethodName)) ∈ TB := tb7 188 rfl rfl
theorem w7_189 : (Jvm.Cond.code ({ cls := "SlateHandsModel", name := "next", desc := "()V" } : Jvm.MethodName) prog_14_method_13_code (2 : Nat) (Option.none : Option Jvm.ClassFile.FieldType)) ∈ TB := tb7 189 rfl rfl
theorem w7_190 : (Jvm.Cond.methodLink "SlateHandsModel" (149 : Nat) ({ cls := "SlateHandsModel", name := "isByte", desc := "(III)Z" } : Jvm.MethodName)) ∈ TB := tb7 190 rfl rfl
theorem w7_192 : (Jvm.Cond.instanceMethod ({ cls := "SlateHandsModel", name := "isByte", desc := "(III)Z" } : Jvm.MethodName)) ∈ TB := tb7 192 rfl rfl
theorem w7_193 : (Jvm.Cond.code ({ cls := "SlateHandsModel", name := "isByte", desc := "(III)Z" } : Jvm.MethodName) prog_14_method_12_code (4 : Nat) (Option.some Jvm.ClassFile.FieldType.boolean)) ∈ TB := tb7 193 rfl rfl
theorem w7_194 : (Jvm.Cond.constantLong "SlateHandsModel" (166 : Nat) (-1 : Int64)) ∈ TB := tb7 194 rfl rfl
theorem w7_195 : (Jvm.Cond.constantLong "SlateHandsModel" (168 : Nat) (27 : Int64)) ∈ TB := tb7 195 rfl rfl
theorem w7_196 : (Jvm.Cond.constantLong "SlateHandsModel" (170 : Nat) (96 : Int64)) ∈ TB := tb7 196 rfl rfl
theorem w7_197 : (Jvm.Cond.constant "SlateHandsModel" (172 : Nat) (100000 : Int32)) ∈ TB := tb7 197 rfl rfl
theorem w7_198 : (Jvm.Cond.constant "SlateHandsModel" (173 : Nat) (1000000 : Int32)) ∈ TB := tb7 198 rfl rfl
theorem w7_199 : (Jvm.Cond.methodLink "SlateHandsModel" (264 : Nat) ({ cls := "SlateHandsModel", name := "isGood", desc := "()Z" } : Jvm.MethodName)) ∈ TB := tb7 199 rfl rfl
theorem w7_201 : (Jvm.Cond.instanceMethod ({ cls := "SlateHandsModel", name := "isGood", desc := "()Z" } : Jvm.MethodName)) ∈ TB := tb7 201 rfl rfl
theorem w7_202 : (Jvm.Cond.code ({ cls := "SlateHandsModel", name := "isGood", desc := "()Z" } : Jvm.MethodName) prog_14_method_14_code (1 : Nat) (Option.some Jvm.ClassFile.FieldType.boolean)) ∈ TB := tb7 202 rfl rfl
theorem w7_203 : (Jvm.Cond.constantLong "SlateHandsModel" (268 : Nat) (326369 : Int64)) ∈ TB := tb7 203 rfl rfl
theorem w7_204 : (Jvm.Cond.methodLink "SlateHandsModel" (193 : Nat) ({ cls := "SlateHandsModel", name := "asks", desc := "(J)V" } : Jvm.MethodName)) ∈ TB := tb7 204 rfl rfl
theorem w7_206 : (Jvm.Cond.instanceMethod ({ cls := "SlateHandsModel", name := "asks", desc := "(J)V" } : Jvm.MethodName)) ∈ TB := tb7 206 rfl rfl
theorem w7_207 : (Jvm.Cond.code ({ cls := "SlateHandsModel", name := "asks", desc := "(J)V" } : Jvm.MethodName) prog_14_method_18_code (3 : Nat) (Option.none : Option Jvm.ClassFile.FieldType)) ∈ TB := tb7 207 rfl rfl
theorem w7_208 : (Jvm.Cond.methodLink "SlateHandsModel" (187 : Nat) ({ cls := "SlateHandsModel", name := "takes", desc := "(J)Z" } : Jvm.MethodName)) ∈ TB := tb7 208 rfl rfl
theorem w7_210 : (Jvm.Cond.instanceMethod ({ cls := "SlateHandsModel", name := "takes", desc := "(J)Z" } : Jvm.MethodName)) ∈ TB := tb7 210 rfl rfl
theorem w7_211 : (Jvm.Cond.code ({ cls := "SlateHandsModel", name := "takes", desc := "(J)Z" } : Jvm.MethodName) prog_14_method_17_code (3 : Nat) (Option.some Jvm.ClassFile.FieldType.boolean)) ∈ TB := tb7 211 rfl rfl
theorem w7_212 : (Jvm.Cond.methodLink "SlateHandsModel" (180 : Nat) ({ cls := "SlateHandsModel", name := "is", desc := "(J)Z" } : Jvm.MethodName)) ∈ TB := tb7 212 rfl rfl
theorem w7_214 : (Jvm.Cond.instanceMethod ({ cls := "SlateHandsModel", name := "is", desc := "(J)Z" } : Jvm.MethodName)) ∈ TB := tb7 214 rfl rfl
theorem w7_215 : (Jvm.Cond.code ({ cls := "SlateHandsModel", name := "is", desc := "(J)Z" } : Jvm.MethodName) prog_14_method_16_code (3 : Nat) (Option.some Jvm.ClassFile.FieldType.boolean)) ∈ TB := tb7 215 rfl rfl
theorem w7_216 : (Jvm.Cond.methodLink "SlateHandsModel" (190 : Nat) ({ cls := "SlateHandsModel", name := "fails", desc := "(I)V" } : Jvm.MethodName)) ∈ TB := tb7 216 rfl rfl
theorem w7_218 : (Jvm.Cond.instanceMethod ({ cls := "SlateHandsModel", name := "fails", desc := "(I)V" } : Jvm.MethodName)) ∈ TB := tb7 218 rfl rfl
theorem w7_219 : (Jvm.Cond.code ({ cls := "SlateHandsModel", name := "fails", desc := "(I)V" } : Jvm.MethodName) prog_14_method_15_code (2 : Nat) (Option.none : Option Jvm.ClassFile.FieldType)) ∈ TB := tb7 219 rfl rfl
theorem w7_220 : (Jvm.Cond.constantLong "SlateHandsModel" (270 : Nat) (80155 : Int64)) ∈ TB := tb7 220 rfl rfl
theorem w7_221 : (Jvm.Cond.methodLink "SlateHandsModel" (208 : Nat) ({ cls := "SlateHandsModel", name := "number", desc := "(JII)I" } : Jvm.MethodName)) ∈ TB := tb7 221 rfl rfl
theorem w7_223 : (Jvm.Cond.instanceMethod ({ cls := "SlateHandsModel", name := "number", desc := "(JII)I" } : Jvm.MethodName)) ∈ TB := tb7 223 rfl rfl
theorem w7_224 : (Jvm.Cond.code ({ cls := "SlateHandsModel", name := "number", desc := "(JII)I" } : Jvm.MethodName) prog_14_method_20_code (5 : Nat) (Option.some Jvm.ClassFile.FieldType.int)) ∈ TB := tb7 224 rfl rfl
theorem w7_225 : (Jvm.Cond.methodLink "SlateHandsModel" (197 : Nat) ({ cls := "SlateHandsModel", name := "number", desc := "(II)I" } : Jvm.MethodName)) ∈ TB := tb7 225 rfl rfl
theorem w7_227 : (Jvm.Cond.instanceMethod ({ cls := "SlateHandsModel", name := "number", desc := "(II)I" } : Jvm.MethodName)) ∈ TB := tb7 227 rfl rfl
theorem w7_228 : (Jvm.Cond.code ({ cls := "SlateHandsModel", name := "number", desc := "(II)I" } : Jvm.MethodName) prog_14_method_19_code (4 : Nat) (Option.some Jvm.ClassFile.FieldType.int)) ∈ TB := tb7 228 rfl rfl
theorem w7_229 : (Jvm.Cond.constantLong "SlateHandsModel" (272 : Nat) (8798 : Int64)) ∈ TB := tb7 229 rfl rfl
theorem w7_230 : (Jvm.Cond.constantLong "SlateHandsModel" (274 : Nat) (298288 : Int64)) ∈ TB := tb7 230 rfl rfl
theorem w7_231 : (Jvm.Cond.methodLink "SlateHandsModel" (276 : Nat) ({ cls := "SlateHandsModel", name := "lineHere", desc := "()V" } : Jvm.MethodName)) ∈ TB := tb7 231 rfl rfl
theorem w7_233 : (Jvm.Cond.instanceMethod ({ cls := "SlateHandsModel", name := "lineHere", desc := "()V" } : Jvm.MethodName)) ∈ TB := tb7 233 rfl rfl
theorem w7_234 : (Jvm.Cond.code ({ cls := "SlateHandsModel", name := "lineHere", desc := "()V" } : Jvm.MethodName) prog_14_method_34_code (1 : Nat) (Option.none : Option Jvm.ClassFile.FieldType)) ∈ TB := tb7 234 rfl rfl
theorem w7_235 : (Jvm.Cond.constantLong "SlateHandsModel" (230 : Nat) (4562600 : Int64)) ∈ TB := tb7 235 rfl rfl
theorem w7_236 : (Jvm.Cond.methodLink "SlateHandsModel" (232 : Nat) ({ cls := "SlateHandsModel", name := "isRoom", desc := "(ZII)Z" } : Jvm.MethodName)) ∈ TB := tb7 236 rfl rfl
theorem w7_238 : (Jvm.Cond.instanceMethod ({ cls := "SlateHandsModel", name := "isRoom", desc := "(ZII)Z" } : Jvm.MethodName)) ∈ TB := tb7 238 rfl rfl
theorem w7_239 : (Jvm.Cond.code ({ cls := "SlateHandsModel", name := "isRoom", desc := "(ZII)Z" } : Jvm.MethodName) prog_14_method_33_code (4 : Nat) (Option.some Jvm.ClassFile.FieldType.boolean)) ∈ TB := tb7 239 rfl rfl
theorem w8_0 : (Jvm.Cond.methodLink "SlateHandsModel" (204 : Nat) ({ cls := "SlateHandsModel", name := "hasRead", desc := "(I)I" } : Jvm.MethodName)) ∈ TB := tb8 0 rfl rfl
theorem w8_2 : (Jvm.Cond.instanceMethod ({ cls := "SlateHandsModel", name := "hasRead", desc := "(I)I" } : Jvm.MethodName)) ∈ TB := tb8 2 rfl rfl
theorem w8_3 : (Jvm.Cond.code ({ cls := "SlateHandsModel", name := "hasRead", desc := "(I)I" } : Jvm.MethodName) prog_14_method_25_code (2 : Nat) (Option.some Jvm.ClassFile.FieldType.int)) ∈ TB := tb8 3 rfl rfl
theorem w8_4 : (Jvm.Cond.constantLong "SlateHandsModel" (236 : Nat) (164222 : Int64)) ∈ TB := tb8 4 rfl rfl
theorem w8_5 : (Jvm.Cond.constantLong "SlateHandsModel" (238 : Nat) (16819 : Int64)) ∈ TB := tb8 5 rfl rfl
theorem w8_6 : (Jvm.Cond.methodLink "SlateHandsModel" (240 : Nat) ({ cls := "SlateHandsModel", name := "wayLine", desc := "()V" } : Jvm.MethodName)) ∈ TB := tb8 6 rfl rfl
theorem w8_8 : (Jvm.Cond.instanceMethod ({ cls := "SlateHandsModel", name := "wayLine", desc := "()V" } : Jvm.MethodName)) ∈ TB := tb8 8 rfl rfl
theorem w8_9 : (Jvm.Cond.code ({ cls := "SlateHandsModel", name := "wayLine", desc := "()V" } : Jvm.MethodName) prog_14_method_29_code (2 : Nat) (Option.none : Option Jvm.ClassFile.FieldType)) ∈ TB := tb8 9 rfl rfl
theorem w8_10 : (Jvm.Cond.methodLink "SlateHandsModel" (211 : Nat) ({ cls := "SlateHandsModel", name := "houseHere", desc := "()I" } : Jvm.MethodName)) ∈ TB := tb8 10 rfl rfl
theorem w8_12 : (Jvm.Cond.instanceMethod ({ cls := "SlateHandsModel", name := "houseHere", desc := "()I" } : Jvm.MethodName)) ∈ TB := tb8 12 rfl rfl
theorem w8_13 : (Jvm.Cond.code ({ cls := "SlateHandsModel", name := "houseHere", desc := "()I" } : Jvm.MethodName) prog_14_method_27_code (1 : Nat) (Option.some Jvm.ClassFile.FieldType.int)) ∈ TB := tb8 13 rfl rfl
theorem w8_14 : (Jvm.Cond.constantLong "SlateHandsModel" (243 : Nat) (1186537320 : Int64)) ∈ TB := tb8 14 rfl rfl
theorem w8_15 : (Jvm.Cond.methodLink "SlateHandsModel" (245 : Nat) ({ cls := "SlateHandsModel", name := "carrierLine", desc := "()V" } : Jvm.MethodName)) ∈ TB := tb8 15 rfl rfl
theorem w8_17 : (Jvm.Cond.instanceMethod ({ cls := "SlateHandsModel", name := "carrierLine", desc := "()V" } : Jvm.MethodName)) ∈ TB := tb8 17 rfl rfl
theorem w8_18 : (Jvm.Cond.code ({ cls := "SlateHandsModel", name := "carrierLine", desc := "()V" } : Jvm.MethodName) prog_14_method_30_code (2 : Nat) (Option.none : Option Jvm.ClassFile.FieldType)) ∈ TB := tb8 18 rfl rfl
theorem w8_19 : (Jvm.Cond.constantLong "SlateHandsModel" (219 : Nat) (47 : Int64)) ∈ TB := tb8 19 rfl rfl
theorem w8_20 : (Jvm.Cond.methodLink "SlateHandsModel" (221 : Nat) ({ cls := "SlateHandsModel", name := "houseHere", desc := "(J)I" } : Jvm.MethodName)) ∈ TB := tb8 20 rfl rfl
theorem w8_22 : (Jvm.Cond.instanceMethod ({ cls := "SlateHandsModel", name := "houseHere", desc := "(J)I" } : Jvm.MethodName)) ∈ TB := tb8 22 rfl rfl
theorem w8_23 : (Jvm.Cond.code ({ cls := "SlateHandsModel", name := "houseHere", desc := "(J)I" } : Jvm.MethodName) prog_14_method_28_code (3 : Nat) (Option.some Jvm.ClassFile.FieldType.int)) ∈ TB := tb8 23 rfl rfl
theorem w8_24 : (Jvm.Cond.constantLong "SlateHandsModel" (224 : Nat) (283623667 : Int64)) ∈ TB := tb8 24 rfl rfl
theorem w8_25 : (Jvm.Cond.constantLong "SlateHandsModel" (248 : Nat) (10334849 : Int64)) ∈ TB := tb8 25 rfl rfl
theorem w8_26 : (Jvm.Cond.methodLink "SlateHandsModel" (250 : Nat) ({ cls := "SlateHandsModel", name := "slateLine", desc := "()V" } : Jvm.MethodName)) ∈ TB := tb8 26 rfl rfl
theorem w8_28 : (Jvm.Cond.instanceMethod ({ cls := "SlateHandsModel", name := "slateLine", desc := "()V" } : Jvm.MethodName)) ∈ TB := tb8 28 rfl rfl
theorem w8_29 : (Jvm.Cond.code ({ cls := "SlateHandsModel", name := "slateLine", desc := "()V" } : Jvm.MethodName) prog_14_method_31_code (2 : Nat) (Option.none : Option Jvm.ClassFile.FieldType)) ∈ TB := tb8 29 rfl rfl
theorem w8_30 : (Jvm.Cond.constantLong "SlateHandsModel" (226 : Nat) (464134 : Int64)) ∈ TB := tb8 30 rfl rfl
theorem w8_31 : (Jvm.Cond.constantLong "SlateHandsModel" (253 : Nat) (1627639 : Int64)) ∈ TB := tb8 31 rfl rfl
theorem w8_32 : (Jvm.Cond.methodLink "SlateHandsModel" (255 : Nat) ({ cls := "SlateHandsModel", name := "carryLine", desc := "()V" } : Jvm.MethodName)) ∈ TB := tb8 32 rfl rfl
theorem w8_34 : (Jvm.Cond.instanceMethod ({ cls := "SlateHandsModel", name := "carryLine", desc := "()V" } : Jvm.MethodName)) ∈ TB := tb8 34 rfl rfl
theorem w8_35 : (Jvm.Cond.code ({ cls := "SlateHandsModel", name := "carryLine", desc := "()V" } : Jvm.MethodName) prog_14_method_32_code (2 : Nat) (Option.none : Option Jvm.ClassFile.FieldType)) ∈ TB := tb8 35 rfl rfl
theorem w8_36 : (Jvm.Cond.constantLong "SlateHandsModel" (228 : Nat) (555 : Int64)) ∈ TB := tb8 36 rfl rfl
theorem w8_37 : (Jvm.Cond.methodLink "SlateHandsModel" (279 : Nat) ({ cls := "SlateHandsModel", name := "ends", desc := "()V" } : Jvm.MethodName)) ∈ TB := tb8 37 rfl rfl
theorem w8_39 : (Jvm.Cond.instanceMethod ({ cls := "SlateHandsModel", name := "ends", desc := "()V" } : Jvm.MethodName)) ∈ TB := tb8 39 rfl rfl
theorem w8_40 : (Jvm.Cond.code ({ cls := "SlateHandsModel", name := "ends", desc := "()V" } : Jvm.MethodName) prog_14_method_21_code (1 : Nat) (Option.none : Option Jvm.ClassFile.FieldType)) ∈ TB := tb8 40 rfl rfl
theorem w8_41 : (Jvm.Cond.methodLink "SlateHandsModel" (282 : Nat) ({ cls := "SlateHandsModel", name := "isOver", desc := "()V" } : Jvm.MethodName)) ∈ TB := tb8 41 rfl rfl
theorem w8_43 : (Jvm.Cond.instanceMethod ({ cls := "SlateHandsModel", name := "isOver", desc := "()V" } : Jvm.MethodName)) ∈ TB := tb8 43 rfl rfl
theorem w8_44 : (Jvm.Cond.code ({ cls := "SlateHandsModel", name := "isOver", desc := "()V" } : Jvm.MethodName) prog_14_method_23_code (1 : Nat) (Option.none : Option Jvm.ClassFile.FieldType)) ∈ TB := tb8 44 rfl rfl
theorem w8_45 : (Jvm.Cond.methodLink "SlateHandsModel" (285 : Nat) ({ cls := "SlateHandsModel", name := "copyPort", desc := "(II)V" } : Jvm.MethodName)) ∈ TB := tb8 45 rfl rfl
theorem w8_47 : (Jvm.Cond.instanceMethod ({ cls := "SlateHandsModel", name := "copyPort", desc := "(II)V" } : Jvm.MethodName)) ∈ TB := tb8 47 rfl rfl
theorem w8_48 : (Jvm.Cond.code ({ cls := "SlateHandsModel", name := "copyPort", desc := "(II)V" } : Jvm.MethodName) prog_14_method_38_code (3 : Nat) (Option.none : Option Jvm.ClassFile.FieldType)) ∈ TB := tb8 48 rfl rfl
theorem w8_49 : (Jvm.Cond.methodLink "SlateHandsModel" (288 : Nat) ({ cls := "SlateHandsModel", name := "copyRow", desc := "([IIII)V" } : Jvm.MethodName)) ∈ TB := tb8 49 rfl rfl
theorem w8_50 : (Jvm.Cond.static ({ cls := "SlateHandsModel", name := "copyRow", desc := "([IIII)V" } : Jvm.MethodName)) ∈ TB := tb8 50 rfl rfl
theorem w8_51 : (Jvm.Cond.code ({ cls := "SlateHandsModel", name := "copyRow", desc := "([IIII)V" } : Jvm.MethodName) prog_14_method_37_code (5 : Nat) (Option.none : Option Jvm.ClassFile.FieldType)) ∈ TB := tb8 51 rfl rfl
theorem w8_52 : (Jvm.Cond.methodLink "SlateHandsLaw" (35 : Nat) ({ cls := "SlateHandsModel", name := "house", desc := "(I)I" } : Jvm.MethodName)) ∈ TB := tb8 52 rfl rfl
theorem w8_53 : (Jvm.Cond.instanceMethod ({ cls := "SlateHandsModel", name := "house", desc := "(I)I" } : Jvm.MethodName)) ∈ TB := tb8 53 rfl rfl
theorem w8_54 : (Jvm.Cond.selects "SlateHandsModel" ({ cls := "SlateHandsModel", name := "house", desc := "(I)I" } : Jvm.MethodName) ({ cls := "SlateHandsModel", name := "house", desc := "(I)I" } : Jvm.MethodName)) ∈ TB := tb8 54 rfl rfl
theorem w8_55 : (Jvm.Cond.code ({ cls := "SlateHandsModel", name := "house", desc := "(I)I" } : Jvm.MethodName) prog_14_method_67_code (2 : Nat) (Option.some Jvm.ClassFile.FieldType.int)) ∈ TB := tb8 55 rfl rfl
theorem w8_56 : (Jvm.Cond.methodLink "SlateHandsModel" (307 : Nat) ({ cls := "SlateHandsModel", name := "isHouse", desc := "(J)Z" } : Jvm.MethodName)) ∈ TB := tb8 56 rfl rfl
theorem w8_58 : (Jvm.Cond.instanceMethod ({ cls := "SlateHandsModel", name := "isHouse", desc := "(J)Z" } : Jvm.MethodName)) ∈ TB := tb8 58 rfl rfl
theorem w8_59 : (Jvm.Cond.code ({ cls := "SlateHandsModel", name := "isHouse", desc := "(J)Z" } : Jvm.MethodName) prog_14_method_44_code (3 : Nat) (Option.some Jvm.ClassFile.FieldType.boolean)) ∈ TB := tb8 59 rfl rfl
theorem w8_60 : (Jvm.Cond.methodLink "SlateHandsModel" (292 : Nat) ({ cls := "SlateHandsModel", name := "houses", desc := "()I" } : Jvm.MethodName)) ∈ TB := tb8 60 rfl rfl
theorem w8_62 : (Jvm.Cond.instanceMethod ({ cls := "SlateHandsModel", name := "houses", desc := "()I" } : Jvm.MethodName)) ∈ TB := tb8 62 rfl rfl
theorem w8_63 : (Jvm.Cond.code ({ cls := "SlateHandsModel", name := "houses", desc := "()I" } : Jvm.MethodName) prog_14_method_40_code (1 : Nat) (Option.some Jvm.ClassFile.FieldType.int)) ∈ TB := tb8 63 rfl rfl
theorem w8_64 : (Jvm.Cond.methodLink "SlateHandsLaw" (40 : Nat) ({ cls := "SlateHandsModel", name := "carrier", desc := "(II)I" } : Jvm.MethodName)) ∈ TB := tb8 64 rfl rfl
theorem w8_65 : (Jvm.Cond.instanceMethod ({ cls := "SlateHandsModel", name := "carrier", desc := "(II)I" } : Jvm.MethodName)) ∈ TB := tb8 65 rfl rfl
theorem w8_66 : (Jvm.Cond.selects "SlateHandsModel" ({ cls := "SlateHandsModel", name := "carrier", desc := "(II)I" } : Jvm.MethodName) ({ cls := "SlateHandsModel", name := "carrier", desc := "(II)I" } : Jvm.MethodName)) ∈ TB := tb8 66 rfl rfl
theorem w8_67 : (Jvm.Cond.code ({ cls := "SlateHandsModel", name := "carrier", desc := "(II)I" } : Jvm.MethodName) prog_14_method_68_code (3 : Nat) (Option.some Jvm.ClassFile.FieldType.int)) ∈ TB := tb8 67 rfl rfl
theorem w8_68 : (Jvm.Cond.methodLink "SlateHandsModel" (366 : Nat) ({ cls := "SlateHandsModel", name := "isCarrier", desc := "(I)Z" } : Jvm.MethodName)) ∈ TB := tb8 68 rfl rfl
theorem w8_70 : (Jvm.Cond.instanceMethod ({ cls := "SlateHandsModel", name := "isCarrier", desc := "(I)Z" } : Jvm.MethodName)) ∈ TB := tb8 70 rfl rfl
theorem w8_71 : (Jvm.Cond.code ({ cls := "SlateHandsModel", name := "isCarrier", desc := "(I)Z" } : Jvm.MethodName) prog_14_method_45_code (2 : Nat) (Option.some Jvm.ClassFile.FieldType.boolean)) ∈ TB := tb8 71 rfl rfl
theorem w8_72 : (Jvm.Cond.methodLink "SlateHandsModel" (295 : Nat) ({ cls := "SlateHandsModel", name := "carriers", desc := "()I" } : Jvm.MethodName)) ∈ TB := tb8 72 rfl rfl
theorem w8_74 : (Jvm.Cond.instanceMethod ({ cls := "SlateHandsModel", name := "carriers", desc := "()I" } : Jvm.MethodName)) ∈ TB := tb8 74 rfl rfl
theorem w8_75 : (Jvm.Cond.code ({ cls := "SlateHandsModel", name := "carriers", desc := "()I" } : Jvm.MethodName) prog_14_method_41_code (1 : Nat) (Option.some Jvm.ClassFile.FieldType.int)) ∈ TB := tb8 75 rfl rfl
theorem w8_76 : (Jvm.Cond.methodLink "SlateHandsModel" (369 : Nat) ({ cls := "SlateHandsModel", name := "isHalf", desc := "(I)Z" } : Jvm.MethodName)) ∈ TB := tb8 76 rfl rfl
theorem w8_77 : (Jvm.Cond.static ({ cls := "SlateHandsModel", name := "isHalf", desc := "(I)Z" } : Jvm.MethodName)) ∈ TB := tb8 77 rfl rfl
theorem w8_78 : (Jvm.Cond.code ({ cls := "SlateHandsModel", name := "isHalf", desc := "(I)Z" } : Jvm.MethodName) prog_14_method_50_code (1 : Nat) (Option.some Jvm.ClassFile.FieldType.boolean)) ∈ TB := tb8 78 rfl rfl
theorem w8_79 : (Jvm.Cond.methodLink "SlateHandsLaw" (44 : Nat) ({ cls := "SlateHandsModel", name := "word", desc := "(II)I" } : Jvm.MethodName)) ∈ TB := tb8 79 rfl rfl
theorem w8_80 : (Jvm.Cond.instanceMethod ({ cls := "SlateHandsModel", name := "word", desc := "(II)I" } : Jvm.MethodName)) ∈ TB := tb8 80 rfl rfl
theorem w8_81 : (Jvm.Cond.selects "SlateHandsModel" ({ cls := "SlateHandsModel", name := "word", desc := "(II)I" } : Jvm.MethodName) ({ cls := "SlateHandsModel", name := "word", desc := "(II)I" } : Jvm.MethodName)) ∈ TB := tb8 81 rfl rfl
theorem w8_82 : (Jvm.Cond.code ({ cls := "SlateHandsModel", name := "word", desc := "(II)I" } : Jvm.MethodName) prog_14_method_69_code (3 : Nat) (Option.some Jvm.ClassFile.FieldType.int)) ∈ TB := tb8 82 rfl rfl
theorem w8_83 : (Jvm.Cond.methodLink "SlateHandsModel" (372 : Nat) ({ cls := "SlateHandsModel", name := "isSlate", desc := "(I)Z" } : Jvm.MethodName)) ∈ TB := tb8 83 rfl rfl
theorem w8_85 : (Jvm.Cond.instanceMethod ({ cls := "SlateHandsModel", name := "isSlate", desc := "(I)Z" } : Jvm.MethodName)) ∈ TB := tb8 85 rfl rfl
theorem w8_86 : (Jvm.Cond.code ({ cls := "SlateHandsModel", name := "isSlate", desc := "(I)Z" } : Jvm.MethodName) prog_14_method_46_code (2 : Nat) (Option.some Jvm.ClassFile.FieldType.boolean)) ∈ TB := tb8 86 rfl rfl
theorem w8_87 : (Jvm.Cond.methodLink "SlateHandsModel" (298 : Nat) ({ cls := "SlateHandsModel", name := "slates", desc := "()I" } : Jvm.MethodName)) ∈ TB := tb8 87 rfl rfl
theorem w8_89 : (Jvm.Cond.instanceMethod ({ cls := "SlateHandsModel", name := "slates", desc := "()I" } : Jvm.MethodName)) ∈ TB := tb8 89 rfl rfl
theorem w8_90 : (Jvm.Cond.code ({ cls := "SlateHandsModel", name := "slates", desc := "()I" } : Jvm.MethodName) prog_14_method_42_code (1 : Nat) (Option.some Jvm.ClassFile.FieldType.int)) ∈ TB := tb8 90 rfl rfl
theorem w8_91 : (Jvm.Cond.methodLink "SlateHandsLaw" (48 : Nat) ({ cls := "SlateHandsModel", name := "doors", desc := "(I)I" } : Jvm.MethodName)) ∈ TB := tb8 91 rfl rfl
theorem w8_92 : (Jvm.Cond.instanceMethod ({ cls := "SlateHandsModel", name := "doors", desc := "(I)I" } : Jvm.MethodName)) ∈ TB := tb8 92 rfl rfl
theorem w8_93 : (Jvm.Cond.selects "SlateHandsModel" ({ cls := "SlateHandsModel", name := "doors", desc := "(I)I" } : Jvm.MethodName) ({ cls := "SlateHandsModel", name := "doors", desc := "(I)I" } : Jvm.MethodName)) ∈ TB := tb8 93 rfl rfl
theorem w8_94 : (Jvm.Cond.code ({ cls := "SlateHandsModel", name := "doors", desc := "(I)I" } : Jvm.MethodName) prog_14_method_70_code (4 : Nat) (Option.some Jvm.ClassFile.FieldType.int)) ∈ TB := tb8 94 rfl rfl
theorem w8_95 : (Jvm.Cond.methodLink "SlateHandsModel" (360 : Nat) ({ cls := "SlateHandsModel", name := "lays", desc := "()V" } : Jvm.MethodName)) ∈ TB := tb8 95 rfl rfl
theorem w8_97 : (Jvm.Cond.instanceMethod ({ cls := "SlateHandsModel", name := "lays", desc := "()V" } : Jvm.MethodName)) ∈ TB := tb8 97 rfl rfl
theorem w8_98 : (Jvm.Cond.code ({ cls := "SlateHandsModel", name := "lays", desc := "()V" } : Jvm.MethodName) prog_14_method_53_code (2 : Nat) (Option.none : Option Jvm.ClassFile.FieldType)) ∈ TB := tb8 98 rfl rfl
theorem w8_99 : (Jvm.Cond.methodLink "SlateHandsModel" (335 : Nat) ({ cls := "SlateHandsModel", name := "isWay", desc := "(II)Z" } : Jvm.MethodName)) ∈ TB := tb8 99 rfl rfl
theorem w8_101 : (Jvm.Cond.instanceMethod ({ cls := "SlateHandsModel", name := "isWay", desc := "(II)Z" } : Jvm.MethodName)) ∈ TB := tb8 101 rfl rfl
theorem w8_102 : (Jvm.Cond.code ({ cls := "SlateHandsModel", name := "isWay", desc := "(II)Z" } : Jvm.MethodName) prog_14_method_54_code (4 : Nat) (Option.some Jvm.ClassFile.FieldType.boolean)) ∈ TB := tb8 102 rfl rfl
theorem w8_103 : (Jvm.Cond.methodLink "SlateHandsModel" (322 : Nat) ({ cls := "SlateHandsModel", name := "isBit", desc := "(II)Z" } : Jvm.MethodName)) ∈ TB := tb8 103 rfl rfl
theorem w8_104 : (Jvm.Cond.static ({ cls := "SlateHandsModel", name := "isBit", desc := "(II)Z" } : Jvm.MethodName)) ∈ TB := tb8 104 rfl rfl
theorem w8_105 : (Jvm.Cond.code ({ cls := "SlateHandsModel", name := "isBit", desc := "(II)Z" } : Jvm.MethodName) prog_14_method_51_code (2 : Nat) (Option.some Jvm.ClassFile.FieldType.boolean)) ∈ TB := tb8 105 rfl rfl
theorem w8_106 : (Jvm.Cond.methodLink "SlateHandsLaw" (52 : Nat) ({ cls := "SlateHandsModel", name := "far", desc := "(II)I" } : Jvm.MethodName)) ∈ TB := tb8 106 rfl rfl
theorem w8_107 : (Jvm.Cond.instanceMethod ({ cls := "SlateHandsModel", name := "far", desc := "(II)I" } : Jvm.MethodName)) ∈ TB := tb8 107 rfl rfl
theorem w8_108 : (Jvm.Cond.selects "SlateHandsModel" ({ cls := "SlateHandsModel", name := "far", desc := "(II)I" } : Jvm.MethodName) ({ cls := "SlateHandsModel", name := "far", desc := "(II)I" } : Jvm.MethodName)) ∈ TB := tb8 108 rfl rfl
theorem w8_109 : (Jvm.Cond.code ({ cls := "SlateHandsModel", name := "far", desc := "(II)I" } : Jvm.MethodName) prog_14_method_72_code (3 : Nat) (Option.some Jvm.ClassFile.FieldType.int)) ∈ TB := tb8 109 rfl rfl
theorem w8_110 : (Jvm.Cond.methodLink "SlateHandsModel" (375 : Nat) ({ cls := "SlateHandsModel", name := "distOf", desc := "(IIZ)I" } : Jvm.MethodName)) ∈ TB := tb8 110 rfl rfl
theorem w8_112 : (Jvm.Cond.instanceMethod ({ cls := "SlateHandsModel", name := "distOf", desc := "(IIZ)I" } : Jvm.MethodName)) ∈ TB := tb8 112 rfl rfl
theorem w8_113 : (Jvm.Cond.code ({ cls := "SlateHandsModel", name := "distOf", desc := "(IIZ)I" } : Jvm.MethodName) prog_14_method_71_code (8 : Nat) (Option.some Jvm.ClassFile.FieldType.int)) ∈ TB := tb8 113 rfl rfl
theorem w8_114 : (Jvm.Cond.methodLink "SlateHandsModel" (341 : Nat) ({ cls := "SlateHandsModel", name := "climbOf", desc := "(II)I" } : Jvm.MethodName)) ∈ TB := tb8 114 rfl rfl
theorem w8_116 : (Jvm.Cond.instanceMethod ({ cls := "SlateHandsModel", name := "climbOf", desc := "(II)I" } : Jvm.MethodName)) ∈ TB := tb8 116 rfl rfl
theorem w8_117 : (Jvm.Cond.code ({ cls := "SlateHandsModel", name := "climbOf", desc := "(II)I" } : Jvm.MethodName) prog_14_method_56_code (3 : Nat) (Option.some Jvm.ClassFile.FieldType.int)) ∈ TB := tb8 117 rfl rfl
theorem w8_118 : (Jvm.Cond.methodLink "SlateHandsLaw" (56 : Nat) ({ cls := "SlateHandsModel", name := "climb", desc := "(II)I" } : Jvm.MethodName)) ∈ TB := tb8 118 rfl rfl
theorem w8_119 : (Jvm.Cond.instanceMethod ({ cls := "SlateHandsModel", name := "climb", desc := "(II)I" } : Jvm.MethodName)) ∈ TB := tb8 119 rfl rfl
theorem w8_120 : (Jvm.Cond.selects "SlateHandsModel" ({ cls := "SlateHandsModel", name := "climb", desc := "(II)I" } : Jvm.MethodName) ({ cls := "SlateHandsModel", name := "climb", desc := "(II)I" } : Jvm.MethodName)) ∈ TB := tb8 120 rfl rfl
theorem w8_121 : (Jvm.Cond.code ({ cls := "SlateHandsModel", name := "climb", desc := "(II)I" } : Jvm.MethodName) prog_14_method_73_code (3 : Nat) (Option.some Jvm.ClassFile.FieldType.int)) ∈ TB := tb8 121 rfl rfl
theorem w8_122 : (Jvm.Cond.methodLink "SlateHandsLaw" (60 : Nat) ({ cls := "SlateHandsModel", name := "at", desc := "(II)I" } : Jvm.MethodName)) ∈ TB := tb8 122 rfl rfl
theorem w8_123 : (Jvm.Cond.instanceMethod ({ cls := "SlateHandsModel", name := "at", desc := "(II)I" } : Jvm.MethodName)) ∈ TB := tb8 123 rfl rfl
theorem w8_124 : (Jvm.Cond.selects "SlateHandsModel" ({ cls := "SlateHandsModel", name := "at", desc := "(II)I" } : Jvm.MethodName) ({ cls := "SlateHandsModel", name := "at", desc := "(II)I" } : Jvm.MethodName)) ∈ TB := tb8 124 rfl rfl
theorem w8_125 : (Jvm.Cond.code ({ cls := "SlateHandsModel", name := "at", desc := "(II)I" } : Jvm.MethodName) prog_14_method_74_code (3 : Nat) (Option.some Jvm.ClassFile.FieldType.int)) ∈ TB := tb8 125 rfl rfl
theorem w8_126 : (Jvm.Cond.methodLink "SlateHandsModel" (379 : Nat) ({ cls := "SlateHandsModel", name := "isDay", desc := "(J)Z" } : Jvm.MethodName)) ∈ TB := tb8 126 rfl rfl
theorem w8_128 : (Jvm.Cond.instanceMethod ({ cls := "SlateHandsModel", name := "isDay", desc := "(J)Z" } : Jvm.MethodName)) ∈ TB := tb8 128 rfl rfl
theorem w8_129 : (Jvm.Cond.code ({ cls := "SlateHandsModel", name := "isDay", desc := "(J)Z" } : Jvm.MethodName) prog_14_method_47_code (3 : Nat) (Option.some Jvm.ClassFile.FieldType.boolean)) ∈ TB := tb8 129 rfl rfl
theorem w8_130 : (Jvm.Cond.methodLink "SlateHandsModel" (301 : Nat) ({ cls := "SlateHandsModel", name := "isPort", desc := "()Z" } : Jvm.MethodName)) ∈ TB := tb8 130 rfl rfl
theorem w8_132 : (Jvm.Cond.instanceMethod ({ cls := "SlateHandsModel", name := "isPort", desc := "()Z" } : Jvm.MethodName)) ∈ TB := tb8 132 rfl rfl
theorem w8_133 : (Jvm.Cond.code ({ cls := "SlateHandsModel", name := "isPort", desc := "()Z" } : Jvm.MethodName) prog_14_method_39_code (1 : Nat) (Option.some Jvm.ClassFile.FieldType.boolean)) ∈ TB := tb8 133 rfl rfl
theorem w8_134 : (Jvm.Cond.methodLink "SlateHandsModel" (304 : Nat) ({ cls := "SlateHandsModel", name := "days", desc := "()I" } : Jvm.MethodName)) ∈ TB := tb8 134 rfl rfl
theorem w8_136 : (Jvm.Cond.instanceMethod ({ cls := "SlateHandsModel", name := "days", desc := "()I" } : Jvm.MethodName)) ∈ TB := tb8 136 rfl rfl
theorem w8_137 : (Jvm.Cond.code ({ cls := "SlateHandsModel", name := "days", desc := "()I" } : Jvm.MethodName) prog_14_method_43_code (1 : Nat) (Option.some Jvm.ClassFile.FieldType.int)) ∈ TB := tb8 137 rfl rfl
theorem w8_138 : (Jvm.Cond.methodLink "SlateHandsModel" (382 : Nat) ({ cls := "SlateHandsModel", name := "laysNow", desc := "()V" } : Jvm.MethodName)) ∈ TB := tb8 138 rfl rfl
theorem w8_140 : (Jvm.Cond.instanceMethod ({ cls := "SlateHandsModel", name := "laysNow", desc := "()V" } : Jvm.MethodName)) ∈ TB := tb8 140 rfl rfl
theorem w8_141 : (Jvm.Cond.code ({ cls := "SlateHandsModel", name := "laysNow", desc := "()V" } : Jvm.MethodName) prog_14_method_64_code (1 : Nat) (Option.none : Option Jvm.ClassFile.FieldType)) ∈ TB := tb8 141 rfl rfl
theorem w8_142 : (Jvm.Cond.methodLink "SlateHandsModel" (363 : Nat) ({ cls := "SlateHandsModel", name := "runs", desc := "()V" } : Jvm.MethodName)) ∈ TB := tb8 142 rfl rfl
theorem w8_144 : (Jvm.Cond.instanceMethod ({ cls := "SlateHandsModel", name := "runs", desc := "()V" } : Jvm.MethodName)) ∈ TB := tb8 144 rfl rfl
theorem w8_145 : (Jvm.Cond.code ({ cls := "SlateHandsModel", name := "runs", desc := "()V" } : Jvm.MethodName) prog_14_method_63_code (4 : Nat) (Option.none : Option Jvm.ClassFile.FieldType)) ∈ TB := tb8 145 rfl rfl
theorem w8_146 : (Jvm.Cond.methodLink "SlateHandsModel" (351 : Nat) ({ cls := "SlateHandsModel", name := "begin", desc := "()V" } : Jvm.MethodName)) ∈ TB := tb8 146 rfl rfl
theorem w8_148 : (Jvm.Cond.instanceMethod ({ cls := "SlateHandsModel", name := "begin", desc := "()V" } : Jvm.MethodName)) ∈ TB := tb8 148 rfl rfl
theorem w8_149 : (Jvm.Cond.code ({ cls := "SlateHandsModel", name := "begin", desc := "()V" } : Jvm.MethodName) prog_14_method_62_code (3 : Nat) (Option.none : Option Jvm.ClassFile.FieldType)) ∈ TB := tb8 149 rfl rfl
theorem w8_150 : (Jvm.Cond.methodLink "SlateHandsModel" (348 : Nat) ({ cls := "SlateHandsModel", name := "carryMany", desc := "()I" } : Jvm.MethodName)) ∈ TB := tb8 150 rfl rfl
theorem w8_152 : (Jvm.Cond.instanceMethod ({ cls := "SlateHandsModel", name := "carryMany", desc := "()I" } : Jvm.MethodName)) ∈ TB := tb8 152 rfl rfl
theorem w8_153 : (Jvm.Cond.code ({ cls := "SlateHandsModel", name := "carryMany", desc := "()I" } : Jvm.MethodName) prog_14_method_58_code (3 : Nat) (Option.some Jvm.ClassFile.FieldType.int)) ∈ TB := tb8 153 rfl rfl
theorem w8_154 : (Jvm.Cond.methodLink "SlateHandsModel" (326 : Nat) ({ cls := "SlateHandsModel", name := "carryPart", desc := "(II)I" } : Jvm.MethodName)) ∈ TB := tb8 154 rfl rfl
theorem w8_156 : (Jvm.Cond.instanceMethod ({ cls := "SlateHandsModel", name := "carryPart", desc := "(II)I" } : Jvm.MethodName)) ∈ TB := tb8 156 rfl rfl
theorem w8_157 : (Jvm.Cond.code ({ cls := "SlateHandsModel", name := "carryPart", desc := "(II)I" } : Jvm.MethodName) prog_14_method_59_code (5 : Nat) (Option.some Jvm.ClassFile.FieldType.int)) ∈ TB := tb8 157 rfl rfl
theorem w8_158 : (Jvm.Cond.methodLink "SlateHandsModel" (354 : Nat) ({ cls := "SlateHandsModel", name := "whyNow", desc := "(I)I" } : Jvm.MethodName)) ∈ TB := tb8 158 rfl rfl
theorem w8_160 : (Jvm.Cond.instanceMethod ({ cls := "SlateHandsModel", name := "whyNow", desc := "(I)I" } : Jvm.MethodName)) ∈ TB := tb8 160 rfl rfl
theorem w8_161 : (Jvm.Cond.code ({ cls := "SlateHandsModel", name := "whyNow", desc := "(I)I" } : Jvm.MethodName) prog_14_method_60_code (5 : Nat) (Option.some Jvm.ClassFile.FieldType.int)) ∈ TB := tb8 161 rfl rfl
theorem w8_162 : (Jvm.Cond.methodLink "SlateHandsModel" (338 : Nat) ({ cls := "SlateHandsModel", name := "heavyOf", desc := "(II)I" } : Jvm.MethodName)) ∈ TB := tb8 162 rfl rfl
theorem w8_164 : (Jvm.Cond.instanceMethod ({ cls := "SlateHandsModel", name := "heavyOf", desc := "(II)I" } : Jvm.MethodName)) ∈ TB := tb8 164 rfl rfl
theorem w8_165 : (Jvm.Cond.code ({ cls := "SlateHandsModel", name := "heavyOf", desc := "(II)I" } : Jvm.MethodName) prog_14_method_55_code (5 : Nat) (Option.some Jvm.ClassFile.FieldType.int)) ∈ TB := tb8 165 rfl rfl
theorem w8_166 : (Jvm.Cond.methodLink "SlateHandsModel" (357 : Nat) ({ cls := "SlateHandsModel", name := "does", desc := "(II)V" } : Jvm.MethodName)) ∈ TB := tb8 166 rfl rfl
theorem w8_168 : (Jvm.Cond.instanceMethod ({ cls := "SlateHandsModel", name := "does", desc := "(II)V" } : Jvm.MethodName)) ∈ TB := tb8 168 rfl rfl
theorem w8_169 : (Jvm.Cond.code ({ cls := "SlateHandsModel", name := "does", desc := "(II)V" } : Jvm.MethodName) prog_14_method_61_code (6 : Nat) (Option.none : Option Jvm.ClassFile.FieldType)) ∈ TB := tb8 169 rfl rfl
theorem w8_170 : (Jvm.Cond.methodLink "SlateHandsModel" (344 : Nat) ({ cls := "SlateHandsModel", name := "rubs", desc := "(III)I" } : Jvm.MethodName)) ∈ TB := tb8 170 rfl rfl
theorem w8_172 : (Jvm.Cond.instanceMethod ({ cls := "SlateHandsModel", name := "rubs", desc := "(III)I" } : Jvm.MethodName)) ∈ TB := tb8 172 rfl rfl
theorem w8_173 : (Jvm.Cond.code ({ cls := "SlateHandsModel", name := "rubs", desc := "(III)I" } : Jvm.MethodName) prog_14_method_57_code (6 : Nat) (Option.some Jvm.ClassFile.FieldType.int)) ∈ TB := tb8 173 rfl rfl
theorem w8_174 : (Jvm.Cond.methodLink "SlateHandsLaw" (64 : Nat) ({ cls := "SlateHandsModel", name := "lies", desc := "(II)I" } : Jvm.MethodName)) ∈ TB := tb8 174 rfl rfl
theorem w8_175 : (Jvm.Cond.instanceMethod ({ cls := "SlateHandsModel", name := "lies", desc := "(II)I" } : Jvm.MethodName)) ∈ TB := tb8 175 rfl rfl
theorem w8_176 : (Jvm.Cond.selects "SlateHandsModel" ({ cls := "SlateHandsModel", name := "lies", desc := "(II)I" } : Jvm.MethodName) ({ cls := "SlateHandsModel", name := "lies", desc := "(II)I" } : Jvm.MethodName)) ∈ TB := tb8 176 rfl rfl
theorem w8_177 : (Jvm.Cond.code ({ cls := "SlateHandsModel", name := "lies", desc := "(II)I" } : Jvm.MethodName) prog_14_method_75_code (3 : Nat) (Option.some Jvm.ClassFile.FieldType.int)) ∈ TB := tb8 177 rfl rfl
theorem w8_178 : (Jvm.Cond.methodLink "SlateHandsLaw" (68 : Nat) ({ cls := "SlateHandsModel", name := "left", desc := "(II)I" } : Jvm.MethodName)) ∈ TB := tb8 178 rfl rfl
theorem w8_179 : (Jvm.Cond.instanceMethod ({ cls := "SlateHandsModel", name := "left", desc := "(II)I" } : Jvm.MethodName)) ∈ TB := tb8 179 rfl rfl
theorem w8_180 : (Jvm.Cond.selects "SlateHandsModel" ({ cls := "SlateHandsModel", name := "left", desc := "(II)I" } : Jvm.MethodName) ({ cls := "SlateHandsModel", name := "left", desc := "(II)I" } : Jvm.MethodName)) ∈ TB := tb8 180 rfl rfl
theorem w8_181 : (Jvm.Cond.code ({ cls := "SlateHandsModel", name := "left", desc := "(II)I" } : Jvm.MethodName) prog_14_method_76_code (3 : Nat) (Option.some Jvm.ClassFile.FieldType.int)) ∈ TB := tb8 181 rfl rfl
theorem w8_182 : (Jvm.Cond.methodLink "SlateHandsLaw" (72 : Nat) ({ cls := "SlateHandsModel", name := "weight", desc := "(II)I" } : Jvm.MethodName)) ∈ TB := tb8 182 rfl rfl
theorem w8_183 : (Jvm.Cond.instanceMethod ({ cls := "SlateHandsModel", name := "weight", desc := "(II)I" } : Jvm.MethodName)) ∈ TB := tb8 183 rfl rfl
theorem w8_184 : (Jvm.Cond.selects "SlateHandsModel" ({ cls := "SlateHandsModel", name := "weight", desc := "(II)I" } : Jvm.MethodName) ({ cls := "SlateHandsModel", name := "weight", desc := "(II)I" } : Jvm.MethodName)) ∈ TB := tb8 184 rfl rfl
theorem w8_185 : (Jvm.Cond.code ({ cls := "SlateHandsModel", name := "weight", desc := "(II)I" } : Jvm.MethodName) prog_14_method_77_code (3 : Nat) (Option.some Jvm.ClassFile.FieldType.int)) ∈ TB := tb8 185 rfl rfl
theorem w8_186 : (Jvm.Cond.methodLink "SlateHandsLaw" (77 : Nat) ({ cls := "SlateHandsModel", name := "knows", desc := "(III)I" } : Jvm.MethodName)) ∈ TB := tb8 186 rfl rfl
theorem w8_187 : (Jvm.Cond.instanceMethod ({ cls := "SlateHandsModel", name := "knows", desc := "(III)I" } : Jvm.MethodName)) ∈ TB := tb8 187 rfl rfl
theorem w8_188 : (Jvm.Cond.selects "SlateHandsModel" ({ cls := "SlateHandsModel", name := "knows", desc := "(III)I" } : Jvm.MethodName) ({ cls := "SlateHandsModel", name := "knows", desc := "(III)I" } : Jvm.MethodName)) ∈ TB := tb8 188 rfl rfl
theorem w8_189 : (Jvm.Cond.code ({ cls := "SlateHandsModel", name := "knows", desc := "(III)I" } : Jvm.MethodName) prog_14_method_78_code (4 : Nat) (Option.some Jvm.ClassFile.FieldType.int)) ∈ TB := tb8 189 rfl rfl
theorem w8_190 : (Jvm.Cond.methodLink "SlateHandsLaw" (81 : Nat) ({ cls := "SlateHandsModel", name := "heard", desc := "(II)I" } : Jvm.MethodName)) ∈ TB := tb8 190 rfl rfl
theorem w8_191 : (Jvm.Cond.instanceMethod ({ cls := "SlateHandsModel", name := "heard", desc := "(II)I" } : Jvm.MethodName)) ∈ TB := tb8 191 rfl rfl
theorem w8_192 : (Jvm.Cond.selects "SlateHandsModel" ({ cls := "SlateHandsModel", name := "heard", desc := "(II)I" } : Jvm.MethodName) ({ cls := "SlateHandsModel", name := "heard", desc := "(II)I" } : Jvm.MethodName)) ∈ TB := tb8 192 rfl rfl
theorem w8_193 : (Jvm.Cond.code ({ cls := "SlateHandsModel", name := "heard", desc := "(II)I" } : Jvm.MethodName) prog_14_method_79_code (3 : Nat) (Option.some Jvm.ClassFile.FieldType.int)) ∈ TB := tb8 193 rfl rfl
theorem w8_194 : (Jvm.Cond.methodLink "SlateHandsModel" (385 : Nat) ({ cls := "SlateHandsModel", name := "heardOf", desc := "(II)I" } : Jvm.MethodName)) ∈ TB := tb8 194 rfl rfl
theorem w8_196 : (Jvm.Cond.instanceMethod ({ cls := "SlateHandsModel", name := "heardOf", desc := "(II)I" } : Jvm.MethodName)) ∈ TB := tb8 196 rfl rfl
theorem w8_197 : (Jvm.Cond.code ({ cls := "SlateHandsModel", name := "heardOf", desc := "(II)I" } : Jvm.MethodName) prog_14_method_66_code (5 : Nat) (Option.some Jvm.ClassFile.FieldType.int)) ∈ TB := tb8 197 rfl rfl
theorem w8_198 : (Jvm.Cond.methodLink "SlateHandsLaw" (85 : Nat) ({ cls := "SlateHandsModel", name := "full", desc := "(II)I" } : Jvm.MethodName)) ∈ TB := tb8 198 rfl rfl
theorem w8_199 : (Jvm.Cond.instanceMethod ({ cls := "SlateHandsModel", name := "full", desc := "(II)I" } : Jvm.MethodName)) ∈ TB := tb8 199 rfl rfl
theorem w8_200 : (Jvm.Cond.selects "SlateHandsModel" ({ cls := "SlateHandsModel", name := "full", desc := "(II)I" } : Jvm.MethodName) ({ cls := "SlateHandsModel", name := "full", desc := "(II)I" } : Jvm.MethodName)) ∈ TB := tb8 200 rfl rfl
theorem w8_201 : (Jvm.Cond.code ({ cls := "SlateHandsModel", name := "full", desc := "(II)I" } : Jvm.MethodName) prog_14_method_80_code (5 : Nat) (Option.some Jvm.ClassFile.FieldType.int)) ∈ TB := tb8 201 rfl rfl
theorem w8_202 : (Jvm.Cond.methodLink "SlateHandsLaw" (89 : Nat) ({ cls := "SlateHandsModel", name := "when", desc := "(II)I" } : Jvm.MethodName)) ∈ TB := tb8 202 rfl rfl
theorem w8_203 : (Jvm.Cond.instanceMethod ({ cls := "SlateHandsModel", name := "when", desc := "(II)I" } : Jvm.MethodName)) ∈ TB := tb8 203 rfl rfl
theorem w8_204 : (Jvm.Cond.selects "SlateHandsModel" ({ cls := "SlateHandsModel", name := "when", desc := "(II)I" } : Jvm.MethodName) ({ cls := "SlateHandsModel", name := "when", desc := "(II)I" } : Jvm.MethodName)) ∈ TB := tb8 204 rfl rfl
theorem w8_205 : (Jvm.Cond.code ({ cls := "SlateHandsModel", name := "when", desc := "(II)I" } : Jvm.MethodName) prog_14_method_81_code (4 : Nat) (Option.some Jvm.ClassFile.FieldType.int)) ∈ TB := tb8 205 rfl rfl
theorem w8_206 : (Jvm.Cond.methodLink "SlateHandsLaw" (93 : Nat) ({ cls := "SlateHandsModel", name := "done", desc := "(I)I" } : Jvm.MethodName)) ∈ TB := tb8 206 rfl rfl
theorem w8_207 : (Jvm.Cond.instanceMethod ({ cls := "SlateHandsModel", name := "done", desc := "(I)I" } : Jvm.MethodName)) ∈ TB := tb8 207 rfl rfl
theorem w8_208 : (Jvm.Cond.selects "SlateHandsModel" ({ cls := "SlateHandsModel", name := "done", desc := "(I)I" } : Jvm.MethodName) ({ cls := "SlateHandsModel", name := "done", desc := "(I)I" } : Jvm.MethodName)) ∈ TB := tb8 208 rfl rfl
theorem w8_209 : (Jvm.Cond.code ({ cls := "SlateHandsModel", name := "done", desc := "(I)I" } : Jvm.MethodName) prog_14_method_83_code (2 : Nat) (Option.some Jvm.ClassFile.FieldType.int)) ∈ TB := tb8 209 rfl rfl
theorem w8_210 : (Jvm.Cond.methodLink "SlateHandsModel" (388 : Nat) ({ cls := "SlateHandsModel", name := "isCarry", desc := "(I)Z" } : Jvm.MethodName)) ∈ TB := tb8 210 rfl rfl
theorem w8_212 : (Jvm.Cond.instanceMethod ({ cls := "SlateHandsModel", name := "isCarry", desc := "(I)Z" } : Jvm.MethodName)) ∈ TB := tb8 212 rfl rfl
theorem w8_213 : (Jvm.Cond.code ({ cls := "SlateHandsModel", name := "isCarry", desc := "(I)Z" } : Jvm.MethodName) prog_14_method_82_code (2 : Nat) (Option.some Jvm.ClassFile.FieldType.boolean)) ∈ TB := tb8 213 rfl rfl
theorem w8_214 : (Jvm.Cond.methodLink "SlateHandsLaw" (97 : Nat) ({ cls := "SlateHandsModel", name := "dones", desc := "()I" } : Jvm.MethodName)) ∈ TB := tb8 214 rfl rfl
theorem w8_215 : (Jvm.Cond.instanceMethod ({ cls := "SlateHandsModel", name := "dones", desc := "()I" } : Jvm.MethodName)) ∈ TB := tb8 215 rfl rfl
theorem w8_216 : (Jvm.Cond.selects "SlateHandsModel" ({ cls := "SlateHandsModel", name := "dones", desc := "()I" } : Jvm.MethodName) ({ cls := "SlateHandsModel", name := "dones", desc := "()I" } : Jvm.MethodName)) ∈ TB := tb8 216 rfl rfl
theorem w8_217 : (Jvm.Cond.code ({ cls := "SlateHandsModel", name := "dones", desc := "()I" } : Jvm.MethodName) prog_14_method_84_code (3 : Nat) (Option.some Jvm.ClassFile.FieldType.int)) ∈ TB := tb8 217 rfl rfl
theorem w8_218 : (Jvm.Cond.methodLink "SlateHandsLaw" (101 : Nat) ({ cls := "SlateHandsModel", name := "why", desc := "(I)I" } : Jvm.MethodName)) ∈ TB := tb8 218 rfl rfl
theorem w8_219 : (Jvm.Cond.instanceMethod ({ cls := "SlateHandsModel", name := "why", desc := "(I)I" } : Jvm.MethodName)) ∈ TB := tb8 219 rfl rfl
theorem w8_220 : (Jvm.Cond.selects "SlateHandsModel" ({ cls := "SlateHandsModel", name := "why", desc := "(I)I" } : Jvm.MethodName) ({ cls := "SlateHandsModel", name := "why", desc := "(I)I" } : Jvm.MethodName)) ∈ TB := tb8 220 rfl rfl
theorem w8_221 : (Jvm.Cond.code ({ cls := "SlateHandsModel", name := "why", desc := "(I)I" } : Jvm.MethodName) prog_14_method_85_code (2 : Nat) (Option.some Jvm.ClassFile.FieldType.int)) ∈ TB := tb8 221 rfl rfl
theorem w8_222 : (Jvm.Cond.methodLink "SlateHandsLaw" (105 : Nat) ({ cls := "SlateHandsModel", name := "load", desc := "(I)I" } : Jvm.MethodName)) ∈ TB := tb8 222 rfl rfl
theorem w8_223 : (Jvm.Cond.instanceMethod ({ cls := "SlateHandsModel", name := "load", desc := "(I)I" } : Jvm.MethodName)) ∈ TB := tb8 223 rfl rfl
theorem w8_224 : (Jvm.Cond.selects "SlateHandsModel" ({ cls := "SlateHandsModel", name := "load", desc := "(I)I" } : Jvm.MethodName) ({ cls := "SlateHandsModel", name := "load", desc := "(I)I" } : Jvm.MethodName)) ∈ TB := tb8 224 rfl rfl
theorem w8_225 : (Jvm.Cond.code ({ cls := "SlateHandsModel", name := "load", desc := "(I)I" } : Jvm.MethodName) prog_14_method_86_code (2 : Nat) (Option.some Jvm.ClassFile.FieldType.int)) ∈ TB := tb8 225 rfl rfl
theorem w8_226 : (Jvm.Cond.methodLink "SlateHandsLaw" (109 : Nat) ({ cls := "SlateHandsModel", name := "idle", desc := "(I)I" } : Jvm.MethodName)) ∈ TB := tb8 226 rfl rfl
theorem w8_227 : (Jvm.Cond.instanceMethod ({ cls := "SlateHandsModel", name := "idle", desc := "(I)I" } : Jvm.MethodName)) ∈ TB := tb8 227 rfl rfl
theorem w8_228 : (Jvm.Cond.selects "SlateHandsModel" ({ cls := "SlateHandsModel", name := "idle", desc := "(I)I" } : Jvm.MethodName) ({ cls := "SlateHandsModel", name := "idle", desc := "(I)I" } : Jvm.MethodName)) ∈ TB := tb8 228 rfl rfl
theorem w8_229 : (Jvm.Cond.code ({ cls := "SlateHandsModel", name := "idle", desc := "(I)I" } : Jvm.MethodName) prog_14_method_87_code (4 : Nat) (Option.some Jvm.ClassFile.FieldType.int)) ∈ TB := tb8 229 rfl rfl
theorem w8_230 : (Jvm.Cond.methodLink "SlateHandsModel" (391 : Nat) ({ cls := "SlateHandsModel", name := "isAhead", desc := "(I)Z" } : Jvm.MethodName)) ∈ TB := tb8 230 rfl rfl
theorem w8_232 : (Jvm.Cond.instanceMethod ({ cls := "SlateHandsModel", name := "isAhead", desc := "(I)Z" } : Jvm.MethodName)) ∈ TB := tb8 232 rfl rfl
theorem w8_233 : (Jvm.Cond.code ({ cls := "SlateHandsModel", name := "isAhead", desc := "(I)Z" } : Jvm.MethodName) prog_14_method_48_code (2 : Nat) (Option.some Jvm.ClassFile.FieldType.boolean)) ∈ TB := tb8 233 rfl rfl
theorem w8_234 : (Jvm.Cond.methodLink "SlateHandsLaw" (113 : Nat) ({ cls := "SlateHandsModel", name := "moves", desc := "(I)I" } : Jvm.MethodName)) ∈ TB := tb8 234 rfl rfl
theorem w8_235 : (Jvm.Cond.instanceMethod ({ cls := "SlateHandsModel", name := "moves", desc := "(I)I" } : Jvm.MethodName)) ∈ TB := tb8 235 rfl rfl
theorem w8_236 : (Jvm.Cond.selects "SlateHandsModel" ({ cls := "SlateHandsModel", name := "moves", desc := "(I)I" } : Jvm.MethodName) ({ cls := "SlateHandsModel", name := "moves", desc := "(I)I" } : Jvm.MethodName)) ∈ TB := tb8 236 rfl rfl
theorem w8_237 : (Jvm.Cond.code ({ cls := "SlateHandsModel", name := "moves", desc := "(I)I" } : Jvm.MethodName) prog_14_method_88_code (4 : Nat) (Option.some Jvm.ClassFile.FieldType.int)) ∈ TB := tb8 237 rfl rfl
theorem w8_238 : (Jvm.Cond.methodLink "SlateHandsLaw" (117 : Nat) ({ cls := "SlateHandsModel", name := "trips", desc := "(I)I" } : Jvm.MethodName)) ∈ TB := tb8 238 rfl rfl
theorem w8_239 : (Jvm.Cond.instanceMethod ({ cls := "SlateHandsModel", name := "trips", desc := "(I)I" } : Jvm.MethodName)) ∈ TB := tb8 239 rfl rfl
theorem w9_0 : (Jvm.Cond.selects "SlateHandsModel" ({ cls := "SlateHandsModel", name := "trips", desc := "(I)I" } : Jvm.MethodName) ({ cls := "SlateHandsModel", name := "trips", desc := "(I)I" } : Jvm.MethodName)) ∈ TB := tb9 0 rfl rfl
theorem w9_1 : (Jvm.Cond.code ({ cls := "SlateHandsModel", name := "trips", desc := "(I)I" } : Jvm.MethodName) prog_14_method_89_code (4 : Nat) (Option.some Jvm.ClassFile.FieldType.int)) ∈ TB := tb9 1 rfl rfl
theorem w9_2 : (Jvm.Cond.methodLink "SlateHandsLaw" (121 : Nat) ({ cls := "SlateHandsModel", name := "toil", desc := "(I)I" } : Jvm.MethodName)) ∈ TB := tb9 2 rfl rfl
theorem w9_3 : (Jvm.Cond.instanceMethod ({ cls := "SlateHandsModel", name := "toil", desc := "(I)I" } : Jvm.MethodName)) ∈ TB := tb9 3 rfl rfl
theorem w9_4 : (Jvm.Cond.selects "SlateHandsModel" ({ cls := "SlateHandsModel", name := "toil", desc := "(I)I" } : Jvm.MethodName) ({ cls := "SlateHandsModel", name := "toil", desc := "(I)I" } : Jvm.MethodName)) ∈ TB := tb9 4 rfl rfl
theorem w9_5 : (Jvm.Cond.code ({ cls := "SlateHandsModel", name := "toil", desc := "(I)I" } : Jvm.MethodName) prog_14_method_90_code (4 : Nat) (Option.some Jvm.ClassFile.FieldType.int)) ∈ TB := tb9 5 rfl rfl
theorem w9_6 : (Jvm.Cond.methodLink "SlateHandsLaw" (125 : Nat) ({ cls := "SlateHandsModel", name := "rubbed", desc := "(I)I" } : Jvm.MethodName)) ∈ TB := tb9 6 rfl rfl
theorem w9_7 : (Jvm.Cond.instanceMethod ({ cls := "SlateHandsModel", name := "rubbed", desc := "(I)I" } : Jvm.MethodName)) ∈ TB := tb9 7 rfl rfl
theorem w9_8 : (Jvm.Cond.selects "SlateHandsModel" ({ cls := "SlateHandsModel", name := "rubbed", desc := "(I)I" } : Jvm.MethodName) ({ cls := "SlateHandsModel", name := "rubbed", desc := "(I)I" } : Jvm.MethodName)) ∈ TB := tb9 8 rfl rfl
theorem w9_9 : (Jvm.Cond.code ({ cls := "SlateHandsModel", name := "rubbed", desc := "(I)I" } : Jvm.MethodName) prog_14_method_91_code (2 : Nat) (Option.some Jvm.ClassFile.FieldType.int)) ∈ TB := tb9 9 rfl rfl
theorem w9_10 : (Jvm.Cond.methodLink "SlateHandsModel" (394 : Nat) ({ cls := "SlateHandsModel", name := "sizeOf", desc := "(I)I" } : Jvm.MethodName)) ∈ TB := tb9 10 rfl rfl
theorem w9_11 : (Jvm.Cond.static ({ cls := "SlateHandsModel", name := "sizeOf", desc := "(I)I" } : Jvm.MethodName)) ∈ TB := tb9 11 rfl rfl
theorem w9_12 : (Jvm.Cond.code ({ cls := "SlateHandsModel", name := "sizeOf", desc := "(I)I" } : Jvm.MethodName) prog_14_method_52_code (3 : Nat) (Option.some Jvm.ClassFile.FieldType.int)) ∈ TB := tb9 12 rfl rfl
theorem w9_13 : (Jvm.Cond.methodLink "SlateHandsLaw" (129 : Nat) ({ cls := "SlateHandsModel", name := "gossip", desc := "()I" } : Jvm.MethodName)) ∈ TB := tb9 13 rfl rfl
theorem w9_14 : (Jvm.Cond.instanceMethod ({ cls := "SlateHandsModel", name := "gossip", desc := "()I" } : Jvm.MethodName)) ∈ TB := tb9 14 rfl rfl
theorem w9_15 : (Jvm.Cond.selects "SlateHandsModel" ({ cls := "SlateHandsModel", name := "gossip", desc := "()I" } : Jvm.MethodName) ({ cls := "SlateHandsModel", name := "gossip", desc := "()I" } : Jvm.MethodName)) ∈ TB := tb9 15 rfl rfl
theorem w9_16 : (Jvm.Cond.code ({ cls := "SlateHandsModel", name := "gossip", desc := "()I" } : Jvm.MethodName) prog_14_method_92_code (6 : Nat) (Option.some Jvm.ClassFile.FieldType.int)) ∈ TB := tb9 16 rfl rfl
theorem w9_17 : (Jvm.Cond.methodLink "SlateHandsModel" (397 : Nat) ({ cls := "SlateHandsModel", name := "knownLast", desc := "(II)I" } : Jvm.MethodName)) ∈ TB := tb9 17 rfl rfl
theorem w9_19 : (Jvm.Cond.instanceMethod ({ cls := "SlateHandsModel", name := "knownLast", desc := "(II)I" } : Jvm.MethodName)) ∈ TB := tb9 19 rfl rfl
theorem w9_20 : (Jvm.Cond.code ({ cls := "SlateHandsModel", name := "knownLast", desc := "(II)I" } : Jvm.MethodName) prog_14_method_65_code (3 : Nat) (Option.some Jvm.ClassFile.FieldType.int)) ∈ TB := tb9 20 rfl rfl
theorem w9_21 : (Jvm.Cond.methodLink "SlateHandsLaw" (133 : Nat) ({ cls := "SlateHandsModel", name := "famous", desc := "()I" } : Jvm.MethodName)) ∈ TB := tb9 21 rfl rfl
theorem w9_22 : (Jvm.Cond.instanceMethod ({ cls := "SlateHandsModel", name := "famous", desc := "()I" } : Jvm.MethodName)) ∈ TB := tb9 22 rfl rfl
theorem w9_23 : (Jvm.Cond.selects "SlateHandsModel" ({ cls := "SlateHandsModel", name := "famous", desc := "()I" } : Jvm.MethodName) ({ cls := "SlateHandsModel", name := "famous", desc := "()I" } : Jvm.MethodName)) ∈ TB := tb9 23 rfl rfl
theorem w9_24 : (Jvm.Cond.code ({ cls := "SlateHandsModel", name := "famous", desc := "()I" } : Jvm.MethodName) prog_14_method_93_code (3 : Nat) (Option.some Jvm.ClassFile.FieldType.int)) ∈ TB := tb9 24 rfl rfl
theorem w9_25 : (Jvm.Cond.methodLink "SlateHandsLaw" (137 : Nat) ({ cls := "SlateHandsModel", name := "brings", desc := "(III)I" } : Jvm.MethodName)) ∈ TB := tb9 25 rfl rfl
theorem w9_26 : (Jvm.Cond.instanceMethod ({ cls := "SlateHandsModel", name := "brings", desc := "(III)I" } : Jvm.MethodName)) ∈ TB := tb9 26 rfl rfl
theorem w9_27 : (Jvm.Cond.selects "SlateHandsModel" ({ cls := "SlateHandsModel", name := "brings", desc := "(III)I" } : Jvm.MethodName) ({ cls := "SlateHandsModel", name := "brings", desc := "(III)I" } : Jvm.MethodName)) ∈ TB := tb9 27 rfl rfl
theorem w9_28 : (Jvm.Cond.code ({ cls := "SlateHandsModel", name := "brings", desc := "(III)I" } : Jvm.MethodName) prog_14_method_99_code (4 : Nat) (Option.some Jvm.ClassFile.FieldType.int)) ∈ TB := tb9 28 rfl rfl
theorem w9_29 : (Jvm.Cond.methodLink "SlateHandsModel" (409 : Nat) ({ cls := "SlateHandsModel", name := "areThree", desc := "(III)Z" } : Jvm.MethodName)) ∈ TB := tb9 29 rfl rfl
theorem w9_31 : (Jvm.Cond.instanceMethod ({ cls := "SlateHandsModel", name := "areThree", desc := "(III)Z" } : Jvm.MethodName)) ∈ TB := tb9 31 rfl rfl
theorem w9_32 : (Jvm.Cond.code ({ cls := "SlateHandsModel", name := "areThree", desc := "(III)Z" } : Jvm.MethodName) prog_14_method_98_code (4 : Nat) (Option.some Jvm.ClassFile.FieldType.boolean)) ∈ TB := tb9 32 rfl rfl
theorem w9_33 : (Jvm.Cond.methodLink "SlateHandsModel" (412 : Nat) ({ cls := "SlateHandsModel", name := "cartOf", desc := "(III)I" } : Jvm.MethodName)) ∈ TB := tb9 33 rfl rfl
theorem w9_35 : (Jvm.Cond.instanceMethod ({ cls := "SlateHandsModel", name := "cartOf", desc := "(III)I" } : Jvm.MethodName)) ∈ TB := tb9 35 rfl rfl
theorem w9_36 : (Jvm.Cond.code ({ cls := "SlateHandsModel", name := "cartOf", desc := "(III)I" } : Jvm.MethodName) prog_14_method_97_code (4 : Nat) (Option.some Jvm.ClassFile.FieldType.int)) ∈ TB := tb9 36 rfl rfl
theorem w9_37 : (Jvm.Cond.methodLink "SlateHandsModel" (400 : Nat) ({ cls := "SlateHandsModel", name := "strongOf", desc := "(I)I" } : Jvm.MethodName)) ∈ TB := tb9 37 rfl rfl
theorem w9_39 : (Jvm.Cond.instanceMethod ({ cls := "SlateHandsModel", name := "strongOf", desc := "(I)I" } : Jvm.MethodName)) ∈ TB := tb9 39 rfl rfl
theorem w9_40 : (Jvm.Cond.code ({ cls := "SlateHandsModel", name := "strongOf", desc := "(I)I" } : Jvm.MethodName) prog_14_method_96_code (4 : Nat) (Option.some Jvm.ClassFile.FieldType.int)) ∈ TB := tb9 40 rfl rfl
theorem w9_41 : (Jvm.Cond.methodLink "SlateHandsModel" (403 : Nat) ({ cls := "SlateHandsModel", name := "laysAlone", desc := "(II)V" } : Jvm.MethodName)) ∈ TB := tb9 41 rfl rfl
theorem w9_43 : (Jvm.Cond.instanceMethod ({ cls := "SlateHandsModel", name := "laysAlone", desc := "(II)V" } : Jvm.MethodName)) ∈ TB := tb9 43 rfl rfl
theorem w9_44 : (Jvm.Cond.code ({ cls := "SlateHandsModel", name := "laysAlone", desc := "(II)V" } : Jvm.MethodName) prog_14_method_94_code (9 : Nat) (Option.none : Option Jvm.ClassFile.FieldType)) ∈ TB := tb9 44 rfl rfl
theorem w9_45 : (Jvm.Cond.methodLink "SlateHandsModel" (406 : Nat) ({ cls := "SlateHandsModel", name := "daysTo", desc := "(I)I" } : Jvm.MethodName)) ∈ TB := tb9 45 rfl rfl
theorem w9_47 : (Jvm.Cond.instanceMethod ({ cls := "SlateHandsModel", name := "daysTo", desc := "(I)I" } : Jvm.MethodName)) ∈ TB := tb9 47 rfl rfl
theorem w9_48 : (Jvm.Cond.code ({ cls := "SlateHandsModel", name := "daysTo", desc := "(I)I" } : Jvm.MethodName) prog_14_method_95_code (4 : Nat) (Option.some Jvm.ClassFile.FieldType.int)) ∈ TB := tb9 48 rfl rfl
theorem w9_49 : (Jvm.Cond.methodLink "SlateHandsLaw" (141 : Nat) ({ cls := "SlateHandsModel", name := "saves", desc := "(III)I" } : Jvm.MethodName)) ∈ TB := tb9 49 rfl rfl
theorem w9_50 : (Jvm.Cond.instanceMethod ({ cls := "SlateHandsModel", name := "saves", desc := "(III)I" } : Jvm.MethodName)) ∈ TB := tb9 50 rfl rfl
theorem w9_51 : (Jvm.Cond.selects "SlateHandsModel" ({ cls := "SlateHandsModel", name := "saves", desc := "(III)I" } : Jvm.MethodName) ({ cls := "SlateHandsModel", name := "saves", desc := "(III)I" } : Jvm.MethodName)) ∈ TB := tb9 51 rfl rfl
theorem w9_52 : (Jvm.Cond.code ({ cls := "SlateHandsModel", name := "saves", desc := "(III)I" } : Jvm.MethodName) prog_14_method_100_code (7 : Nat) (Option.some Jvm.ClassFile.FieldType.int)) ∈ TB := tb9 52 rfl rfl
theorem w9_53 : (Jvm.Cond.methodLink "SlateHandsLaw" (145 : Nat) ({ cls := "SlateHandsModel", name := "can", desc := "(II)I" } : Jvm.MethodName)) ∈ TB := tb9 53 rfl rfl
theorem w9_54 : (Jvm.Cond.instanceMethod ({ cls := "SlateHandsModel", name := "can", desc := "(II)I" } : Jvm.MethodName)) ∈ TB := tb9 54 rfl rfl
theorem w9_55 : (Jvm.Cond.selects "SlateHandsModel" ({ cls := "SlateHandsModel", name := "can", desc := "(II)I" } : Jvm.MethodName) ({ cls := "SlateHandsModel", name := "can", desc := "(II)I" } : Jvm.MethodName)) ∈ TB := tb9 55 rfl rfl
theorem w9_56 : (Jvm.Cond.code ({ cls := "SlateHandsModel", name := "can", desc := "(II)I" } : Jvm.MethodName) prog_14_method_102_code (3 : Nat) (Option.some Jvm.ClassFile.FieldType.int)) ∈ TB := tb9 56 rfl rfl
theorem w9_57 : (Jvm.Cond.methodLink "SlateHandsModel" (415 : Nat) ({ cls := "SlateHandsModel", name := "canOf", desc := "(II)I" } : Jvm.MethodName)) ∈ TB := tb9 57 rfl rfl
theorem w9_59 : (Jvm.Cond.instanceMethod ({ cls := "SlateHandsModel", name := "canOf", desc := "(II)I" } : Jvm.MethodName)) ∈ TB := tb9 59 rfl rfl
theorem w9_60 : (Jvm.Cond.code ({ cls := "SlateHandsModel", name := "canOf", desc := "(II)I" } : Jvm.MethodName) prog_14_method_101_code (5 : Nat) (Option.some Jvm.ClassFile.FieldType.int)) ∈ TB := tb9 60 rfl rfl
theorem w9_61 : (Jvm.Cond.methodLink "SlateHandsLaw" (149 : Nat) ({ cls := "SlateHandsModel", name := "needs", desc := "(II)I" } : Jvm.MethodName)) ∈ TB := tb9 61 rfl rfl
theorem w9_62 : (Jvm.Cond.instanceMethod ({ cls := "SlateHandsModel", name := "needs", desc := "(II)I" } : Jvm.MethodName)) ∈ TB := tb9 62 rfl rfl
theorem w9_63 : (Jvm.Cond.selects "SlateHandsModel" ({ cls := "SlateHandsModel", name := "needs", desc := "(II)I" } : Jvm.MethodName) ({ cls := "SlateHandsModel", name := "needs", desc := "(II)I" } : Jvm.MethodName)) ∈ TB := tb9 63 rfl rfl
theorem w9_64 : (Jvm.Cond.code ({ cls := "SlateHandsModel", name := "needs", desc := "(II)I" } : Jvm.MethodName) prog_14_method_103_code (4 : Nat) (Option.some Jvm.ClassFile.FieldType.int)) ∈ TB := tb9 64 rfl rfl
theorem w9_65 : (Jvm.Cond.methodLink "SlateHandsLaw" (153 : Nat) ({ cls := "SlateHandsModel", name := "porter", desc := "(II)I" } : Jvm.MethodName)) ∈ TB := tb9 65 rfl rfl
theorem w9_66 : (Jvm.Cond.instanceMethod ({ cls := "SlateHandsModel", name := "porter", desc := "(II)I" } : Jvm.MethodName)) ∈ TB := tb9 66 rfl rfl
theorem w9_67 : (Jvm.Cond.selects "SlateHandsModel" ({ cls := "SlateHandsModel", name := "porter", desc := "(II)I" } : Jvm.MethodName) ({ cls := "SlateHandsModel", name := "porter", desc := "(II)I" } : Jvm.MethodName)) ∈ TB := tb9 67 rfl rfl
theorem w9_68 : (Jvm.Cond.code ({ cls := "SlateHandsModel", name := "porter", desc := "(II)I" } : Jvm.MethodName) prog_14_method_104_code (6 : Nat) (Option.some Jvm.ClassFile.FieldType.int)) ∈ TB := tb9 68 rfl rfl
theorem w9_69 : (Jvm.Cond.methodLink "SlateHandsLaw" (157 : Nat) ({ cls := "SlateHandsModel", name := "tells", desc := "(III)I" } : Jvm.MethodName)) ∈ TB := tb9 69 rfl rfl
theorem w9_70 : (Jvm.Cond.instanceMethod ({ cls := "SlateHandsModel", name := "tells", desc := "(III)I" } : Jvm.MethodName)) ∈ TB := tb9 70 rfl rfl
theorem w9_71 : (Jvm.Cond.selects "SlateHandsModel" ({ cls := "SlateHandsModel", name := "tells", desc := "(III)I" } : Jvm.MethodName) ({ cls := "SlateHandsModel", name := "tells", desc := "(III)I" } : Jvm.MethodName)) ∈ TB := tb9 71 rfl rfl
theorem w9_72 : (Jvm.Cond.code ({ cls := "SlateHandsModel", name := "tells", desc := "(III)I" } : Jvm.MethodName) prog_14_method_106_code (6 : Nat) (Option.some Jvm.ClassFile.FieldType.int)) ∈ TB := tb9 72 rfl rfl
theorem w9_73 : (Jvm.Cond.constantLong "SlateHandsModel" (418 : Nat) (7 : Int64)) ∈ TB := tb9 73 rfl rfl
theorem w9_74 : (Jvm.Cond.methodLink "SlateHandsModel" (420 : Nat) ({ cls := "SlateHandsModel", name := "knowing", desc := "(I)I" } : Jvm.MethodName)) ∈ TB := tb9 74 rfl rfl
theorem w9_76 : (Jvm.Cond.instanceMethod ({ cls := "SlateHandsModel", name := "knowing", desc := "(I)I" } : Jvm.MethodName)) ∈ TB := tb9 76 rfl rfl
theorem w9_77 : (Jvm.Cond.code ({ cls := "SlateHandsModel", name := "knowing", desc := "(I)I" } : Jvm.MethodName) prog_14_method_105_code (4 : Nat) (Option.some Jvm.ClassFile.FieldType.int)) ∈ TB := tb9 77 rfl rfl
theorem w9_78 : (Jvm.Cond.methodLink "SlateHandsLaw" (161 : Nat) ({ cls := "SlateHandsModel", name := "cart", desc := "(III)I" } : Jvm.MethodName)) ∈ TB := tb9 78 rfl rfl
theorem w9_79 : (Jvm.Cond.instanceMethod ({ cls := "SlateHandsModel", name := "cart", desc := "(III)I" } : Jvm.MethodName)) ∈ TB := tb9 79 rfl rfl
theorem w9_80 : (Jvm.Cond.selects "SlateHandsModel" ({ cls := "SlateHandsModel", name := "cart", desc := "(III)I" } : Jvm.MethodName) ({ cls := "SlateHandsModel", name := "cart", desc := "(III)I" } : Jvm.MethodName)) ∈ TB := tb9 80 rfl rfl
theorem w9_81 : (Jvm.Cond.code ({ cls := "SlateHandsModel", name := "cart", desc := "(III)I" } : Jvm.MethodName) prog_14_method_107_code (4 : Nat) (Option.some Jvm.ClassFile.FieldType.int)) ∈ TB := tb9 81 rfl rfl
theorem w9_82 : (Jvm.Cond.methodLink "SlateHandsLaw" (165 : Nat) ({ cls := "SlateHandsModel", name := "four", desc := "(II)I" } : Jvm.MethodName)) ∈ TB := tb9 82 rfl rfl
theorem w9_83 : (Jvm.Cond.instanceMethod ({ cls := "SlateHandsModel", name := "four", desc := "(II)I" } : Jvm.MethodName)) ∈ TB := tb9 83 rfl rfl
theorem w9_84 : (Jvm.Cond.selects "SlateHandsModel" ({ cls := "SlateHandsModel", name := "four", desc := "(II)I" } : Jvm.MethodName) ({ cls := "SlateHandsModel", name := "four", desc := "(II)I" } : Jvm.MethodName)) ∈ TB := tb9 84 rfl rfl
theorem w9_85 : (Jvm.Cond.code ({ cls := "SlateHandsModel", name := "four", desc := "(II)I" } : Jvm.MethodName) prog_14_method_108_code (5 : Nat) (Option.some Jvm.ClassFile.FieldType.int)) ∈ TB := tb9 85 rfl rfl
theorem w9_86 : (Jvm.Cond.methodLink "SlateHandsLaw" (169 : Nat) ({ cls := "SlateHandsModel", name := "share", desc := "(III)I" } : Jvm.MethodName)) ∈ TB := tb9 86 rfl rfl
theorem w9_87 : (Jvm.Cond.instanceMethod ({ cls := "SlateHandsModel", name := "share", desc := "(III)I" } : Jvm.MethodName)) ∈ TB := tb9 87 rfl rfl
theorem w9_88 : (Jvm.Cond.selects "SlateHandsModel" ({ cls := "SlateHandsModel", name := "share", desc := "(III)I" } : Jvm.MethodName) ({ cls := "SlateHandsModel", name := "share", desc := "(III)I" } : Jvm.MethodName)) ∈ TB := tb9 88 rfl rfl
theorem w9_89 : (Jvm.Cond.code ({ cls := "SlateHandsModel", name := "share", desc := "(III)I" } : Jvm.MethodName) prog_14_method_113_code (7 : Nat) (Option.some Jvm.ClassFile.FieldType.int)) ∈ TB := tb9 89 rfl rfl
theorem w9_90 : (Jvm.Cond.methodLink "SlateHandsModel" (423 : Nat) ({ cls := "SlateHandsModel", name := "times", desc := "(I)I" } : Jvm.MethodName)) ∈ TB := tb9 90 rfl rfl
theorem w9_91 : (Jvm.Cond.static ({ cls := "SlateHandsModel", name := "times", desc := "(I)I" } : Jvm.MethodName)) ∈ TB := tb9 91 rfl rfl
theorem w9_92 : (Jvm.Cond.code ({ cls := "SlateHandsModel", name := "times", desc := "(I)I" } : Jvm.MethodName) prog_14_method_110_code (1 : Nat) (Option.some Jvm.ClassFile.FieldType.int)) ∈ TB := tb9 92 rfl rfl
theorem w9_93 : (Jvm.Cond.methodLink "SlateHandsModel" (430 : Nat) ({ cls := "SlateHandsModel", name := "worthOf", desc := "(II)I" } : Jvm.MethodName)) ∈ TB := tb9 93 rfl rfl
theorem w9_95 : (Jvm.Cond.instanceMethod ({ cls := "SlateHandsModel", name := "worthOf", desc := "(II)I" } : Jvm.MethodName)) ∈ TB := tb9 95 rfl rfl
theorem w9_96 : (Jvm.Cond.code ({ cls := "SlateHandsModel", name := "worthOf", desc := "(II)I" } : Jvm.MethodName) prog_14_method_109_code (3 : Nat) (Option.some Jvm.ClassFile.FieldType.int)) ∈ TB := tb9 96 rfl rfl
theorem w9_97 : (Jvm.Cond.methodLink "SlateHandsModel" (433 : Nat) ({ cls := "SlateHandsModel", name := "part", desc := "(JJI)J" } : Jvm.MethodName)) ∈ TB := tb9 97 rfl rfl
theorem w9_98 : (Jvm.Cond.static ({ cls := "SlateHandsModel", name := "part", desc := "(JJI)J" } : Jvm.MethodName)) ∈ TB := tb9 98 rfl rfl
theorem w9_99 : (Jvm.Cond.code ({ cls := "SlateHandsModel", name := "part", desc := "(JJI)J" } : Jvm.MethodName) prog_14_method_112_code (5 : Nat) (Option.some Jvm.ClassFile.FieldType.long)) ∈ TB := tb9 99 rfl rfl
theorem w9_100 : (Jvm.Cond.methodLink "SlateHandsModel" (426 : Nat) ({ cls := "SlateHandsModel", name := "common", desc := "(JJ)J" } : Jvm.MethodName)) ∈ TB := tb9 100 rfl rfl
theorem w9_101 : (Jvm.Cond.static ({ cls := "SlateHandsModel", name := "common", desc := "(JJ)J" } : Jvm.MethodName)) ∈ TB := tb9 101 rfl rfl
theorem w9_102 : (Jvm.Cond.code ({ cls := "SlateHandsModel", name := "common", desc := "(JJ)J" } : Jvm.MethodName) prog_14_method_111_code (4 : Nat) (Option.some Jvm.ClassFile.FieldType.long)) ∈ TB := tb9 102 rfl rfl
theorem w9_103 : (Jvm.Cond.methodLink "SlateHandsLaw" (173 : Nat) ({ cls := "SlateHandsModel", name := "block", desc := "(I)I" } : Jvm.MethodName)) ∈ TB := tb9 103 rfl rfl
theorem w9_104 : (Jvm.Cond.instanceMethod ({ cls := "SlateHandsModel", name := "block", desc := "(I)I" } : Jvm.MethodName)) ∈ TB := tb9 104 rfl rfl
theorem w9_105 : (Jvm.Cond.selects "SlateHandsModel" ({ cls := "SlateHandsModel", name := "block", desc := "(I)I" } : Jvm.MethodName) ({ cls := "SlateHandsModel", name := "block", desc := "(I)I" } : Jvm.MethodName)) ∈ TB := tb9 105 rfl rfl
theorem w9_106 : (Jvm.Cond.code ({ cls := "SlateHandsModel", name := "block", desc := "(I)I" } : Jvm.MethodName) prog_14_method_114_code (6 : Nat) (Option.some Jvm.ClassFile.FieldType.int)) ∈ TB := tb9 106 rfl rfl
theorem w9_107 : (Jvm.Cond.methodLink "SlateHandsLaw" (177 : Nat) ({ cls := "SlateHandsModel", name := "by", desc := "(II)I" } : Jvm.MethodName)) ∈ TB := tb9 107 rfl rfl
theorem w9_108 : (Jvm.Cond.instanceMethod ({ cls := "SlateHandsModel", name := "by", desc := "(II)I" } : Jvm.MethodName)) ∈ TB := tb9 108 rfl rfl
theorem w9_109 : (Jvm.Cond.selects "SlateHandsModel" ({ cls := "SlateHandsModel", name := "by", desc := "(II)I" } : Jvm.MethodName) ({ cls := "SlateHandsModel", name := "by", desc := "(II)I" } : Jvm.MethodName)) ∈ TB := tb9 109 rfl rfl
theorem w9_110 : (Jvm.Cond.code ({ cls := "SlateHandsModel", name := "by", desc := "(II)I" } : Jvm.MethodName) prog_14_method_116_code (3 : Nat) (Option.some Jvm.ClassFile.FieldType.int)) ∈ TB := tb9 110 rfl rfl
theorem w9_111 : (Jvm.Cond.methodLink "SlateHandsModel" (437 : Nat) ({ cls := "SlateHandsModel", name := "runsBy", desc := "(I)V" } : Jvm.MethodName)) ∈ TB := tb9 111 rfl rfl
theorem w9_113 : (Jvm.Cond.instanceMethod ({ cls := "SlateHandsModel", name := "runsBy", desc := "(I)V" } : Jvm.MethodName)) ∈ TB := tb9 113 rfl rfl
theorem w9_114 : (Jvm.Cond.code ({ cls := "SlateHandsModel", name := "runsBy", desc := "(I)V" } : Jvm.MethodName) prog_14_method_115_code (2 : Nat) (Option.none : Option Jvm.ClassFile.FieldType)) ∈ TB := tb9 114 rfl rfl
theorem w9_115 : (Jvm.Cond.methodLink "SlateHandsLaw" (181 : Nat) ({ cls := "SlateHandsModel", name := "law", desc := "(I)I" } : Jvm.MethodName)) ∈ TB := tb9 115 rfl rfl
theorem w9_116 : (Jvm.Cond.instanceMethod ({ cls := "SlateHandsModel", name := "law", desc := "(I)I" } : Jvm.MethodName)) ∈ TB := tb9 116 rfl rfl
theorem w9_117 : (Jvm.Cond.selects "SlateHandsModel" ({ cls := "SlateHandsModel", name := "law", desc := "(I)I" } : Jvm.MethodName) ({ cls := "SlateHandsModel", name := "law", desc := "(I)I" } : Jvm.MethodName)) ∈ TB := tb9 117 rfl rfl
theorem w9_118 : (Jvm.Cond.code ({ cls := "SlateHandsModel", name := "law", desc := "(I)I" } : Jvm.MethodName) prog_14_method_117_code (6 : Nat) (Option.some Jvm.ClassFile.FieldType.int)) ∈ TB := tb9 118 rfl rfl
theorem w9_119 : (Jvm.Cond.methodLink "SlateHandsLaw" (201 : Nat) ({ cls := "SlateHandsModel", name := "beside", desc := "(I)I" } : Jvm.MethodName)) ∈ TB := tb9 119 rfl rfl
theorem w9_120 : (Jvm.Cond.instanceMethod ({ cls := "SlateHandsModel", name := "beside", desc := "(I)I" } : Jvm.MethodName)) ∈ TB := tb9 120 rfl rfl
theorem w9_121 : (Jvm.Cond.selects "SlateHandsModel" ({ cls := "SlateHandsModel", name := "beside", desc := "(I)I" } : Jvm.MethodName) ({ cls := "SlateHandsModel", name := "beside", desc := "(I)I" } : Jvm.MethodName)) ∈ TB := tb9 121 rfl rfl
theorem w9_122 : (Jvm.Cond.code ({ cls := "SlateHandsModel", name := "beside", desc := "(I)I" } : Jvm.MethodName) prog_14_method_118_code (6 : Nat) (Option.some Jvm.ClassFile.FieldType.int)) ∈ TB := tb9 122 rfl rfl
theorem w9_123 : (Jvm.Cond.methodLink "SlateHandsLaw" (185 : Nat) ({ cls := "SlateHandsModel", name := "firsts", desc := "(II)I" } : Jvm.MethodName)) ∈ TB := tb9 123 rfl rfl
theorem w9_124 : (Jvm.Cond.instanceMethod ({ cls := "SlateHandsModel", name := "firsts", desc := "(II)I" } : Jvm.MethodName)) ∈ TB := tb9 124 rfl rfl
theorem w9_125 : (Jvm.Cond.selects "SlateHandsModel" ({ cls := "SlateHandsModel", name := "firsts", desc := "(II)I" } : Jvm.MethodName) ({ cls := "SlateHandsModel", name := "firsts", desc := "(II)I" } : Jvm.MethodName)) ∈ TB := tb9 125 rfl rfl
theorem w9_126 : (Jvm.Cond.code ({ cls := "SlateHandsModel", name := "firsts", desc := "(II)I" } : Jvm.MethodName) prog_14_method_122_code (4 : Nat) (Option.some Jvm.ClassFile.FieldType.int)) ∈ TB := tb9 126 rfl rfl
theorem w9_127 : (Jvm.Cond.methodLink "SlateHandsModel" (452 : Nat) ({ cls := "SlateHandsModel", name := "whyNotSeen", desc := "(II)I" } : Jvm.MethodName)) ∈ TB := tb9 127 rfl rfl
theorem w9_129 : (Jvm.Cond.instanceMethod ({ cls := "SlateHandsModel", name := "whyNotSeen", desc := "(II)I" } : Jvm.MethodName)) ∈ TB := tb9 129 rfl rfl
theorem w9_130 : (Jvm.Cond.code ({ cls := "SlateHandsModel", name := "whyNotSeen", desc := "(II)I" } : Jvm.MethodName) prog_14_method_119_code (4 : Nat) (Option.some Jvm.ClassFile.FieldType.int)) ∈ TB := tb9 130 rfl rfl
theorem w9_131 : (Jvm.Cond.methodLink "SlateHandsModel" (455 : Nat) ({ cls := "SlateHandsModel", name := "laysSeen", desc := "(II)V" } : Jvm.MethodName)) ∈ TB := tb9 131 rfl rfl
theorem w9_133 : (Jvm.Cond.instanceMethod ({ cls := "SlateHandsModel", name := "laysSeen", desc := "(II)V" } : Jvm.MethodName)) ∈ TB := tb9 133 rfl rfl
theorem w9_134 : (Jvm.Cond.code ({ cls := "SlateHandsModel", name := "laysSeen", desc := "(II)V" } : Jvm.MethodName) prog_14_method_121_code (6 : Nat) (Option.none : Option Jvm.ClassFile.FieldType)) ∈ TB := tb9 134 rfl rfl
theorem w9_135 : (Jvm.Cond.methodLink "SlateHandsModel" (443 : Nat) ({ cls := "SlateHandsModel", name := "isSo", desc := "(II)Z" } : Jvm.MethodName)) ∈ TB := tb9 135 rfl rfl
theorem w9_137 : (Jvm.Cond.instanceMethod ({ cls := "SlateHandsModel", name := "isSo", desc := "(II)Z" } : Jvm.MethodName)) ∈ TB := tb9 137 rfl rfl
theorem w9_138 : (Jvm.Cond.code ({ cls := "SlateHandsModel", name := "isSo", desc := "(II)Z" } : Jvm.MethodName) prog_14_method_120_code (4 : Nat) (Option.some Jvm.ClassFile.FieldType.boolean)) ∈ TB := tb9 138 rfl rfl
theorem w9_139 : (Jvm.Cond.methodLink "SlateHandsLaw" (189 : Nat) ({ cls := "SlateHandsModel", name := "ask", desc := "(II)I" } : Jvm.MethodName)) ∈ TB := tb9 139 rfl rfl
theorem w9_140 : (Jvm.Cond.instanceMethod ({ cls := "SlateHandsModel", name := "ask", desc := "(II)I" } : Jvm.MethodName)) ∈ TB := tb9 140 rfl rfl
theorem w9_141 : (Jvm.Cond.selects "SlateHandsModel" ({ cls := "SlateHandsModel", name := "ask", desc := "(II)I" } : Jvm.MethodName) ({ cls := "SlateHandsModel", name := "ask", desc := "(II)I" } : Jvm.MethodName)) ∈ TB := tb9 141 rfl rfl
theorem w9_142 : (Jvm.Cond.code ({ cls := "SlateHandsModel", name := "ask", desc := "(II)I" } : Jvm.MethodName) prog_14_method_123_code (4 : Nat) (Option.some Jvm.ClassFile.FieldType.int)) ∈ TB := tb9 142 rfl rfl
theorem w9_143 : (Jvm.Cond.methodLink "SlateHandsLaw" (193 : Nat) ({ cls := "SlateHandsModel", name := "leaves", desc := "(II)I" } : Jvm.MethodName)) ∈ TB := tb9 143 rfl rfl
theorem w9_144 : (Jvm.Cond.instanceMethod ({ cls := "SlateHandsModel", name := "leaves", desc := "(II)I" } : Jvm.MethodName)) ∈ TB := tb9 144 rfl rfl
theorem w9_145 : (Jvm.Cond.selects "SlateHandsModel" ({ cls := "SlateHandsModel", name := "leaves", desc := "(II)I" } : Jvm.MethodName) ({ cls := "SlateHandsModel", name := "leaves", desc := "(II)I" } : Jvm.MethodName)) ∈ TB := tb9 145 rfl rfl
theorem w9_146 : (Jvm.Cond.code ({ cls := "SlateHandsModel", name := "leaves", desc := "(II)I" } : Jvm.MethodName) prog_14_method_124_code (4 : Nat) (Option.some Jvm.ClassFile.FieldType.int)) ∈ TB := tb9 146 rfl rfl
theorem w9_147 : (Jvm.Cond.methodLink "SlateHandsLaw" (197 : Nat) ({ cls := "SlateHandsModel", name := "laws", desc := "(II)I" } : Jvm.MethodName)) ∈ TB := tb9 147 rfl rfl
theorem w9_148 : (Jvm.Cond.instanceMethod ({ cls := "SlateHandsModel", name := "laws", desc := "(II)I" } : Jvm.MethodName)) ∈ TB := tb9 148 rfl rfl
theorem w9_149 : (Jvm.Cond.selects "SlateHandsModel" ({ cls := "SlateHandsModel", name := "laws", desc := "(II)I" } : Jvm.MethodName) ({ cls := "SlateHandsModel", name := "laws", desc := "(II)I" } : Jvm.MethodName)) ∈ TB := tb9 149 rfl rfl
theorem w9_150 : (Jvm.Cond.code ({ cls := "SlateHandsModel", name := "laws", desc := "(II)I" } : Jvm.MethodName) prog_14_method_125_code (7 : Nat) (Option.some Jvm.ClassFile.FieldType.int)) ∈ TB := tb9 150 rfl rfl
theorem w9_151 : (Jvm.Cond.methodLink "SlateHandsLaw" (205 : Nat) ({ cls := "SlateHandsModel", name := "rests", desc := "(III)I" } : Jvm.MethodName)) ∈ TB := tb9 151 rfl rfl
theorem w9_152 : (Jvm.Cond.instanceMethod ({ cls := "SlateHandsModel", name := "rests", desc := "(III)I" } : Jvm.MethodName)) ∈ TB := tb9 152 rfl rfl
theorem w9_153 : (Jvm.Cond.selects "SlateHandsModel" ({ cls := "SlateHandsModel", name := "rests", desc := "(III)I" } : Jvm.MethodName) ({ cls := "SlateHandsModel", name := "rests", desc := "(III)I" } : Jvm.MethodName)) ∈ TB := tb9 153 rfl rfl
theorem w9_154 : (Jvm.Cond.code ({ cls := "SlateHandsModel", name := "rests", desc := "(III)I" } : Jvm.MethodName) prog_14_method_127_code (9 : Nat) (Option.some Jvm.ClassFile.FieldType.int)) ∈ TB := tb9 154 rfl rfl
theorem w9_155 : (Jvm.Cond.methodLink "SlateHandsModel" (458 : Nat) ({ cls := "SlateHandsModel", name := "areTwo", desc := "(II)Z" } : Jvm.MethodName)) ∈ TB := tb9 155 rfl rfl
theorem w9_157 : (Jvm.Cond.instanceMethod ({ cls := "SlateHandsModel", name := "areTwo", desc := "(II)Z" } : Jvm.MethodName)) ∈ TB := tb9 157 rfl rfl
theorem w9_158 : (Jvm.Cond.code ({ cls := "SlateHandsModel", name := "areTwo", desc := "(II)Z" } : Jvm.MethodName) prog_14_method_49_code (3 : Nat) (Option.some Jvm.ClassFile.FieldType.boolean)) ∈ TB := tb9 158 rfl rfl
theorem w9_159 : (Jvm.Cond.methodLink "SlateHandsModel" (461 : Nat) ({ cls := "SlateHandsModel", name := "getsBy", desc := "(IIIIII)I" } : Jvm.MethodName)) ∈ TB := tb9 159 rfl rfl
theorem w9_161 : (Jvm.Cond.instanceMethod ({ cls := "SlateHandsModel", name := "getsBy", desc := "(IIIIII)I" } : Jvm.MethodName)) ∈ TB := tb9 161 rfl rfl
theorem w9_162 : (Jvm.Cond.code ({ cls := "SlateHandsModel", name := "getsBy", desc := "(IIIIII)I" } : Jvm.MethodName) prog_14_method_126_code (7 : Nat) (Option.some Jvm.ClassFile.FieldType.int)) ∈ TB := tb9 162 rfl rfl
theorem w9_163 : (Jvm.Cond.methodLink "SlateHandsLaw" (209 : Nat) ({ cls := "SlateHandsModel", name := "gets", desc := "(IIIII)I" } : Jvm.MethodName)) ∈ TB := tb9 163 rfl rfl
theorem w9_164 : (Jvm.Cond.instanceMethod ({ cls := "SlateHandsModel", name := "gets", desc := "(IIIII)I" } : Jvm.MethodName)) ∈ TB := tb9 164 rfl rfl
theorem w9_165 : (Jvm.Cond.selects "SlateHandsModel" ({ cls := "SlateHandsModel", name := "gets", desc := "(IIIII)I" } : Jvm.MethodName) ({ cls := "SlateHandsModel", name := "gets", desc := "(IIIII)I" } : Jvm.MethodName)) ∈ TB := tb9 165 rfl rfl
theorem w9_166 : (Jvm.Cond.code ({ cls := "SlateHandsModel", name := "gets", desc := "(IIIII)I" } : Jvm.MethodName) prog_14_method_128_code (6 : Nat) (Option.some Jvm.ClassFile.FieldType.int)) ∈ TB := tb9 166 rfl rfl
theorem w9_167 : (Jvm.Cond.methodLink "SlateHandsLaw" (213 : Nat) ({ cls := "SlateHandsModel", name := "chance", desc := "(III)I" } : Jvm.MethodName)) ∈ TB := tb9 167 rfl rfl
theorem w9_168 : (Jvm.Cond.instanceMethod ({ cls := "SlateHandsModel", name := "chance", desc := "(III)I" } : Jvm.MethodName)) ∈ TB := tb9 168 rfl rfl
theorem w9_169 : (Jvm.Cond.selects "SlateHandsModel" ({ cls := "SlateHandsModel", name := "chance", desc := "(III)I" } : Jvm.MethodName) ({ cls := "SlateHandsModel", name := "chance", desc := "(III)I" } : Jvm.MethodName)) ∈ TB := tb9 169 rfl rfl
theorem w9_170 : (Jvm.Cond.code ({ cls := "SlateHandsModel", name := "chance", desc := "(III)I" } : Jvm.MethodName) prog_14_method_131_code (4 : Nat) (Option.some Jvm.ClassFile.FieldType.int)) ∈ TB := tb9 170 rfl rfl
theorem w9_171 : (Jvm.Cond.methodLink "SlateHandsModel" (467 : Nat) ({ cls := "SlateHandsModel", name := "weightOf", desc := "(II)J" } : Jvm.MethodName)) ∈ TB := tb9 171 rfl rfl
theorem w9_173 : (Jvm.Cond.instanceMethod ({ cls := "SlateHandsModel", name := "weightOf", desc := "(II)J" } : Jvm.MethodName)) ∈ TB := tb9 173 rfl rfl
theorem w9_174 : (Jvm.Cond.code ({ cls := "SlateHandsModel", name := "weightOf", desc := "(II)J" } : Jvm.MethodName) prog_14_method_130_code (9 : Nat) (Option.some Jvm.ClassFile.FieldType.long)) ∈ TB := tb9 174 rfl rfl
theorem w9_175 : (Jvm.Cond.methodLink "SlateHandsModel" (471 : Nat) ({ cls := "SlateHandsModel", name := "tens", desc := "()J" } : Jvm.MethodName)) ∈ TB := tb9 175 rfl rfl
theorem w9_177 : (Jvm.Cond.instanceMethod ({ cls := "SlateHandsModel", name := "tens", desc := "()J" } : Jvm.MethodName)) ∈ TB := tb9 177 rfl rfl
theorem w9_178 : (Jvm.Cond.code ({ cls := "SlateHandsModel", name := "tens", desc := "()J" } : Jvm.MethodName) prog_14_method_129_code (4 : Nat) (Option.some Jvm.ClassFile.FieldType.long)) ∈ TB := tb9 178 rfl rfl
theorem w9_179 : (Jvm.Cond.constantLong "SlateHandsModel" (465 : Nat) (10 : Int64)) ∈ TB := tb9 179 rfl rfl
theorem w9_180 : (Jvm.Cond.methodLink "SlateHandsLaw" (218 : Nat) ({ cls := "SlateHandsModel", name := "mean", desc := "(II)J" } : Jvm.MethodName)) ∈ TB := tb9 180 rfl rfl
theorem w9_181 : (Jvm.Cond.instanceMethod ({ cls := "SlateHandsModel", name := "mean", desc := "(II)J" } : Jvm.MethodName)) ∈ TB := tb9 181 rfl rfl
theorem w9_182 : (Jvm.Cond.selects "SlateHandsModel" ({ cls := "SlateHandsModel", name := "mean", desc := "(II)J" } : Jvm.MethodName) ({ cls := "SlateHandsModel", name := "mean", desc := "(II)J" } : Jvm.MethodName)) ∈ TB := tb9 182 rfl rfl
theorem w9_183 : (Jvm.Cond.code ({ cls := "SlateHandsModel", name := "mean", desc := "(II)J" } : Jvm.MethodName) prog_14_method_132_code (3 : Nat) (Option.some Jvm.ClassFile.FieldType.long)) ∈ TB := tb9 183 rfl rfl
theorem w9_184 : (Jvm.Cond.constantLong "SlateHandsModel" (475 : Nat) (-2 : Int64)) ∈ TB := tb9 184 rfl rfl
theorem w9_185 : (Jvm.Cond.constantLong "SlateHandsModel" (477 : Nat) (-3 : Int64)) ∈ TB := tb9 185 rfl rfl
theorem w9_186 : (Jvm.Cond.methodLink "SlateHandsLaw" (239 : Nat) ({ cls := "SlateHandsModel", name := "drawn", desc := "(II)I" } : Jvm.MethodName)) ∈ TB := tb9 186 rfl rfl
theorem w9_187 : (Jvm.Cond.instanceMethod ({ cls := "SlateHandsModel", name := "drawn", desc := "(II)I" } : Jvm.MethodName)) ∈ TB := tb9 187 rfl rfl
theorem w9_188 : (Jvm.Cond.selects "SlateHandsModel" ({ cls := "SlateHandsModel", name := "drawn", desc := "(II)I" } : Jvm.MethodName) ({ cls := "SlateHandsModel", name := "drawn", desc := "(II)I" } : Jvm.MethodName)) ∈ TB := tb9 188 rfl rfl
theorem w9_189 : (Jvm.Cond.code ({ cls := "SlateHandsModel", name := "drawn", desc := "(II)I" } : Jvm.MethodName) prog_14_method_135_code (5 : Nat) (Option.some Jvm.ClassFile.FieldType.int)) ∈ TB := tb9 189 rfl rfl
theorem w9_190 : (Jvm.Cond.methodLink "SlateHandsModel" (489 : Nat) ({ cls := "SlateHandsModel", name := "isSeed", desc := "(I)Z" } : Jvm.MethodName)) ∈ TB := tb9 190 rfl rfl
theorem w9_191 : (Jvm.Cond.static ({ cls := "SlateHandsModel", name := "isSeed", desc := "(I)Z" } : Jvm.MethodName)) ∈ TB := tb9 191 rfl rfl
theorem w9_192 : (Jvm.Cond.code ({ cls := "SlateHandsModel", name := "isSeed", desc := "(I)Z" } : Jvm.MethodName) prog_14_method_134_code (1 : Nat) (Option.some Jvm.ClassFile.FieldType.boolean)) ∈ TB := tb9 192 rfl rfl
theorem w9_193 : (Jvm.Cond.constantLong "SlateHandsModel" (487 : Nat) (2000000000 : Int64)) ∈ TB := tb9 193 rfl rfl
theorem w9_194 : (Jvm.Cond.methodLink "SlateHandsModel" (492 : Nat) ({ cls := "SlateHandsModel", name := "draws", desc := "(J)V" } : Jvm.MethodName)) ∈ TB := tb9 194 rfl rfl
theorem w9_196 : (Jvm.Cond.instanceMethod ({ cls := "SlateHandsModel", name := "draws", desc := "(J)V" } : Jvm.MethodName)) ∈ TB := tb9 196 rfl rfl
theorem w9_197 : (Jvm.Cond.code ({ cls := "SlateHandsModel", name := "draws", desc := "(J)V" } : Jvm.MethodName) prog_14_method_133_code (6 : Nat) (Option.none : Option Jvm.ClassFile.FieldType)) ∈ TB := tb9 197 rfl rfl
theorem w9_198 : (Jvm.Cond.constantLong "SlateHandsModel" (479 : Nat) (1103515245 : Int64)) ∈ TB := tb9 198 rfl rfl
theorem w9_199 : (Jvm.Cond.constantLong "SlateHandsModel" (481 : Nat) (12345 : Int64)) ∈ TB := tb9 199 rfl rfl
theorem w9_200 : (Jvm.Cond.constantLong "SlateHandsModel" (483 : Nat) (2147483648 : Int64)) ∈ TB := tb9 200 rfl rfl
theorem w9_201 : (Jvm.Cond.constantLong "SlateHandsModel" (485 : Nat) (65536 : Int64)) ∈ TB := tb9 201 rfl rfl
theorem w9_202 : (Jvm.Cond.methodLink "SlateHandsLaw" (243 : Nat) ({ cls := "SlateHandsModel", name := "luck", desc := "(IIII)I" } : Jvm.MethodName)) ∈ TB := tb9 202 rfl rfl
theorem w9_203 : (Jvm.Cond.instanceMethod ({ cls := "SlateHandsModel", name := "luck", desc := "(IIII)I" } : Jvm.MethodName)) ∈ TB := tb9 203 rfl rfl
theorem w9_204 : (Jvm.Cond.selects "SlateHandsModel" ({ cls := "SlateHandsModel", name := "luck", desc := "(IIII)I" } : Jvm.MethodName) ({ cls := "SlateHandsModel", name := "luck", desc := "(IIII)I" } : Jvm.MethodName)) ∈ TB := tb9 204 rfl rfl
theorem w9_205 : (Jvm.Cond.code ({ cls := "SlateHandsModel", name := "luck", desc := "(IIII)I" } : Jvm.MethodName) prog_14_method_136_code (7 : Nat) (Option.some Jvm.ClassFile.FieldType.int)) ∈ TB := tb9 205 rfl rfl
theorem w9_206 : (Jvm.Cond.constantLong "SlateHandsModel" (495 : Nat) (20 : Int64)) ∈ TB := tb9 206 rfl rfl
theorem w9_207 : (Jvm.Cond.methodLink "SlateHandsLaw" (223 : Nat) ({ cls := "SlateHandsModel", name := "carry", desc := "(IIII)I" } : Jvm.MethodName)) ∈ TB := tb9 207 rfl rfl
theorem w9_208 : (Jvm.Cond.instanceMethod ({ cls := "SlateHandsModel", name := "carry", desc := "(IIII)I" } : Jvm.MethodName)) ∈ TB := tb9 208 rfl rfl
theorem w9_209 : (Jvm.Cond.selects "SlateHandsModel" ({ cls := "SlateHandsModel", name := "carry", desc := "(IIII)I" } : Jvm.MethodName) ({ cls := "SlateHandsModel", name := "carry", desc := "(IIII)I" } : Jvm.MethodName)) ∈ TB := tb9 209 rfl rfl
theorem w9_210 : (Jvm.Cond.code ({ cls := "SlateHandsModel", name := "carry", desc := "(IIII)I" } : Jvm.MethodName) prog_14_method_138_code (5 : Nat) (Option.some Jvm.ClassFile.FieldType.int)) ∈ TB := tb9 210 rfl rfl
theorem w9_211 : (Jvm.Cond.methodLink "SlateHandsModel" (497 : Nat) ({ cls := "SlateHandsModel", name := "adds", desc := "(IIII)V" } : Jvm.MethodName)) ∈ TB := tb9 211 rfl rfl
theorem w9_213 : (Jvm.Cond.instanceMethod ({ cls := "SlateHandsModel", name := "adds", desc := "(IIII)V" } : Jvm.MethodName)) ∈ TB := tb9 213 rfl rfl
theorem w9_214 : (Jvm.Cond.code ({ cls := "SlateHandsModel", name := "adds", desc := "(IIII)V" } : Jvm.MethodName) prog_14_method_137_code (6 : Nat) (Option.none : Option Jvm.ClassFile.FieldType)) ∈ TB := tb9 214 rfl rfl
theorem w9_215 : (Jvm.Cond.methodLink "SlateHandsLaw" (227 : Nat) ({ cls := "SlateHandsModel", name := "rub", desc := "(II)I" } : Jvm.MethodName)) ∈ TB := tb9 215 rfl rfl
theorem w9_216 : (Jvm.Cond.instanceMethod ({ cls := "SlateHandsModel", name := "rub", desc := "(II)I" } : Jvm.MethodName)) ∈ TB := tb9 216 rfl rfl
theorem w9_217 : (Jvm.Cond.selects "SlateHandsModel" ({ cls := "SlateHandsModel", name := "rub", desc := "(II)I" } : Jvm.MethodName) ({ cls := "SlateHandsModel", name := "rub", desc := "(II)I" } : Jvm.MethodName)) ∈ TB := tb9 217 rfl rfl
theorem w9_218 : (Jvm.Cond.code ({ cls := "SlateHandsModel", name := "rub", desc := "(II)I" } : Jvm.MethodName) prog_14_method_139_code (4 : Nat) (Option.some Jvm.ClassFile.FieldType.int)) ∈ TB := tb9 218 rfl rfl
theorem w9_219 : (Jvm.Cond.methodLink "SlateHandsLaw" (231 : Nat) ({ cls := "SlateHandsModel", name := "undo", desc := "()I" } : Jvm.MethodName)) ∈ TB := tb9 219 rfl rfl
theorem w9_220 : (Jvm.Cond.instanceMethod ({ cls := "SlateHandsModel", name := "undo", desc := "()I" } : Jvm.MethodName)) ∈ TB := tb9 220 rfl rfl
theorem w9_221 : (Jvm.Cond.selects "SlateHandsModel" ({ cls := "SlateHandsModel", name := "undo", desc := "()I" } : Jvm.MethodName) ({ cls := "SlateHandsModel", name := "undo", desc := "()I" } : Jvm.MethodName)) ∈ TB := tb9 221 rfl rfl
theorem w9_222 : (Jvm.Cond.code ({ cls := "SlateHandsModel", name := "undo", desc := "()I" } : Jvm.MethodName) prog_14_method_140_code (1 : Nat) (Option.some Jvm.ClassFile.FieldType.int)) ∈ TB := tb9 222 rfl rfl
theorem w9_223 : (Jvm.Cond.methodLink "SlateHandsLaw" (235 : Nat) ({ cls := "SlateHandsModel", name := "anew", desc := "()I" } : Jvm.MethodName)) ∈ TB := tb9 223 rfl rfl
theorem w9_224 : (Jvm.Cond.instanceMethod ({ cls := "SlateHandsModel", name := "anew", desc := "()I" } : Jvm.MethodName)) ∈ TB := tb9 224 rfl rfl
theorem w9_225 : (Jvm.Cond.selects "SlateHandsModel" ({ cls := "SlateHandsModel", name := "anew", desc := "()I" } : Jvm.MethodName) ({ cls := "SlateHandsModel", name := "anew", desc := "()I" } : Jvm.MethodName)) ∈ TB := tb9 225 rfl rfl
theorem w9_226 : (Jvm.Cond.code ({ cls := "SlateHandsModel", name := "anew", desc := "()I" } : Jvm.MethodName) prog_14_method_141_code (2 : Nat) (Option.some Jvm.ClassFile.FieldType.int)) ∈ TB := tb9 226 rfl rfl
theorem w9_227 : (Jvm.Cond.methodLink "SlateHandsLaw" (247 : Nat) ({ cls := "SlateHandsModel", name := "rate", desc := "(II)I" } : Jvm.MethodName)) ∈ TB := tb9 227 rfl rfl
theorem w9_228 : (Jvm.Cond.instanceMethod ({ cls := "SlateHandsModel", name := "rate", desc := "(II)I" } : Jvm.MethodName)) ∈ TB := tb9 228 rfl rfl
theorem w9_229 : (Jvm.Cond.selects "SlateHandsModel" ({ cls := "SlateHandsModel", name := "rate", desc := "(II)I" } : Jvm.MethodName) ({ cls := "SlateHandsModel", name := "rate", desc := "(II)I" } : Jvm.MethodName)) ∈ TB := tb9 229 rfl rfl
theorem w9_230 : (Jvm.Cond.code ({ cls := "SlateHandsModel", name := "rate", desc := "(II)I" } : Jvm.MethodName) prog_14_method_142_code (4 : Nat) (Option.some Jvm.ClassFile.FieldType.int)) ∈ TB := tb9 230 rfl rfl
theorem w9_231 : (Jvm.Cond.constantLong "SlateHandsModel" (501 : Nat) (99 : Int64)) ∈ TB := tb9 231 rfl rfl
theorem w9_232 : (Jvm.Cond.methodLink "SlateHandsLaw" (251 : Nat) ({ cls := "SlateHandsModel", name := "count", desc := "(I)I" } : Jvm.MethodName)) ∈ TB := tb9 232 rfl rfl
theorem w9_233 : (Jvm.Cond.instanceMethod ({ cls := "SlateHandsModel", name := "count", desc := "(I)I" } : Jvm.MethodName)) ∈ TB := tb9 233 rfl rfl
theorem w9_234 : (Jvm.Cond.selects "SlateHandsModel" ({ cls := "SlateHandsModel", name := "count", desc := "(I)I" } : Jvm.MethodName) ({ cls := "SlateHandsModel", name := "count", desc := "(I)I" } : Jvm.MethodName)) ∈ TB := tb9 234 rfl rfl
theorem w9_235 : (Jvm.Cond.code ({ cls := "SlateHandsModel", name := "count", desc := "(I)I" } : Jvm.MethodName) prog_14_method_143_code (4 : Nat) (Option.some Jvm.ClassFile.FieldType.int)) ∈ TB := tb9 235 rfl rfl
theorem w9_236 : (Jvm.Cond.constantLong "SlateHandsModel" (503 : Nat) (8 : Int64)) ∈ TB := tb9 236 rfl rfl
theorem w9_237 : (Jvm.Cond.methodLink "SlateHandsLaw" (255 : Nat) ({ cls := "SlateHandsModel", name := "image", desc := "(I)I" } : Jvm.MethodName)) ∈ TB := tb9 237 rfl rfl
theorem w9_238 : (Jvm.Cond.instanceMethod ({ cls := "SlateHandsModel", name := "image", desc := "(I)I" } : Jvm.MethodName)) ∈ TB := tb9 238 rfl rfl
theorem w9_239 : (Jvm.Cond.selects "SlateHandsModel" ({ cls := "SlateHandsModel", name := "image", desc := "(I)I" } : Jvm.MethodName) ({ cls := "SlateHandsModel", name := "image", desc := "(I)I" } : Jvm.MethodName)) ∈ TB := tb9 239 rfl rfl
theorem w10_0 : (Jvm.Cond.code ({ cls := "SlateHandsModel", name := "image", desc := "(I)I" } : Jvm.MethodName) prog_14_method_144_code (2 : Nat) (Option.some Jvm.ClassFile.FieldType.int)) ∈ TB := tb10 0 rfl rfl
theorem w10_1 : (Jvm.Cond.constantLong "SlateHandsModel" (505 : Nat) (2 : Int64)) ∈ TB := tb10 1 rfl rfl
theorem w10_2 : (Jvm.Cond.methodLink "SlateHandsLaw" (259 : Nat) ({ cls := "SlateHandsModel", name := "back", desc := "(I)I" } : Jvm.MethodName)) ∈ TB := tb10 2 rfl rfl
theorem w10_3 : (Jvm.Cond.instanceMethod ({ cls := "SlateHandsModel", name := "back", desc := "(I)I" } : Jvm.MethodName)) ∈ TB := tb10 3 rfl rfl
theorem w10_4 : (Jvm.Cond.selects "SlateHandsModel" ({ cls := "SlateHandsModel", name := "back", desc := "(I)I" } : Jvm.MethodName) ({ cls := "SlateHandsModel", name := "back", desc := "(I)I" } : Jvm.MethodName)) ∈ TB := tb10 4 rfl rfl
theorem w10_5 : (Jvm.Cond.code ({ cls := "SlateHandsModel", name := "back", desc := "(I)I" } : Jvm.MethodName) prog_14_method_145_code (2 : Nat) (Option.some Jvm.ClassFile.FieldType.int)) ∈ TB := tb10 5 rfl rfl
theorem w10_6 : (Jvm.Cond.constantLong "SlateHandsLaw" (264 : Nat) (4294967295 : Int64)) ∈ TB := tb10 6 rfl rfl
theorem w10_7 : (Jvm.Cond.fieldLink "java/lang/String" (9 : Nat) "java/lang/String" "value" "[B") ∈ TB := tb10 7 rfl rfl
theorem w10_8 : (Jvm.Cond.fieldLink "java/lang/String" (15 : Nat) "java/lang/String" "coder" "B") ∈ TB := tb10 8 rfl rfl
def NB : List Cond := [(Jvm.Cond.methodLinkNest "SlateHands" (11 : Nat) ({ cls := "SlateHands$Tape", name := "<init>", desc := "()V" } : Jvm.MethodName) "SlateHands"), (Jvm.Cond.methodLinkNest "SlateHands" (18 : Nat) ({ cls := "SlateHands$Reader", name := "<init>", desc := "()V" } : Jvm.MethodName) "SlateHands"), (Jvm.Cond.methodLinkNest "SlateHands" (25 : Nat) ({ cls := "SlateHands$Port", name := "<init>", desc := "()V" } : Jvm.MethodName) "SlateHands"), (Jvm.Cond.methodLinkNest "SlateHands$Port" (38 : Nat) ({ cls := "SlateHands$Carries", name := "<init>", desc := "()V" } : Jvm.MethodName) "SlateHands"), (Jvm.Cond.methodLinkNest "SlateHands" (39 : Nat) ({ cls := "SlateHands$Slots", name := "<init>", desc := "()V" } : Jvm.MethodName) "SlateHands"), (Jvm.Cond.methodLinkNest "SlateHands" (46 : Nat) ({ cls := "SlateHands$Diary", name := "<init>", desc := "()V" } : Jvm.MethodName) "SlateHands"), (Jvm.Cond.methodLinkNest "SlateHands$Diary" (11 : Nat) ({ cls := "SlateHands$Course", name := "<init>", desc := "()V" } : Jvm.MethodName) "SlateHands"), (Jvm.Cond.methodLinkNest "SlateHands" (56 : Nat) ({ cls := "SlateHands$Paths", name := "<init>", desc := "()V" } : Jvm.MethodName) "SlateHands"), (Jvm.Cond.methodLinkNest "SlateHands" (63 : Nat) ({ cls := "SlateHands$Alone", name := "<init>", desc := "()V" } : Jvm.MethodName) "SlateHands"), (Jvm.Cond.methodLinkNest "SlateHands" (70 : Nat) ({ cls := "SlateHands$Weather", name := "<init>", desc := "()V" } : Jvm.MethodName) "SlateHands"), (Jvm.Cond.methodLinkNest "SlateHands" (77 : Nat) ({ cls := "SlateHands$Seen", name := "<init>", desc := "()V" } : Jvm.MethodName) "SlateHands"), (Jvm.Cond.methodLinkNest "SlateHands$Reader" (136 : Nat) ({ cls := "SlateHands", name := "put", desc := "([III)V" } : Jvm.MethodName) "SlateHands"), (Jvm.Cond.methodLinkNest "SlateHands$Carries" (46 : Nat) ({ cls := "SlateHands", name := "put", desc := "([III)V" } : Jvm.MethodName) "SlateHands"), (Jvm.Cond.methodLinkNest "SlateHands$Port" (85 : Nat) ({ cls := "SlateHands", name := "cell", desc := "([II)I" } : Jvm.MethodName) "SlateHands"), (Jvm.Cond.methodLinkNest "SlateHands$Paths" (15 : Nat) ({ cls := "SlateHands", name := "hasBit", desc := "(II)Z" } : Jvm.MethodName) "SlateHands"), (Jvm.Cond.methodLinkNest "SlateHands$Paths" (29 : Nat) ({ cls := "SlateHands", name := "put", desc := "([III)V" } : Jvm.MethodName) "SlateHands"), (Jvm.Cond.methodLinkNest "SlateHands$Paths" (42 : Nat) ({ cls := "SlateHands", name := "cell", desc := "([II)I" } : Jvm.MethodName) "SlateHands"), (Jvm.Cond.methodLinkNest "SlateHands$Course" (65 : Nat) ({ cls := "SlateHands", name := "cell", desc := "([II)I" } : Jvm.MethodName) "SlateHands"), (Jvm.Cond.methodLinkNest "SlateHands$Course" (69 : Nat) ({ cls := "SlateHands", name := "put", desc := "([III)V" } : Jvm.MethodName) "SlateHands"), (Jvm.Cond.methodLinkNest "SlateHands$Carries" (50 : Nat) ({ cls := "SlateHands", name := "cell", desc := "([II)I" } : Jvm.MethodName) "SlateHands"), (Jvm.Cond.methodLinkNest "SlateHands$Course" (103 : Nat) ({ cls := "SlateHands", name := "hasBit", desc := "(II)Z" } : Jvm.MethodName) "SlateHands"), (Jvm.Cond.methodLinkNest "SlateHands$Port" (113 : Nat) ({ cls := "SlateHands", name := "hasBit", desc := "(II)Z" } : Jvm.MethodName) "SlateHands"), (Jvm.Cond.methodLinkNest "SlateHands$Diary" (54 : Nat) ({ cls := "SlateHands", name := "put", desc := "([III)V" } : Jvm.MethodName) "SlateHands"), (Jvm.Cond.methodLinkNest "SlateHands$Diary" (58 : Nat) ({ cls := "SlateHands", name := "cell", desc := "([II)I" } : Jvm.MethodName) "SlateHands"), (Jvm.Cond.methodLinkNest "SlateHands$Alone" (80 : Nat) ({ cls := "SlateHands", name := "put", desc := "([III)V" } : Jvm.MethodName) "SlateHands"), (Jvm.Cond.methodLinkNest "SlateHands$Alone" (76 : Nat) ({ cls := "SlateHands", name := "cell", desc := "([II)I" } : Jvm.MethodName) "SlateHands"), (Jvm.Cond.methodLinkNest "SlateHands$Alone" (136 : Nat) ({ cls := "SlateHands", name := "hasBit", desc := "(II)Z" } : Jvm.MethodName) "SlateHands"), (Jvm.Cond.methodLinkNest "SlateHands$Slots" (22 : Nat) ({ cls := "SlateHands", name := "cell", desc := "([II)I" } : Jvm.MethodName) "SlateHands"), (Jvm.Cond.methodLinkNest "SlateHands$Seen" (72 : Nat) ({ cls := "SlateHands", name := "put", desc := "([III)V" } : Jvm.MethodName) "SlateHands"), (Jvm.Cond.methodLinkNest "SlateHands$Seen" (88 : Nat) ({ cls := "SlateHands", name := "hasBit", desc := "(II)Z" } : Jvm.MethodName) "SlateHands"), (Jvm.Cond.methodLinkNest "SlateHands$Seen" (92 : Nat) ({ cls := "SlateHands", name := "cell", desc := "([II)I" } : Jvm.MethodName) "SlateHands"), (Jvm.Cond.methodLinkNest "SlateHands$Weather" (94 : Nat) ({ cls := "SlateHands", name := "cell", desc := "([II)I" } : Jvm.MethodName) "SlateHands"), (Jvm.Cond.methodLinkNest "SlateHands$Slots" (33 : Nat) ({ cls := "SlateHands", name := "put", desc := "([III)V" } : Jvm.MethodName) "SlateHands")]
theorem nb_in : ∀ w ∈ NB, w ∈ lw_tbl := by
  intro w hw
  simp only [NB, List.mem_cons, List.not_mem_nil, or_false] at hw
  rcases hw with h | h | h | h | h | h | h | h | h | h | h | h | h | h | h | h | h | h | h | h | h | h | h | h | h | h | h | h | h | h | h | h | h
  · exact h ▸ tr1 32 rfl
  · exact h ▸ tr1 62 rfl
  · exact h ▸ tr1 77 rfl
  · exact h ▸ tr1 83 rfl
  · exact h ▸ tr1 239 rfl
  · exact h ▸ tr2 16 rfl
  · exact h ▸ tr2 22 rfl
  · exact h ▸ tr2 114 rfl
  · exact h ▸ tr2 124 rfl
  · exact h ▸ tr2 185 rfl
  · exact h ▸ tr2 206 rfl
  · exact h ▸ tr3 160 rfl
  · exact h ▸ tr3 191 rfl
  · exact h ▸ tr4 14 rfl
  · exact h ▸ tr4 36 rfl
  · exact h ▸ tr4 54 rfl
  · exact h ▸ tr4 55 rfl
  · exact h ▸ tr4 96 rfl
  · exact h ▸ tr4 97 rfl
  · exact h ▸ tr4 110 rfl
  · exact h ▸ tr4 124 rfl
  · exact h ▸ tr4 134 rfl
  · exact h ▸ tr4 144 rfl
  · exact h ▸ tr4 149 rfl
  · exact h ▸ tr5 60 rfl
  · exact h ▸ tr5 64 rfl
  · exact h ▸ tr5 73 rfl
  · exact h ▸ tr5 206 rfl
  · exact h ▸ tr5 222 rfl
  · exact h ▸ tr6 0 rfl
  · exact h ▸ tr6 1 rfl
  · exact h ▸ tr6 75 rfl
  · exact h ▸ tr6 172 rfl
theorem nb_nest : ∀ w ∈ NB, ∃ a i x h, w = Cond.methodLinkNest a i x h := by
  intro w hw
  simp only [NB, List.mem_cons, List.not_mem_nil, or_false] at hw
  rcases hw with h | h | h | h | h | h | h | h | h | h | h | h | h | h | h | h | h | h | h | h | h | h | h | h | h | h | h | h | h | h | h | h | h
  all_goals exact ⟨_, _, _, _, h⟩
theorem ps_T {q : MethodName × Nat} (h : q ∈ lw_privs) : Cond.selects q.1.cls q.1 q.1 ∈ TB := tb_in (List.mem_append_left _ (List.mem_map.mpr ⟨q, h, rfl⟩)) rfl
theorem pk1 {q : MethodName × Nat} (i : Nat) (h : lw_privs_1[i]? = some q) : q ∈ lw_privs := List.mem_append_left _ (List.mem_of_getElem? (i := i) h)
theorem ps1_0 : Cond.selects (⟨"SlateHands$Tape", "byteAt", "(I)I"⟩ : MethodName).cls ⟨"SlateHands$Tape", "byteAt", "(I)I"⟩ ⟨"SlateHands$Tape", "byteAt", "(I)I"⟩ ∈ TB := ps_T (q := (⟨"SlateHands$Tape", "byteAt", "(I)I"⟩, 6)) (pk1 0 rfl)
theorem ps1_1 : Cond.selects (⟨"SlateHands$Reader", "readLine", "(LSlateHands$Tape;LSlateHands$Port;)Z"⟩ : MethodName).cls ⟨"SlateHands$Reader", "readLine", "(LSlateHands$Tape;LSlateHands$Port;)Z"⟩ ⟨"SlateHands$Reader", "readLine", "(LSlateHands$Tape;LSlateHands$Port;)Z"⟩ ∈ TB := ps_T (q := (⟨"SlateHands$Reader", "readLine", "(LSlateHands$Tape;LSlateHands$Port;)Z"⟩, 2)) (pk1 1 rfl)
theorem ps1_2 : Cond.selects (⟨"SlateHands$Reader", "readPort", "(LSlateHands$Tape;LSlateHands$Port;)Z"⟩ : MethodName).cls ⟨"SlateHands$Reader", "readPort", "(LSlateHands$Tape;LSlateHands$Port;)Z"⟩ ⟨"SlateHands$Reader", "readPort", "(LSlateHands$Tape;LSlateHands$Port;)Z"⟩ ∈ TB := ps_T (q := (⟨"SlateHands$Reader", "readPort", "(LSlateHands$Tape;LSlateHands$Port;)Z"⟩, 2)) (pk1 2 rfl)
theorem ps1_3 : Cond.selects (⟨"SlateHands$Reader", "readWord", "(LSlateHands$Tape;Ljava/lang/String;)Z"⟩ : MethodName).cls ⟨"SlateHands$Reader", "readWord", "(LSlateHands$Tape;Ljava/lang/String;)Z"⟩ ⟨"SlateHands$Reader", "readWord", "(LSlateHands$Tape;Ljava/lang/String;)Z"⟩ ∈ TB := ps_T (q := (⟨"SlateHands$Reader", "readWord", "(LSlateHands$Tape;Ljava/lang/String;)Z"⟩, 2)) (pk1 3 rfl)
theorem ps1_4 : Cond.selects (⟨"SlateHands$Reader", "fail", "(LSlateHands$Tape;I)Z"⟩ : MethodName).cls ⟨"SlateHands$Reader", "fail", "(LSlateHands$Tape;I)Z"⟩ ⟨"SlateHands$Reader", "fail", "(LSlateHands$Tape;I)Z"⟩ ∈ TB := ps_T (q := (⟨"SlateHands$Reader", "fail", "(LSlateHands$Tape;I)Z"⟩, 2)) (pk1 4 rfl)
theorem ps1_5 : Cond.selects (⟨"SlateHands$Reader", "readAmount", "(LSlateHands$Tape;Ljava/lang/String;II)I"⟩ : MethodName).cls ⟨"SlateHands$Reader", "readAmount", "(LSlateHands$Tape;Ljava/lang/String;II)I"⟩ ⟨"SlateHands$Reader", "readAmount", "(LSlateHands$Tape;Ljava/lang/String;II)I"⟩ ∈ TB := ps_T (q := (⟨"SlateHands$Reader", "readAmount", "(LSlateHands$Tape;Ljava/lang/String;II)I"⟩, 2)) (pk1 5 rfl)
theorem ps1_6 : Cond.selects (⟨"SlateHands$Reader", "readNumber", "(LSlateHands$Tape;II)I"⟩ : MethodName).cls ⟨"SlateHands$Reader", "readNumber", "(LSlateHands$Tape;II)I"⟩ ⟨"SlateHands$Reader", "readNumber", "(LSlateHands$Tape;II)I"⟩ ∈ TB := ps_T (q := (⟨"SlateHands$Reader", "readNumber", "(LSlateHands$Tape;II)I"⟩, 2)) (pk1 6 rfl)
theorem ps1_7 : Cond.selects (⟨"SlateHands$Reader", "hasRoom", "(LSlateHands$Tape;II)Z"⟩ : MethodName).cls ⟨"SlateHands$Reader", "hasRoom", "(LSlateHands$Tape;II)Z"⟩ ⟨"SlateHands$Reader", "hasRoom", "(LSlateHands$Tape;II)Z"⟩ ∈ TB := ps_T (q := (⟨"SlateHands$Reader", "hasRoom", "(LSlateHands$Tape;II)Z"⟩, 2)) (pk1 7 rfl)
theorem ps1_8 : Cond.selects (⟨"SlateHands$Reader", "readHouse", "(LSlateHands$Tape;LSlateHands$Port;)Z"⟩ : MethodName).cls ⟨"SlateHands$Reader", "readHouse", "(LSlateHands$Tape;LSlateHands$Port;)Z"⟩ ⟨"SlateHands$Reader", "readHouse", "(LSlateHands$Tape;LSlateHands$Port;)Z"⟩ ∈ TB := ps_T (q := (⟨"SlateHands$Reader", "readHouse", "(LSlateHands$Tape;LSlateHands$Port;)Z"⟩, 2)) (pk1 8 rfl)
theorem ps1_9 : Cond.selects (⟨"SlateHands$Reader", "readWay", "(LSlateHands$Tape;LSlateHands$Port;)Z"⟩ : MethodName).cls ⟨"SlateHands$Reader", "readWay", "(LSlateHands$Tape;LSlateHands$Port;)Z"⟩ ⟨"SlateHands$Reader", "readWay", "(LSlateHands$Tape;LSlateHands$Port;)Z"⟩ ∈ TB := ps_T (q := (⟨"SlateHands$Reader", "readWay", "(LSlateHands$Tape;LSlateHands$Port;)Z"⟩, 2)) (pk1 9 rfl)
theorem ps1_10 : Cond.selects (⟨"SlateHands$Reader", "readCarrier", "(LSlateHands$Tape;LSlateHands$Port;)Z"⟩ : MethodName).cls ⟨"SlateHands$Reader", "readCarrier", "(LSlateHands$Tape;LSlateHands$Port;)Z"⟩ ⟨"SlateHands$Reader", "readCarrier", "(LSlateHands$Tape;LSlateHands$Port;)Z"⟩ ∈ TB := ps_T (q := (⟨"SlateHands$Reader", "readCarrier", "(LSlateHands$Tape;LSlateHands$Port;)Z"⟩, 2)) (pk1 10 rfl)
theorem ps1_11 : Cond.selects (⟨"SlateHands$Reader", "readSlate", "(LSlateHands$Tape;LSlateHands$Port;)Z"⟩ : MethodName).cls ⟨"SlateHands$Reader", "readSlate", "(LSlateHands$Tape;LSlateHands$Port;)Z"⟩ ⟨"SlateHands$Reader", "readSlate", "(LSlateHands$Tape;LSlateHands$Port;)Z"⟩ ∈ TB := ps_T (q := (⟨"SlateHands$Reader", "readSlate", "(LSlateHands$Tape;LSlateHands$Port;)Z"⟩, 2)) (pk1 11 rfl)
theorem ps1_12 : Cond.selects (⟨"SlateHands$Reader", "readCarry", "(LSlateHands$Tape;LSlateHands$Port;)Z"⟩ : MethodName).cls ⟨"SlateHands$Reader", "readCarry", "(LSlateHands$Tape;LSlateHands$Port;)Z"⟩ ⟨"SlateHands$Reader", "readCarry", "(LSlateHands$Tape;LSlateHands$Port;)Z"⟩ ∈ TB := ps_T (q := (⟨"SlateHands$Reader", "readCarry", "(LSlateHands$Tape;LSlateHands$Port;)Z"⟩, 2)) (pk1 12 rfl)
theorem ps1_13 : Cond.selects (⟨"SlateHands$Reader", "readSign", "(LSlateHands$Tape;)Z"⟩ : MethodName).cls ⟨"SlateHands$Reader", "readSign", "(LSlateHands$Tape;)Z"⟩ ⟨"SlateHands$Reader", "readSign", "(LSlateHands$Tape;)Z"⟩ ∈ TB := ps_T (q := (⟨"SlateHands$Reader", "readSign", "(LSlateHands$Tape;)Z"⟩, 2)) (pk1 13 rfl)
theorem ps1_14 : Cond.selects (⟨"SlateHands", "makeStale", "()V"⟩ : MethodName).cls ⟨"SlateHands", "makeStale", "()V"⟩ ⟨"SlateHands", "makeStale", "()V"⟩ ∈ TB := ps_T (q := (⟨"SlateHands", "makeStale", "()V"⟩, 14)) (pk1 14 rfl)
theorem ps1_15 : Cond.selects (⟨"SlateHands$Paths", "improve", "(LSlateHands$Port;II)V"⟩ : MethodName).cls ⟨"SlateHands$Paths", "improve", "(LSlateHands$Port;II)V"⟩ ⟨"SlateHands$Paths", "improve", "(LSlateHands$Port;II)V"⟩ ∈ TB := ps_T (q := (⟨"SlateHands$Paths", "improve", "(LSlateHands$Port;II)V"⟩, 1)) (pk1 15 rfl)
theorem pk2 {q : MethodName × Nat} (i : Nat) (h : lw_privs_2[i]? = some q) : q ∈ lw_privs := List.mem_append_right _ (List.mem_append_left _ (List.mem_of_getElem? (i := i) h))
theorem ps2_0 : Cond.selects (⟨"SlateHands", "today", "()LSlateHands$Diary;"⟩ : MethodName).cls ⟨"SlateHands", "today", "()LSlateHands$Diary;"⟩ ⟨"SlateHands", "today", "()LSlateHands$Diary;"⟩ ∈ TB := ps_T (q := (⟨"SlateHands", "today", "()LSlateHands$Diary;"⟩, 14)) (pk2 0 rfl)
theorem ps2_1 : Cond.selects (⟨"SlateHands$Diary", "note", "(I)V"⟩ : MethodName).cls ⟨"SlateHands$Diary", "note", "(I)V"⟩ ⟨"SlateHands$Diary", "note", "(I)V"⟩ ∈ TB := ps_T (q := (⟨"SlateHands$Diary", "note", "(I)V"⟩, 7)) (pk2 1 rfl)
theorem ps2_2 : Cond.selects (⟨"SlateHands$Course", "hindrance", "(LSlateHands$Port;I)I"⟩ : MethodName).cls ⟨"SlateHands$Course", "hindrance", "(LSlateHands$Port;I)I"⟩ ⟨"SlateHands$Course", "hindrance", "(LSlateHands$Port;I)I"⟩ ∈ TB := ps_T (q := (⟨"SlateHands$Course", "hindrance", "(LSlateHands$Port;I)I"⟩, 15)) (pk2 2 rfl)
theorem ps2_3 : Cond.selects (⟨"SlateHands$Course", "loadTo", "(LSlateHands$Port;II)I"⟩ : MethodName).cls ⟨"SlateHands$Course", "loadTo", "(LSlateHands$Port;II)I"⟩ ⟨"SlateHands$Course", "loadTo", "(LSlateHands$Port;II)I"⟩ ∈ TB := ps_T (q := (⟨"SlateHands$Course", "loadTo", "(LSlateHands$Port;II)I"⟩, 15)) (pk2 3 rfl)
theorem ps2_4 : Cond.selects (⟨"SlateHands$Course", "carryOut", "(LSlateHands$Port;IZ)V"⟩ : MethodName).cls ⟨"SlateHands$Course", "carryOut", "(LSlateHands$Port;IZ)V"⟩ ⟨"SlateHands$Course", "carryOut", "(LSlateHands$Port;IZ)V"⟩ ∈ TB := ps_T (q := (⟨"SlateHands$Course", "carryOut", "(LSlateHands$Port;IZ)V"⟩, 15)) (pk2 4 rfl)
theorem ps2_5 : Cond.selects (⟨"SlateHands", "isSlateOn", "(II)Z"⟩ : MethodName).cls ⟨"SlateHands", "isSlateOn", "(II)Z"⟩ ⟨"SlateHands", "isSlateOn", "(II)Z"⟩ ∈ TB := ps_T (q := (⟨"SlateHands", "isSlateOn", "(II)Z"⟩, 14)) (pk2 5 rfl)
theorem ps2_6 : Cond.selects (⟨"SlateHands", "areAlone", "(II)Z"⟩ : MethodName).cls ⟨"SlateHands", "areAlone", "(II)Z"⟩ ⟨"SlateHands", "areAlone", "(II)Z"⟩ ∈ TB := ps_T (q := (⟨"SlateHands", "areAlone", "(II)Z"⟩, 14)) (pk2 6 rfl)
theorem ps2_7 : Cond.selects (⟨"SlateHands$Alone", "prepare", "(LSlateHands$Port;I)V"⟩ : MethodName).cls ⟨"SlateHands$Alone", "prepare", "(LSlateHands$Port;I)V"⟩ ⟨"SlateHands$Alone", "prepare", "(LSlateHands$Port;I)V"⟩ ∈ TB := ps_T (q := (⟨"SlateHands$Alone", "prepare", "(LSlateHands$Port;I)V"⟩, 17)) (pk2 7 rfl)
theorem ps2_8 : Cond.selects (⟨"SlateHands$Alone", "enter", "(III)V"⟩ : MethodName).cls ⟨"SlateHands$Alone", "enter", "(III)V"⟩ ⟨"SlateHands$Alone", "enter", "(III)V"⟩ ∈ TB := ps_T (q := (⟨"SlateHands$Alone", "enter", "(III)V"⟩, 17)) (pk2 8 rfl)
theorem ps2_9 : Cond.selects (⟨"SlateHands$Alone", "markSeen", "(II)Z"⟩ : MethodName).cls ⟨"SlateHands$Alone", "markSeen", "(II)Z"⟩ ⟨"SlateHands$Alone", "markSeen", "(II)Z"⟩ ∈ TB := ps_T (q := (⟨"SlateHands$Alone", "markSeen", "(II)Z"⟩, 17)) (pk2 9 rfl)
theorem ps2_10 : Cond.selects (⟨"SlateHands$Alone", "leave", "(LSlateHands$Port;II)V"⟩ : MethodName).cls ⟨"SlateHands$Alone", "leave", "(LSlateHands$Port;II)V"⟩ ⟨"SlateHands$Alone", "leave", "(LSlateHands$Port;II)V"⟩ ∈ TB := ps_T (q := (⟨"SlateHands$Alone", "leave", "(LSlateHands$Port;II)V"⟩, 17)) (pk2 10 rfl)
theorem ps2_11 : Cond.selects (⟨"SlateHands$Alone", "await", "(II)V"⟩ : MethodName).cls ⟨"SlateHands$Alone", "await", "(II)V"⟩ ⟨"SlateHands$Alone", "await", "(II)V"⟩ ∈ TB := ps_T (q := (⟨"SlateHands$Alone", "await", "(II)V"⟩, 17)) (pk2 11 rfl)
theorem ps2_12 : Cond.selects (⟨"SlateHands$Alone", "settle", "(LSlateHands$Port;II)V"⟩ : MethodName).cls ⟨"SlateHands$Alone", "settle", "(LSlateHands$Port;II)V"⟩ ⟨"SlateHands$Alone", "settle", "(LSlateHands$Port;II)V"⟩ ∈ TB := ps_T (q := (⟨"SlateHands$Alone", "settle", "(LSlateHands$Port;II)V"⟩, 17)) (pk2 12 rfl)
theorem ps2_13 : Cond.selects (⟨"SlateHands", "housesOfCart", "(I)I"⟩ : MethodName).cls ⟨"SlateHands", "housesOfCart", "(I)I"⟩ ⟨"SlateHands", "housesOfCart", "(I)I"⟩ ∈ TB := ps_T (q := (⟨"SlateHands", "housesOfCart", "(I)I"⟩, 14)) (pk2 13 rfl)
theorem ps2_14 : Cond.selects (⟨"SlateHands", "ordersWith", "(I)I"⟩ : MethodName).cls ⟨"SlateHands", "ordersWith", "(I)I"⟩ ⟨"SlateHands", "ordersWith", "(I)I"⟩ ∈ TB := ps_T (q := (⟨"SlateHands", "ordersWith", "(I)I"⟩, 14)) (pk2 14 rfl)
theorem ps2_15 : Cond.selects (⟨"SlateHands", "hearersWithout", "(II)I"⟩ : MethodName).cls ⟨"SlateHands", "hearersWithout", "(II)I"⟩ ⟨"SlateHands", "hearersWithout", "(II)I"⟩ ∈ TB := ps_T (q := (⟨"SlateHands", "hearersWithout", "(II)I"⟩, 14)) (pk2 15 rfl)
theorem pk3 {q : MethodName × Nat} (i : Nat) (h : lw_privs_3[i]? = some q) : q ∈ lw_privs := List.mem_append_right _ (List.mem_append_right _ (List.mem_append_left _ (List.mem_of_getElem? (i := i) h)))
theorem ps3_0 : Cond.selects (⟨"SlateHands", "hearersBy", "(II)I"⟩ : MethodName).cls ⟨"SlateHands", "hearersBy", "(II)I"⟩ ⟨"SlateHands", "hearersBy", "(II)I"⟩ ∈ TB := ps_T (q := (⟨"SlateHands", "hearersBy", "(II)I"⟩, 14)) (pk3 0 rfl)
theorem ps3_1 : Cond.selects (⟨"SlateHands", "isGame", "(III)Z"⟩ : MethodName).cls ⟨"SlateHands", "isGame", "(III)Z"⟩ ⟨"SlateHands", "isGame", "(III)Z"⟩ ∈ TB := ps_T (q := (⟨"SlateHands", "isGame", "(III)Z"⟩, 14)) (pk3 1 rfl)
theorem ps3_2 : Cond.selects (⟨"SlateHands", "shutBy", "(IIII)V"⟩ : MethodName).cls ⟨"SlateHands", "shutBy", "(IIII)V"⟩ ⟨"SlateHands", "shutBy", "(IIII)V"⟩ ∈ TB := ps_T (q := (⟨"SlateHands", "shutBy", "(IIII)V"⟩, 14)) (pk3 2 rfl)
theorem ps3_3 : Cond.selects (⟨"SlateHands", "gainOf", "(II)I"⟩ : MethodName).cls ⟨"SlateHands", "gainOf", "(II)I"⟩ ⟨"SlateHands", "gainOf", "(II)I"⟩ ∈ TB := ps_T (q := (⟨"SlateHands", "gainOf", "(II)I"⟩, 14)) (pk3 3 rfl)
theorem ps3_4 : Cond.selects (⟨"SlateHands$Weather", "addUp", "(LSlateHands$Port;LSlateHands$Course;J)V"⟩ : MethodName).cls ⟨"SlateHands$Weather", "addUp", "(LSlateHands$Port;LSlateHands$Course;J)V"⟩ ⟨"SlateHands$Weather", "addUp", "(LSlateHands$Port;LSlateHands$Course;J)V"⟩ ∈ TB := ps_T (q := (⟨"SlateHands$Weather", "addUp", "(LSlateHands$Port;LSlateHands$Course;J)V"⟩, 4)) (pk3 4 rfl)
theorem ps3_5 : Cond.selects (⟨"SlateHands", "runInRain", "(I)V"⟩ : MethodName).cls ⟨"SlateHands", "runInRain", "(I)V"⟩ ⟨"SlateHands", "runInRain", "(I)V"⟩ ∈ TB := ps_T (q := (⟨"SlateHands", "runInRain", "(I)V"⟩, 14)) (pk3 5 rfl)
theorem ps3_6 : Cond.selects (⟨"SlateHands$Slots", "isWithin", "(III)Z"⟩ : MethodName).cls ⟨"SlateHands$Slots", "isWithin", "(III)Z"⟩ ⟨"SlateHands$Slots", "isWithin", "(III)Z"⟩ ∈ TB := ps_T (q := (⟨"SlateHands$Slots", "isWithin", "(III)Z"⟩, 3)) (pk3 6 rfl)
theorem ps3_7 : Cond.selects (⟨"SlateHandsModel", "four", "(I)V"⟩ : MethodName).cls ⟨"SlateHandsModel", "four", "(I)V"⟩ ⟨"SlateHandsModel", "four", "(I)V"⟩ ∈ TB := ps_T (q := (⟨"SlateHandsModel", "four", "(I)V"⟩, 55)) (pk3 7 rfl)
theorem ps3_8 : Cond.selects (⟨"SlateHandsModel", "clears", "()V"⟩ : MethodName).cls ⟨"SlateHandsModel", "clears", "()V"⟩ ⟨"SlateHandsModel", "clears", "()V"⟩ ∈ TB := ps_T (q := (⟨"SlateHandsModel", "clears", "()V"⟩, 55)) (pk3 8 rfl)
theorem ps3_9 : Cond.selects (⟨"SlateHandsModel", "tellsOf", "(II)V"⟩ : MethodName).cls ⟨"SlateHandsModel", "tellsOf", "(II)V"⟩ ⟨"SlateHandsModel", "tellsOf", "(II)V"⟩ ∈ TB := ps_T (q := (⟨"SlateHandsModel", "tellsOf", "(II)V"⟩, 55)) (pk3 9 rfl)
theorem ps3_10 : Cond.selects (⟨"SlateHandsModel", "begins", "()V"⟩ : MethodName).cls ⟨"SlateHandsModel", "begins", "()V"⟩ ⟨"SlateHandsModel", "begins", "()V"⟩ ∈ TB := ps_T (q := (⟨"SlateHandsModel", "begins", "()V"⟩, 55)) (pk3 10 rfl)
theorem ps3_11 : Cond.selects (⟨"SlateHandsModel", "next", "()V"⟩ : MethodName).cls ⟨"SlateHandsModel", "next", "()V"⟩ ⟨"SlateHandsModel", "next", "()V"⟩ ∈ TB := ps_T (q := (⟨"SlateHandsModel", "next", "()V"⟩, 55)) (pk3 11 rfl)
theorem ps3_12 : Cond.selects (⟨"SlateHandsModel", "isByte", "(III)Z"⟩ : MethodName).cls ⟨"SlateHandsModel", "isByte", "(III)Z"⟩ ⟨"SlateHandsModel", "isByte", "(III)Z"⟩ ∈ TB := ps_T (q := (⟨"SlateHandsModel", "isByte", "(III)Z"⟩, 55)) (pk3 12 rfl)
theorem ps3_13 : Cond.selects (⟨"SlateHandsModel", "isGood", "()Z"⟩ : MethodName).cls ⟨"SlateHandsModel", "isGood", "()Z"⟩ ⟨"SlateHandsModel", "isGood", "()Z"⟩ ∈ TB := ps_T (q := (⟨"SlateHandsModel", "isGood", "()Z"⟩, 55)) (pk3 13 rfl)
theorem ps3_14 : Cond.selects (⟨"SlateHandsModel", "asks", "(J)V"⟩ : MethodName).cls ⟨"SlateHandsModel", "asks", "(J)V"⟩ ⟨"SlateHandsModel", "asks", "(J)V"⟩ ∈ TB := ps_T (q := (⟨"SlateHandsModel", "asks", "(J)V"⟩, 55)) (pk3 14 rfl)
theorem ps3_15 : Cond.selects (⟨"SlateHandsModel", "takes", "(J)Z"⟩ : MethodName).cls ⟨"SlateHandsModel", "takes", "(J)Z"⟩ ⟨"SlateHandsModel", "takes", "(J)Z"⟩ ∈ TB := ps_T (q := (⟨"SlateHandsModel", "takes", "(J)Z"⟩, 55)) (pk3 15 rfl)
theorem pk4 {q : MethodName × Nat} (i : Nat) (h : lw_privs_4[i]? = some q) : q ∈ lw_privs := List.mem_append_right _ (List.mem_append_right _ (List.mem_append_right _ (List.mem_append_left _ (List.mem_of_getElem? (i := i) h))))
theorem ps4_0 : Cond.selects (⟨"SlateHandsModel", "is", "(J)Z"⟩ : MethodName).cls ⟨"SlateHandsModel", "is", "(J)Z"⟩ ⟨"SlateHandsModel", "is", "(J)Z"⟩ ∈ TB := ps_T (q := (⟨"SlateHandsModel", "is", "(J)Z"⟩, 55)) (pk4 0 rfl)
theorem ps4_1 : Cond.selects (⟨"SlateHandsModel", "fails", "(I)V"⟩ : MethodName).cls ⟨"SlateHandsModel", "fails", "(I)V"⟩ ⟨"SlateHandsModel", "fails", "(I)V"⟩ ∈ TB := ps_T (q := (⟨"SlateHandsModel", "fails", "(I)V"⟩, 55)) (pk4 1 rfl)
theorem ps4_2 : Cond.selects (⟨"SlateHandsModel", "number", "(JII)I"⟩ : MethodName).cls ⟨"SlateHandsModel", "number", "(JII)I"⟩ ⟨"SlateHandsModel", "number", "(JII)I"⟩ ∈ TB := ps_T (q := (⟨"SlateHandsModel", "number", "(JII)I"⟩, 55)) (pk4 2 rfl)
theorem ps4_3 : Cond.selects (⟨"SlateHandsModel", "number", "(II)I"⟩ : MethodName).cls ⟨"SlateHandsModel", "number", "(II)I"⟩ ⟨"SlateHandsModel", "number", "(II)I"⟩ ∈ TB := ps_T (q := (⟨"SlateHandsModel", "number", "(II)I"⟩, 55)) (pk4 3 rfl)
theorem ps4_4 : Cond.selects (⟨"SlateHandsModel", "lineHere", "()V"⟩ : MethodName).cls ⟨"SlateHandsModel", "lineHere", "()V"⟩ ⟨"SlateHandsModel", "lineHere", "()V"⟩ ∈ TB := ps_T (q := (⟨"SlateHandsModel", "lineHere", "()V"⟩, 55)) (pk4 4 rfl)
theorem ps4_5 : Cond.selects (⟨"SlateHandsModel", "isRoom", "(ZII)Z"⟩ : MethodName).cls ⟨"SlateHandsModel", "isRoom", "(ZII)Z"⟩ ⟨"SlateHandsModel", "isRoom", "(ZII)Z"⟩ ∈ TB := ps_T (q := (⟨"SlateHandsModel", "isRoom", "(ZII)Z"⟩, 55)) (pk4 5 rfl)
theorem ps4_6 : Cond.selects (⟨"SlateHandsModel", "hasRead", "(I)I"⟩ : MethodName).cls ⟨"SlateHandsModel", "hasRead", "(I)I"⟩ ⟨"SlateHandsModel", "hasRead", "(I)I"⟩ ∈ TB := ps_T (q := (⟨"SlateHandsModel", "hasRead", "(I)I"⟩, 55)) (pk4 6 rfl)
theorem ps4_7 : Cond.selects (⟨"SlateHandsModel", "wayLine", "()V"⟩ : MethodName).cls ⟨"SlateHandsModel", "wayLine", "()V"⟩ ⟨"SlateHandsModel", "wayLine", "()V"⟩ ∈ TB := ps_T (q := (⟨"SlateHandsModel", "wayLine", "()V"⟩, 55)) (pk4 7 rfl)
theorem ps4_8 : Cond.selects (⟨"SlateHandsModel", "houseHere", "()I"⟩ : MethodName).cls ⟨"SlateHandsModel", "houseHere", "()I"⟩ ⟨"SlateHandsModel", "houseHere", "()I"⟩ ∈ TB := ps_T (q := (⟨"SlateHandsModel", "houseHere", "()I"⟩, 55)) (pk4 8 rfl)
theorem ps4_9 : Cond.selects (⟨"SlateHandsModel", "carrierLine", "()V"⟩ : MethodName).cls ⟨"SlateHandsModel", "carrierLine", "()V"⟩ ⟨"SlateHandsModel", "carrierLine", "()V"⟩ ∈ TB := ps_T (q := (⟨"SlateHandsModel", "carrierLine", "()V"⟩, 55)) (pk4 9 rfl)
theorem ps4_10 : Cond.selects (⟨"SlateHandsModel", "houseHere", "(J)I"⟩ : MethodName).cls ⟨"SlateHandsModel", "houseHere", "(J)I"⟩ ⟨"SlateHandsModel", "houseHere", "(J)I"⟩ ∈ TB := ps_T (q := (⟨"SlateHandsModel", "houseHere", "(J)I"⟩, 55)) (pk4 10 rfl)
theorem ps4_11 : Cond.selects (⟨"SlateHandsModel", "slateLine", "()V"⟩ : MethodName).cls ⟨"SlateHandsModel", "slateLine", "()V"⟩ ⟨"SlateHandsModel", "slateLine", "()V"⟩ ∈ TB := ps_T (q := (⟨"SlateHandsModel", "slateLine", "()V"⟩, 55)) (pk4 11 rfl)
theorem ps4_12 : Cond.selects (⟨"SlateHandsModel", "carryLine", "()V"⟩ : MethodName).cls ⟨"SlateHandsModel", "carryLine", "()V"⟩ ⟨"SlateHandsModel", "carryLine", "()V"⟩ ∈ TB := ps_T (q := (⟨"SlateHandsModel", "carryLine", "()V"⟩, 55)) (pk4 12 rfl)
theorem ps4_13 : Cond.selects (⟨"SlateHandsModel", "ends", "()V"⟩ : MethodName).cls ⟨"SlateHandsModel", "ends", "()V"⟩ ⟨"SlateHandsModel", "ends", "()V"⟩ ∈ TB := ps_T (q := (⟨"SlateHandsModel", "ends", "()V"⟩, 55)) (pk4 13 rfl)
theorem ps4_14 : Cond.selects (⟨"SlateHandsModel", "isOver", "()V"⟩ : MethodName).cls ⟨"SlateHandsModel", "isOver", "()V"⟩ ⟨"SlateHandsModel", "isOver", "()V"⟩ ∈ TB := ps_T (q := (⟨"SlateHandsModel", "isOver", "()V"⟩, 55)) (pk4 14 rfl)
theorem ps4_15 : Cond.selects (⟨"SlateHandsModel", "copyPort", "(II)V"⟩ : MethodName).cls ⟨"SlateHandsModel", "copyPort", "(II)V"⟩ ⟨"SlateHandsModel", "copyPort", "(II)V"⟩ ∈ TB := ps_T (q := (⟨"SlateHandsModel", "copyPort", "(II)V"⟩, 55)) (pk4 15 rfl)
theorem pk5 {q : MethodName × Nat} (i : Nat) (h : lw_privs_5[i]? = some q) : q ∈ lw_privs := List.mem_append_right _ (List.mem_append_right _ (List.mem_append_right _ (List.mem_append_right _ (List.mem_append_left _ (List.mem_of_getElem? (i := i) h)))))
theorem ps5_0 : Cond.selects (⟨"SlateHandsModel", "isHouse", "(J)Z"⟩ : MethodName).cls ⟨"SlateHandsModel", "isHouse", "(J)Z"⟩ ⟨"SlateHandsModel", "isHouse", "(J)Z"⟩ ∈ TB := ps_T (q := (⟨"SlateHandsModel", "isHouse", "(J)Z"⟩, 55)) (pk5 0 rfl)
theorem ps5_1 : Cond.selects (⟨"SlateHandsModel", "houses", "()I"⟩ : MethodName).cls ⟨"SlateHandsModel", "houses", "()I"⟩ ⟨"SlateHandsModel", "houses", "()I"⟩ ∈ TB := ps_T (q := (⟨"SlateHandsModel", "houses", "()I"⟩, 55)) (pk5 1 rfl)
theorem ps5_2 : Cond.selects (⟨"SlateHandsModel", "isCarrier", "(I)Z"⟩ : MethodName).cls ⟨"SlateHandsModel", "isCarrier", "(I)Z"⟩ ⟨"SlateHandsModel", "isCarrier", "(I)Z"⟩ ∈ TB := ps_T (q := (⟨"SlateHandsModel", "isCarrier", "(I)Z"⟩, 55)) (pk5 2 rfl)
theorem ps5_3 : Cond.selects (⟨"SlateHandsModel", "carriers", "()I"⟩ : MethodName).cls ⟨"SlateHandsModel", "carriers", "()I"⟩ ⟨"SlateHandsModel", "carriers", "()I"⟩ ∈ TB := ps_T (q := (⟨"SlateHandsModel", "carriers", "()I"⟩, 55)) (pk5 3 rfl)
theorem ps5_4 : Cond.selects (⟨"SlateHandsModel", "isSlate", "(I)Z"⟩ : MethodName).cls ⟨"SlateHandsModel", "isSlate", "(I)Z"⟩ ⟨"SlateHandsModel", "isSlate", "(I)Z"⟩ ∈ TB := ps_T (q := (⟨"SlateHandsModel", "isSlate", "(I)Z"⟩, 55)) (pk5 4 rfl)
theorem ps5_5 : Cond.selects (⟨"SlateHandsModel", "slates", "()I"⟩ : MethodName).cls ⟨"SlateHandsModel", "slates", "()I"⟩ ⟨"SlateHandsModel", "slates", "()I"⟩ ∈ TB := ps_T (q := (⟨"SlateHandsModel", "slates", "()I"⟩, 55)) (pk5 5 rfl)
theorem ps5_6 : Cond.selects (⟨"SlateHandsModel", "lays", "()V"⟩ : MethodName).cls ⟨"SlateHandsModel", "lays", "()V"⟩ ⟨"SlateHandsModel", "lays", "()V"⟩ ∈ TB := ps_T (q := (⟨"SlateHandsModel", "lays", "()V"⟩, 55)) (pk5 6 rfl)
theorem ps5_7 : Cond.selects (⟨"SlateHandsModel", "isWay", "(II)Z"⟩ : MethodName).cls ⟨"SlateHandsModel", "isWay", "(II)Z"⟩ ⟨"SlateHandsModel", "isWay", "(II)Z"⟩ ∈ TB := ps_T (q := (⟨"SlateHandsModel", "isWay", "(II)Z"⟩, 55)) (pk5 7 rfl)
theorem ps5_8 : Cond.selects (⟨"SlateHandsModel", "distOf", "(IIZ)I"⟩ : MethodName).cls ⟨"SlateHandsModel", "distOf", "(IIZ)I"⟩ ⟨"SlateHandsModel", "distOf", "(IIZ)I"⟩ ∈ TB := ps_T (q := (⟨"SlateHandsModel", "distOf", "(IIZ)I"⟩, 55)) (pk5 8 rfl)
theorem ps5_9 : Cond.selects (⟨"SlateHandsModel", "climbOf", "(II)I"⟩ : MethodName).cls ⟨"SlateHandsModel", "climbOf", "(II)I"⟩ ⟨"SlateHandsModel", "climbOf", "(II)I"⟩ ∈ TB := ps_T (q := (⟨"SlateHandsModel", "climbOf", "(II)I"⟩, 55)) (pk5 9 rfl)
theorem ps5_10 : Cond.selects (⟨"SlateHandsModel", "isDay", "(J)Z"⟩ : MethodName).cls ⟨"SlateHandsModel", "isDay", "(J)Z"⟩ ⟨"SlateHandsModel", "isDay", "(J)Z"⟩ ∈ TB := ps_T (q := (⟨"SlateHandsModel", "isDay", "(J)Z"⟩, 55)) (pk5 10 rfl)
theorem ps5_11 : Cond.selects (⟨"SlateHandsModel", "isPort", "()Z"⟩ : MethodName).cls ⟨"SlateHandsModel", "isPort", "()Z"⟩ ⟨"SlateHandsModel", "isPort", "()Z"⟩ ∈ TB := ps_T (q := (⟨"SlateHandsModel", "isPort", "()Z"⟩, 55)) (pk5 11 rfl)
theorem ps5_12 : Cond.selects (⟨"SlateHandsModel", "days", "()I"⟩ : MethodName).cls ⟨"SlateHandsModel", "days", "()I"⟩ ⟨"SlateHandsModel", "days", "()I"⟩ ∈ TB := ps_T (q := (⟨"SlateHandsModel", "days", "()I"⟩, 55)) (pk5 12 rfl)
theorem ps5_13 : Cond.selects (⟨"SlateHandsModel", "laysNow", "()V"⟩ : MethodName).cls ⟨"SlateHandsModel", "laysNow", "()V"⟩ ⟨"SlateHandsModel", "laysNow", "()V"⟩ ∈ TB := ps_T (q := (⟨"SlateHandsModel", "laysNow", "()V"⟩, 55)) (pk5 13 rfl)
theorem ps5_14 : Cond.selects (⟨"SlateHandsModel", "runs", "()V"⟩ : MethodName).cls ⟨"SlateHandsModel", "runs", "()V"⟩ ⟨"SlateHandsModel", "runs", "()V"⟩ ∈ TB := ps_T (q := (⟨"SlateHandsModel", "runs", "()V"⟩, 55)) (pk5 14 rfl)
theorem ps5_15 : Cond.selects (⟨"SlateHandsModel", "begin", "()V"⟩ : MethodName).cls ⟨"SlateHandsModel", "begin", "()V"⟩ ⟨"SlateHandsModel", "begin", "()V"⟩ ∈ TB := ps_T (q := (⟨"SlateHandsModel", "begin", "()V"⟩, 55)) (pk5 15 rfl)
theorem pk6 {q : MethodName × Nat} (i : Nat) (h : lw_privs_6[i]? = some q) : q ∈ lw_privs := List.mem_append_right _ (List.mem_append_right _ (List.mem_append_right _ (List.mem_append_right _ (List.mem_append_right _ (List.mem_append_left _ (List.mem_of_getElem? (i := i) h))))))
theorem ps6_0 : Cond.selects (⟨"SlateHandsModel", "carryMany", "()I"⟩ : MethodName).cls ⟨"SlateHandsModel", "carryMany", "()I"⟩ ⟨"SlateHandsModel", "carryMany", "()I"⟩ ∈ TB := ps_T (q := (⟨"SlateHandsModel", "carryMany", "()I"⟩, 55)) (pk6 0 rfl)
theorem ps6_1 : Cond.selects (⟨"SlateHandsModel", "carryPart", "(II)I"⟩ : MethodName).cls ⟨"SlateHandsModel", "carryPart", "(II)I"⟩ ⟨"SlateHandsModel", "carryPart", "(II)I"⟩ ∈ TB := ps_T (q := (⟨"SlateHandsModel", "carryPart", "(II)I"⟩, 55)) (pk6 1 rfl)
theorem ps6_2 : Cond.selects (⟨"SlateHandsModel", "whyNow", "(I)I"⟩ : MethodName).cls ⟨"SlateHandsModel", "whyNow", "(I)I"⟩ ⟨"SlateHandsModel", "whyNow", "(I)I"⟩ ∈ TB := ps_T (q := (⟨"SlateHandsModel", "whyNow", "(I)I"⟩, 55)) (pk6 2 rfl)
theorem ps6_3 : Cond.selects (⟨"SlateHandsModel", "heavyOf", "(II)I"⟩ : MethodName).cls ⟨"SlateHandsModel", "heavyOf", "(II)I"⟩ ⟨"SlateHandsModel", "heavyOf", "(II)I"⟩ ∈ TB := ps_T (q := (⟨"SlateHandsModel", "heavyOf", "(II)I"⟩, 55)) (pk6 3 rfl)
theorem ps6_4 : Cond.selects (⟨"SlateHandsModel", "does", "(II)V"⟩ : MethodName).cls ⟨"SlateHandsModel", "does", "(II)V"⟩ ⟨"SlateHandsModel", "does", "(II)V"⟩ ∈ TB := ps_T (q := (⟨"SlateHandsModel", "does", "(II)V"⟩, 55)) (pk6 4 rfl)
theorem ps6_5 : Cond.selects (⟨"SlateHandsModel", "rubs", "(III)I"⟩ : MethodName).cls ⟨"SlateHandsModel", "rubs", "(III)I"⟩ ⟨"SlateHandsModel", "rubs", "(III)I"⟩ ∈ TB := ps_T (q := (⟨"SlateHandsModel", "rubs", "(III)I"⟩, 55)) (pk6 5 rfl)
theorem ps6_6 : Cond.selects (⟨"SlateHandsModel", "heardOf", "(II)I"⟩ : MethodName).cls ⟨"SlateHandsModel", "heardOf", "(II)I"⟩ ⟨"SlateHandsModel", "heardOf", "(II)I"⟩ ∈ TB := ps_T (q := (⟨"SlateHandsModel", "heardOf", "(II)I"⟩, 55)) (pk6 6 rfl)
theorem ps6_7 : Cond.selects (⟨"SlateHandsModel", "isCarry", "(I)Z"⟩ : MethodName).cls ⟨"SlateHandsModel", "isCarry", "(I)Z"⟩ ⟨"SlateHandsModel", "isCarry", "(I)Z"⟩ ∈ TB := ps_T (q := (⟨"SlateHandsModel", "isCarry", "(I)Z"⟩, 55)) (pk6 7 rfl)
theorem ps6_8 : Cond.selects (⟨"SlateHandsModel", "isAhead", "(I)Z"⟩ : MethodName).cls ⟨"SlateHandsModel", "isAhead", "(I)Z"⟩ ⟨"SlateHandsModel", "isAhead", "(I)Z"⟩ ∈ TB := ps_T (q := (⟨"SlateHandsModel", "isAhead", "(I)Z"⟩, 55)) (pk6 8 rfl)
theorem ps6_9 : Cond.selects (⟨"SlateHandsModel", "knownLast", "(II)I"⟩ : MethodName).cls ⟨"SlateHandsModel", "knownLast", "(II)I"⟩ ⟨"SlateHandsModel", "knownLast", "(II)I"⟩ ∈ TB := ps_T (q := (⟨"SlateHandsModel", "knownLast", "(II)I"⟩, 55)) (pk6 9 rfl)
theorem ps6_10 : Cond.selects (⟨"SlateHandsModel", "areThree", "(III)Z"⟩ : MethodName).cls ⟨"SlateHandsModel", "areThree", "(III)Z"⟩ ⟨"SlateHandsModel", "areThree", "(III)Z"⟩ ∈ TB := ps_T (q := (⟨"SlateHandsModel", "areThree", "(III)Z"⟩, 55)) (pk6 10 rfl)
theorem ps6_11 : Cond.selects (⟨"SlateHandsModel", "cartOf", "(III)I"⟩ : MethodName).cls ⟨"SlateHandsModel", "cartOf", "(III)I"⟩ ⟨"SlateHandsModel", "cartOf", "(III)I"⟩ ∈ TB := ps_T (q := (⟨"SlateHandsModel", "cartOf", "(III)I"⟩, 55)) (pk6 11 rfl)
theorem ps6_12 : Cond.selects (⟨"SlateHandsModel", "strongOf", "(I)I"⟩ : MethodName).cls ⟨"SlateHandsModel", "strongOf", "(I)I"⟩ ⟨"SlateHandsModel", "strongOf", "(I)I"⟩ ∈ TB := ps_T (q := (⟨"SlateHandsModel", "strongOf", "(I)I"⟩, 55)) (pk6 12 rfl)
theorem ps6_13 : Cond.selects (⟨"SlateHandsModel", "laysAlone", "(II)V"⟩ : MethodName).cls ⟨"SlateHandsModel", "laysAlone", "(II)V"⟩ ⟨"SlateHandsModel", "laysAlone", "(II)V"⟩ ∈ TB := ps_T (q := (⟨"SlateHandsModel", "laysAlone", "(II)V"⟩, 55)) (pk6 13 rfl)
theorem ps6_14 : Cond.selects (⟨"SlateHandsModel", "daysTo", "(I)I"⟩ : MethodName).cls ⟨"SlateHandsModel", "daysTo", "(I)I"⟩ ⟨"SlateHandsModel", "daysTo", "(I)I"⟩ ∈ TB := ps_T (q := (⟨"SlateHandsModel", "daysTo", "(I)I"⟩, 55)) (pk6 14 rfl)
theorem ps6_15 : Cond.selects (⟨"SlateHandsModel", "canOf", "(II)I"⟩ : MethodName).cls ⟨"SlateHandsModel", "canOf", "(II)I"⟩ ⟨"SlateHandsModel", "canOf", "(II)I"⟩ ∈ TB := ps_T (q := (⟨"SlateHandsModel", "canOf", "(II)I"⟩, 55)) (pk6 15 rfl)
theorem pk7 {q : MethodName × Nat} (i : Nat) (h : lw_privs_7[i]? = some q) : q ∈ lw_privs := List.mem_append_right _ (List.mem_append_right _ (List.mem_append_right _ (List.mem_append_right _ (List.mem_append_right _ (List.mem_append_right _ (List.mem_of_getElem? (i := i) h))))))
theorem ps7_0 : Cond.selects (⟨"SlateHandsModel", "knowing", "(I)I"⟩ : MethodName).cls ⟨"SlateHandsModel", "knowing", "(I)I"⟩ ⟨"SlateHandsModel", "knowing", "(I)I"⟩ ∈ TB := ps_T (q := (⟨"SlateHandsModel", "knowing", "(I)I"⟩, 55)) (pk7 0 rfl)
theorem ps7_1 : Cond.selects (⟨"SlateHandsModel", "worthOf", "(II)I"⟩ : MethodName).cls ⟨"SlateHandsModel", "worthOf", "(II)I"⟩ ⟨"SlateHandsModel", "worthOf", "(II)I"⟩ ∈ TB := ps_T (q := (⟨"SlateHandsModel", "worthOf", "(II)I"⟩, 55)) (pk7 1 rfl)
theorem ps7_2 : Cond.selects (⟨"SlateHandsModel", "runsBy", "(I)V"⟩ : MethodName).cls ⟨"SlateHandsModel", "runsBy", "(I)V"⟩ ⟨"SlateHandsModel", "runsBy", "(I)V"⟩ ∈ TB := ps_T (q := (⟨"SlateHandsModel", "runsBy", "(I)V"⟩, 55)) (pk7 2 rfl)
theorem ps7_3 : Cond.selects (⟨"SlateHandsModel", "whyNotSeen", "(II)I"⟩ : MethodName).cls ⟨"SlateHandsModel", "whyNotSeen", "(II)I"⟩ ⟨"SlateHandsModel", "whyNotSeen", "(II)I"⟩ ∈ TB := ps_T (q := (⟨"SlateHandsModel", "whyNotSeen", "(II)I"⟩, 55)) (pk7 3 rfl)
theorem ps7_4 : Cond.selects (⟨"SlateHandsModel", "laysSeen", "(II)V"⟩ : MethodName).cls ⟨"SlateHandsModel", "laysSeen", "(II)V"⟩ ⟨"SlateHandsModel", "laysSeen", "(II)V"⟩ ∈ TB := ps_T (q := (⟨"SlateHandsModel", "laysSeen", "(II)V"⟩, 55)) (pk7 4 rfl)
theorem ps7_5 : Cond.selects (⟨"SlateHandsModel", "isSo", "(II)Z"⟩ : MethodName).cls ⟨"SlateHandsModel", "isSo", "(II)Z"⟩ ⟨"SlateHandsModel", "isSo", "(II)Z"⟩ ∈ TB := ps_T (q := (⟨"SlateHandsModel", "isSo", "(II)Z"⟩, 55)) (pk7 5 rfl)
theorem ps7_6 : Cond.selects (⟨"SlateHandsModel", "areTwo", "(II)Z"⟩ : MethodName).cls ⟨"SlateHandsModel", "areTwo", "(II)Z"⟩ ⟨"SlateHandsModel", "areTwo", "(II)Z"⟩ ∈ TB := ps_T (q := (⟨"SlateHandsModel", "areTwo", "(II)Z"⟩, 55)) (pk7 6 rfl)
theorem ps7_7 : Cond.selects (⟨"SlateHandsModel", "getsBy", "(IIIIII)I"⟩ : MethodName).cls ⟨"SlateHandsModel", "getsBy", "(IIIIII)I"⟩ ⟨"SlateHandsModel", "getsBy", "(IIIIII)I"⟩ ∈ TB := ps_T (q := (⟨"SlateHandsModel", "getsBy", "(IIIIII)I"⟩, 55)) (pk7 7 rfl)
theorem ps7_8 : Cond.selects (⟨"SlateHandsModel", "weightOf", "(II)J"⟩ : MethodName).cls ⟨"SlateHandsModel", "weightOf", "(II)J"⟩ ⟨"SlateHandsModel", "weightOf", "(II)J"⟩ ∈ TB := ps_T (q := (⟨"SlateHandsModel", "weightOf", "(II)J"⟩, 55)) (pk7 8 rfl)
theorem ps7_9 : Cond.selects (⟨"SlateHandsModel", "tens", "()J"⟩ : MethodName).cls ⟨"SlateHandsModel", "tens", "()J"⟩ ⟨"SlateHandsModel", "tens", "()J"⟩ ∈ TB := ps_T (q := (⟨"SlateHandsModel", "tens", "()J"⟩, 55)) (pk7 9 rfl)
theorem ps7_10 : Cond.selects (⟨"SlateHandsModel", "draws", "(J)V"⟩ : MethodName).cls ⟨"SlateHandsModel", "draws", "(J)V"⟩ ⟨"SlateHandsModel", "draws", "(J)V"⟩ ∈ TB := ps_T (q := (⟨"SlateHandsModel", "draws", "(J)V"⟩, 55)) (pk7 10 rfl)
theorem ps7_11 : Cond.selects (⟨"SlateHandsModel", "adds", "(IIII)V"⟩ : MethodName).cls ⟨"SlateHandsModel", "adds", "(IIII)V"⟩ ⟨"SlateHandsModel", "adds", "(IIII)V"⟩ ∈ TB := ps_T (q := (⟨"SlateHandsModel", "adds", "(IIII)V"⟩, 55)) (pk7 11 rfl)
theorem cw_0 : ∀ w ∈ wsX00, w ∈ TB := by
  have h : wsX00.all (fun w => decide (w ∈ tables_1) && goodWord w) = true := by decide +kernel
  intro w hw
  have h1 := List.all_eq_true.mp h w hw
  simp only [Bool.and_eq_true, decide_eq_true_eq] at h1
  exact tb_T h1.1 h1.2
theorem cw_1 : ∀ w ∈ wsX10, w ∈ TB := by
  have h : wsX10.all (fun w => decide (w ∈ tables_1) && goodWord w) = true := by decide +kernel
  intro w hw
  have h1 := List.all_eq_true.mp h w hw
  simp only [Bool.and_eq_true, decide_eq_true_eq] at h1
  exact tb_T h1.1 h1.2
theorem cw_2 : ∀ w ∈ wsX20, w ∈ TB := by
  have h : wsX20.all (fun w => decide (w ∈ tables_1) && goodWord w) = true := by decide +kernel
  intro w hw
  have h1 := List.all_eq_true.mp h w hw
  simp only [Bool.and_eq_true, decide_eq_true_eq] at h1
  exact tb_T h1.1 h1.2
theorem cw_3 : ∀ w ∈ wsX30, w ∈ TB := by
  have h : wsX30.all (fun w => decide (w ∈ tables_1) && goodWord w) = true := by decide +kernel
  intro w hw
  have h1 := List.all_eq_true.mp h w hw
  simp only [Bool.and_eq_true, decide_eq_true_eq] at h1
  exact tb_T h1.1 h1.2
theorem cw_4 : ∀ w ∈ wsX40, w ∈ TB := by
  have h : wsX40.all (fun w => decide (w ∈ tables_1) && goodWord w) = true := by decide +kernel
  intro w hw
  have h1 := List.all_eq_true.mp h w hw
  simp only [Bool.and_eq_true, decide_eq_true_eq] at h1
  exact tb_T h1.1 h1.2
theorem cw_5 : ∀ w ∈ wsX50, w ∈ TB := by
  have h : wsX50.all (fun w => decide (w ∈ tables_1) && goodWord w) = true := by decide +kernel
  intro w hw
  have h1 := List.all_eq_true.mp h w hw
  simp only [Bool.and_eq_true, decide_eq_true_eq] at h1
  exact tb_T h1.1 h1.2
theorem cw_6 : ∀ w ∈ wsX60, w ∈ TB := by
  have h : wsX60.all (fun w => decide (w ∈ tables_1) && goodWord w) = true := by decide +kernel
  intro w hw
  have h1 := List.all_eq_true.mp h w hw
  simp only [Bool.and_eq_true, decide_eq_true_eq] at h1
  exact tb_T h1.1 h1.2
theorem cw_7 : ∀ w ∈ wsX70, w ∈ TB := by
  have h : wsX70.all (fun w => decide (w ∈ tables_1) && goodWord w) = true := by decide +kernel
  intro w hw
  have h1 := List.all_eq_true.mp h w hw
  simp only [Bool.and_eq_true, decide_eq_true_eq] at h1
  exact tb_T h1.1 h1.2
theorem cw_8 : ∀ w ∈ wsX80, w ∈ TB := by
  have h : wsX80.all (fun w => decide (w ∈ tables_1) && goodWord w) = true := by decide +kernel
  intro w hw
  have h1 := List.all_eq_true.mp h w hw
  simp only [Bool.and_eq_true, decide_eq_true_eq] at h1
  exact tb_T h1.1 h1.2
theorem cw_9 : ∀ w ∈ wsX90, w ∈ TB := by
  have h : wsX90.all (fun w => decide (w ∈ tables_1) && goodWord w) = true := by decide +kernel
  intro w hw
  have h1 := List.all_eq_true.mp h w hw
  simp only [Bool.and_eq_true, decide_eq_true_eq] at h1
  exact tb_T h1.1 h1.2
theorem cw_10 : ∀ w ∈ wsX100, w ∈ TB := by
  have h : wsX100.all (fun w => decide (w ∈ tables_1) && goodWord w) = true := by decide +kernel
  intro w hw
  have h1 := List.all_eq_true.mp h w hw
  simp only [Bool.and_eq_true, decide_eq_true_eq] at h1
  exact tb_T h1.1 h1.2
theorem cw_11 : ∀ w ∈ wsX110, w ∈ TB := by
  have h : wsX110.all (fun w => decide (w ∈ tables_1) && goodWord w) = true := by decide +kernel
  intro w hw
  have h1 := List.all_eq_true.mp h w hw
  simp only [Bool.and_eq_true, decide_eq_true_eq] at h1
  exact tb_T h1.1 h1.2
theorem cw_12 : ∀ w ∈ wsX120, w ∈ TB := by
  have h : wsX120.all (fun w => decide (w ∈ tables_1) && goodWord w) = true := by decide +kernel
  intro w hw
  have h1 := List.all_eq_true.mp h w hw
  simp only [Bool.and_eq_true, decide_eq_true_eq] at h1
  exact tb_T h1.1 h1.2

/-! the tables' words that stay: one list for all methods -/
def TB : List Cond := lw_tbl.filter goodWord
theorem tb_in {w : Cond} (h : w ∈ lw_tbl) (g : goodWord w = true) : w ∈ TB := List.mem_filter.mpr ⟨h, g⟩
theorem tb_all : ∀ w ∈ TB, goodWord w = true := fun w h => (List.mem_filter.mp h).2
theorem tb_sub {w : Cond} (h : w ∈ TB) : w ∈ lw_tbl := (List.mem_filter.mp h).1
theorem tb_T {w : Cond} (h : w ∈ tables_1) (g : goodWord w = true) : w ∈ TB := tb_in (List.mem_append_right _ h) g
theorem tb1 {w : Cond} (i : Nat) (h : tables_1_1[i]? = some w) (g : goodWord w = true) : w ∈ TB := tb_T (List.mem_append_left _ (List.mem_of_getElem? (i := i) h)) g
theorem tr1 {w : Cond} (i : Nat) (h : tables_1_1[i]? = some w) : w ∈ lw_tbl := List.mem_append_right _ (List.mem_append_left _ (List.mem_of_getElem? (i := i) h))
theorem tb2 {w : Cond} (i : Nat) (h : tables_1_2[i]? = some w) (g : goodWord w = true) : w ∈ TB := tb_T (List.mem_append_right _ (List.mem_append_left _ (List.mem_of_getElem? (i := i) h))) g
theorem tr2 {w : Cond} (i : Nat) (h : tables_1_2[i]? = some w) : w ∈ lw_tbl := List.mem_append_right _ (List.mem_append_right _ (List.mem_append_left _ (List.mem_of_getElem? (i := i) h)))
theorem tb3 {w : Cond} (i : Nat) (h : tables_1_3[i]? = some w) (g : goodWord w = true) : w ∈ TB := tb_T (List.mem_append_right _ (List.mem_append_right _ (List.mem_append_left _ (List.mem_of_getElem? (i := i) h)))) g
theorem tr3 {w : Cond} (i : Nat) (h : tables_1_3[i]? = some w) : w ∈ lw_tbl := List.mem_append_right _ (List.mem_append_right _ (List.mem_append_right _ (List.mem_append_left _ (List.mem_of_getElem? (i := i) h))))
theorem tb4 {w : Cond} (i : Nat) (h : tables_1_4[i]? = some w) (g : goodWord w = true) : w ∈ TB := tb_T (List.mem_append_right _ (List.mem_append_right _ (List.mem_append_right _ (List.mem_append_left _ (List.mem_of_getElem? (i := i) h))))) g
theorem tr4 {w : Cond} (i : Nat) (h : tables_1_4[i]? = some w) : w ∈ lw_tbl := List.mem_append_right _ (List.mem_append_right _ (List.mem_append_right _ (List.mem_append_right _ (List.mem_append_left _ (List.mem_of_getElem? (i := i) h)))))
theorem tb5 {w : Cond} (i : Nat) (h : tables_1_5[i]? = some w) (g : goodWord w = true) : w ∈ TB := tb_T (List.mem_append_right _ (List.mem_append_right _ (List.mem_append_right _ (List.mem_append_right _ (List.mem_append_left _ (List.mem_of_getElem? (i := i) h)))))) g
theorem tr5 {w : Cond} (i : Nat) (h : tables_1_5[i]? = some w) : w ∈ lw_tbl := List.mem_append_right _ (List.mem_append_right _ (List.mem_append_right _ (List.mem_append_right _ (List.mem_append_right _ (List.mem_append_left _ (List.mem_of_getElem? (i := i) h))))))
theorem tb6 {w : Cond} (i : Nat) (h : tables_1_6[i]? = some w) (g : goodWord w = true) : w ∈ TB := tb_T (List.mem_append_right _ (List.mem_append_right _ (List.mem_append_right _ (List.mem_append_right _ (List.mem_append_right _ (List.mem_of_getElem? (i := i) h)))))) g
theorem tr6 {w : Cond} (i : Nat) (h : tables_1_6[i]? = some w) : w ∈ lw_tbl := List.mem_append_right _ (List.mem_append_right _ (List.mem_append_right _ (List.mem_append_right _ (List.mem_append_right _ (List.mem_append_right _ (List.mem_of_getElem? (i := i) h))))))
theorem w1_0 : (Jvm.Cond.initialized "SlateHandsLaw") ∈ TB := tb1 0 rfl rfl
theorem w1_1 : (Jvm.Cond.initialized "SlateHands") ∈ TB := tb1 1 rfl rfl
theorem w1_2 : (Jvm.Cond.initialized "SlateHands$Tape") ∈ TB := tb1 2 rfl rfl
theorem w1_3 : (Jvm.Cond.initialized "SlateHands$Reader") ∈ TB := tb1 3 rfl rfl
theorem w1_4 : (Jvm.Cond.initialized "SlateHands$Port") ∈ TB := tb1 4 rfl rfl
theorem w1_5 : (Jvm.Cond.initialized "SlateHands$Carries") ∈ TB := tb1 5 rfl rfl
theorem w1_6 : (Jvm.Cond.initialized "SlateHands$Slots") ∈ TB := tb1 6 rfl rfl
theorem w1_7 : (Jvm.Cond.initialized "SlateHands$Diary") ∈ TB := tb1 7 rfl rfl
theorem w1_8 : (Jvm.Cond.initialized "SlateHands$Course") ∈ TB := tb1 8 rfl rfl
theorem w1_9 : (Jvm.Cond.initialized "SlateHands$Paths") ∈ TB := tb1 9 rfl rfl
theorem w1_10 : (Jvm.Cond.initialized "SlateHands$Alone") ∈ TB := tb1 10 rfl rfl
theorem w1_11 : (Jvm.Cond.initialized "SlateHands$Weather") ∈ TB := tb1 11 rfl rfl
theorem w1_12 : (Jvm.Cond.initialized "SlateHands$Seen") ∈ TB := tb1 12 rfl rfl
theorem w1_13 : (Jvm.Cond.initialized "java/lang/Math") ∈ TB := tb1 13 rfl rfl
theorem w1_14 : (Jvm.Cond.initialized "java/lang/String") ∈ TB := tb1 14 rfl rfl
theorem w1_15 : (Jvm.Cond.initialized "java/lang/StringLatin1") ∈ TB := tb1 15 rfl rfl
theorem w1_16 : (Jvm.Cond.initialized "jdk/internal/util/Preconditions") ∈ TB := tb1 16 rfl rfl
theorem w1_17 : (Jvm.Cond.initialized "java/lang/StringUTF16") ∈ TB := tb1 17 rfl rfl
theorem w1_18 : (Jvm.Cond.initialized "java/lang/System") ∈ TB := tb1 18 rfl rfl
theorem w1_19 : (Jvm.Cond.initialized "java/util/Arrays") ∈ TB := tb1 19 rfl rfl
theorem w1_20 : (Jvm.Cond.initialized "java/lang/Integer") ∈ TB := tb1 20 rfl rfl
theorem w1_21 : (Jvm.Cond.classLink "SlateHandsLaw" (8 : Nat) "SlateHands") ∈ TB := tb1 21 rfl rfl
theorem w1_22 : (Jvm.Cond.instantiable "SlateHands" (14 : Nat)) ∈ TB := tb1 22 rfl rfl
theorem w1_23 : (Jvm.Cond.methodLink "SlateHandsLaw" (123 : Nat) ({ cls := "SlateHands", name := "<init>", desc := "()V" } : Jvm.MethodName)) ∈ TB := tb1 23 rfl rfl
theorem w1_24 : (Jvm.Cond.instanceMethod ({ cls := "SlateHands", name := "<init>", desc := "()V" } : Jvm.MethodName)) ∈ TB := tb1 24 rfl rfl
theorem w1_25 : (Jvm.Cond.code ({ cls := "SlateHands", name := "<init>", desc := "()V" } : Jvm.MethodName) prog_1_method_1_code (1 : Nat) (Option.none : Option Jvm.ClassFile.FieldType)) ∈ TB := tb1 25 rfl rfl
theorem w1_26 : (Jvm.Cond.methodLink "SlateHands" (3 : Nat) ({ cls := "java/lang/Object", name := "<init>", desc := "()V" } : Jvm.MethodName)) ∈ TB := tb1 26 rfl rfl
theorem w1_27 : (Jvm.Cond.instanceMethod ({ cls := "java/lang/Object", name := "<init>", desc := "()V" } : Jvm.MethodName)) ∈ TB := tb1 27 rfl rfl
theorem w1_28 : (Jvm.Cond.code ({ cls := "java/lang/Object", name := "<init>", desc := "()V" } : Jvm.MethodName) object_method_1_code (1 : Nat) (Option.none : Option Jvm.ClassFile.FieldType)) ∈ TB := tb1 28 rfl rfl
theorem w1_29 : (Jvm.Cond.classLink "SlateHands" (9 : Nat) "SlateHands$Tape") ∈ TB := tb1 29 rfl rfl
theorem w1_30 : (Jvm.Cond.instantiable "SlateHands$Tape" (6 : Nat)) ∈ TB := tb1 30 rfl rfl
theorem w1_32 : (Jvm.Cond.instanceMethod ({ cls := "SlateHands$Tape", name := "<init>", desc := "()V" } : Jvm.MethodName)) ∈ TB := tb1 32 rfl rfl
theorem w1_33 : (Jvm.Cond.code ({ cls := "SlateHands$Tape", name := "<init>", desc := "()V" } : Jvm.MethodName) prog_11_method_1_code (1 : Nat) (Option.none : Option Jvm.ClassFile.FieldType)) ∈ TB := tb1 33 rfl rfl
theorem w1_34 : (Jvm.Cond.methodLink "SlateHands$Tape" (3 : Nat) ({ cls := "java/lang/Object", name := "<init>", desc := "()V" } : Jvm.MethodName)) ∈ TB := tb1 34 rfl rfl
theorem w1_35 : (Jvm.Cond.fieldLink "SlateHands$Tape" (9 : Nat) "SlateHands$Tape" "bytes" "[B") ∈ TB := tb1 35 rfl rfl
theorem w1_36 : (Jvm.Cond.fieldLink "SlateHands" (89 : Nat) "SlateHands$Tape" "size" "I") ∈ TB := tb1 36 rfl rfl
theorem w1_37 : (Jvm.Cond.fieldLink "SlateHands$Tape" (15 : Nat) "SlateHands$Tape" "size" "I") ∈ TB := tb1 37 rfl rfl
theorem w1_38 : (Jvm.Cond.fieldLink "SlateHands$Reader" (31 : Nat) "SlateHands$Tape" "kind" "I") ∈ TB := tb1 38 rfl rfl
theorem w1_39 : (Jvm.Cond.fieldLink "SlateHands$Tape" (36 : Nat) "SlateHands$Tape" "kind" "I") ∈ TB := tb1 39 rfl rfl
theorem w1_40 : (Jvm.Cond.fieldLink "SlateHands$Tape" (22 : Nat) "SlateHands$Tape" "start" "I") ∈ TB := tb1 40 rfl rfl
theorem w1_41 : (Jvm.Cond.fieldLink "SlateHands$Reader" (179 : Nat) "SlateHands$Tape" "start" "I") ∈ TB := tb1 41 rfl rfl
theorem w1_42 : (Jvm.Cond.fieldLink "SlateHands$Tape" (33 : Nat) "SlateHands$Tape" "number" "I") ∈ TB := tb1 42 rfl rfl
theorem w1_43 : (Jvm.Cond.fieldLink "SlateHands$Reader" (144 : Nat) "SlateHands$Tape" "number" "I") ∈ TB := tb1 43 rfl rfl
theorem w1_44 : (Jvm.Cond.fieldLink "SlateHands$Tape" (19 : Nat) "SlateHands$Tape" "behind" "I") ∈ TB := tb1 44 rfl rfl
theorem w1_58 : (Jvm.Cond.arrayClass Jvm.ClassFile.FieldType.byte) ∈ TB := tb1 58 rfl rfl
theorem w1_59 : (Jvm.Cond.classLink "SlateHands" (16 : Nat) "SlateHands$Reader") ∈ TB := tb1 59 rfl rfl
theorem w1_60 : (Jvm.Cond.instantiable "SlateHands$Reader" (2 : Nat)) ∈ TB := tb1 60 rfl rfl
theorem w1_62 : (Jvm.Cond.instanceMethod ({ cls := "SlateHands$Reader", name := "<init>", desc := "()V" } : Jvm.MethodName)) ∈ TB := tb1 62 rfl rfl
theorem w1_63 : (Jvm.Cond.code ({ cls := "SlateHands$Reader", name := "<init>", desc := "()V" } : Jvm.MethodName) prog_8_method_1_code (1 : Nat) (Option.none : Option Jvm.ClassFile.FieldType)) ∈ TB := tb1 63 rfl rfl
theorem w1_64 : (Jvm.Cond.methodLink "SlateHands$Reader" (3 : Nat) ({ cls := "java/lang/Object", name := "<init>", desc := "()V" } : Jvm.MethodName)) ∈ TB := tb1 64 rfl rfl
theorem w1_65 : (Jvm.Cond.fieldLink "SlateHands$Reader" (15 : Nat) "SlateHands$Reader" "fault" "I") ∈ TB := tb1 65 rfl rfl
theorem w1_66 : (Jvm.Cond.fieldLink "SlateHands$Reader" (9 : Nat) "SlateHands$Reader" "place" "I") ∈ TB := tb1 66 rfl rfl
theorem w1_72 : (Jvm.Cond.classLink "SlateHands" (23 : Nat) "SlateHands$Port") ∈ TB := tb1 72 rfl rfl
theorem w1_73 : (Jvm.Cond.instantiable "SlateHands$Port" (17 : Nat)) ∈ TB := tb1 73 rfl rfl
theorem w1_75 : (Jvm.Cond.instanceMethod ({ cls := "SlateHands$Port", name := "<init>", desc := "()V" } : Jvm.MethodName)) ∈ TB := tb1 75 rfl rfl
theorem w1_76 : (Jvm.Cond.code ({ cls := "SlateHands$Port", name := "<init>", desc := "()V" } : Jvm.MethodName) prog_7_method_1_code (1 : Nat) (Option.none : Option Jvm.ClassFile.FieldType)) ∈ TB := tb1 76 rfl rfl
theorem w1_77 : (Jvm.Cond.methodLink "SlateHands$Port" (3 : Nat) ({ cls := "java/lang/Object", name := "<init>", desc := "()V" } : Jvm.MethodName)) ∈ TB := tb1 77 rfl rfl
theorem w1_78 : (Jvm.Cond.classLink "SlateHands$Port" (36 : Nat) "SlateHands$Carries") ∈ TB := tb1 78 rfl rfl
theorem w1_79 : (Jvm.Cond.instantiable "SlateHands$Carries" (9 : Nat)) ∈ TB := tb1 79 rfl rfl
theorem w1_81 : (Jvm.Cond.instanceMethod ({ cls := "SlateHands$Carries", name := "<init>", desc := "()V" } : Jvm.MethodName)) ∈ TB := tb1 81 rfl rfl
theorem w1_82 : (Jvm.Cond.code ({ cls := "SlateHands$Carries", name := "<init>", desc := "()V" } : Jvm.MethodName) prog_3_method_1_code (1 : Nat) (Option.none : Option Jvm.ClassFile.FieldType)) ∈ TB := tb1 82 rfl rfl
theorem w1_83 : (Jvm.Cond.methodLink "SlateHands$Carries" (3 : Nat) ({ cls := "java/lang/Object", name := "<init>", desc := "()V" } : Jvm.MethodName)) ∈ TB := tb1 83 rfl rfl
theorem w1_84 : (Jvm.Cond.fieldLink "SlateHands$Carries" (30 : Nat) "SlateHands$Carries" "told" "I") ∈ TB := tb1 84 rfl rfl
theorem w1_85 : (Jvm.Cond.fieldLink "SlateHands$Reader" (54 : Nat) "SlateHands$Carries" "told" "I") ∈ TB := tb1 85 rfl rfl
theorem w1_86 : (Jvm.Cond.fieldLink "SlateHands" (403 : Nat) "SlateHands$Carries" "told" "I") ∈ TB := tb1 86 rfl rfl
theorem w1_87 : (Jvm.Cond.fieldLink "SlateHands$Carries" (34 : Nat) "SlateHands$Carries" "size" "I") ∈ TB := tb1 87 rfl rfl
theorem w1_88 : (Jvm.Cond.fieldLink "SlateHands$Reader" (49 : Nat) "SlateHands$Carries" "size" "I") ∈ TB := tb1 88 rfl rfl
theorem w1_89 : (Jvm.Cond.fieldLink "SlateHands$Course" (91 : Nat) "SlateHands$Carries" "size" "I") ∈ TB := tb1 89 rfl rfl
theorem w1_90 : (Jvm.Cond.fieldLink "SlateHands$Port" (89 : Nat) "SlateHands$Carries" "size" "I") ∈ TB := tb1 90 rfl rfl
theorem w1_91 : (Jvm.Cond.fieldLink "SlateHands" (217 : Nat) "SlateHands$Carries" "size" "I") ∈ TB := tb1 91 rfl rfl
theorem w1_92 : (Jvm.Cond.fieldLink "SlateHands$Carries" (37 : Nat) "SlateHands$Carries" "acts" "I") ∈ TB := tb1 92 rfl rfl
theorem w1_93 : (Jvm.Cond.fieldLink "SlateHands" (388 : Nat) "SlateHands$Carries" "acts" "I") ∈ TB := tb1 93 rfl rfl
theorem w1_94 : (Jvm.Cond.fieldLink "SlateHands$Carries" (9 : Nat) "SlateHands$Carries" "carrier" "[I") ∈ TB := tb1 94 rfl rfl
theorem w1_95 : (Jvm.Cond.fieldLink "SlateHands$Course" (122 : Nat) "SlateHands$Carries" "carrier" "[I") ∈ TB := tb1 95 rfl rfl
theorem w1_96 : (Jvm.Cond.fieldLink "SlateHands$Carries" (15 : Nat) "SlateHands$Carries" "slate" "[I") ∈ TB := tb1 96 rfl rfl
theorem w1_97 : (Jvm.Cond.fieldLink "SlateHands$Course" (125 : Nat) "SlateHands$Carries" "slate" "[I") ∈ TB := tb1 97 rfl rfl
theorem w1_98 : (Jvm.Cond.fieldLink "SlateHands$Carries" (18 : Nat) "SlateHands$Carries" "house" "[I") ∈ TB := tb1 98 rfl rfl
theorem w1_99 : (Jvm.Cond.fieldLink "SlateHands$Course" (128 : Nat) "SlateHands$Carries" "house" "[I") ∈ TB := tb1 99 rfl rfl
theorem w1_100 : (Jvm.Cond.fieldLink "SlateHands$Carries" (21 : Nat) "SlateHands$Carries" "day" "[I") ∈ TB := tb1 100 rfl rfl
theorem w1_101 : (Jvm.Cond.fieldLink "SlateHands$Course" (96 : Nat) "SlateHands$Carries" "day" "[I") ∈ TB := tb1 101 rfl rfl
theorem w1_102 : (Jvm.Cond.fieldLink "SlateHands$Carries" (24 : Nat) "SlateHands$Carries" "actSlate" "[I") ∈ TB := tb1 102 rfl rfl
theorem w1_103 : (Jvm.Cond.fieldLink "SlateHands$Carries" (27 : Nat) "SlateHands$Carries" "actWord" "[I") ∈ TB := tb1 103 rfl rfl
theorem w1_123 : (Jvm.Cond.arrayClass Jvm.ClassFile.FieldType.int) ∈ TB := tb1 123 rfl rfl
theorem w1_124 : (Jvm.Cond.fieldLink "SlateHands$Port" (43 : Nat) "SlateHands$Port" "lines" "I") ∈ TB := tb1 124 rfl rfl
theorem w1_125 : (Jvm.Cond.fieldLink "SlateHands$Reader" (42 : Nat) "SlateHands$Port" "lines" "I") ∈ TB := tb1 125 rfl rfl
theorem w1_126 : (Jvm.Cond.fieldLink "SlateHands" (108 : Nat) "SlateHands$Port" "lines" "I") ∈ TB := tb1 126 rfl rfl
theorem w1_127 : (Jvm.Cond.fieldLink "SlateHands$Port" (47 : Nat) "SlateHands$Port" "days" "I") ∈ TB := tb1 127 rfl rfl
theorem w1_128 : (Jvm.Cond.fieldLink "SlateHands$Diary" (38 : Nat) "SlateHands$Port" "days" "I") ∈ TB := tb1 128 rfl rfl
theorem w1_129 : (Jvm.Cond.fieldLink "SlateHands$Seen" (37 : Nat) "SlateHands$Port" "days" "I") ∈ TB := tb1 129 rfl rfl
theorem w1_130 : (Jvm.Cond.fieldLink "SlateHands$Reader" (121 : Nat) "SlateHands$Port" "days" "I") ∈ TB := tb1 130 rfl rfl
theorem w1_131 : (Jvm.Cond.fieldLink "SlateHands$Course" (115 : Nat) "SlateHands$Port" "days" "I") ∈ TB := tb1 131 rfl rfl
theorem w1_132 : (Jvm.Cond.fieldLink "SlateHands$Weather" (74 : Nat) "SlateHands$Port" "days" "I") ∈ TB := tb1 132 rfl rfl
theorem w1_133 : (Jvm.Cond.fieldLink "SlateHands" (200 : Nat) "SlateHands$Port" "days" "I") ∈ TB := tb1 133 rfl rfl
theorem w1_134 : (Jvm.Cond.fieldLink "SlateHands$Course" (33 : Nat) "SlateHands$Port" "law" "I") ∈ TB := tb1 134 rfl rfl
theorem w1_135 : (Jvm.Cond.fieldLink "SlateHands$Port" (50 : Nat) "SlateHands$Port" "law" "I") ∈ TB := tb1 135 rfl rfl
theorem w1_136 : (Jvm.Cond.fieldLink "SlateHands$Reader" (125 : Nat) "SlateHands$Port" "law" "I") ∈ TB := tb1 136 rfl rfl
theorem w1_137 : (Jvm.Cond.fieldLink "SlateHands$Alone" (117 : Nat) "SlateHands$Port" "law" "I") ∈ TB := tb1 137 rfl rfl
theorem w1_138 : (Jvm.Cond.fieldLink "SlateHands" (422 : Nat) "SlateHands$Port" "law" "I") ∈ TB := tb1 138 rfl rfl
theorem w1_139 : (Jvm.Cond.fieldLink "SlateHands$Port" (53 : Nat) "SlateHands$Port" "odds" "I") ∈ TB := tb1 139 rfl rfl
theorem w1_140 : (Jvm.Cond.fieldLink "SlateHands$Reader" (129 : Nat) "SlateHands$Port" "odds" "I") ∈ TB := tb1 140 rfl rfl
theorem w1_141 : (Jvm.Cond.fieldLink "SlateHands$Weather" (54 : Nat) "SlateHands$Port" "odds" "I") ∈ TB := tb1 141 rfl rfl
theorem w1_142 : (Jvm.Cond.fieldLink "SlateHands" (423 : Nat) "SlateHands$Port" "odds" "I") ∈ TB := tb1 142 rfl rfl
theorem w1_143 : (Jvm.Cond.fieldLink "SlateHands$Port" (56 : Nat) "SlateHands$Port" "houses" "I") ∈ TB := tb1 143 rfl rfl
theorem w1_144 : (Jvm.Cond.fieldLink "SlateHands$Seen" (41 : Nat) "SlateHands$Port" "houses" "I") ∈ TB := tb1 144 rfl rfl
theorem w1_145 : (Jvm.Cond.fieldLink "SlateHands$Reader" (66 : Nat) "SlateHands$Port" "houses" "I") ∈ TB := tb1 145 rfl rfl
theorem w1_146 : (Jvm.Cond.fieldLink "SlateHands$Paths" (53 : Nat) "SlateHands$Port" "houses" "I") ∈ TB := tb1 146 rfl rfl
theorem w1_147 : (Jvm.Cond.fieldLink "SlateHands$Diary" (62 : Nat) "SlateHands$Port" "houses" "I") ∈ TB := tb1 147 rfl rfl
theorem w1_148 : (Jvm.Cond.fieldLink "SlateHands$Alone" (130 : Nat) "SlateHands$Port" "houses" "I") ∈ TB := tb1 148 rfl rfl
theorem w1_149 : (Jvm.Cond.fieldLink "SlateHands" (193 : Nat) "SlateHands$Port" "houses" "I") ∈ TB := tb1 149 rfl rfl
theorem w1_150 : (Jvm.Cond.fieldLink "SlateHands$Port" (59 : Nat) "SlateHands$Port" "ways" "I") ∈ TB := tb1 150 rfl rfl
theorem w1_151 : (Jvm.Cond.fieldLink "SlateHands$Reader" (78 : Nat) "SlateHands$Port" "ways" "I") ∈ TB := tb1 151 rfl rfl
theorem w1_152 : (Jvm.Cond.fieldLink "SlateHands" (302 : Nat) "SlateHands$Port" "ways" "I") ∈ TB := tb1 152 rfl rfl
theorem w1_153 : (Jvm.Cond.fieldLink "SlateHands$Port" (62 : Nat) "SlateHands$Port" "carriers" "I") ∈ TB := tb1 153 rfl rfl
theorem w1_154 : (Jvm.Cond.fieldLink "SlateHands$Course" (61 : Nat) "SlateHands$Port" "carriers" "I") ∈ TB := tb1 154 rfl rfl
theorem w1_155 : (Jvm.Cond.fieldLink "SlateHands$Reader" (86 : Nat) "SlateHands$Port" "carriers" "I") ∈ TB := tb1 155 rfl rfl
theorem w1_156 : (Jvm.Cond.fieldLink "SlateHands" (274 : Nat) "SlateHands$Port" "carriers" "I") ∈ TB := tb1 156 rfl rfl
theorem w1_157 : (Jvm.Cond.fieldLink "SlateHands$Port" (65 : Nat) "SlateHands$Port" "slates" "I") ∈ TB := tb1 157 rfl rfl
theorem w1_158 : (Jvm.Cond.fieldLink "SlateHands$Course" (73 : Nat) "SlateHands$Port" "slates" "I") ∈ TB := tb1 158 rfl rfl
theorem w1_159 : (Jvm.Cond.fieldLink "SlateHands$Reader" (94 : Nat) "SlateHands$Port" "slates" "I") ∈ TB := tb1 159 rfl rfl
theorem w1_160 : (Jvm.Cond.fieldLink "SlateHands" (248 : Nat) "SlateHands$Port" "slates" "I") ∈ TB := tb1 160 rfl rfl
theorem w1_161 : (Jvm.Cond.fieldLink "SlateHands$Port" (9 : Nat) "SlateHands$Port" "high" "[I") ∈ TB := tb1 161 rfl rfl
theorem w1_162 : (Jvm.Cond.fieldLink "SlateHands$Reader" (131 : Nat) "SlateHands$Port" "high" "[I") ∈ TB := tb1 162 rfl rfl
theorem w1_163 : (Jvm.Cond.fieldLink "SlateHands$Port" (15 : Nat) "SlateHands$Port" "wayFrom" "[I") ∈ TB := tb1 163 rfl rfl
theorem w1_164 : (Jvm.Cond.fieldLink "SlateHands$Reader" (147 : Nat) "SlateHands$Port" "wayFrom" "[I") ∈ TB := tb1 164 rfl rfl
theorem w1_165 : (Jvm.Cond.fieldLink "SlateHands$Port" (18 : Nat) "SlateHands$Port" "wayTo" "[I") ∈ TB := tb1 165 rfl rfl
theorem w1_166 : (Jvm.Cond.fieldLink "SlateHands$Reader" (150 : Nat) "SlateHands$Port" "wayTo" "[I") ∈ TB := tb1 166 rfl rfl
theorem w1_167 : (Jvm.Cond.fieldLink "SlateHands$Port" (21 : Nat) "SlateHands$Port" "carrierHouse" "[I") ∈ TB := tb1 167 rfl rfl
theorem w1_168 : (Jvm.Cond.fieldLink "SlateHands$Course" (64 : Nat) "SlateHands$Port" "carrierHouse" "[I") ∈ TB := tb1 168 rfl rfl
theorem w1_169 : (Jvm.Cond.fieldLink "SlateHands$Reader" (153 : Nat) "SlateHands$Port" "carrierHouse" "[I") ∈ TB := tb1 169 rfl rfl
theorem w1_170 : (Jvm.Cond.fieldLink "SlateHands$Port" (24 : Nat) "SlateHands$Port" "strong" "[I") ∈ TB := tb1 170 rfl rfl
theorem w1_171 : (Jvm.Cond.fieldLink "SlateHands$Reader" (158 : Nat) "SlateHands$Port" "strong" "[I") ∈ TB := tb1 171 rfl rfl
theorem w1_172 : (Jvm.Cond.fieldLink "SlateHands$Course" (139 : Nat) "SlateHands$Port" "strong" "[I") ∈ TB := tb1 172 rfl rfl
theorem w1_173 : (Jvm.Cond.fieldLink "SlateHands" (137 : Nat) "SlateHands$Port" "strong" "[I") ∈ TB := tb1 173 rfl rfl
theorem w1_174 : (Jvm.Cond.fieldLink "SlateHands$Port" (27 : Nat) "SlateHands$Port" "slateHouse" "[I") ∈ TB := tb1 174 rfl rfl
theorem w1_175 : (Jvm.Cond.fieldLink "SlateHands$Alone" (71 : Nat) "SlateHands$Port" "slateHouse" "[I") ∈ TB := tb1 175 rfl rfl
theorem w1_176 : (Jvm.Cond.fieldLink "SlateHands$Course" (76 : Nat) "SlateHands$Port" "slateHouse" "[I") ∈ TB := tb1 176 rfl rfl
theorem w1_177 : (Jvm.Cond.fieldLink "SlateHands$Reader" (162 : Nat) "SlateHands$Port" "slateHouse" "[I") ∈ TB := tb1 177 rfl rfl
theorem w1_178 : (Jvm.Cond.fieldLink "SlateHands$Port" (30 : Nat) "SlateHands$Port" "words" "[I") ∈ TB := tb1 178 rfl rfl
theorem w1_179 : (Jvm.Cond.fieldLink "SlateHands$Reader" (170 : Nat) "SlateHands$Port" "words" "[I") ∈ TB := tb1 179 rfl rfl
theorem w1_180 : (Jvm.Cond.fieldLink "SlateHands$Port" (33 : Nat) "SlateHands$Port" "heavy" "[I") ∈ TB := tb1 180 rfl rfl
theorem w1_181 : (Jvm.Cond.fieldLink "SlateHands$Reader" (167 : Nat) "SlateHands$Port" "heavy" "[I") ∈ TB := tb1 181 rfl rfl
theorem w1_182 : (Jvm.Cond.fieldLink "SlateHands$Port" (39 : Nat) "SlateHands$Port" "carries" "LSlateHands$Carries;") ∈ TB := tb1 182 rfl rfl
theorem w1_183 : (Jvm.Cond.fieldLink "SlateHands$Reader" (45 : Nat) "SlateHands$Port" "carries" "LSlateHands$Carries;") ∈ TB := tb1 183 rfl rfl
theorem w1_184 : (Jvm.Cond.fieldLink "SlateHands$Course" (87 : Nat) "SlateHands$Port" "carries" "LSlateHands$Carries;") ∈ TB := tb1 184 rfl rfl
theorem w1_185 : (Jvm.Cond.fieldLink "SlateHands" (213 : Nat) "SlateHands$Port" "carries" "LSlateHands$Carries;") ∈ TB := tb1 185 rfl rfl
theorem w1_222 : (Jvm.Cond.classLink "SlateHands" (37 : Nat) "SlateHands$Slots") ∈ TB := tb1 222 rfl rfl
theorem w1_223 : (Jvm.Cond.instantiable "SlateHands$Slots" (3 : Nat)) ∈ TB := tb1 223 rfl rfl
theorem w1_225 : (Jvm.Cond.instanceMethod ({ cls := "SlateHands$Slots", name := "<init>", desc := "()V" } : Jvm.MethodName)) ∈ TB := tb1 225 rfl rfl
theorem w1_226 : (Jvm.Cond.code ({ cls := "SlateHands$Slots", name := "<init>", desc := "()V" } : Jvm.MethodName) prog_10_method_1_code (1 : Nat) (Option.none : Option Jvm.ClassFile.FieldType)) ∈ TB := tb1 226 rfl rfl
theorem w1_227 : (Jvm.Cond.methodLink "SlateHands$Slots" (3 : Nat) ({ cls := "java/lang/Object", name := "<init>", desc := "()V" } : Jvm.MethodName)) ∈ TB := tb1 227 rfl rfl
theorem w1_228 : (Jvm.Cond.fieldLink "SlateHands$Slots" (11 : Nat) "SlateHands$Slots" "widths" "[I") ∈ TB := tb1 228 rfl rfl
theorem w1_229 : (Jvm.Cond.fieldLink "SlateHands$Slots" (15 : Nat) "SlateHands$Slots" "sizes" "[I") ∈ TB := tb1 229 rfl rfl
theorem w1_230 : (Jvm.Cond.fieldLink "SlateHands$Slots" (18 : Nat) "SlateHands$Slots" "numbers" "[J") ∈ TB := tb1 230 rfl rfl
theorem w1_238 : (Jvm.Cond.arrayClass Jvm.ClassFile.FieldType.long) ∈ TB := tb1 238 rfl rfl
theorem w1_239 : (Jvm.Cond.classLink "SlateHands" (44 : Nat) "SlateHands$Diary") ∈ TB := tb1 239 rfl rfl
theorem w2_0 : (Jvm.Cond.instantiable "SlateHands$Diary" (7 : Nat)) ∈ TB := tb2 0 rfl rfl
theorem w2_2 : (Jvm.Cond.instanceMethod ({ cls := "SlateHands$Diary", name := "<init>", desc := "()V" } : Jvm.MethodName)) ∈ TB := tb2 2 rfl rfl
theorem w2_3 : (Jvm.Cond.code ({ cls := "SlateHands$Diary", name := "<init>", desc := "()V" } : Jvm.MethodName) prog_5_method_1_code (1 : Nat) (Option.none : Option Jvm.ClassFile.FieldType)) ∈ TB := tb2 3 rfl rfl
theorem w2_4 : (Jvm.Cond.methodLink "SlateHands$Diary" (3 : Nat) ({ cls := "java/lang/Object", name := "<init>", desc := "()V" } : Jvm.MethodName)) ∈ TB := tb2 4 rfl rfl
theorem w2_5 : (Jvm.Cond.classLink "SlateHands$Diary" (9 : Nat) "SlateHands$Course") ∈ TB := tb2 5 rfl rfl
theorem w2_6 : (Jvm.Cond.instantiable "SlateHands$Course" (15 : Nat)) ∈ TB := tb2 6 rfl rfl
theorem w2_8 : (Jvm.Cond.instanceMethod ({ cls := "SlateHands$Course", name := "<init>", desc := "()V" } : Jvm.MethodName)) ∈ TB := tb2 8 rfl rfl
theorem w2_9 : (Jvm.Cond.code ({ cls := "SlateHands$Course", name := "<init>", desc := "()V" } : Jvm.MethodName) prog_4_method_1_code (1 : Nat) (Option.none : Option Jvm.ClassFile.FieldType)) ∈ TB := tb2 9 rfl rfl
theorem w2_10 : (Jvm.Cond.methodLink "SlateHands$Course" (3 : Nat) ({ cls := "java/lang/Object", name := "<init>", desc := "()V" } : Jvm.MethodName)) ∈ TB := tb2 10 rfl rfl
theorem w2_11 : (Jvm.Cond.fieldLink "SlateHands$Course" (39 : Nat) "SlateHands$Course" "law" "I") ∈ TB := tb2 11 rfl rfl
theorem w2_12 : (Jvm.Cond.fieldLink "SlateHands" (341 : Nat) "SlateHands$Course" "law" "I") ∈ TB := tb2 12 rfl rfl
theorem w2_13 : (Jvm.Cond.fieldLink "SlateHands$Course" (40 : Nat) "SlateHands$Course" "lostWay" "I") ∈ TB := tb2 13 rfl rfl
theorem w2_14 : (Jvm.Cond.fieldLink "SlateHands$Course" (43 : Nat) "SlateHands$Course" "shut" "I") ∈ TB := tb2 14 rfl rfl
theorem w2_15 : (Jvm.Cond.fieldLink "SlateHands" (458 : Nat) "SlateHands$Course" "shut" "I") ∈ TB := tb2 15 rfl rfl
theorem w2_16 : (Jvm.Cond.fieldLink "SlateHands$Course" (46 : Nat) "SlateHands$Course" "rain" "I") ∈ TB := tb2 16 rfl rfl
theorem w2_17 : (Jvm.Cond.fieldLink "SlateHands" (449 : Nat) "SlateHands$Course" "rain" "I") ∈ TB := tb2 17 rfl rfl
theorem w2_18 : (Jvm.Cond.fieldLink "SlateHands$Course" (49 : Nat) "SlateHands$Course" "movedSlate" "I") ∈ TB := tb2 18 rfl rfl
theorem w2_19 : (Jvm.Cond.fieldLink "SlateHands$Seen" (59 : Nat) "SlateHands$Course" "movedSlate" "I") ∈ TB := tb2 19 rfl rfl
theorem w2_20 : (Jvm.Cond.fieldLink "SlateHands$Course" (52 : Nat) "SlateHands$Course" "movedHouse" "I") ∈ TB := tb2 20 rfl rfl
theorem w2_21 : (Jvm.Cond.fieldLink "SlateHands$Seen" (62 : Nat) "SlateHands$Course" "movedHouse" "I") ∈ TB := tb2 21 rfl rfl
theorem w2_22 : (Jvm.Cond.fieldLink "SlateHands$Diary" (52 : Nat) "SlateHands$Course" "carriersOut" "I") ∈ TB := tb2 22 rfl rfl
theorem w2_23 : (Jvm.Cond.fieldLink "SlateHands$Course" (81 : Nat) "SlateHands$Course" "carriersOut" "I") ∈ TB := tb2 23 rfl rfl
theorem w2_24 : (Jvm.Cond.fieldLink "SlateHands$Course" (84 : Nat) "SlateHands$Course" "slatesOut" "I") ∈ TB := tb2 24 rfl rfl
theorem w2_25 : (Jvm.Cond.fieldLink "SlateHands$Course" (9 : Nat) "SlateHands$Course" "carrierHouse" "[I") ∈ TB := tb2 25 rfl rfl
theorem w2_26 : (Jvm.Cond.fieldLink "SlateHands$Diary" (79 : Nat) "SlateHands$Course" "carrierHouse" "[I") ∈ TB := tb2 26 rfl rfl
theorem w2_27 : (Jvm.Cond.fieldLink "SlateHands$Course" (15 : Nat) "SlateHands$Course" "slateHouse" "[I") ∈ TB := tb2 27 rfl rfl
theorem w2_28 : (Jvm.Cond.fieldLink "SlateHands$Diary" (86 : Nat) "SlateHands$Course" "slateHouse" "[I") ∈ TB := tb2 28 rfl rfl
theorem w2_29 : (Jvm.Cond.fieldLink "SlateHands$Course" (18 : Nat) "SlateHands$Course" "left" "[I") ∈ TB := tb2 29 rfl rfl
theorem w2_30 : (Jvm.Cond.fieldLink "SlateHands$Diary" (87 : Nat) "SlateHands$Course" "left" "[I") ∈ TB := tb2 30 rfl rfl
theorem w2_31 : (Jvm.Cond.fieldLink "SlateHands" (416 : Nat) "SlateHands$Course" "left" "[I") ∈ TB := tb2 31 rfl rfl
theorem w2_32 : (Jvm.Cond.fieldLink "SlateHands$Course" (21 : Nat) "SlateHands$Course" "known" "[I") ∈ TB := tb2 32 rfl rfl
theorem w2_33 : (Jvm.Cond.fieldLink "SlateHands$Diary" (88 : Nat) "SlateHands$Course" "known" "[I") ∈ TB := tb2 33 rfl rfl
theorem w2_34 : (Jvm.Cond.fieldLink "SlateHands$Course" (24 : Nat) "SlateHands$Course" "been" "[I") ∈ TB := tb2 34 rfl rfl
theorem w2_35 : (Jvm.Cond.fieldLink "SlateHands$Course" (27 : Nat) "SlateHands$Course" "reason" "[I") ∈ TB := tb2 35 rfl rfl
theorem w2_36 : (Jvm.Cond.fieldLink "SlateHands$Diary" (69 : Nat) "SlateHands$Course" "reason" "[I") ∈ TB := tb2 36 rfl rfl
theorem w2_37 : (Jvm.Cond.fieldLink "SlateHands$Course" (30 : Nat) "SlateHands$Course" "load" "[I") ∈ TB := tb2 37 rfl rfl
theorem w2_69 : (Jvm.Cond.fieldLink "SlateHands" (441 : Nat) "SlateHands$Diary" "fresh" "Z") ∈ TB := tb2 69 rfl rfl
theorem w2_70 : (Jvm.Cond.fieldLink "SlateHands$Diary" (12 : Nat) "SlateHands$Diary" "course" "LSlateHands$Course;") ∈ TB := tb2 70 rfl rfl
theorem w2_71 : (Jvm.Cond.fieldLink "SlateHands$Seen" (47 : Nat) "SlateHands$Diary" "course" "LSlateHands$Course;") ∈ TB := tb2 71 rfl rfl
theorem w2_72 : (Jvm.Cond.fieldLink "SlateHands" (332 : Nat) "SlateHands$Diary" "course" "LSlateHands$Course;") ∈ TB := tb2 72 rfl rfl
theorem w2_73 : (Jvm.Cond.fieldLink "SlateHands$Diary" (18 : Nat) "SlateHands$Diary" "carrierHouse" "[I") ∈ TB := tb2 73 rfl rfl
theorem w2_74 : (Jvm.Cond.fieldLink "SlateHands$Diary" (22 : Nat) "SlateHands$Diary" "slateHouse" "[I") ∈ TB := tb2 74 rfl rfl
theorem w2_75 : (Jvm.Cond.fieldLink "SlateHands$Diary" (25 : Nat) "SlateHands$Diary" "left" "[I") ∈ TB := tb2 75 rfl rfl
theorem w2_76 : (Jvm.Cond.fieldLink "SlateHands$Diary" (28 : Nat) "SlateHands$Diary" "known" "[I") ∈ TB := tb2 76 rfl rfl
theorem w2_77 : (Jvm.Cond.fieldLink "SlateHands$Diary" (31 : Nat) "SlateHands$Diary" "carriersOut" "[I") ∈ TB := tb2 77 rfl rfl
theorem w2_93 : (Jvm.Cond.classLink "SlateHands" (54 : Nat) "SlateHands$Paths") ∈ TB := tb2 93 rfl rfl
theorem w2_94 : (Jvm.Cond.instantiable "SlateHands$Paths" (1 : Nat)) ∈ TB := tb2 94 rfl rfl
theorem w2_96 : (Jvm.Cond.instanceMethod ({ cls := "SlateHands$Paths", name := "<init>", desc := "()V" } : Jvm.MethodName)) ∈ TB := tb2 96 rfl rfl
theorem w2_97 : (Jvm.Cond.code ({ cls := "SlateHands$Paths", name := "<init>", desc := "()V" } : Jvm.MethodName) prog_6_method_1_code (1 : Nat) (Option.none : Option Jvm.ClassFile.FieldType)) ∈ TB := tb2 97 rfl rfl
theorem w2_98 : (Jvm.Cond.methodLink "SlateHands$Paths" (3 : Nat) ({ cls := "java/lang/Object", name := "<init>", desc := "()V" } : Jvm.MethodName)) ∈ TB := tb2 98 rfl rfl
theorem w2_99 : (Jvm.Cond.fieldLink "SlateHands$Paths" (9 : Nat) "SlateHands$Paths" "climbs" "[I") ∈ TB := tb2 99 rfl rfl
theorem w2_103 : (Jvm.Cond.classLink "SlateHands" (61 : Nat) "SlateHands$Alone") ∈ TB := tb2 103 rfl rfl
theorem w2_104 : (Jvm.Cond.instantiable "SlateHands$Alone" (17 : Nat)) ∈ TB := tb2 104 rfl rfl
theorem w2_106 : (Jvm.Cond.instanceMethod ({ cls := "SlateHands$Alone", name := "<init>", desc := "()V" } : Jvm.MethodName)) ∈ TB := tb2 106 rfl rfl
theorem w2_107 : (Jvm.Cond.code ({ cls := "SlateHands$Alone", name := "<init>", desc := "()V" } : Jvm.MethodName) prog_2_method_1_code (1 : Nat) (Option.none : Option Jvm.ClassFile.FieldType)) ∈ TB := tb2 107 rfl rfl
theorem w2_108 : (Jvm.Cond.methodLink "SlateHands$Alone" (5 : Nat) ({ cls := "java/lang/Object", name := "<init>", desc := "()V" } : Jvm.MethodName)) ∈ TB := tb2 108 rfl rfl
theorem w2_109 : (Jvm.Cond.fieldLink "SlateHands$Alone" (11 : Nat) "SlateHands$Alone" "soonest" "[I") ∈ TB := tb2 109 rfl rfl
theorem w2_110 : (Jvm.Cond.fieldLink "SlateHands" (258 : Nat) "SlateHands$Alone" "soonest" "[I") ∈ TB := tb2 110 rfl rfl
theorem w2_111 : (Jvm.Cond.fieldLink "SlateHands$Alone" (15 : Nat) "SlateHands$Alone" "mostWords" "[I") ∈ TB := tb2 111 rfl rfl
theorem w2_112 : (Jvm.Cond.fieldLink "SlateHands" (261 : Nat) "SlateHands$Alone" "mostWords" "[I") ∈ TB := tb2 112 rfl rfl
theorem w2_113 : (Jvm.Cond.fieldLink "SlateHands$Alone" (18 : Nat) "SlateHands$Alone" "needed" "[I") ∈ TB := tb2 113 rfl rfl
theorem w2_114 : (Jvm.Cond.fieldLink "SlateHands" (271 : Nat) "SlateHands$Alone" "needed" "[I") ∈ TB := tb2 114 rfl rfl
theorem w2_115 : (Jvm.Cond.fieldLink "SlateHands$Alone" (21 : Nat) "SlateHands$Alone" "mostHouses" "[I") ∈ TB := tb2 115 rfl rfl
theorem w2_116 : (Jvm.Cond.fieldLink "SlateHands$Alone" (24 : Nat) "SlateHands$Alone" "weights" "[I") ∈ TB := tb2 116 rfl rfl
theorem w2_117 : (Jvm.Cond.fieldLink "SlateHands$Alone" (27 : Nat) "SlateHands$Alone" "words" "[I") ∈ TB := tb2 117 rfl rfl
theorem w2_118 : (Jvm.Cond.fieldLink "SlateHands$Alone" (30 : Nat) "SlateHands$Alone" "doors" "[I") ∈ TB := tb2 118 rfl rfl
theorem w2_119 : (Jvm.Cond.fieldLink "SlateHands$Alone" (33 : Nat) "SlateHands$Alone" "seenAt" "[I") ∈ TB := tb2 119 rfl rfl
theorem w2_120 : (Jvm.Cond.fieldLink "SlateHands$Alone" (36 : Nat) "SlateHands$Alone" "queue" "[I") ∈ TB := tb2 120 rfl rfl
theorem w2_121 : (Jvm.Cond.fieldLink "SlateHands$Alone" (68 : Nat) "SlateHands$Alone" "queued" "I") ∈ TB := tb2 121 rfl rfl
theorem w2_122 : (Jvm.Cond.fieldLink "SlateHands$Alone" (39 : Nat) "SlateHands$Alone" "firstAwaited" "[I") ∈ TB := tb2 122 rfl rfl
theorem w2_123 : (Jvm.Cond.fieldLink "SlateHands$Alone" (42 : Nat) "SlateHands$Alone" "nextAwaited" "[I") ∈ TB := tb2 123 rfl rfl
theorem w2_124 : (Jvm.Cond.fieldLink "SlateHands$Alone" (45 : Nat) "SlateHands$Alone" "awaited" "[I") ∈ TB := tb2 124 rfl rfl
theorem w2_125 : (Jvm.Cond.fieldLink "SlateHands$Alone" (92 : Nat) "SlateHands$Alone" "awaitedInAll" "I") ∈ TB := tb2 125 rfl rfl
theorem w2_126 : (Jvm.Cond.fieldLink "SlateHands$Alone" (48 : Nat) "SlateHands$Alone" "searchedSlate" "I") ∈ TB := tb2 126 rfl rfl
theorem w2_127 : (Jvm.Cond.fieldLink "SlateHands$Alone" (52 : Nat) "SlateHands$Alone" "searchedStrong" "I") ∈ TB := tb2 127 rfl rfl
theorem w2_128 : (Jvm.Cond.fieldLink "SlateHands$Alone" (55 : Nat) "SlateHands$Alone" "neededSlate" "I") ∈ TB := tb2 128 rfl rfl
theorem w2_164 : (Jvm.Cond.classLink "SlateHands" (68 : Nat) "SlateHands$Weather") ∈ TB := tb2 164 rfl rfl
theorem w2_165 : (Jvm.Cond.instantiable "SlateHands$Weather" (4 : Nat)) ∈ TB := tb2 165 rfl rfl
theorem w2_167 : (Jvm.Cond.instanceMethod ({ cls := "SlateHands$Weather", name := "<init>", desc := "()V" } : Jvm.MethodName)) ∈ TB := tb2 167 rfl rfl
theorem w2_168 : (Jvm.Cond.code ({ cls := "SlateHands$Weather", name := "<init>", desc := "()V" } : Jvm.MethodName) prog_12_method_1_code (1 : Nat) (Option.none : Option Jvm.ClassFile.FieldType)) ∈ TB := tb2 168 rfl rfl
theorem w2_169 : (Jvm.Cond.methodLink "SlateHands$Weather" (3 : Nat) ({ cls := "java/lang/Object", name := "<init>", desc := "()V" } : Jvm.MethodName)) ∈ TB := tb2 169 rfl rfl
theorem w2_170 : (Jvm.Cond.fieldLink "SlateHands" (445 : Nat) "SlateHands$Weather" "fresh" "Z") ∈ TB := tb2 170 rfl rfl
theorem w2_171 : (Jvm.Cond.fieldLink "SlateHands$Weather" (9 : Nat) "SlateHands$Weather" "known" "[J") ∈ TB := tb2 171 rfl rfl
theorem w2_172 : (Jvm.Cond.fieldLink "SlateHands$Weather" (15 : Nat) "SlateHands$Weather" "words" "[J") ∈ TB := tb2 172 rfl rfl
theorem w2_182 : (Jvm.Cond.classLink "SlateHands" (75 : Nat) "SlateHands$Seen") ∈ TB := tb2 182 rfl rfl
theorem w2_183 : (Jvm.Cond.instantiable "SlateHands$Seen" (2 : Nat)) ∈ TB := tb2 183 rfl rfl
theorem w2_185 : (Jvm.Cond.instanceMethod ({ cls := "SlateHands$Seen", name := "<init>", desc := "()V" } : Jvm.MethodName)) ∈ TB := tb2 185 rfl rfl
theorem w2_186 : (Jvm.Cond.code ({ cls := "SlateHands$Seen", name := "<init>", desc := "()V" } : Jvm.MethodName) prog_9_method_1_code (1 : Nat) (Option.none : Option Jvm.ClassFile.FieldType)) ∈ TB := tb2 186 rfl rfl
theorem w2_187 : (Jvm.Cond.methodLink "SlateHands$Seen" (3 : Nat) ({ cls := "java/lang/Object", name := "<init>", desc := "()V" } : Jvm.MethodName)) ∈ TB := tb2 187 rfl rfl
theorem w2_188 : (Jvm.Cond.fieldLink "SlateHands$Seen" (44 : Nat) "SlateHands$Seen" "firstHouses" "I") ∈ TB := tb2 188 rfl rfl
theorem w2_189 : (Jvm.Cond.fieldLink "SlateHands" (322 : Nat) "SlateHands$Seen" "firstHouses" "I") ∈ TB := tb2 189 rfl rfl
theorem w2_190 : (Jvm.Cond.fieldLink "SlateHands$Seen" (11 : Nat) "SlateHands$Seen" "lay" "[I") ∈ TB := tb2 190 rfl rfl
theorem w2_196 : (Jvm.Cond.fieldLink "SlateHands" (12 : Nat) "SlateHands" "tape" "LSlateHands$Tape;") ∈ TB := tb2 196 rfl rfl
theorem w2_197 : (Jvm.Cond.fieldLink "SlateHands" (19 : Nat) "SlateHands" "reader" "LSlateHands$Reader;") ∈ TB := tb2 197 rfl rfl
theorem w2_198 : (Jvm.Cond.fieldLink "SlateHands" (26 : Nat) "SlateHands" "port" "LSlateHands$Port;") ∈ TB := tb2 198 rfl rfl
theorem w2_199 : (Jvm.Cond.fieldLink "SlateHands" (30 : Nat) "SlateHands" "draft" "LSlateHands$Port;") ∈ TB := tb2 199 rfl rfl
theorem w2_200 : (Jvm.Cond.fieldLink "SlateHands" (33 : Nat) "SlateHands" "images" "[LSlateHands$Port;") ∈ TB := tb2 200 rfl rfl
theorem w2_201 : (Jvm.Cond.fieldLink "SlateHands" (40 : Nat) "SlateHands" "slots" "LSlateHands$Slots;") ∈ TB := tb2 201 rfl rfl
theorem w2_202 : (Jvm.Cond.fieldLink "SlateHands" (47 : Nat) "SlateHands" "now" "LSlateHands$Diary;") ∈ TB := tb2 202 rfl rfl
theorem w2_203 : (Jvm.Cond.fieldLink "SlateHands" (51 : Nat) "SlateHands" "whatIf" "LSlateHands$Diary;") ∈ TB := tb2 203 rfl rfl
theorem w2_204 : (Jvm.Cond.fieldLink "SlateHands" (57 : Nat) "SlateHands" "paths" "LSlateHands$Paths;") ∈ TB := tb2 204 rfl rfl
theorem w2_205 : (Jvm.Cond.fieldLink "SlateHands" (64 : Nat) "SlateHands" "alone" "LSlateHands$Alone;") ∈ TB := tb2 205 rfl rfl
theorem w2_206 : (Jvm.Cond.fieldLink "SlateHands" (71 : Nat) "SlateHands" "weather" "LSlateHands$Weather;") ∈ TB := tb2 206 rfl rfl
theorem w2_207 : (Jvm.Cond.fieldLink "SlateHands" (78 : Nat) "SlateHands" "seen" "LSlateHands$Seen;") ∈ TB := tb2 207 rfl rfl
theorem w2_208 : (Jvm.Cond.fieldLink "SlateHands" (82 : Nat) "SlateHands" "gains" "[I") ∈ TB := tb2 208 rfl rfl
theorem w2_209 : (Jvm.Cond.fieldLink "SlateHands" (86 : Nat) "SlateHands" "otherGains" "[I") ∈ TB := tb2 209 rfl rfl
theorem w2_239 : (Jvm.Cond.methodLink "SlateHandsLaw" (188 : Nat) ({ cls := "SlateHands", name := "far", desc := "(II)I" } : Jvm.MethodName)) ∈ TB := tb2 239 rfl rfl
theorem w3_0 : (Jvm.Cond.instanceMethod ({ cls := "SlateHands", name := "far", desc := "(II)I" } : Jvm.MethodName)) ∈ TB := tb3 0 rfl rfl
theorem w3_1 : (Jvm.Cond.selects "SlateHands" ({ cls := "SlateHands", name := "far", desc := "(II)I" } : Jvm.MethodName) ({ cls := "SlateHands", name := "far", desc := "(II)I" } : Jvm.MethodName)) ∈ TB := tb3 1 rfl rfl
theorem w3_2 : (Jvm.Cond.code ({ cls := "SlateHands", name := "far", desc := "(II)I" } : Jvm.MethodName) prog_1_method_10_code (3 : Nat) (Option.some Jvm.ClassFile.FieldType.int)) ∈ TB := tb3 2 rfl rfl
theorem w3_3 : (Jvm.Cond.methodLink "SlateHands" (154 : Nat) ({ cls := "SlateHands$Port", name := "areHouses", desc := "(II)Z" } : Jvm.MethodName)) ∈ TB := tb3 3 rfl rfl
theorem w3_4 : (Jvm.Cond.instanceMethod ({ cls := "SlateHands$Port", name := "areHouses", desc := "(II)Z" } : Jvm.MethodName)) ∈ TB := tb3 4 rfl rfl
theorem w3_5 : (Jvm.Cond.selects "SlateHands$Port" ({ cls := "SlateHands$Port", name := "areHouses", desc := "(II)Z" } : Jvm.MethodName) ({ cls := "SlateHands$Port", name := "areHouses", desc := "(II)Z" } : Jvm.MethodName)) ∈ TB := tb3 5 rfl rfl
theorem w3_6 : (Jvm.Cond.code ({ cls := "SlateHands$Port", name := "areHouses", desc := "(II)Z" } : Jvm.MethodName) prog_7_method_6_code (3 : Nat) (Option.some Jvm.ClassFile.FieldType.boolean)) ∈ TB := tb3 6 rfl rfl
theorem w3_7 : (Jvm.Cond.methodLink "SlateHands$Port" (81 : Nat) ({ cls := "SlateHands$Port", name := "isHouse", desc := "(I)Z" } : Jvm.MethodName)) ∈ TB := tb3 7 rfl rfl
theorem w3_8 : (Jvm.Cond.instanceMethod ({ cls := "SlateHands$Port", name := "isHouse", desc := "(I)Z" } : Jvm.MethodName)) ∈ TB := tb3 8 rfl rfl
theorem w3_9 : (Jvm.Cond.selects "SlateHands$Port" ({ cls := "SlateHands$Port", name := "isHouse", desc := "(I)Z" } : Jvm.MethodName) ({ cls := "SlateHands$Port", name := "isHouse", desc := "(I)Z" } : Jvm.MethodName)) ∈ TB := tb3 9 rfl rfl
theorem w3_10 : (Jvm.Cond.code ({ cls := "SlateHands$Port", name := "isHouse", desc := "(I)Z" } : Jvm.MethodName) prog_7_method_5_code (2 : Nat) (Option.some Jvm.ClassFile.FieldType.boolean)) ∈ TB := tb3 10 rfl rfl
theorem w3_11 : (Jvm.Cond.methodLink "SlateHands" (157 : Nat) ({ cls := "SlateHands$Paths", name := "fewestWays", desc := "(LSlateHands$Port;II)I" } : Jvm.MethodName)) ∈ TB := tb3 11 rfl rfl
theorem w3_12 : (Jvm.Cond.instanceMethod ({ cls := "SlateHands$Paths", name := "fewestWays", desc := "(LSlateHands$Port;II)I" } : Jvm.MethodName)) ∈ TB := tb3 12 rfl rfl
theorem w3_13 : (Jvm.Cond.selects "SlateHands$Paths" ({ cls := "SlateHands$Paths", name := "fewestWays", desc := "(LSlateHands$Port;II)I" } : Jvm.MethodName) ({ cls := "SlateHands$Paths", name := "fewestWays", desc := "(LSlateHands$Port;II)I" } : Jvm.MethodName)) ∈ TB := tb3 13 rfl rfl
theorem w3_14 : (Jvm.Cond.code ({ cls := "SlateHands$Paths", name := "fewestWays", desc := "(LSlateHands$Port;II)I" } : Jvm.MethodName) prog_6_method_2_code (6 : Nat) (Option.some Jvm.ClassFile.FieldType.int)) ∈ TB := tb3 14 rfl rfl
theorem w3_16 : (Jvm.Cond.static ({ cls := "SlateHands", name := "hasBit", desc := "(II)Z" } : Jvm.MethodName)) ∈ TB := tb3 16 rfl rfl
theorem w3_17 : (Jvm.Cond.code ({ cls := "SlateHands", name := "hasBit", desc := "(II)Z" } : Jvm.MethodName) prog_1_method_67_code (2 : Nat) (Option.some Jvm.ClassFile.FieldType.boolean)) ∈ TB := tb3 17 rfl rfl
theorem w3_18 : (Jvm.Cond.methodLink "SlateHands$Paths" (19 : Nat) ({ cls := "SlateHands$Paths", name := "nextTo", desc := "(LSlateHands$Port;I)I" } : Jvm.MethodName)) ∈ TB := tb3 18 rfl rfl
theorem w3_19 : (Jvm.Cond.static ({ cls := "SlateHands$Paths", name := "nextTo", desc := "(LSlateHands$Port;I)I" } : Jvm.MethodName)) ∈ TB := tb3 19 rfl rfl
theorem w3_20 : (Jvm.Cond.code ({ cls := "SlateHands$Paths", name := "nextTo", desc := "(LSlateHands$Port;I)I" } : Jvm.MethodName) prog_6_method_4_code (4 : Nat) (Option.some Jvm.ClassFile.FieldType.int)) ∈ TB := tb3 20 rfl rfl
theorem w3_21 : (Jvm.Cond.methodLink "SlateHands$Paths" (56 : Nat) ({ cls := "SlateHands$Port", name := "doorsOf", desc := "(II)I" } : Jvm.MethodName)) ∈ TB := tb3 21 rfl rfl
theorem w3_22 : (Jvm.Cond.instanceMethod ({ cls := "SlateHands$Port", name := "doorsOf", desc := "(II)I" } : Jvm.MethodName)) ∈ TB := tb3 22 rfl rfl
theorem w3_23 : (Jvm.Cond.selects "SlateHands$Port" ({ cls := "SlateHands$Port", name := "doorsOf", desc := "(II)I" } : Jvm.MethodName) ({ cls := "SlateHands$Port", name := "doorsOf", desc := "(II)I" } : Jvm.MethodName)) ∈ TB := tb3 23 rfl rfl
theorem w3_24 : (Jvm.Cond.code ({ cls := "SlateHands$Port", name := "doorsOf", desc := "(II)I" } : Jvm.MethodName) prog_7_method_20_code (7 : Nat) (Option.some Jvm.ClassFile.FieldType.int)) ∈ TB := tb3 24 rfl rfl
theorem w3_26 : (Jvm.Cond.static ({ cls := "SlateHands", name := "cell", desc := "([II)I" } : Jvm.MethodName)) ∈ TB := tb3 26 rfl rfl
theorem w3_27 : (Jvm.Cond.code ({ cls := "SlateHands", name := "cell", desc := "([II)I" } : Jvm.MethodName) prog_1_method_65_code (2 : Nat) (Option.some Jvm.ClassFile.FieldType.int)) ∈ TB := tb3 27 rfl rfl
theorem w3_28 : (Jvm.Cond.methodLink "SlateHandsLaw" (131 : Nat) ({ cls := "SlateHands", name := "at", desc := "(II)I" } : Jvm.MethodName)) ∈ TB := tb3 28 rfl rfl
theorem w3_29 : (Jvm.Cond.instanceMethod ({ cls := "SlateHands", name := "at", desc := "(II)I" } : Jvm.MethodName)) ∈ TB := tb3 29 rfl rfl
theorem w3_30 : (Jvm.Cond.selects "SlateHands" ({ cls := "SlateHands", name := "at", desc := "(II)I" } : Jvm.MethodName) ({ cls := "SlateHands", name := "at", desc := "(II)I" } : Jvm.MethodName)) ∈ TB := tb3 30 rfl rfl
theorem w3_31 : (Jvm.Cond.code ({ cls := "SlateHands", name := "at", desc := "(II)I" } : Jvm.MethodName) prog_1_method_12_code (3 : Nat) (Option.some Jvm.ClassFile.FieldType.int)) ∈ TB := tb3 31 rfl rfl
theorem w3_32 : (Jvm.Cond.methodLink "SlateHands" (128 : Nat) ({ cls := "SlateHands$Port", name := "isCarrier", desc := "(I)Z" } : Jvm.MethodName)) ∈ TB := tb3 32 rfl rfl
theorem w3_33 : (Jvm.Cond.instanceMethod ({ cls := "SlateHands$Port", name := "isCarrier", desc := "(I)Z" } : Jvm.MethodName)) ∈ TB := tb3 33 rfl rfl
theorem w3_34 : (Jvm.Cond.selects "SlateHands$Port" ({ cls := "SlateHands$Port", name := "isCarrier", desc := "(I)Z" } : Jvm.MethodName) ({ cls := "SlateHands$Port", name := "isCarrier", desc := "(I)Z" } : Jvm.MethodName)) ∈ TB := tb3 34 rfl rfl
theorem w3_35 : (Jvm.Cond.code ({ cls := "SlateHands$Port", name := "isCarrier", desc := "(I)Z" } : Jvm.MethodName) prog_7_method_7_code (2 : Nat) (Option.some Jvm.ClassFile.FieldType.boolean)) ∈ TB := tb3 35 rfl rfl
theorem w3_36 : (Jvm.Cond.methodLink "SlateHands" (164 : Nat) ({ cls := "SlateHands$Port", name := "isDay", desc := "(I)Z" } : Jvm.MethodName)) ∈ TB := tb3 36 rfl rfl
theorem w3_37 : (Jvm.Cond.instanceMethod ({ cls := "SlateHands$Port", name := "isDay", desc := "(I)Z" } : Jvm.MethodName)) ∈ TB := tb3 37 rfl rfl
theorem w3_38 : (Jvm.Cond.selects "SlateHands$Port" ({ cls := "SlateHands$Port", name := "isDay", desc := "(I)Z" } : Jvm.MethodName) ({ cls := "SlateHands$Port", name := "isDay", desc := "(I)Z" } : Jvm.MethodName)) ∈ TB := tb3 38 rfl rfl
theorem w3_39 : (Jvm.Cond.code ({ cls := "SlateHands$Port", name := "isDay", desc := "(I)Z" } : Jvm.MethodName) prog_7_method_11_code (2 : Nat) (Option.some Jvm.ClassFile.FieldType.boolean)) ∈ TB := tb3 39 rfl rfl
theorem w3_40 : (Jvm.Cond.methodLink "SlateHands$Port" (92 : Nat) ({ cls := "SlateHands$Port", name := "isTold", desc := "()Z" } : Jvm.MethodName)) ∈ TB := tb3 40 rfl rfl
theorem w3_41 : (Jvm.Cond.instanceMethod ({ cls := "SlateHands$Port", name := "isTold", desc := "()Z" } : Jvm.MethodName)) ∈ TB := tb3 41 rfl rfl
theorem w3_42 : (Jvm.Cond.selects "SlateHands$Port" ({ cls := "SlateHands$Port", name := "isTold", desc := "()Z" } : Jvm.MethodName) ({ cls := "SlateHands$Port", name := "isTold", desc := "()Z" } : Jvm.MethodName)) ∈ TB := tb3 42 rfl rfl
theorem w3_43 : (Jvm.Cond.code ({ cls := "SlateHands$Port", name := "isTold", desc := "()Z" } : Jvm.MethodName) prog_7_method_4_code (1 : Nat) (Option.some Jvm.ClassFile.FieldType.boolean)) ∈ TB := tb3 43 rfl rfl
theorem w3_44 : (Jvm.Cond.methodLink "SlateHands" (167 : Nat) ({ cls := "SlateHands", name := "today", desc := "()LSlateHands$Diary;" } : Jvm.MethodName)) ∈ TB := tb3 44 rfl rfl
theorem w3_46 : (Jvm.Cond.instanceMethod ({ cls := "SlateHands", name := "today", desc := "()LSlateHands$Diary;" } : Jvm.MethodName)) ∈ TB := tb3 46 rfl rfl
theorem w3_47 : (Jvm.Cond.code ({ cls := "SlateHands", name := "today", desc := "()LSlateHands$Diary;" } : Jvm.MethodName) prog_1_method_73_code (1 : Nat) (Option.some (Jvm.ClassFile.FieldType.object "SlateHands$Diary"))) ∈ TB := tb3 47 rfl rfl
theorem w3_48 : (Jvm.Cond.methodLink "SlateHands" (336 : Nat) ({ cls := "SlateHands$Course", name := "setAsTold", desc := "(LSlateHands$Port;)V" } : Jvm.MethodName)) ∈ TB := tb3 48 rfl rfl
theorem w3_49 : (Jvm.Cond.instanceMethod ({ cls := "SlateHands$Course", name := "setAsTold", desc := "(LSlateHands$Port;)V" } : Jvm.MethodName)) ∈ TB := tb3 49 rfl rfl
theorem w3_50 : (Jvm.Cond.selects "SlateHands$Course" ({ cls := "SlateHands$Course", name := "setAsTold", desc := "(LSlateHands$Port;)V" } : Jvm.MethodName) ({ cls := "SlateHands$Course", name := "setAsTold", desc := "(LSlateHands$Port;)V" } : Jvm.MethodName)) ∈ TB := tb3 50 rfl rfl
theorem w3_51 : (Jvm.Cond.code ({ cls := "SlateHands$Course", name := "setAsTold", desc := "(LSlateHands$Port;)V" } : Jvm.MethodName) prog_4_method_2_code (2 : Nat) (Option.none : Option Jvm.ClassFile.FieldType)) ∈ TB := tb3 51 rfl rfl
theorem w3_52 : (Jvm.Cond.methodLink "SlateHands" (344 : Nat) ({ cls := "SlateHands$Diary", name := "fill", desc := "(LSlateHands$Port;)V" } : Jvm.MethodName)) ∈ TB := tb3 52 rfl rfl
theorem w3_53 : (Jvm.Cond.instanceMethod ({ cls := "SlateHands$Diary", name := "fill", desc := "(LSlateHands$Port;)V" } : Jvm.MethodName)) ∈ TB := tb3 53 rfl rfl
theorem w3_54 : (Jvm.Cond.selects "SlateHands$Diary" ({ cls := "SlateHands$Diary", name := "fill", desc := "(LSlateHands$Port;)V" } : Jvm.MethodName) ({ cls := "SlateHands$Diary", name := "fill", desc := "(LSlateHands$Port;)V" } : Jvm.MethodName)) ∈ TB := tb3 54 rfl rfl
theorem w3_55 : (Jvm.Cond.code ({ cls := "SlateHands$Diary", name := "fill", desc := "(LSlateHands$Port;)V" } : Jvm.MethodName) prog_5_method_2_code (3 : Nat) (Option.none : Option Jvm.ClassFile.FieldType)) ∈ TB := tb3 55 rfl rfl
theorem w3_56 : (Jvm.Cond.methodLink "SlateHands$Diary" (34 : Nat) ({ cls := "SlateHands$Course", name := "begin", desc := "(LSlateHands$Port;)V" } : Jvm.MethodName)) ∈ TB := tb3 56 rfl rfl
theorem w3_57 : (Jvm.Cond.instanceMethod ({ cls := "SlateHands$Course", name := "begin", desc := "(LSlateHands$Port;)V" } : Jvm.MethodName)) ∈ TB := tb3 57 rfl rfl
theorem w3_58 : (Jvm.Cond.selects "SlateHands$Course" ({ cls := "SlateHands$Course", name := "begin", desc := "(LSlateHands$Port;)V" } : Jvm.MethodName) ({ cls := "SlateHands$Course", name := "begin", desc := "(LSlateHands$Port;)V" } : Jvm.MethodName)) ∈ TB := tb3 58 rfl rfl
theorem w3_59 : (Jvm.Cond.code ({ cls := "SlateHands$Course", name := "begin", desc := "(LSlateHands$Port;)V" } : Jvm.MethodName) prog_4_method_3_code (4 : Nat) (Option.none : Option Jvm.ClassFile.FieldType)) ∈ TB := tb3 59 rfl rfl
theorem w3_60 : (Jvm.Cond.methodLink "SlateHands$Course" (55 : Nat) ({ cls := "java/util/Arrays", name := "fill", desc := "([II)V" } : Jvm.MethodName)) ∈ TB := tb3 60 rfl rfl
theorem w3_61 : (Jvm.Cond.static ({ cls := "java/util/Arrays", name := "fill", desc := "([II)V" } : Jvm.MethodName)) ∈ TB := tb3 61 rfl rfl
theorem w3_62 : (Jvm.Cond.code ({ cls := "java/util/Arrays", name := "fill", desc := "([II)V" } : Jvm.MethodName) prog_21_method_103_code (4 : Nat) (Option.none : Option Jvm.ClassFile.FieldType)) ∈ TB := tb3 62 rfl rfl
theorem w3_65 : (Jvm.Cond.static ({ cls := "SlateHands", name := "put", desc := "([III)V" } : Jvm.MethodName)) ∈ TB := tb3 65 rfl rfl
theorem w3_66 : (Jvm.Cond.code ({ cls := "SlateHands", name := "put", desc := "([III)V" } : Jvm.MethodName) prog_1_method_66_code (3 : Nat) (Option.none : Option Jvm.ClassFile.FieldType)) ∈ TB := tb3 66 rfl rfl
theorem w3_67 : (Jvm.Cond.methodLink "SlateHands$Course" (77 : Nat) ({ cls := "SlateHands$Port", name := "leftAtFirst", desc := "(I)I" } : Jvm.MethodName)) ∈ TB := tb3 67 rfl rfl
theorem w3_68 : (Jvm.Cond.instanceMethod ({ cls := "SlateHands$Port", name := "leftAtFirst", desc := "(I)I" } : Jvm.MethodName)) ∈ TB := tb3 68 rfl rfl
theorem w3_69 : (Jvm.Cond.selects "SlateHands$Port" ({ cls := "SlateHands$Port", name := "leftAtFirst", desc := "(I)I" } : Jvm.MethodName) ({ cls := "SlateHands$Port", name := "leftAtFirst", desc := "(I)I" } : Jvm.MethodName)) ∈ TB := tb3 69 rfl rfl
theorem w3_70 : (Jvm.Cond.code ({ cls := "SlateHands$Port", name := "leftAtFirst", desc := "(I)I" } : Jvm.MethodName) prog_7_method_17_code (2 : Nat) (Option.some Jvm.ClassFile.FieldType.int)) ∈ TB := tb3 70 rfl rfl
theorem w3_71 : (Jvm.Cond.methodLink "SlateHands$Port" (106 : Nat) ({ cls := "SlateHands$Port", name := "allWords", desc := "(I)I" } : Jvm.MethodName)) ∈ TB := tb3 71 rfl rfl
theorem w3_72 : (Jvm.Cond.instanceMethod ({ cls := "SlateHands$Port", name := "allWords", desc := "(I)I" } : Jvm.MethodName)) ∈ TB := tb3 72 rfl rfl
theorem w3_73 : (Jvm.Cond.selects "SlateHands$Port" ({ cls := "SlateHands$Port", name := "allWords", desc := "(I)I" } : Jvm.MethodName) ({ cls := "SlateHands$Port", name := "allWords", desc := "(I)I" } : Jvm.MethodName)) ∈ TB := tb3 73 rfl rfl
theorem w3_74 : (Jvm.Cond.code ({ cls := "SlateHands$Port", name := "allWords", desc := "(I)I" } : Jvm.MethodName) prog_7_method_16_code (2 : Nat) (Option.some Jvm.ClassFile.FieldType.int)) ∈ TB := tb3 74 rfl rfl
theorem w3_75 : (Jvm.Cond.methodLink "SlateHands$Port" (110 : Nat) ({ cls := "SlateHands$Carries", name := "rubbedByActs", desc := "(I)I" } : Jvm.MethodName)) ∈ TB := tb3 75 rfl rfl
theorem w3_76 : (Jvm.Cond.instanceMethod ({ cls := "SlateHands$Carries", name := "rubbedByActs", desc := "(I)I" } : Jvm.MethodName)) ∈ TB := tb3 76 rfl rfl
theorem w3_77 : (Jvm.Cond.selects "SlateHands$Carries" ({ cls := "SlateHands$Carries", name := "rubbedByActs", desc := "(I)I" } : Jvm.MethodName) ({ cls := "SlateHands$Carries", name := "rubbedByActs", desc := "(I)I" } : Jvm.MethodName)) ∈ TB := tb3 77 rfl rfl
theorem w3_78 : (Jvm.Cond.code ({ cls := "SlateHands$Carries", name := "rubbedByActs", desc := "(I)I" } : Jvm.MethodName) prog_3_method_7_code (4 : Nat) (Option.some Jvm.ClassFile.FieldType.int)) ∈ TB := tb3 78 rfl rfl
theorem w3_80 : (Jvm.Cond.methodLink "SlateHands$Diary" (44 : Nat) ({ cls := "SlateHands$Diary", name := "note", desc := "(I)V" } : Jvm.MethodName)) ∈ TB := tb3 80 rfl rfl
theorem w3_82 : (Jvm.Cond.instanceMethod ({ cls := "SlateHands$Diary", name := "note", desc := "(I)V" } : Jvm.MethodName)) ∈ TB := tb3 82 rfl rfl
theorem w3_83 : (Jvm.Cond.code ({ cls := "SlateHands$Diary", name := "note", desc := "(I)V" } : Jvm.MethodName) prog_5_method_12_code (2 : Nat) (Option.none : Option Jvm.ClassFile.FieldType)) ∈ TB := tb3 83 rfl rfl
theorem w3_84 : (Jvm.Cond.methodLink "SlateHands$Diary" (80 : Nat) ({ cls := "java/lang/System", name := "arraycopy", desc := "(Ljava/lang/Object;ILjava/lang/Object;II)V" } : Jvm.MethodName)) ∈ TB := tb3 84 rfl rfl
theorem w3_85 : (Jvm.Cond.static ({ cls := "java/lang/System", name := "arraycopy", desc := "(Ljava/lang/Object;ILjava/lang/Object;II)V" } : Jvm.MethodName)) ∈ TB := tb3 85 rfl rfl
theorem w3_86 : (Jvm.Cond.native ({ cls := "java/lang/System", name := "arraycopy", desc := "(Ljava/lang/Object;ILjava/lang/Object;II)V" } : Jvm.MethodName)) ∈ TB := tb3 86 rfl rfl
theorem w3_87 : (Jvm.Cond.methodLink "SlateHands$Diary" (48 : Nat) ({ cls := "SlateHands$Course", name := "passDay", desc := "(LSlateHands$Port;I)V" } : Jvm.MethodName)) ∈ TB := tb3 87 rfl rfl
theorem w3_88 : (Jvm.Cond.instanceMethod ({ cls := "SlateHands$Course", name := "passDay", desc := "(LSlateHands$Port;I)V" } : Jvm.MethodName)) ∈ TB := tb3 88 rfl rfl
theorem w3_89 : (Jvm.Cond.selects "SlateHands$Course" ({ cls := "SlateHands$Course", name := "passDay", desc := "(LSlateHands$Port;I)V" } : Jvm.MethodName) ({ cls := "SlateHands$Course", name := "passDay", desc := "(LSlateHands$Port;I)V" } : Jvm.MethodName)) ∈ TB := tb3 89 rfl rfl
theorem w3_90 : (Jvm.Cond.code ({ cls := "SlateHands$Course", name := "passDay", desc := "(LSlateHands$Port;I)V" } : Jvm.MethodName) prog_4_method_4_code (5 : Nat) (Option.none : Option Jvm.ClassFile.FieldType)) ∈ TB := tb3 90 rfl rfl
theorem w3_91 : (Jvm.Cond.methodLink "SlateHands$Course" (99 : Nat) ({ cls := "SlateHands$Course", name := "hindrance", desc := "(LSlateHands$Port;I)I" } : Jvm.MethodName)) ∈ TB := tb3 91 rfl rfl
theorem w3_93 : (Jvm.Cond.instanceMethod ({ cls := "SlateHands$Course", name := "hindrance", desc := "(LSlateHands$Port;I)I" } : Jvm.MethodName)) ∈ TB := tb3 93 rfl rfl
theorem w3_94 : (Jvm.Cond.code ({ cls := "SlateHands$Course", name := "hindrance", desc := "(LSlateHands$Port;I)I" } : Jvm.MethodName) prog_4_method_7_code (7 : Nat) (Option.some Jvm.ClassFile.FieldType.int)) ∈ TB := tb3 94 rfl rfl
theorem w3_96 : (Jvm.Cond.methodLink "SlateHands$Course" (131 : Nat) ({ cls := "SlateHands$Port", name := "doorsOf", desc := "(II)I" } : Jvm.MethodName)) ∈ TB := tb3 96 rfl rfl
theorem w3_97 : (Jvm.Cond.methodLink "SlateHands$Course" (135 : Nat) ({ cls := "SlateHands$Course", name := "loadTo", desc := "(LSlateHands$Port;II)I" } : Jvm.MethodName)) ∈ TB := tb3 97 rfl rfl
theorem w3_99 : (Jvm.Cond.instanceMethod ({ cls := "SlateHands$Course", name := "loadTo", desc := "(LSlateHands$Port;II)I" } : Jvm.MethodName)) ∈ TB := tb3 99 rfl rfl
theorem w3_100 : (Jvm.Cond.code ({ cls := "SlateHands$Course", name := "loadTo", desc := "(LSlateHands$Port;II)I" } : Jvm.MethodName) prog_4_method_8_code (5 : Nat) (Option.some Jvm.ClassFile.FieldType.int)) ∈ TB := tb3 100 rfl rfl
theorem w3_101 : (Jvm.Cond.methodLink "SlateHands$Course" (142 : Nat) ({ cls := "SlateHands$Port", name := "weightOf", desc := "(II)I" } : Jvm.MethodName)) ∈ TB := tb3 101 rfl rfl
theorem w3_102 : (Jvm.Cond.instanceMethod ({ cls := "SlateHands$Port", name := "weightOf", desc := "(II)I" } : Jvm.MethodName)) ∈ TB := tb3 102 rfl rfl
theorem w3_103 : (Jvm.Cond.selects "SlateHands$Port" ({ cls := "SlateHands$Port", name := "weightOf", desc := "(II)I" } : Jvm.MethodName) ({ cls := "SlateHands$Port", name := "weightOf", desc := "(II)I" } : Jvm.MethodName)) ∈ TB := tb3 103 rfl rfl
theorem w3_104 : (Jvm.Cond.code ({ cls := "SlateHands$Port", name := "weightOf", desc := "(II)I" } : Jvm.MethodName) prog_7_method_18_code (5 : Nat) (Option.some Jvm.ClassFile.FieldType.int)) ∈ TB := tb3 104 rfl rfl
theorem w3_106 : (Jvm.Cond.methodLink "SlateHands$Course" (145 : Nat) ({ cls := "SlateHands$Port", name := "climbTo", desc := "(II)I" } : Jvm.MethodName)) ∈ TB := tb3 106 rfl rfl
theorem w3_107 : (Jvm.Cond.instanceMethod ({ cls := "SlateHands$Port", name := "climbTo", desc := "(II)I" } : Jvm.MethodName)) ∈ TB := tb3 107 rfl rfl
theorem w3_108 : (Jvm.Cond.selects "SlateHands$Port" ({ cls := "SlateHands$Port", name := "climbTo", desc := "(II)I" } : Jvm.MethodName) ({ cls := "SlateHands$Port", name := "climbTo", desc := "(II)I" } : Jvm.MethodName)) ∈ TB := tb3 108 rfl rfl
theorem w3_109 : (Jvm.Cond.code ({ cls := "SlateHands$Port", name := "climbTo", desc := "(II)I" } : Jvm.MethodName) prog_7_method_21_code (3 : Nat) (Option.some Jvm.ClassFile.FieldType.int)) ∈ TB := tb3 109 rfl rfl
theorem w3_110 : (Jvm.Cond.methodLink "SlateHands$Port" (117 : Nat) ({ cls := "java/lang/Math", name := "max", desc := "(II)I" } : Jvm.MethodName)) ∈ TB := tb3 110 rfl rfl
theorem w3_111 : (Jvm.Cond.static ({ cls := "java/lang/Math", name := "max", desc := "(II)I" } : Jvm.MethodName)) ∈ TB := tb3 111 rfl rfl
theorem w3_112 : (Jvm.Cond.code ({ cls := "java/lang/Math", name := "max", desc := "(II)I" } : Jvm.MethodName) prog_16_method_65_code (2 : Nat) (Option.some Jvm.ClassFile.FieldType.int)) ∈ TB := tb3 112 rfl rfl
theorem w3_113 : (Jvm.Cond.methodLink "SlateHands$Course" (107 : Nat) ({ cls := "SlateHands$Course", name := "carryOut", desc := "(LSlateHands$Port;IZ)V" } : Jvm.MethodName)) ∈ TB := tb3 113 rfl rfl
theorem w3_115 : (Jvm.Cond.instanceMethod ({ cls := "SlateHands$Course", name := "carryOut", desc := "(LSlateHands$Port;IZ)V" } : Jvm.MethodName)) ∈ TB := tb3 115 rfl rfl
theorem w3_116 : (Jvm.Cond.code ({ cls := "SlateHands$Course", name := "carryOut", desc := "(LSlateHands$Port;IZ)V" } : Jvm.MethodName) prog_4_method_9_code (9 : Nat) (Option.none : Option Jvm.ClassFile.FieldType)) ∈ TB := tb3 116 rfl rfl
theorem w3_117 : (Jvm.Cond.methodLink "SlateHands$Course" (148 : Nat) ({ cls := "SlateHands$Port", name := "leftByLaw", desc := "(III)I" } : Jvm.MethodName)) ∈ TB := tb3 117 rfl rfl
theorem w3_118 : (Jvm.Cond.instanceMethod ({ cls := "SlateHands$Port", name := "leftByLaw", desc := "(III)I" } : Jvm.MethodName)) ∈ TB := tb3 118 rfl rfl
theorem w3_119 : (Jvm.Cond.selects "SlateHands$Port" ({ cls := "SlateHands$Port", name := "leftByLaw", desc := "(III)I" } : Jvm.MethodName) ({ cls := "SlateHands$Port", name := "leftByLaw", desc := "(III)I" } : Jvm.MethodName)) ∈ TB := tb3 119 rfl rfl
theorem w3_120 : (Jvm.Cond.code ({ cls := "SlateHands$Port", name := "leftByLaw", desc := "(III)I" } : Jvm.MethodName) prog_7_method_22_code (10 : Nat) (Option.some Jvm.ClassFile.FieldType.int)) ∈ TB := tb3 120 rfl rfl
theorem w3_122 : (Jvm.Cond.methodLink "SlateHands" (171 : Nat) ({ cls := "SlateHands$Diary", name := "carrierOn", desc := "(II)I" } : Jvm.MethodName)) ∈ TB := tb3 122 rfl rfl
theorem w3_123 : (Jvm.Cond.instanceMethod ({ cls := "SlateHands$Diary", name := "carrierOn", desc := "(II)I" } : Jvm.MethodName)) ∈ TB := tb3 123 rfl rfl
theorem w3_124 : (Jvm.Cond.selects "SlateHands$Diary" ({ cls := "SlateHands$Diary", name := "carrierOn", desc := "(II)I" } : Jvm.MethodName) ({ cls := "SlateHands$Diary", name := "carrierOn", desc := "(II)I" } : Jvm.MethodName)) ∈ TB := tb3 124 rfl rfl
theorem w3_125 : (Jvm.Cond.code ({ cls := "SlateHands$Diary", name := "carrierOn", desc := "(II)I" } : Jvm.MethodName) prog_5_method_3_code (3 : Nat) (Option.some Jvm.ClassFile.FieldType.int)) ∈ TB := tb3 125 rfl rfl
theorem w3_127 : (Jvm.Cond.methodLink "SlateHandsLaw" (134 : Nat) ({ cls := "SlateHands", name := "lies", desc := "(II)I" } : Jvm.MethodName)) ∈ TB := tb3 127 rfl rfl
theorem w3_128 : (Jvm.Cond.instanceMethod ({ cls := "SlateHands", name := "lies", desc := "(II)I" } : Jvm.MethodName)) ∈ TB := tb3 128 rfl rfl
theorem w3_129 : (Jvm.Cond.selects "SlateHands" ({ cls := "SlateHands", name := "lies", desc := "(II)I" } : Jvm.MethodName) ({ cls := "SlateHands", name := "lies", desc := "(II)I" } : Jvm.MethodName)) ∈ TB := tb3 129 rfl rfl
theorem w3_130 : (Jvm.Cond.code ({ cls := "SlateHands", name := "lies", desc := "(II)I" } : Jvm.MethodName) prog_1_method_13_code (3 : Nat) (Option.some Jvm.ClassFile.FieldType.int)) ∈ TB := tb3 130 rfl rfl
theorem w3_131 : (Jvm.Cond.methodLink "SlateHands" (174 : Nat) ({ cls := "SlateHands", name := "isSlateOn", desc := "(II)Z" } : Jvm.MethodName)) ∈ TB := tb3 131 rfl rfl
theorem w3_133 : (Jvm.Cond.instanceMethod ({ cls := "SlateHands", name := "isSlateOn", desc := "(II)Z" } : Jvm.MethodName)) ∈ TB := tb3 133 rfl rfl
theorem w3_134 : (Jvm.Cond.code ({ cls := "SlateHands", name := "isSlateOn", desc := "(II)Z" } : Jvm.MethodName) prog_1_method_75_code (3 : Nat) (Option.some Jvm.ClassFile.FieldType.boolean)) ∈ TB := tb3 134 rfl rfl
theorem w3_135 : (Jvm.Cond.methodLink "SlateHands" (140 : Nat) ({ cls := "SlateHands$Port", name := "isSlate", desc := "(I)Z" } : Jvm.MethodName)) ∈ TB := tb3 135 rfl rfl
theorem w3_136 : (Jvm.Cond.instanceMethod ({ cls := "SlateHands$Port", name := "isSlate", desc := "(I)Z" } : Jvm.MethodName)) ∈ TB := tb3 136 rfl rfl
theorem w3_137 : (Jvm.Cond.selects "SlateHands$Port" ({ cls := "SlateHands$Port", name := "isSlate", desc := "(I)Z" } : Jvm.MethodName) ({ cls := "SlateHands$Port", name := "isSlate", desc := "(I)Z" } : Jvm.MethodName)) ∈ TB := tb3 137 rfl rfl
theorem w3_138 : (Jvm.Cond.code ({ cls := "SlateHands$Port", name := "isSlate", desc := "(I)Z" } : Jvm.MethodName) prog_7_method_8_code (2 : Nat) (Option.some Jvm.ClassFile.FieldType.boolean)) ∈ TB := tb3 138 rfl rfl
theorem w3_139 : (Jvm.Cond.methodLink "SlateHands" (177 : Nat) ({ cls := "SlateHands$Diary", name := "slateOn", desc := "(II)I" } : Jvm.MethodName)) ∈ TB := tb3 139 rfl rfl
theorem w3_140 : (Jvm.Cond.instanceMethod ({ cls := "SlateHands$Diary", name := "slateOn", desc := "(II)I" } : Jvm.MethodName)) ∈ TB := tb3 140 rfl rfl
theorem w3_141 : (Jvm.Cond.selects "SlateHands$Diary" ({ cls := "SlateHands$Diary", name := "slateOn", desc := "(II)I" } : Jvm.MethodName) ({ cls := "SlateHands$Diary", name := "slateOn", desc := "(II)I" } : Jvm.MethodName)) ∈ TB := tb3 141 rfl rfl
theorem w3_142 : (Jvm.Cond.code ({ cls := "SlateHands$Diary", name := "slateOn", desc := "(II)I" } : Jvm.MethodName) prog_5_method_4_code (3 : Nat) (Option.some Jvm.ClassFile.FieldType.int)) ∈ TB := tb3 142 rfl rfl
theorem w3_143 : (Jvm.Cond.methodLink "SlateHandsLaw" (138 : Nat) ({ cls := "SlateHands", name := "left", desc := "(II)I" } : Jvm.MethodName)) ∈ TB := tb3 143 rfl rfl
theorem w3_144 : (Jvm.Cond.instanceMethod ({ cls := "SlateHands", name := "left", desc := "(II)I" } : Jvm.MethodName)) ∈ TB := tb3 144 rfl rfl
theorem w3_145 : (Jvm.Cond.selects "SlateHands" ({ cls := "SlateHands", name := "left", desc := "(II)I" } : Jvm.MethodName) ({ cls := "SlateHands", name := "left", desc := "(II)I" } : Jvm.MethodName)) ∈ TB := tb3 145 rfl rfl
theorem w3_146 : (Jvm.Cond.code ({ cls := "SlateHands", name := "left", desc := "(II)I" } : Jvm.MethodName) prog_1_method_14_code (3 : Nat) (Option.some Jvm.ClassFile.FieldType.int)) ∈ TB := tb3 146 rfl rfl
theorem w3_147 : (Jvm.Cond.methodLink "SlateHands" (180 : Nat) ({ cls := "SlateHands$Diary", name := "leftOn", desc := "(II)I" } : Jvm.MethodName)) ∈ TB := tb3 147 rfl rfl
theorem w3_148 : (Jvm.Cond.instanceMethod ({ cls := "SlateHands$Diary", name := "leftOn", desc := "(II)I" } : Jvm.MethodName)) ∈ TB := tb3 148 rfl rfl
theorem w3_149 : (Jvm.Cond.selects "SlateHands$Diary" ({ cls := "SlateHands$Diary", name := "leftOn", desc := "(II)I" } : Jvm.MethodName) ({ cls := "SlateHands$Diary", name := "leftOn", desc := "(II)I" } : Jvm.MethodName)) ∈ TB := tb3 149 rfl rfl
theorem w3_150 : (Jvm.Cond.code ({ cls := "SlateHands$Diary", name := "leftOn", desc := "(II)I" } : Jvm.MethodName) prog_5_method_5_code (3 : Nat) (Option.some Jvm.ClassFile.FieldType.int)) ∈ TB := tb3 150 rfl rfl
theorem w3_151 : (Jvm.Cond.methodLink "SlateHandsLaw" (148 : Nat) ({ cls := "SlateHands", name := "knows", desc := "(III)I" } : Jvm.MethodName)) ∈ TB := tb3 151 rfl rfl
theorem w3_152 : (Jvm.Cond.instanceMethod ({ cls := "SlateHands", name := "knows", desc := "(III)I" } : Jvm.MethodName)) ∈ TB := tb3 152 rfl rfl
theorem w3_153 : (Jvm.Cond.selects "SlateHands" ({ cls := "SlateHands", name := "knows", desc := "(III)I" } : Jvm.MethodName) ({ cls := "SlateHands", name := "knows", desc := "(III)I" } : Jvm.MethodName)) ∈ TB := tb3 153 rfl rfl
theorem w3_154 : (Jvm.Cond.code ({ cls := "SlateHands", name := "knows", desc := "(III)I" } : Jvm.MethodName) prog_1_method_16_code (4 : Nat) (Option.some Jvm.ClassFile.FieldType.int)) ∈ TB := tb3 154 rfl rfl
theorem w3_155 : (Jvm.Cond.methodLink "SlateHands" (117 : Nat) ({ cls := "SlateHands$Port", name := "isHouse", desc := "(I)Z" } : Jvm.MethodName)) ∈ TB := tb3 155 rfl rfl
theorem w3_156 : (Jvm.Cond.methodLink "SlateHands" (186 : Nat) ({ cls := "SlateHands$Diary", name := "knownOn", desc := "(III)I" } : Jvm.MethodName)) ∈ TB := tb3 156 rfl rfl
theorem w3_157 : (Jvm.Cond.instanceMethod ({ cls := "SlateHands$Diary", name := "knownOn", desc := "(III)I" } : Jvm.MethodName)) ∈ TB := tb3 157 rfl rfl
theorem w3_158 : (Jvm.Cond.selects "SlateHands$Diary" ({ cls := "SlateHands$Diary", name := "knownOn", desc := "(III)I" } : Jvm.MethodName) ({ cls := "SlateHands$Diary", name := "knownOn", desc := "(III)I" } : Jvm.MethodName)) ∈ TB := tb3 158 rfl rfl
theorem w3_159 : (Jvm.Cond.code ({ cls := "SlateHands$Diary", name := "knownOn", desc := "(III)I" } : Jvm.MethodName) prog_5_method_6_code (4 : Nat) (Option.some Jvm.ClassFile.FieldType.int)) ∈ TB := tb3 159 rfl rfl
theorem w3_160 : (Jvm.Cond.methodLink "SlateHandsLaw" (142 : Nat) ({ cls := "SlateHands", name := "heard", desc := "(II)I" } : Jvm.MethodName)) ∈ TB := tb3 160 rfl rfl
theorem w3_161 : (Jvm.Cond.instanceMethod ({ cls := "SlateHands", name := "heard", desc := "(II)I" } : Jvm.MethodName)) ∈ TB := tb3 161 rfl rfl
theorem w3_162 : (Jvm.Cond.selects "SlateHands" ({ cls := "SlateHands", name := "heard", desc := "(II)I" } : Jvm.MethodName) ({ cls := "SlateHands", name := "heard", desc := "(II)I" } : Jvm.MethodName)) ∈ TB := tb3 162 rfl rfl
theorem w3_163 : (Jvm.Cond.code ({ cls := "SlateHands", name := "heard", desc := "(II)I" } : Jvm.MethodName) prog_1_method_17_code (3 : Nat) (Option.some Jvm.ClassFile.FieldType.int)) ∈ TB := tb3 163 rfl rfl
theorem w3_164 : (Jvm.Cond.methodLink "SlateHands" (190 : Nat) ({ cls := "SlateHands$Diary", name := "hearersOn", desc := "(LSlateHands$Port;II)I" } : Jvm.MethodName)) ∈ TB := tb3 164 rfl rfl
theorem w3_165 : (Jvm.Cond.instanceMethod ({ cls := "SlateHands$Diary", name := "hearersOn", desc := "(LSlateHands$Port;II)I" } : Jvm.MethodName)) ∈ TB := tb3 165 rfl rfl
theorem w3_166 : (Jvm.Cond.selects "SlateHands$Diary" ({ cls := "SlateHands$Diary", name := "hearersOn", desc := "(LSlateHands$Port;II)I" } : Jvm.MethodName) ({ cls := "SlateHands$Diary", name := "hearersOn", desc := "(LSlateHands$Port;II)I" } : Jvm.MethodName)) ∈ TB := tb3 166 rfl rfl
theorem w3_167 : (Jvm.Cond.code ({ cls := "SlateHands$Diary", name := "hearersOn", desc := "(LSlateHands$Port;II)I" } : Jvm.MethodName) prog_5_method_7_code (6 : Nat) (Option.some Jvm.ClassFile.FieldType.int)) ∈ TB := tb3 167 rfl rfl
theorem w3_168 : (Jvm.Cond.methodLink "SlateHands$Diary" (65 : Nat) ({ cls := "SlateHands$Diary", name := "knownOn", desc := "(III)I" } : Jvm.MethodName)) ∈ TB := tb3 168 rfl rfl
theorem w3_169 : (Jvm.Cond.methodLink "SlateHandsLaw" (211 : Nat) ({ cls := "SlateHands", name := "dones", desc := "()I" } : Jvm.MethodName)) ∈ TB := tb3 169 rfl rfl
theorem w3_170 : (Jvm.Cond.instanceMethod ({ cls := "SlateHands", name := "dones", desc := "()I" } : Jvm.MethodName)) ∈ TB := tb3 170 rfl rfl
theorem w3_171 : (Jvm.Cond.selects "SlateHands" ({ cls := "SlateHands", name := "dones", desc := "()I" } : Jvm.MethodName) ({ cls := "SlateHands", name := "dones", desc := "()I" } : Jvm.MethodName)) ∈ TB := tb3 171 rfl rfl
theorem w3_172 : (Jvm.Cond.code ({ cls := "SlateHands", name := "dones", desc := "()I" } : Jvm.MethodName) prog_1_method_21_code (3 : Nat) (Option.some Jvm.ClassFile.FieldType.int)) ∈ TB := tb3 172 rfl rfl
theorem w3_173 : (Jvm.Cond.methodLink "SlateHands" (209 : Nat) ({ cls := "SlateHands$Port", name := "isTold", desc := "()Z" } : Jvm.MethodName)) ∈ TB := tb3 173 rfl rfl
theorem w3_174 : (Jvm.Cond.methodLink "SlateHands" (206 : Nat) ({ cls := "SlateHands$Diary", name := "reasonOf", desc := "(I)I" } : Jvm.MethodName)) ∈ TB := tb3 174 rfl rfl
theorem w3_175 : (Jvm.Cond.instanceMethod ({ cls := "SlateHands$Diary", name := "reasonOf", desc := "(I)I" } : Jvm.MethodName)) ∈ TB := tb3 175 rfl rfl
theorem w3_176 : (Jvm.Cond.selects "SlateHands$Diary" ({ cls := "SlateHands$Diary", name := "reasonOf", desc := "(I)I" } : Jvm.MethodName) ({ cls := "SlateHands$Diary", name := "reasonOf", desc := "(I)I" } : Jvm.MethodName)) ∈ TB := tb3 176 rfl rfl
theorem w3_177 : (Jvm.Cond.code ({ cls := "SlateHands$Diary", name := "reasonOf", desc := "(I)I" } : Jvm.MethodName) prog_5_method_9_code (2 : Nat) (Option.some Jvm.ClassFile.FieldType.int)) ∈ TB := tb3 177 rfl rfl
theorem w3_178 : (Jvm.Cond.methodLink "SlateHandsLaw" (151 : Nat) ({ cls := "SlateHands", name := "why", desc := "(I)I" } : Jvm.MethodName)) ∈ TB := tb3 178 rfl rfl
theorem w3_179 : (Jvm.Cond.instanceMethod ({ cls := "SlateHands", name := "why", desc := "(I)I" } : Jvm.MethodName)) ∈ TB := tb3 179 rfl rfl
theorem w3_180 : (Jvm.Cond.selects "SlateHands" ({ cls := "SlateHands", name := "why", desc := "(I)I" } : Jvm.MethodName) ({ cls := "SlateHands", name := "why", desc := "(I)I" } : Jvm.MethodName)) ∈ TB := tb3 180 rfl rfl
theorem w3_181 : (Jvm.Cond.code ({ cls := "SlateHands", name := "why", desc := "(I)I" } : Jvm.MethodName) prog_1_method_22_code (2 : Nat) (Option.some Jvm.ClassFile.FieldType.int)) ∈ TB := tb3 181 rfl rfl
theorem w3_182 : (Jvm.Cond.methodLink "SlateHands" (203 : Nat) ({ cls := "SlateHands$Port", name := "isCarry", desc := "(I)Z" } : Jvm.MethodName)) ∈ TB := tb3 182 rfl rfl
theorem w3_183 : (Jvm.Cond.instanceMethod ({ cls := "SlateHands$Port", name := "isCarry", desc := "(I)Z" } : Jvm.MethodName)) ∈ TB := tb3 183 rfl rfl
theorem w3_184 : (Jvm.Cond.selects "SlateHands$Port" ({ cls := "SlateHands$Port", name := "isCarry", desc := "(I)Z" } : Jvm.MethodName) ({ cls := "SlateHands$Port", name := "isCarry", desc := "(I)Z" } : Jvm.MethodName)) ∈ TB := tb3 184 rfl rfl
theorem w3_185 : (Jvm.Cond.code ({ cls := "SlateHands$Port", name := "isCarry", desc := "(I)Z" } : Jvm.MethodName) prog_7_method_10_code (2 : Nat) (Option.some Jvm.ClassFile.FieldType.boolean)) ∈ TB := tb3 185 rfl rfl
theorem w3_186 : (Jvm.Cond.methodLink "SlateHandsLaw" (182 : Nat) ({ cls := "SlateHands", name := "brings", desc := "(III)I" } : Jvm.MethodName)) ∈ TB := tb3 186 rfl rfl
theorem w3_187 : (Jvm.Cond.instanceMethod ({ cls := "SlateHands", name := "brings", desc := "(III)I" } : Jvm.MethodName)) ∈ TB := tb3 187 rfl rfl
theorem w3_188 : (Jvm.Cond.selects "SlateHands" ({ cls := "SlateHands", name := "brings", desc := "(III)I" } : Jvm.MethodName) ({ cls := "SlateHands", name := "brings", desc := "(III)I" } : Jvm.MethodName)) ∈ TB := tb3 188 rfl rfl
theorem w3_189 : (Jvm.Cond.code ({ cls := "SlateHands", name := "brings", desc := "(III)I" } : Jvm.MethodName) prog_1_method_31_code (4 : Nat) (Option.some Jvm.ClassFile.FieldType.int)) ∈ TB := tb3 189 rfl rfl
theorem w3_190 : (Jvm.Cond.methodLink "SlateHands" (251 : Nat) ({ cls := "SlateHands", name := "areAlone", desc := "(II)Z" } : Jvm.MethodName)) ∈ TB := tb3 190 rfl rfl
theorem w3_192 : (Jvm.Cond.instanceMethod ({ cls := "SlateHands", name := "areAlone", desc := "(II)Z" } : Jvm.MethodName)) ∈ TB := tb3 192 rfl rfl
theorem w3_193 : (Jvm.Cond.code ({ cls := "SlateHands", name := "areAlone", desc := "(II)Z" } : Jvm.MethodName) prog_1_method_76_code (3 : Nat) (Option.some Jvm.ClassFile.FieldType.boolean)) ∈ TB := tb3 193 rfl rfl
theorem w3_194 : (Jvm.Cond.methodLink "SlateHands" (124 : Nat) ({ cls := "SlateHands", name := "cell", desc := "([II)I" } : Jvm.MethodName)) ∈ TB := tb3 194 rfl rfl
theorem w3_195 : (Jvm.Cond.methodLink "SlateHands" (254 : Nat) ({ cls := "SlateHands$Alone", name := "search", desc := "(LSlateHands$Port;II)V" } : Jvm.MethodName)) ∈ TB := tb3 195 rfl rfl
theorem w3_196 : (Jvm.Cond.instanceMethod ({ cls := "SlateHands$Alone", name := "search", desc := "(LSlateHands$Port;II)V" } : Jvm.MethodName)) ∈ TB := tb3 196 rfl rfl
theorem w3_197 : (Jvm.Cond.selects "SlateHands$Alone" ({ cls := "SlateHands$Alone", name := "search", desc := "(LSlateHands$Port;II)V" } : Jvm.MethodName) ({ cls := "SlateHands$Alone", name := "search", desc := "(LSlateHands$Port;II)V" } : Jvm.MethodName)) ∈ TB := tb3 197 rfl rfl
theorem w3_198 : (Jvm.Cond.code ({ cls := "SlateHands$Alone", name := "search", desc := "(LSlateHands$Port;II)V" } : Jvm.MethodName) prog_2_method_3_code (6 : Nat) (Option.none : Option Jvm.ClassFile.FieldType)) ∈ TB := tb3 198 rfl rfl
theorem w3_199 : (Jvm.Cond.methodLink "SlateHands$Alone" (58 : Nat) ({ cls := "SlateHands$Alone", name := "prepare", desc := "(LSlateHands$Port;I)V" } : Jvm.MethodName)) ∈ TB := tb3 199 rfl rfl
theorem w3_201 : (Jvm.Cond.instanceMethod ({ cls := "SlateHands$Alone", name := "prepare", desc := "(LSlateHands$Port;I)V" } : Jvm.MethodName)) ∈ TB := tb3 201 rfl rfl
theorem w3_202 : (Jvm.Cond.code ({ cls := "SlateHands$Alone", name := "prepare", desc := "(LSlateHands$Port;I)V" } : Jvm.MethodName) prog_2_method_8_code (5 : Nat) (Option.none : Option Jvm.ClassFile.FieldType)) ∈ TB := tb3 202 rfl rfl
theorem w3_203 : (Jvm.Cond.methodLink "SlateHands$Alone" (62 : Nat) ({ cls := "java/util/Arrays", name := "fill", desc := "([II)V" } : Jvm.MethodName)) ∈ TB := tb3 203 rfl rfl
theorem w3_204 : (Jvm.Cond.methodLink "SlateHands$Alone" (102 : Nat) ({ cls := "SlateHands$Port", name := "leftAtFirst", desc := "(I)I" } : Jvm.MethodName)) ∈ TB := tb3 204 rfl rfl
theorem w3_205 : (Jvm.Cond.methodLink "SlateHands$Alone" (123 : Nat) ({ cls := "SlateHands$Port", name := "weightOf", desc := "(II)I" } : Jvm.MethodName)) ∈ TB := tb3 205 rfl rfl
theorem w3_207 : (Jvm.Cond.methodLink "SlateHands$Alone" (106 : Nat) ({ cls := "java/lang/Integer", name := "bitCount", desc := "(I)I" } : Jvm.MethodName)) ∈ TB := tb3 207 rfl rfl
theorem w3_208 : (Jvm.Cond.static ({ cls := "java/lang/Integer", name := "bitCount", desc := "(I)I" } : Jvm.MethodName)) ∈ TB := tb3 208 rfl rfl
theorem w3_209 : (Jvm.Cond.code ({ cls := "java/lang/Integer", name := "bitCount", desc := "(I)I" } : Jvm.MethodName) prog_15_method_49_code (1 : Nat) (Option.some Jvm.ClassFile.FieldType.int)) ∈ TB := tb3 209 rfl rfl
theorem w3_210 : (Jvm.Cond.constant "java/lang/Integer" (265 : Nat) (1431655765 : Int32)) ∈ TB := tb3 210 rfl rfl
theorem w3_211 : (Jvm.Cond.constant "java/lang/Integer" (266 : Nat) (858993459 : Int32)) ∈ TB := tb3 211 rfl rfl
theorem w3_212 : (Jvm.Cond.constant "java/lang/Integer" (267 : Nat) (252645135 : Int32)) ∈ TB := tb3 212 rfl rfl
theorem w3_213 : (Jvm.Cond.methodLink "SlateHands$Alone" (126 : Nat) ({ cls := "SlateHands$Port", name := "leftByLaw", desc := "(III)I" } : Jvm.MethodName)) ∈ TB := tb3 213 rfl rfl
theorem w3_214 : (Jvm.Cond.methodLink "SlateHands$Alone" (133 : Nat) ({ cls := "SlateHands$Port", name := "doorsOf", desc := "(II)I" } : Jvm.MethodName)) ∈ TB := tb3 214 rfl rfl
theorem w3_216 : (Jvm.Cond.methodLink "SlateHands$Alone" (84 : Nat) ({ cls := "SlateHands$Alone", name := "enter", desc := "(III)V" } : Jvm.MethodName)) ∈ TB := tb3 216 rfl rfl
theorem w3_218 : (Jvm.Cond.instanceMethod ({ cls := "SlateHands$Alone", name := "enter", desc := "(III)V" } : Jvm.MethodName)) ∈ TB := tb3 218 rfl rfl
theorem w3_219 : (Jvm.Cond.code ({ cls := "SlateHands$Alone", name := "enter", desc := "(III)V" } : Jvm.MethodName) prog_2_method_10_code (4 : Nat) (Option.none : Option Jvm.ClassFile.FieldType)) ∈ TB := tb3 219 rfl rfl
theorem w3_220 : (Jvm.Cond.methodLink "SlateHands$Alone" (140 : Nat) ({ cls := "SlateHands$Alone", name := "markSeen", desc := "(II)Z" } : Jvm.MethodName)) ∈ TB := tb3 220 rfl rfl
theorem w3_222 : (Jvm.Cond.instanceMethod ({ cls := "SlateHands$Alone", name := "markSeen", desc := "(II)Z" } : Jvm.MethodName)) ∈ TB := tb3 222 rfl rfl
theorem w3_223 : (Jvm.Cond.code ({ cls := "SlateHands$Alone", name := "markSeen", desc := "(II)Z" } : Jvm.MethodName) prog_2_method_9_code (4 : Nat) (Option.some Jvm.ClassFile.FieldType.boolean)) ∈ TB := tb3 223 rfl rfl
theorem w3_225 : (Jvm.Cond.methodLink "SlateHands$Alone" (111 : Nat) ({ cls := "java/lang/Math", name := "max", desc := "(II)I" } : Jvm.MethodName)) ∈ TB := tb3 225 rfl rfl
theorem w3_226 : (Jvm.Cond.methodLink "SlateHands$Alone" (88 : Nat) ({ cls := "SlateHands$Alone", name := "leave", desc := "(LSlateHands$Port;II)V" } : Jvm.MethodName)) ∈ TB := tb3 226 rfl rfl
theorem w3_228 : (Jvm.Cond.instanceMethod ({ cls := "SlateHands$Alone", name := "leave", desc := "(LSlateHands$Port;II)V" } : Jvm.MethodName)) ∈ TB := tb3 228 rfl rfl
theorem w3_229 : (Jvm.Cond.code ({ cls := "SlateHands$Alone", name := "leave", desc := "(LSlateHands$Port;II)V" } : Jvm.MethodName) prog_2_method_11_code (10 : Nat) (Option.none : Option Jvm.ClassFile.FieldType)) ∈ TB := tb3 229 rfl rfl
theorem w3_230 : (Jvm.Cond.methodLink "SlateHands$Alone" (143 : Nat) ({ cls := "SlateHands$Alone", name := "houseOf", desc := "(I)I" } : Jvm.MethodName)) ∈ TB := tb3 230 rfl rfl
theorem w3_231 : (Jvm.Cond.static ({ cls := "SlateHands$Alone", name := "houseOf", desc := "(I)I" } : Jvm.MethodName)) ∈ TB := tb3 231 rfl rfl
theorem w3_232 : (Jvm.Cond.code ({ cls := "SlateHands$Alone", name := "houseOf", desc := "(I)I" } : Jvm.MethodName) prog_2_method_14_code (1 : Nat) (Option.some Jvm.ClassFile.FieldType.int)) ∈ TB := tb3 232 rfl rfl
theorem w3_233 : (Jvm.Cond.methodLink "SlateHands$Alone" (146 : Nat) ({ cls := "SlateHands$Alone", name := "setOf", desc := "(I)I" } : Jvm.MethodName)) ∈ TB := tb3 233 rfl rfl
theorem w3_234 : (Jvm.Cond.static ({ cls := "SlateHands$Alone", name := "setOf", desc := "(I)I" } : Jvm.MethodName)) ∈ TB := tb3 234 rfl rfl
theorem w3_235 : (Jvm.Cond.code ({ cls := "SlateHands$Alone", name := "setOf", desc := "(I)I" } : Jvm.MethodName) prog_2_method_15_code (1 : Nat) (Option.some Jvm.ClassFile.FieldType.int)) ∈ TB := tb3 235 rfl rfl
theorem w3_236 : (Jvm.Cond.methodLink "SlateHands$Alone" (149 : Nat) ({ cls := "SlateHands$Port", name := "climbTo", desc := "(II)I" } : Jvm.MethodName)) ∈ TB := tb3 236 rfl rfl
theorem w3_237 : (Jvm.Cond.methodLink "SlateHandsLaw" (185 : Nat) ({ cls := "SlateHands", name := "saves", desc := "(III)I" } : Jvm.MethodName)) ∈ TB := tb3 237 rfl rfl
theorem w3_238 : (Jvm.Cond.instanceMethod ({ cls := "SlateHands", name := "saves", desc := "(III)I" } : Jvm.MethodName)) ∈ TB := tb3 238 rfl rfl
theorem w3_239 : (Jvm.Cond.selects "SlateHands" ({ cls := "SlateHands", name := "saves", desc := "(III)I" } : Jvm.MethodName) ({ cls := "SlateHands", name := "saves", desc := "(III)I" } : Jvm.MethodName)) ∈ TB := tb3 239 rfl rfl
theorem w4_0 : (Jvm.Cond.code ({ cls := "SlateHands", name := "saves", desc := "(III)I" } : Jvm.MethodName) prog_1_method_32_code (4 : Nat) (Option.some Jvm.ClassFile.FieldType.int)) ∈ TB := tb4 0 rfl rfl
theorem w4_1 : (Jvm.Cond.methodLink "SlateHandsLaw" (173 : Nat) ({ cls := "SlateHands", name := "needs", desc := "(II)I" } : Jvm.MethodName)) ∈ TB := tb4 1 rfl rfl
theorem w4_2 : (Jvm.Cond.instanceMethod ({ cls := "SlateHands", name := "needs", desc := "(II)I" } : Jvm.MethodName)) ∈ TB := tb4 2 rfl rfl
theorem w4_3 : (Jvm.Cond.selects "SlateHands" ({ cls := "SlateHands", name := "needs", desc := "(II)I" } : Jvm.MethodName) ({ cls := "SlateHands", name := "needs", desc := "(II)I" } : Jvm.MethodName)) ∈ TB := tb4 3 rfl rfl
theorem w4_4 : (Jvm.Cond.code ({ cls := "SlateHands", name := "needs", desc := "(II)I" } : Jvm.MethodName) prog_1_method_34_code (3 : Nat) (Option.some Jvm.ClassFile.FieldType.int)) ∈ TB := tb4 4 rfl rfl
theorem w4_5 : (Jvm.Cond.methodLink "SlateHands" (267 : Nat) ({ cls := "SlateHands$Alone", name := "findNeeds", desc := "(LSlateHands$Port;I)V" } : Jvm.MethodName)) ∈ TB := tb4 5 rfl rfl
theorem w4_6 : (Jvm.Cond.instanceMethod ({ cls := "SlateHands$Alone", name := "findNeeds", desc := "(LSlateHands$Port;I)V" } : Jvm.MethodName)) ∈ TB := tb4 6 rfl rfl
theorem w4_7 : (Jvm.Cond.selects "SlateHands$Alone" ({ cls := "SlateHands$Alone", name := "findNeeds", desc := "(LSlateHands$Port;I)V" } : Jvm.MethodName) ({ cls := "SlateHands$Alone", name := "findNeeds", desc := "(LSlateHands$Port;I)V" } : Jvm.MethodName)) ∈ TB := tb4 7 rfl rfl
theorem w4_8 : (Jvm.Cond.code ({ cls := "SlateHands$Alone", name := "findNeeds", desc := "(LSlateHands$Port;I)V" } : Jvm.MethodName) prog_2_method_4_code (7 : Nat) (Option.none : Option Jvm.ClassFile.FieldType)) ∈ TB := tb4 8 rfl rfl
theorem w4_9 : (Jvm.Cond.methodLink "SlateHands$Alone" (95 : Nat) ({ cls := "SlateHands$Alone", name := "await", desc := "(II)V" } : Jvm.MethodName)) ∈ TB := tb4 9 rfl rfl
theorem w4_11 : (Jvm.Cond.instanceMethod ({ cls := "SlateHands$Alone", name := "await", desc := "(II)V" } : Jvm.MethodName)) ∈ TB := tb4 11 rfl rfl
theorem w4_12 : (Jvm.Cond.code ({ cls := "SlateHands$Alone", name := "await", desc := "(II)V" } : Jvm.MethodName) prog_2_method_12_code (4 : Nat) (Option.none : Option Jvm.ClassFile.FieldType)) ∈ TB := tb4 12 rfl rfl
theorem w4_13 : (Jvm.Cond.methodLink "SlateHands$Alone" (99 : Nat) ({ cls := "SlateHands$Alone", name := "settle", desc := "(LSlateHands$Port;II)V" } : Jvm.MethodName)) ∈ TB := tb4 13 rfl rfl
theorem w4_15 : (Jvm.Cond.instanceMethod ({ cls := "SlateHands$Alone", name := "settle", desc := "(LSlateHands$Port;II)V" } : Jvm.MethodName)) ∈ TB := tb4 15 rfl rfl
theorem w4_16 : (Jvm.Cond.code ({ cls := "SlateHands$Alone", name := "settle", desc := "(LSlateHands$Port;II)V" } : Jvm.MethodName) prog_2_method_13_code (9 : Nat) (Option.none : Option Jvm.ClassFile.FieldType)) ∈ TB := tb4 16 rfl rfl
theorem w4_17 : (Jvm.Cond.methodLink "SlateHandsLaw" (179 : Nat) ({ cls := "SlateHands", name := "cart", desc := "(III)I" } : Jvm.MethodName)) ∈ TB := tb4 17 rfl rfl
theorem w4_18 : (Jvm.Cond.instanceMethod ({ cls := "SlateHands", name := "cart", desc := "(III)I" } : Jvm.MethodName)) ∈ TB := tb4 18 rfl rfl
theorem w4_19 : (Jvm.Cond.selects "SlateHands" ({ cls := "SlateHands", name := "cart", desc := "(III)I" } : Jvm.MethodName) ({ cls := "SlateHands", name := "cart", desc := "(III)I" } : Jvm.MethodName)) ∈ TB := tb4 19 rfl rfl
theorem w4_20 : (Jvm.Cond.code ({ cls := "SlateHands", name := "cart", desc := "(III)I" } : Jvm.MethodName) prog_1_method_37_code (4 : Nat) (Option.some Jvm.ClassFile.FieldType.int)) ∈ TB := tb4 20 rfl rfl
theorem w4_21 : (Jvm.Cond.methodLink "SlateHands" (280 : Nat) ({ cls := "SlateHands$Port", name := "isCart", desc := "(I)Z" } : Jvm.MethodName)) ∈ TB := tb4 21 rfl rfl
theorem w4_22 : (Jvm.Cond.instanceMethod ({ cls := "SlateHands$Port", name := "isCart", desc := "(I)Z" } : Jvm.MethodName)) ∈ TB := tb4 22 rfl rfl
theorem w4_23 : (Jvm.Cond.selects "SlateHands$Port" ({ cls := "SlateHands$Port", name := "isCart", desc := "(I)Z" } : Jvm.MethodName) ({ cls := "SlateHands$Port", name := "isCart", desc := "(I)Z" } : Jvm.MethodName)) ∈ TB := tb4 23 rfl rfl
theorem w4_24 : (Jvm.Cond.code ({ cls := "SlateHands$Port", name := "isCart", desc := "(I)Z" } : Jvm.MethodName) prog_7_method_13_code (2 : Nat) (Option.some Jvm.ClassFile.FieldType.boolean)) ∈ TB := tb4 24 rfl rfl
theorem w4_25 : (Jvm.Cond.methodLink "SlateHands$Port" (96 : Nat) ({ cls := "SlateHands$Port", name := "allCarriers", desc := "()I" } : Jvm.MethodName)) ∈ TB := tb4 25 rfl rfl
theorem w4_26 : (Jvm.Cond.instanceMethod ({ cls := "SlateHands$Port", name := "allCarriers", desc := "()I" } : Jvm.MethodName)) ∈ TB := tb4 26 rfl rfl
theorem w4_27 : (Jvm.Cond.selects "SlateHands$Port" ({ cls := "SlateHands$Port", name := "allCarriers", desc := "()I" } : Jvm.MethodName) ({ cls := "SlateHands$Port", name := "allCarriers", desc := "()I" } : Jvm.MethodName)) ∈ TB := tb4 27 rfl rfl
theorem w4_28 : (Jvm.Cond.code ({ cls := "SlateHands$Port", name := "allCarriers", desc := "()I" } : Jvm.MethodName) prog_7_method_15_code (1 : Nat) (Option.some Jvm.ClassFile.FieldType.int)) ∈ TB := tb4 28 rfl rfl
theorem w4_29 : (Jvm.Cond.methodLink "SlateHands" (283 : Nat) ({ cls := "SlateHands$Port", name := "strongTogether", desc := "(I)I" } : Jvm.MethodName)) ∈ TB := tb4 29 rfl rfl
theorem w4_30 : (Jvm.Cond.instanceMethod ({ cls := "SlateHands$Port", name := "strongTogether", desc := "(I)I" } : Jvm.MethodName)) ∈ TB := tb4 30 rfl rfl
theorem w4_31 : (Jvm.Cond.selects "SlateHands$Port" ({ cls := "SlateHands$Port", name := "strongTogether", desc := "(I)I" } : Jvm.MethodName) ({ cls := "SlateHands$Port", name := "strongTogether", desc := "(I)I" } : Jvm.MethodName)) ∈ TB := tb4 31 rfl rfl
theorem w4_32 : (Jvm.Cond.code ({ cls := "SlateHands$Port", name := "strongTogether", desc := "(I)I" } : Jvm.MethodName) prog_7_method_19_code (4 : Nat) (Option.some Jvm.ClassFile.FieldType.int)) ∈ TB := tb4 32 rfl rfl
theorem w4_33 : (Jvm.Cond.methodLink "SlateHandsLaw" (176 : Nat) ({ cls := "SlateHands", name := "four", desc := "(II)I" } : Jvm.MethodName)) ∈ TB := tb4 33 rfl rfl
theorem w4_34 : (Jvm.Cond.instanceMethod ({ cls := "SlateHands", name := "four", desc := "(II)I" } : Jvm.MethodName)) ∈ TB := tb4 34 rfl rfl
theorem w4_35 : (Jvm.Cond.selects "SlateHands" ({ cls := "SlateHands", name := "four", desc := "(II)I" } : Jvm.MethodName) ({ cls := "SlateHands", name := "four", desc := "(II)I" } : Jvm.MethodName)) ∈ TB := tb4 35 rfl rfl
theorem w4_36 : (Jvm.Cond.code ({ cls := "SlateHands", name := "four", desc := "(II)I" } : Jvm.MethodName) prog_1_method_38_code (7 : Nat) (Option.some Jvm.ClassFile.FieldType.int)) ∈ TB := tb4 36 rfl rfl
theorem w4_37 : (Jvm.Cond.methodLink "SlateHands" (226 : Nat) ({ cls := "SlateHands$Port", name := "allCarriers", desc := "()I" } : Jvm.MethodName)) ∈ TB := tb4 37 rfl rfl
theorem w4_38 : (Jvm.Cond.methodLink "SlateHands" (243 : Nat) ({ cls := "java/lang/Integer", name := "bitCount", desc := "(I)I" } : Jvm.MethodName)) ∈ TB := tb4 38 rfl rfl
theorem w4_39 : (Jvm.Cond.methodLink "SlateHandsLaw" (160 : Nat) ({ cls := "SlateHands", name := "by", desc := "(II)I" } : Jvm.MethodName)) ∈ TB := tb4 39 rfl rfl
theorem w4_40 : (Jvm.Cond.instanceMethod ({ cls := "SlateHands", name := "by", desc := "(II)I" } : Jvm.MethodName)) ∈ TB := tb4 40 rfl rfl
theorem w4_41 : (Jvm.Cond.selects "SlateHands" ({ cls := "SlateHands", name := "by", desc := "(II)I" } : Jvm.MethodName) ({ cls := "SlateHands", name := "by", desc := "(II)I" } : Jvm.MethodName)) ∈ TB := tb4 41 rfl rfl
theorem w4_42 : (Jvm.Cond.code ({ cls := "SlateHands", name := "by", desc := "(II)I" } : Jvm.MethodName) prog_1_method_41_code (3 : Nat) (Option.some Jvm.ClassFile.FieldType.int)) ∈ TB := tb4 42 rfl rfl
theorem w4_43 : (Jvm.Cond.methodLink "SlateHands" (308 : Nat) ({ cls := "SlateHands", name := "isLaw", desc := "(I)Z" } : Jvm.MethodName)) ∈ TB := tb4 43 rfl rfl
theorem w4_44 : (Jvm.Cond.static ({ cls := "SlateHands", name := "isLaw", desc := "(I)Z" } : Jvm.MethodName)) ∈ TB := tb4 44 rfl rfl
theorem w4_45 : (Jvm.Cond.code ({ cls := "SlateHands", name := "isLaw", desc := "(I)Z" } : Jvm.MethodName) prog_1_method_69_code (1 : Nat) (Option.some Jvm.ClassFile.FieldType.boolean)) ∈ TB := tb4 45 rfl rfl
theorem w4_46 : (Jvm.Cond.methodLink "SlateHands" (311 : Nat) ({ cls := "SlateHands", name := "hearersBy", desc := "(II)I" } : Jvm.MethodName)) ∈ TB := tb4 46 rfl rfl
theorem w4_48 : (Jvm.Cond.instanceMethod ({ cls := "SlateHands", name := "hearersBy", desc := "(II)I" } : Jvm.MethodName)) ∈ TB := tb4 48 rfl rfl
theorem w4_49 : (Jvm.Cond.code ({ cls := "SlateHands", name := "hearersBy", desc := "(II)I" } : Jvm.MethodName) prog_1_method_79_code (3 : Nat) (Option.some Jvm.ClassFile.FieldType.int)) ∈ TB := tb4 49 rfl rfl
theorem w4_50 : (Jvm.Cond.methodLink "SlateHandsLaw" (170 : Nat) ({ cls := "SlateHands", name := "firsts", desc := "(II)I" } : Jvm.MethodName)) ∈ TB := tb4 50 rfl rfl
theorem w4_51 : (Jvm.Cond.instanceMethod ({ cls := "SlateHands", name := "firsts", desc := "(II)I" } : Jvm.MethodName)) ∈ TB := tb4 51 rfl rfl
theorem w4_52 : (Jvm.Cond.selects "SlateHands" ({ cls := "SlateHands", name := "firsts", desc := "(II)I" } : Jvm.MethodName) ({ cls := "SlateHands", name := "firsts", desc := "(II)I" } : Jvm.MethodName)) ∈ TB := tb4 52 rfl rfl
theorem w4_53 : (Jvm.Cond.code ({ cls := "SlateHands", name := "firsts", desc := "(II)I" } : Jvm.MethodName) prog_1_method_43_code (4 : Nat) (Option.some Jvm.ClassFile.FieldType.int)) ∈ TB := tb4 53 rfl rfl
theorem w4_54 : (Jvm.Cond.methodLink "SlateHands" (314 : Nat) ({ cls := "SlateHands$Seen", name := "wrongRow", desc := "(LSlateHands$Port;LSlateHands$Slots;II)I" } : Jvm.MethodName)) ∈ TB := tb4 54 rfl rfl
theorem w4_55 : (Jvm.Cond.instanceMethod ({ cls := "SlateHands$Seen", name := "wrongRow", desc := "(LSlateHands$Port;LSlateHands$Slots;II)I" } : Jvm.MethodName)) ∈ TB := tb4 55 rfl rfl
theorem w4_56 : (Jvm.Cond.selects "SlateHands$Seen" ({ cls := "SlateHands$Seen", name := "wrongRow", desc := "(LSlateHands$Port;LSlateHands$Slots;II)I" } : Jvm.MethodName) ({ cls := "SlateHands$Seen", name := "wrongRow", desc := "(LSlateHands$Port;LSlateHands$Slots;II)I" } : Jvm.MethodName)) ∈ TB := tb4 56 rfl rfl
theorem w4_57 : (Jvm.Cond.code ({ cls := "SlateHands$Seen", name := "wrongRow", desc := "(LSlateHands$Port;LSlateHands$Slots;II)I" } : Jvm.MethodName) prog_9_method_2_code (11 : Nat) (Option.some Jvm.ClassFile.FieldType.int)) ∈ TB := tb4 57 rfl rfl
theorem w4_58 : (Jvm.Cond.methodLink "SlateHands$Seen" (15 : Nat) ({ cls := "SlateHands$Slots", name := "isSlot", desc := "(I)Z" } : Jvm.MethodName)) ∈ TB := tb4 58 rfl rfl
theorem w4_59 : (Jvm.Cond.instanceMethod ({ cls := "SlateHands$Slots", name := "isSlot", desc := "(I)Z" } : Jvm.MethodName)) ∈ TB := tb4 59 rfl rfl
theorem w4_60 : (Jvm.Cond.selects "SlateHands$Slots" ({ cls := "SlateHands$Slots", name := "isSlot", desc := "(I)Z" } : Jvm.MethodName) ({ cls := "SlateHands$Slots", name := "isSlot", desc := "(I)Z" } : Jvm.MethodName)) ∈ TB := tb4 60 rfl rfl
theorem w4_61 : (Jvm.Cond.code ({ cls := "SlateHands$Slots", name := "isSlot", desc := "(I)Z" } : Jvm.MethodName) prog_10_method_2_code (2 : Nat) (Option.some Jvm.ClassFile.FieldType.boolean)) ∈ TB := tb4 61 rfl rfl
theorem w4_62 : (Jvm.Cond.methodLink "SlateHands$Seen" (21 : Nat) ({ cls := "SlateHands$Port", name := "isSlate", desc := "(I)Z" } : Jvm.MethodName)) ∈ TB := tb4 62 rfl rfl
theorem w4_63 : (Jvm.Cond.methodLink "SlateHands$Seen" (26 : Nat) ({ cls := "SlateHands$Slots", name := "hasRow", desc := "(I)Z" } : Jvm.MethodName)) ∈ TB := tb4 63 rfl rfl
theorem w4_64 : (Jvm.Cond.instanceMethod ({ cls := "SlateHands$Slots", name := "hasRow", desc := "(I)Z" } : Jvm.MethodName)) ∈ TB := tb4 64 rfl rfl
theorem w4_65 : (Jvm.Cond.selects "SlateHands$Slots" ({ cls := "SlateHands$Slots", name := "hasRow", desc := "(I)Z" } : Jvm.MethodName) ({ cls := "SlateHands$Slots", name := "hasRow", desc := "(I)Z" } : Jvm.MethodName)) ∈ TB := tb4 65 rfl rfl
theorem w4_66 : (Jvm.Cond.code ({ cls := "SlateHands$Slots", name := "hasRow", desc := "(I)Z" } : Jvm.MethodName) prog_10_method_3_code (2 : Nat) (Option.some Jvm.ClassFile.FieldType.boolean)) ∈ TB := tb4 66 rfl rfl
theorem w4_68 : (Jvm.Cond.methodLink "SlateHands$Seen" (29 : Nat) ({ cls := "SlateHands$Slots", name := "sizeOf", desc := "(I)I" } : Jvm.MethodName)) ∈ TB := tb4 68 rfl rfl
theorem w4_69 : (Jvm.Cond.instanceMethod ({ cls := "SlateHands$Slots", name := "sizeOf", desc := "(I)I" } : Jvm.MethodName)) ∈ TB := tb4 69 rfl rfl
theorem w4_70 : (Jvm.Cond.selects "SlateHands$Slots" ({ cls := "SlateHands$Slots", name := "sizeOf", desc := "(I)I" } : Jvm.MethodName) ({ cls := "SlateHands$Slots", name := "sizeOf", desc := "(I)I" } : Jvm.MethodName)) ∈ TB := tb4 70 rfl rfl
theorem w4_71 : (Jvm.Cond.code ({ cls := "SlateHands$Slots", name := "sizeOf", desc := "(I)I" } : Jvm.MethodName) prog_10_method_4_code (2 : Nat) (Option.some Jvm.ClassFile.FieldType.int)) ∈ TB := tb4 71 rfl rfl
theorem w4_72 : (Jvm.Cond.methodLink "SlateHands$Seen" (33 : Nat) ({ cls := "SlateHands$Slots", name := "numberAt", desc := "(II)J" } : Jvm.MethodName)) ∈ TB := tb4 72 rfl rfl
theorem w4_73 : (Jvm.Cond.instanceMethod ({ cls := "SlateHands$Slots", name := "numberAt", desc := "(II)J" } : Jvm.MethodName)) ∈ TB := tb4 73 rfl rfl
theorem w4_74 : (Jvm.Cond.selects "SlateHands$Slots" ({ cls := "SlateHands$Slots", name := "numberAt", desc := "(II)J" } : Jvm.MethodName) ({ cls := "SlateHands$Slots", name := "numberAt", desc := "(II)J" } : Jvm.MethodName)) ∈ TB := tb4 74 rfl rfl
theorem w4_75 : (Jvm.Cond.code ({ cls := "SlateHands$Slots", name := "numberAt", desc := "(II)J" } : Jvm.MethodName) prog_10_method_5_code (4 : Nat) (Option.some Jvm.ClassFile.FieldType.long)) ∈ TB := tb4 75 rfl rfl
theorem w4_76 : (Jvm.Cond.methodLink "SlateHands" (318 : Nat) ({ cls := "SlateHands$Seen", name := "findFirsts", desc := "(LSlateHands$Port;LSlateHands$Slots;IILSlateHands$Diary;)V" } : Jvm.MethodName)) ∈ TB := tb4 76 rfl rfl
theorem w4_77 : (Jvm.Cond.instanceMethod ({ cls := "SlateHands$Seen", name := "findFirsts", desc := "(LSlateHands$Port;LSlateHands$Slots;IILSlateHands$Diary;)V" } : Jvm.MethodName)) ∈ TB := tb4 77 rfl rfl
theorem w4_78 : (Jvm.Cond.selects "SlateHands$Seen" ({ cls := "SlateHands$Seen", name := "findFirsts", desc := "(LSlateHands$Port;LSlateHands$Slots;IILSlateHands$Diary;)V" } : Jvm.MethodName) ({ cls := "SlateHands$Seen", name := "findFirsts", desc := "(LSlateHands$Port;LSlateHands$Slots;IILSlateHands$Diary;)V" } : Jvm.MethodName)) ∈ TB := tb4 78 rfl rfl
theorem w4_79 : (Jvm.Cond.code ({ cls := "SlateHands$Seen", name := "findFirsts", desc := "(LSlateHands$Port;LSlateHands$Slots;IILSlateHands$Diary;)V" } : Jvm.MethodName) prog_9_method_3_code (8 : Nat) (Option.none : Option Jvm.ClassFile.FieldType)) ∈ TB := tb4 79 rfl rfl
theorem w4_80 : (Jvm.Cond.methodLink "SlateHands$Seen" (53 : Nat) ({ cls := "SlateHands$Course", name := "setAsTold", desc := "(LSlateHands$Port;)V" } : Jvm.MethodName)) ∈ TB := tb4 80 rfl rfl
theorem w4_81 : (Jvm.Cond.methodLink "SlateHands$Seen" (65 : Nat) ({ cls := "SlateHands$Diary", name := "fill", desc := "(LSlateHands$Port;)V" } : Jvm.MethodName)) ∈ TB := tb4 81 rfl rfl
theorem w4_82 : (Jvm.Cond.methodLink "SlateHands$Seen" (68 : Nat) ({ cls := "SlateHands$Diary", name := "slateOn", desc := "(II)I" } : Jvm.MethodName)) ∈ TB := tb4 82 rfl rfl
theorem w4_84 : (Jvm.Cond.methodLink "SlateHands$Seen" (76 : Nat) ({ cls := "SlateHands$Seen", name := "isAsSeen", desc := "(LSlateHands$Slots;IILSlateHands$Diary;)Z" } : Jvm.MethodName)) ∈ TB := tb4 84 rfl rfl
theorem w4_85 : (Jvm.Cond.instanceMethod ({ cls := "SlateHands$Seen", name := "isAsSeen", desc := "(LSlateHands$Slots;IILSlateHands$Diary;)Z" } : Jvm.MethodName)) ∈ TB := tb4 85 rfl rfl
theorem w4_86 : (Jvm.Cond.selects "SlateHands$Seen" ({ cls := "SlateHands$Seen", name := "isAsSeen", desc := "(LSlateHands$Slots;IILSlateHands$Diary;)Z" } : Jvm.MethodName) ({ cls := "SlateHands$Seen", name := "isAsSeen", desc := "(LSlateHands$Slots;IILSlateHands$Diary;)Z" } : Jvm.MethodName)) ∈ TB := tb4 86 rfl rfl
theorem w4_87 : (Jvm.Cond.code ({ cls := "SlateHands$Seen", name := "isAsSeen", desc := "(LSlateHands$Slots;IILSlateHands$Diary;)Z" } : Jvm.MethodName) prog_9_method_4_code (7 : Nat) (Option.some Jvm.ClassFile.FieldType.boolean)) ∈ TB := tb4 87 rfl rfl
theorem w4_88 : (Jvm.Cond.methodLink "SlateHandsLaw" (191 : Nat) ({ cls := "SlateHands", name := "gets", desc := "(IIIII)I" } : Jvm.MethodName)) ∈ TB := tb4 88 rfl rfl
theorem w4_89 : (Jvm.Cond.instanceMethod ({ cls := "SlateHands", name := "gets", desc := "(IIIII)I" } : Jvm.MethodName)) ∈ TB := tb4 89 rfl rfl
theorem w4_90 : (Jvm.Cond.selects "SlateHands" ({ cls := "SlateHands", name := "gets", desc := "(IIIII)I" } : Jvm.MethodName) ({ cls := "SlateHands", name := "gets", desc := "(IIIII)I" } : Jvm.MethodName)) ∈ TB := tb4 90 rfl rfl
theorem w4_91 : (Jvm.Cond.code ({ cls := "SlateHands", name := "gets", desc := "(IIIII)I" } : Jvm.MethodName) prog_1_method_49_code (6 : Nat) (Option.some Jvm.ClassFile.FieldType.int)) ∈ TB := tb4 91 rfl rfl
theorem w4_92 : (Jvm.Cond.methodLink "SlateHands" (354 : Nat) ({ cls := "SlateHands", name := "isGame", desc := "(III)Z" } : Jvm.MethodName)) ∈ TB := tb4 92 rfl rfl
theorem w4_94 : (Jvm.Cond.instanceMethod ({ cls := "SlateHands", name := "isGame", desc := "(III)Z" } : Jvm.MethodName)) ∈ TB := tb4 94 rfl rfl
theorem w4_95 : (Jvm.Cond.code ({ cls := "SlateHands", name := "isGame", desc := "(III)Z" } : Jvm.MethodName) prog_1_method_77_code (4 : Nat) (Option.some Jvm.ClassFile.FieldType.boolean)) ∈ TB := tb4 95 rfl rfl
theorem w4_96 : (Jvm.Cond.methodLink "SlateHands" (131 : Nat) ({ cls := "SlateHands", name := "isChoice", desc := "(I)Z" } : Jvm.MethodName)) ∈ TB := tb4 96 rfl rfl
theorem w4_97 : (Jvm.Cond.static ({ cls := "SlateHands", name := "isChoice", desc := "(I)Z" } : Jvm.MethodName)) ∈ TB := tb4 97 rfl rfl
theorem w4_98 : (Jvm.Cond.code ({ cls := "SlateHands", name := "isChoice", desc := "(I)Z" } : Jvm.MethodName) prog_1_method_68_code (1 : Nat) (Option.some Jvm.ClassFile.FieldType.boolean)) ∈ TB := tb4 98 rfl rfl
theorem w4_99 : (Jvm.Cond.methodLink "SlateHands" (358 : Nat) ({ cls := "SlateHands", name := "shutBy", desc := "(IIII)V" } : Jvm.MethodName)) ∈ TB := tb4 99 rfl rfl
theorem w4_101 : (Jvm.Cond.instanceMethod ({ cls := "SlateHands", name := "shutBy", desc := "(IIII)V" } : Jvm.MethodName)) ∈ TB := tb4 101 rfl rfl
theorem w4_102 : (Jvm.Cond.code ({ cls := "SlateHands", name := "shutBy", desc := "(IIII)V" } : Jvm.MethodName) prog_1_method_80_code (5 : Nat) (Option.none : Option Jvm.ClassFile.FieldType)) ∈ TB := tb4 102 rfl rfl
theorem w4_103 : (Jvm.Cond.methodLink "SlateHands" (452 : Nat) ({ cls := "SlateHands$Course", name := "runThrough", desc := "(LSlateHands$Port;)V" } : Jvm.MethodName)) ∈ TB := tb4 103 rfl rfl
theorem w4_104 : (Jvm.Cond.instanceMethod ({ cls := "SlateHands$Course", name := "runThrough", desc := "(LSlateHands$Port;)V" } : Jvm.MethodName)) ∈ TB := tb4 104 rfl rfl
theorem w4_105 : (Jvm.Cond.selects "SlateHands$Course" ({ cls := "SlateHands$Course", name := "runThrough", desc := "(LSlateHands$Port;)V" } : Jvm.MethodName) ({ cls := "SlateHands$Course", name := "runThrough", desc := "(LSlateHands$Port;)V" } : Jvm.MethodName)) ∈ TB := tb4 105 rfl rfl
theorem w4_106 : (Jvm.Cond.code ({ cls := "SlateHands$Course", name := "runThrough", desc := "(LSlateHands$Port;)V" } : Jvm.MethodName) prog_4_method_5_code (3 : Nat) (Option.none : Option Jvm.ClassFile.FieldType)) ∈ TB := tb4 106 rfl rfl
theorem w4_107 : (Jvm.Cond.methodLink "SlateHands$Course" (111 : Nat) ({ cls := "SlateHands$Course", name := "begin", desc := "(LSlateHands$Port;)V" } : Jvm.MethodName)) ∈ TB := tb4 107 rfl rfl
theorem w4_108 : (Jvm.Cond.methodLink "SlateHands$Course" (118 : Nat) ({ cls := "SlateHands$Course", name := "passDay", desc := "(LSlateHands$Port;I)V" } : Jvm.MethodName)) ∈ TB := tb4 108 rfl rfl
theorem w4_109 : (Jvm.Cond.methodLink "SlateHands" (362 : Nat) ({ cls := "SlateHands", name := "gainOf", desc := "(II)I" } : Jvm.MethodName)) ∈ TB := tb4 109 rfl rfl
theorem w4_111 : (Jvm.Cond.instanceMethod ({ cls := "SlateHands", name := "gainOf", desc := "(II)I" } : Jvm.MethodName)) ∈ TB := tb4 111 rfl rfl
theorem w4_112 : (Jvm.Cond.code ({ cls := "SlateHands", name := "gainOf", desc := "(II)I" } : Jvm.MethodName) prog_1_method_81_code (4 : Nat) (Option.some Jvm.ClassFile.FieldType.int)) ∈ TB := tb4 112 rfl rfl
theorem w4_113 : (Jvm.Cond.methodLink "SlateHands" (419 : Nat) ({ cls := "SlateHands$Course", name := "knownBy", desc := "(II)I" } : Jvm.MethodName)) ∈ TB := tb4 113 rfl rfl
theorem w4_114 : (Jvm.Cond.instanceMethod ({ cls := "SlateHands$Course", name := "knownBy", desc := "(II)I" } : Jvm.MethodName)) ∈ TB := tb4 114 rfl rfl
theorem w4_115 : (Jvm.Cond.selects "SlateHands$Course" ({ cls := "SlateHands$Course", name := "knownBy", desc := "(II)I" } : Jvm.MethodName) ({ cls := "SlateHands$Course", name := "knownBy", desc := "(II)I" } : Jvm.MethodName)) ∈ TB := tb4 115 rfl rfl
theorem w4_116 : (Jvm.Cond.code ({ cls := "SlateHands$Course", name := "knownBy", desc := "(II)I" } : Jvm.MethodName) prog_4_method_6_code (3 : Nat) (Option.some Jvm.ClassFile.FieldType.int)) ∈ TB := tb4 116 rfl rfl
theorem w4_117 : (Jvm.Cond.methodLink "SlateHands" (286 : Nat) ({ cls := "SlateHands", name := "hasBit", desc := "(II)Z" } : Jvm.MethodName)) ∈ TB := tb4 117 rfl rfl
theorem w4_118 : (Jvm.Cond.methodLink "SlateHandsLaw" (157 : Nat) ({ cls := "SlateHands", name := "carry", desc := "(IIII)I" } : Jvm.MethodName)) ∈ TB := tb4 118 rfl rfl
theorem w4_119 : (Jvm.Cond.instanceMethod ({ cls := "SlateHands", name := "carry", desc := "(IIII)I" } : Jvm.MethodName)) ∈ TB := tb4 119 rfl rfl
theorem w4_120 : (Jvm.Cond.selects "SlateHands" ({ cls := "SlateHands", name := "carry", desc := "(IIII)I" } : Jvm.MethodName) ({ cls := "SlateHands", name := "carry", desc := "(IIII)I" } : Jvm.MethodName)) ∈ TB := tb4 120 rfl rfl
theorem w4_121 : (Jvm.Cond.code ({ cls := "SlateHands", name := "carry", desc := "(IIII)I" } : Jvm.MethodName) prog_1_method_52_code (5 : Nat) (Option.some Jvm.ClassFile.FieldType.int)) ∈ TB := tb4 121 rfl rfl
theorem w4_122 : (Jvm.Cond.methodLink "SlateHands" (223 : Nat) ({ cls := "SlateHands$Port", name := "isDayAhead", desc := "(I)Z" } : Jvm.MethodName)) ∈ TB := tb4 122 rfl rfl
theorem w4_123 : (Jvm.Cond.instanceMethod ({ cls := "SlateHands$Port", name := "isDayAhead", desc := "(I)Z" } : Jvm.MethodName)) ∈ TB := tb4 123 rfl rfl
theorem w4_124 : (Jvm.Cond.selects "SlateHands$Port" ({ cls := "SlateHands$Port", name := "isDayAhead", desc := "(I)Z" } : Jvm.MethodName) ({ cls := "SlateHands$Port", name := "isDayAhead", desc := "(I)Z" } : Jvm.MethodName)) ∈ TB := tb4 124 rfl rfl
theorem w4_125 : (Jvm.Cond.code ({ cls := "SlateHands$Port", name := "isDayAhead", desc := "(I)Z" } : Jvm.MethodName) prog_7_method_12_code (2 : Nat) (Option.some Jvm.ClassFile.FieldType.boolean)) ∈ TB := tb4 125 rfl rfl
theorem w4_126 : (Jvm.Cond.methodLink "SlateHands" (391 : Nat) ({ cls := "SlateHands$Carries", name := "add", desc := "(IIII)V" } : Jvm.MethodName)) ∈ TB := tb4 126 rfl rfl
theorem w4_127 : (Jvm.Cond.instanceMethod ({ cls := "SlateHands$Carries", name := "add", desc := "(IIII)V" } : Jvm.MethodName)) ∈ TB := tb4 127 rfl rfl
theorem w4_128 : (Jvm.Cond.selects "SlateHands$Carries" ({ cls := "SlateHands$Carries", name := "add", desc := "(IIII)V" } : Jvm.MethodName) ({ cls := "SlateHands$Carries", name := "add", desc := "(IIII)V" } : Jvm.MethodName)) ∈ TB := tb4 128 rfl rfl
theorem w4_129 : (Jvm.Cond.code ({ cls := "SlateHands$Carries", name := "add", desc := "(IIII)V" } : Jvm.MethodName) prog_3_method_4_code (5 : Nat) (Option.none : Option Jvm.ClassFile.FieldType)) ∈ TB := tb4 129 rfl rfl
theorem w4_131 : (Jvm.Cond.methodLink "SlateHands" (393 : Nat) ({ cls := "SlateHands$Carries", name := "addAct", desc := "(II)V" } : Jvm.MethodName)) ∈ TB := tb4 131 rfl rfl
theorem w4_132 : (Jvm.Cond.instanceMethod ({ cls := "SlateHands$Carries", name := "addAct", desc := "(II)V" } : Jvm.MethodName)) ∈ TB := tb4 132 rfl rfl
theorem w4_133 : (Jvm.Cond.selects "SlateHands$Carries" ({ cls := "SlateHands$Carries", name := "addAct", desc := "(II)V" } : Jvm.MethodName) ({ cls := "SlateHands$Carries", name := "addAct", desc := "(II)V" } : Jvm.MethodName)) ∈ TB := tb4 133 rfl rfl
theorem w4_134 : (Jvm.Cond.code ({ cls := "SlateHands$Carries", name := "addAct", desc := "(II)V" } : Jvm.MethodName) prog_3_method_5_code (3 : Nat) (Option.none : Option Jvm.ClassFile.FieldType)) ∈ TB := tb4 134 rfl rfl
theorem w4_135 : (Jvm.Cond.methodLink "SlateHands" (105 : Nat) ({ cls := "SlateHands", name := "makeStale", desc := "()V" } : Jvm.MethodName)) ∈ TB := tb4 135 rfl rfl
theorem w4_137 : (Jvm.Cond.instanceMethod ({ cls := "SlateHands", name := "makeStale", desc := "()V" } : Jvm.MethodName)) ∈ TB := tb4 137 rfl rfl
theorem w4_138 : (Jvm.Cond.code ({ cls := "SlateHands", name := "makeStale", desc := "()V" } : Jvm.MethodName) prog_1_method_72_code (1 : Nat) (Option.none : Option Jvm.ClassFile.FieldType)) ∈ TB := tb4 138 rfl rfl
theorem w4_139 : (Jvm.Cond.methodLink "SlateHands" (446 : Nat) ({ cls := "SlateHands$Alone", name := "forget", desc := "()V" } : Jvm.MethodName)) ∈ TB := tb4 139 rfl rfl
theorem w4_140 : (Jvm.Cond.instanceMethod ({ cls := "SlateHands$Alone", name := "forget", desc := "()V" } : Jvm.MethodName)) ∈ TB := tb4 140 rfl rfl
theorem w4_141 : (Jvm.Cond.selects "SlateHands$Alone" ({ cls := "SlateHands$Alone", name := "forget", desc := "()V" } : Jvm.MethodName) ({ cls := "SlateHands$Alone", name := "forget", desc := "()V" } : Jvm.MethodName)) ∈ TB := tb4 141 rfl rfl
theorem w4_142 : (Jvm.Cond.code ({ cls := "SlateHands$Alone", name := "forget", desc := "()V" } : Jvm.MethodName) prog_2_method_2_code (1 : Nat) (Option.none : Option Jvm.ClassFile.FieldType)) ∈ TB := tb4 142 rfl rfl
theorem w4_143 : (Jvm.Cond.methodLink "SlateHandsLaw" (155 : Nat) ({ cls := "SlateHands", name := "rub", desc := "(II)I" } : Jvm.MethodName)) ∈ TB := tb4 143 rfl rfl
theorem w4_144 : (Jvm.Cond.instanceMethod ({ cls := "SlateHands", name := "rub", desc := "(II)I" } : Jvm.MethodName)) ∈ TB := tb4 144 rfl rfl
theorem w4_145 : (Jvm.Cond.selects "SlateHands" ({ cls := "SlateHands", name := "rub", desc := "(II)I" } : Jvm.MethodName) ({ cls := "SlateHands", name := "rub", desc := "(II)I" } : Jvm.MethodName)) ∈ TB := tb4 145 rfl rfl
theorem w4_146 : (Jvm.Cond.code ({ cls := "SlateHands", name := "rub", desc := "(II)I" } : Jvm.MethodName) prog_1_method_53_code (4 : Nat) (Option.some Jvm.ClassFile.FieldType.int)) ∈ TB := tb4 146 rfl rfl
theorem w4_147 : (Jvm.Cond.methodLink "SlateHands" (143 : Nat) ({ cls := "SlateHands$Port", name := "isWord", desc := "(II)Z" } : Jvm.MethodName)) ∈ TB := tb4 147 rfl rfl
theorem w4_148 : (Jvm.Cond.instanceMethod ({ cls := "SlateHands$Port", name := "isWord", desc := "(II)Z" } : Jvm.MethodName)) ∈ TB := tb4 148 rfl rfl
theorem w4_149 : (Jvm.Cond.selects "SlateHands$Port" ({ cls := "SlateHands$Port", name := "isWord", desc := "(II)Z" } : Jvm.MethodName) ({ cls := "SlateHands$Port", name := "isWord", desc := "(II)Z" } : Jvm.MethodName)) ∈ TB := tb4 149 rfl rfl
theorem w4_150 : (Jvm.Cond.code ({ cls := "SlateHands$Port", name := "isWord", desc := "(II)Z" } : Jvm.MethodName) prog_7_method_9_code (3 : Nat) (Option.some Jvm.ClassFile.FieldType.boolean)) ∈ TB := tb4 150 rfl rfl
theorem w4_151 : (Jvm.Cond.methodLink "SlateHands" (397 : Nat) ({ cls := "SlateHands$Port", name := "leftAtFirst", desc := "(I)I" } : Jvm.MethodName)) ∈ TB := tb4 151 rfl rfl
theorem w4_152 : (Jvm.Cond.methodLink "SlateHandsLaw" (217 : Nat) ({ cls := "SlateHands", name := "anew", desc := "()I" } : Jvm.MethodName)) ∈ TB := tb4 152 rfl rfl
theorem w4_153 : (Jvm.Cond.instanceMethod ({ cls := "SlateHands", name := "anew", desc := "()I" } : Jvm.MethodName)) ∈ TB := tb4 153 rfl rfl
theorem w4_154 : (Jvm.Cond.selects "SlateHands" ({ cls := "SlateHands", name := "anew", desc := "()I" } : Jvm.MethodName) ({ cls := "SlateHands", name := "anew", desc := "()I" } : Jvm.MethodName)) ∈ TB := tb4 154 rfl rfl
theorem w4_155 : (Jvm.Cond.code ({ cls := "SlateHands", name := "anew", desc := "()I" } : Jvm.MethodName) prog_1_method_55_code (2 : Nat) (Option.some Jvm.ClassFile.FieldType.int)) ∈ TB := tb4 155 rfl rfl
theorem w4_156 : (Jvm.Cond.methodLink "SlateHandsLaw" (208 : Nat) ({ cls := "SlateHands", name := "drawn", desc := "(II)I" } : Jvm.MethodName)) ∈ TB := tb4 156 rfl rfl
theorem w4_157 : (Jvm.Cond.instanceMethod ({ cls := "SlateHands", name := "drawn", desc := "(II)I" } : Jvm.MethodName)) ∈ TB := tb4 157 rfl rfl
theorem w4_158 : (Jvm.Cond.selects "SlateHands" ({ cls := "SlateHands", name := "drawn", desc := "(II)I" } : Jvm.MethodName) ({ cls := "SlateHands", name := "drawn", desc := "(II)I" } : Jvm.MethodName)) ∈ TB := tb4 158 rfl rfl
theorem w4_159 : (Jvm.Cond.code ({ cls := "SlateHands", name := "drawn", desc := "(II)I" } : Jvm.MethodName) prog_1_method_56_code (6 : Nat) (Option.some Jvm.ClassFile.FieldType.int)) ∈ TB := tb4 159 rfl rfl
theorem w4_160 : (Jvm.Cond.methodLink "SlateHands" (406 : Nat) ({ cls := "SlateHands", name := "isSeed", desc := "(I)Z" } : Jvm.MethodName)) ∈ TB := tb4 160 rfl rfl
theorem w4_161 : (Jvm.Cond.static ({ cls := "SlateHands", name := "isSeed", desc := "(I)Z" } : Jvm.MethodName)) ∈ TB := tb4 161 rfl rfl
theorem w4_162 : (Jvm.Cond.code ({ cls := "SlateHands", name := "isSeed", desc := "(I)Z" } : Jvm.MethodName) prog_1_method_70_code (1 : Nat) (Option.some Jvm.ClassFile.FieldType.boolean)) ∈ TB := tb4 162 rfl rfl
theorem w4_163 : (Jvm.Cond.constant "SlateHands" (440 : Nat) (2000000000 : Int32)) ∈ TB := tb4 163 rfl rfl
theorem w4_164 : (Jvm.Cond.methodLink "SlateHands" (409 : Nat) ({ cls := "SlateHands$Weather", name := "rainDrawn", desc := "(LSlateHands$Port;J)I" } : Jvm.MethodName)) ∈ TB := tb4 164 rfl rfl
theorem w4_165 : (Jvm.Cond.instanceMethod ({ cls := "SlateHands$Weather", name := "rainDrawn", desc := "(LSlateHands$Port;J)I" } : Jvm.MethodName)) ∈ TB := tb4 165 rfl rfl
theorem w4_166 : (Jvm.Cond.selects "SlateHands$Weather" ({ cls := "SlateHands$Weather", name := "rainDrawn", desc := "(LSlateHands$Port;J)I" } : Jvm.MethodName) ({ cls := "SlateHands$Weather", name := "rainDrawn", desc := "(LSlateHands$Port;J)I" } : Jvm.MethodName)) ∈ TB := tb4 166 rfl rfl
theorem w4_167 : (Jvm.Cond.code ({ cls := "SlateHands$Weather", name := "rainDrawn", desc := "(LSlateHands$Port;J)I" } : Jvm.MethodName) prog_12_method_5_code (8 : Nat) (Option.some Jvm.ClassFile.FieldType.int)) ∈ TB := tb4 167 rfl rfl
theorem w4_168 : (Jvm.Cond.constantLong "SlateHands$Weather" (77 : Nat) (1103515245 : Int64)) ∈ TB := tb4 168 rfl rfl
theorem w4_169 : (Jvm.Cond.constantLong "SlateHands$Weather" (79 : Nat) (12345 : Int64)) ∈ TB := tb4 169 rfl rfl
theorem w4_170 : (Jvm.Cond.constantLong "SlateHands$Weather" (81 : Nat) (2147483648 : Int64)) ∈ TB := tb4 170 rfl rfl
theorem w4_171 : (Jvm.Cond.constantLong "SlateHands$Weather" (83 : Nat) (65536 : Int64)) ∈ TB := tb4 171 rfl rfl
theorem w4_172 : (Jvm.Cond.constantLong "SlateHands$Weather" (85 : Nat) (10 : Int64)) ∈ TB := tb4 172 rfl rfl
theorem w4_173 : (Jvm.Cond.methodLink "SlateHands" (413 : Nat) ({ cls := "SlateHands", name := "runInRain", desc := "(I)V" } : Jvm.MethodName)) ∈ TB := tb4 173 rfl rfl
theorem w4_175 : (Jvm.Cond.instanceMethod ({ cls := "SlateHands", name := "runInRain", desc := "(I)V" } : Jvm.MethodName)) ∈ TB := tb4 175 rfl rfl
theorem w4_176 : (Jvm.Cond.code ({ cls := "SlateHands", name := "runInRain", desc := "(I)V" } : Jvm.MethodName) prog_1_method_74_code (2 : Nat) (Option.none : Option Jvm.ClassFile.FieldType)) ∈ TB := tb4 176 rfl rfl
theorem w4_177 : (Jvm.Cond.methodLink "SlateHandsLaw" (223 : Nat) ({ cls := "SlateHands", name := "count", desc := "(I)I" } : Jvm.MethodName)) ∈ TB := tb4 177 rfl rfl
theorem w4_178 : (Jvm.Cond.instanceMethod ({ cls := "SlateHands", name := "count", desc := "(I)I" } : Jvm.MethodName)) ∈ TB := tb4 178 rfl rfl
theorem w4_179 : (Jvm.Cond.selects "SlateHands" ({ cls := "SlateHands", name := "count", desc := "(I)I" } : Jvm.MethodName) ({ cls := "SlateHands", name := "count", desc := "(I)I" } : Jvm.MethodName)) ∈ TB := tb4 179 rfl rfl
theorem w4_180 : (Jvm.Cond.code ({ cls := "SlateHands", name := "count", desc := "(I)I" } : Jvm.MethodName) prog_1_method_59_code (2 : Nat) (Option.some Jvm.ClassFile.FieldType.int)) ∈ TB := tb4 180 rfl rfl
theorem w4_181 : (Jvm.Cond.methodLink "SlateHands" (426 : Nat) ({ cls := "SlateHands$Slots", name := "howMany", desc := "()I" } : Jvm.MethodName)) ∈ TB := tb4 181 rfl rfl
theorem w4_182 : (Jvm.Cond.instanceMethod ({ cls := "SlateHands$Slots", name := "howMany", desc := "()I" } : Jvm.MethodName)) ∈ TB := tb4 182 rfl rfl
theorem w4_183 : (Jvm.Cond.selects "SlateHands$Slots" ({ cls := "SlateHands$Slots", name := "howMany", desc := "()I" } : Jvm.MethodName) ({ cls := "SlateHands$Slots", name := "howMany", desc := "()I" } : Jvm.MethodName)) ∈ TB := tb4 183 rfl rfl
theorem w4_184 : (Jvm.Cond.code ({ cls := "SlateHands$Slots", name := "howMany", desc := "()I" } : Jvm.MethodName) prog_10_method_6_code (3 : Nat) (Option.some Jvm.ClassFile.FieldType.int)) ∈ TB := tb4 184 rfl rfl
theorem w4_185 : (Jvm.Cond.methodLink "SlateHands$Slots" (26 : Nat) ({ cls := "SlateHands$Slots", name := "hasRow", desc := "(I)Z" } : Jvm.MethodName)) ∈ TB := tb4 185 rfl rfl
theorem w4_186 : (Jvm.Cond.methodLink "SlateHandsLaw" (214 : Nat) ({ cls := "SlateHands", name := "image", desc := "(I)I" } : Jvm.MethodName)) ∈ TB := tb4 186 rfl rfl
theorem w4_187 : (Jvm.Cond.instanceMethod ({ cls := "SlateHands", name := "image", desc := "(I)I" } : Jvm.MethodName)) ∈ TB := tb4 187 rfl rfl
theorem w4_188 : (Jvm.Cond.selects "SlateHands" ({ cls := "SlateHands", name := "image", desc := "(I)I" } : Jvm.MethodName) ({ cls := "SlateHands", name := "image", desc := "(I)I" } : Jvm.MethodName)) ∈ TB := tb4 188 rfl rfl
theorem w4_189 : (Jvm.Cond.code ({ cls := "SlateHands", name := "image", desc := "(I)I" } : Jvm.MethodName) prog_1_method_60_code (2 : Nat) (Option.some Jvm.ClassFile.FieldType.int)) ∈ TB := tb4 189 rfl rfl
theorem w4_190 : (Jvm.Cond.methodLink "SlateHands" (101 : Nat) ({ cls := "SlateHands$Port", name := "copy", desc := "(LSlateHands$Port;)V" } : Jvm.MethodName)) ∈ TB := tb4 190 rfl rfl
theorem w4_191 : (Jvm.Cond.instanceMethod ({ cls := "SlateHands$Port", name := "copy", desc := "(LSlateHands$Port;)V" } : Jvm.MethodName)) ∈ TB := tb4 191 rfl rfl
theorem w4_192 : (Jvm.Cond.selects "SlateHands$Port" ({ cls := "SlateHands$Port", name := "copy", desc := "(LSlateHands$Port;)V" } : Jvm.MethodName) ({ cls := "SlateHands$Port", name := "copy", desc := "(LSlateHands$Port;)V" } : Jvm.MethodName)) ∈ TB := tb4 192 rfl rfl
theorem w4_193 : (Jvm.Cond.code ({ cls := "SlateHands$Port", name := "copy", desc := "(LSlateHands$Port;)V" } : Jvm.MethodName) prog_7_method_3_code (2 : Nat) (Option.none : Option Jvm.ClassFile.FieldType)) ∈ TB := tb4 193 rfl rfl
theorem w4_194 : (Jvm.Cond.methodLink "SlateHands$Port" (71 : Nat) ({ cls := "java/lang/System", name := "arraycopy", desc := "(Ljava/lang/Object;ILjava/lang/Object;II)V" } : Jvm.MethodName)) ∈ TB := tb4 194 rfl rfl
theorem w4_195 : (Jvm.Cond.methodLink "SlateHands$Port" (77 : Nat) ({ cls := "SlateHands$Carries", name := "copy", desc := "(LSlateHands$Carries;)V" } : Jvm.MethodName)) ∈ TB := tb4 195 rfl rfl
theorem w4_196 : (Jvm.Cond.instanceMethod ({ cls := "SlateHands$Carries", name := "copy", desc := "(LSlateHands$Carries;)V" } : Jvm.MethodName)) ∈ TB := tb4 196 rfl rfl
theorem w4_197 : (Jvm.Cond.selects "SlateHands$Carries" ({ cls := "SlateHands$Carries", name := "copy", desc := "(LSlateHands$Carries;)V" } : Jvm.MethodName) ({ cls := "SlateHands$Carries", name := "copy", desc := "(LSlateHands$Carries;)V" } : Jvm.MethodName)) ∈ TB := tb4 197 rfl rfl
theorem w4_198 : (Jvm.Cond.code ({ cls := "SlateHands$Carries", name := "copy", desc := "(LSlateHands$Carries;)V" } : Jvm.MethodName) prog_3_method_3_code (2 : Nat) (Option.none : Option Jvm.ClassFile.FieldType)) ∈ TB := tb4 198 rfl rfl
theorem w4_199 : (Jvm.Cond.methodLink "SlateHands$Carries" (40 : Nat) ({ cls := "java/lang/System", name := "arraycopy", desc := "(Ljava/lang/Object;ILjava/lang/Object;II)V" } : Jvm.MethodName)) ∈ TB := tb4 199 rfl rfl
theorem w4_200 : (Jvm.Cond.methodLink "SlateHandsLaw" (220 : Nat) ({ cls := "SlateHands", name := "back", desc := "(I)I" } : Jvm.MethodName)) ∈ TB := tb4 200 rfl rfl
theorem w4_201 : (Jvm.Cond.instanceMethod ({ cls := "SlateHands", name := "back", desc := "(I)I" } : Jvm.MethodName)) ∈ TB := tb4 201 rfl rfl
theorem w4_202 : (Jvm.Cond.selects "SlateHands" ({ cls := "SlateHands", name := "back", desc := "(I)I" } : Jvm.MethodName) ({ cls := "SlateHands", name := "back", desc := "(I)I" } : Jvm.MethodName)) ∈ TB := tb4 202 rfl rfl
theorem w4_203 : (Jvm.Cond.code ({ cls := "SlateHands", name := "back", desc := "(I)I" } : Jvm.MethodName) prog_1_method_61_code (2 : Nat) (Option.some Jvm.ClassFile.FieldType.int)) ∈ TB := tb4 203 rfl rfl
theorem w4_204 : (Jvm.Cond.methodLink "SlateHandsLaw" (163 : Nat) ({ cls := "SlateHands", name := "row", desc := "(III)I" } : Jvm.MethodName)) ∈ TB := tb4 204 rfl rfl
theorem w4_205 : (Jvm.Cond.instanceMethod ({ cls := "SlateHands", name := "row", desc := "(III)I" } : Jvm.MethodName)) ∈ TB := tb4 205 rfl rfl
theorem w4_206 : (Jvm.Cond.selects "SlateHands" ({ cls := "SlateHands", name := "row", desc := "(III)I" } : Jvm.MethodName) ({ cls := "SlateHands", name := "row", desc := "(III)I" } : Jvm.MethodName)) ∈ TB := tb4 206 rfl rfl
theorem w4_207 : (Jvm.Cond.code ({ cls := "SlateHands", name := "row", desc := "(III)I" } : Jvm.MethodName) prog_1_method_62_code (4 : Nat) (Option.some Jvm.ClassFile.FieldType.int)) ∈ TB := tb4 207 rfl rfl
theorem w4_208 : (Jvm.Cond.methodLink "SlateHands" (429 : Nat) ({ cls := "SlateHands$Slots", name := "make", desc := "(III)I" } : Jvm.MethodName)) ∈ TB := tb4 208 rfl rfl
theorem w4_209 : (Jvm.Cond.instanceMethod ({ cls := "SlateHands$Slots", name := "make", desc := "(III)I" } : Jvm.MethodName)) ∈ TB := tb4 209 rfl rfl
theorem w4_210 : (Jvm.Cond.selects "SlateHands$Slots" ({ cls := "SlateHands$Slots", name := "make", desc := "(III)I" } : Jvm.MethodName) ({ cls := "SlateHands$Slots", name := "make", desc := "(III)I" } : Jvm.MethodName)) ∈ TB := tb4 210 rfl rfl
theorem w4_211 : (Jvm.Cond.code ({ cls := "SlateHands$Slots", name := "make", desc := "(III)I" } : Jvm.MethodName) prog_10_method_7_code (5 : Nat) (Option.some Jvm.ClassFile.FieldType.int)) ∈ TB := tb4 211 rfl rfl
theorem w4_212 : (Jvm.Cond.methodLink "SlateHands$Slots" (30 : Nat) ({ cls := "SlateHands$Slots", name := "isSlot", desc := "(I)Z" } : Jvm.MethodName)) ∈ TB := tb4 212 rfl rfl
theorem w4_214 : (Jvm.Cond.methodLink "SlateHands$Slots" (37 : Nat) ({ cls := "SlateHands$Slots", name := "set", desc := "(IIJ)I" } : Jvm.MethodName)) ∈ TB := tb4 214 rfl rfl
theorem w4_215 : (Jvm.Cond.instanceMethod ({ cls := "SlateHands$Slots", name := "set", desc := "(IIJ)I" } : Jvm.MethodName)) ∈ TB := tb4 215 rfl rfl
theorem w4_216 : (Jvm.Cond.selects "SlateHands$Slots" ({ cls := "SlateHands$Slots", name := "set", desc := "(IIJ)I" } : Jvm.MethodName) ({ cls := "SlateHands$Slots", name := "set", desc := "(IIJ)I" } : Jvm.MethodName)) ∈ TB := tb4 216 rfl rfl
theorem w4_217 : (Jvm.Cond.code ({ cls := "SlateHands$Slots", name := "set", desc := "(IIJ)I" } : Jvm.MethodName) prog_10_method_8_code (6 : Nat) (Option.some Jvm.ClassFile.FieldType.int)) ∈ TB := tb4 217 rfl rfl
theorem w4_218 : (Jvm.Cond.methodLink "SlateHands$Slots" (41 : Nat) ({ cls := "SlateHands$Slots", name := "sizeOf", desc := "(I)I" } : Jvm.MethodName)) ∈ TB := tb4 218 rfl rfl
theorem w4_219 : (Jvm.Cond.methodLink "SlateHands$Slots" (45 : Nat) ({ cls := "SlateHands$Slots", name := "cut", desc := "(JI)J" } : Jvm.MethodName)) ∈ TB := tb4 219 rfl rfl
theorem w4_220 : (Jvm.Cond.static ({ cls := "SlateHands$Slots", name := "cut", desc := "(JI)J" } : Jvm.MethodName)) ∈ TB := tb4 220 rfl rfl
theorem w4_221 : (Jvm.Cond.code ({ cls := "SlateHands$Slots", name := "cut", desc := "(JI)J" } : Jvm.MethodName) prog_10_method_11_code (3 : Nat) (Option.some Jvm.ClassFile.FieldType.long)) ∈ TB := tb4 221 rfl rfl
theorem w4_222 : (Jvm.Cond.methodLink "SlateHandsLaw" (166 : Nat) ({ cls := "SlateHands", name := "write", desc := "(IIJ)I" } : Jvm.MethodName)) ∈ TB := tb4 222 rfl rfl
theorem w4_223 : (Jvm.Cond.instanceMethod ({ cls := "SlateHands", name := "write", desc := "(IIJ)I" } : Jvm.MethodName)) ∈ TB := tb4 223 rfl rfl
theorem w4_224 : (Jvm.Cond.selects "SlateHands" ({ cls := "SlateHands", name := "write", desc := "(IIJ)I" } : Jvm.MethodName) ({ cls := "SlateHands", name := "write", desc := "(IIJ)I" } : Jvm.MethodName)) ∈ TB := tb4 224 rfl rfl
theorem w4_225 : (Jvm.Cond.code ({ cls := "SlateHands", name := "write", desc := "(IIJ)I" } : Jvm.MethodName) prog_1_method_63_code (5 : Nat) (Option.some Jvm.ClassFile.FieldType.int)) ∈ TB := tb4 225 rfl rfl
theorem w4_226 : (Jvm.Cond.methodLink "SlateHands" (432 : Nat) ({ cls := "SlateHands$Slots", name := "set", desc := "(IIJ)I" } : Jvm.MethodName)) ∈ TB := tb4 226 rfl rfl
theorem w4_227 : (Jvm.Cond.methodLink "SlateHandsLaw" (194 : Nat) ({ cls := "SlateHandsLaw", name := "size", desc := "(I)I" } : Jvm.MethodName)) ∈ TB := tb4 227 rfl rfl
theorem w4_228 : (Jvm.Cond.static ({ cls := "SlateHandsLaw", name := "size", desc := "(I)I" } : Jvm.MethodName)) ∈ TB := tb4 228 rfl rfl
theorem w4_229 : (Jvm.Cond.code ({ cls := "SlateHandsLaw", name := "size", desc := "(I)I" } : Jvm.MethodName) method_15_code (3 : Nat) (Option.some Jvm.ClassFile.FieldType.int)) ∈ TB := tb4 229 rfl rfl
theorem w4_230 : (Jvm.Cond.methodLink "SlateHandsLaw" (127 : Nat) ({ cls := "SlateHandsLaw", name := "run", desc := "([I[I[I[I[I[I[I[I[J[I[I)V" } : Jvm.MethodName)) ∈ TB := tb4 230 rfl rfl
theorem w4_231 : (Jvm.Cond.static ({ cls := "SlateHandsLaw", name := "run", desc := "([I[I[I[I[I[I[I[I[J[I[I)V" } : Jvm.MethodName)) ∈ TB := tb4 231 rfl rfl
theorem w4_232 : (Jvm.Cond.code ({ cls := "SlateHandsLaw", name := "run", desc := "([I[I[I[I[I[I[I[I[J[I[I)V" } : Jvm.MethodName) method_20_code (23 : Nat) (Option.none : Option Jvm.ClassFile.FieldType)) ∈ TB := tb4 232 rfl rfl
theorem w4_233 : (Jvm.Cond.methodLink "SlateHandsLaw" (63 : Nat) ({ cls := "SlateHandsLaw", name := "door", desc := "([III)Z" } : Jvm.MethodName)) ∈ TB := tb4 233 rfl rfl
theorem w4_234 : (Jvm.Cond.static ({ cls := "SlateHandsLaw", name := "door", desc := "([III)Z" } : Jvm.MethodName)) ∈ TB := tb4 234 rfl rfl
theorem w4_235 : (Jvm.Cond.code ({ cls := "SlateHandsLaw", name := "door", desc := "([III)Z" } : Jvm.MethodName) method_19_code (3 : Nat) (Option.some Jvm.ClassFile.FieldType.boolean)) ∈ TB := tb4 235 rfl rfl
theorem w4_236 : (Jvm.Cond.methodLink "SlateHandsLaw" (67 : Nat) ({ cls := "SlateHandsLaw", name := "heavy", desc := "([III)I" } : Jvm.MethodName)) ∈ TB := tb4 236 rfl rfl
theorem w4_237 : (Jvm.Cond.static ({ cls := "SlateHandsLaw", name := "heavy", desc := "([III)I" } : Jvm.MethodName)) ∈ TB := tb4 237 rfl rfl
theorem w4_238 : (Jvm.Cond.code ({ cls := "SlateHandsLaw", name := "heavy", desc := "([III)I" } : Jvm.MethodName) method_17_code (5 : Nat) (Option.some Jvm.ClassFile.FieldType.int)) ∈ TB := tb4 238 rfl rfl
theorem w4_239 : (Jvm.Cond.methodLink "SlateHandsLaw" (71 : Nat) ({ cls := "SlateHandsLaw", name := "most", desc := "(II)I" } : Jvm.MethodName)) ∈ TB := tb4 239 rfl rfl
theorem w5_0 : (Jvm.Cond.static ({ cls := "SlateHandsLaw", name := "most", desc := "(II)I" } : Jvm.MethodName)) ∈ TB := tb5 0 rfl rfl
theorem w5_1 : (Jvm.Cond.code ({ cls := "SlateHandsLaw", name := "most", desc := "(II)I" } : Jvm.MethodName) method_14_code (2 : Nat) (Option.some Jvm.ClassFile.FieldType.int)) ∈ TB := tb5 1 rfl rfl
theorem w5_2 : (Jvm.Cond.methodLink "SlateHandsLaw" (75 : Nat) ({ cls := "SlateHandsLaw", name := "rub", desc := "([IIII)I" } : Jvm.MethodName)) ∈ TB := tb5 2 rfl rfl
theorem w5_3 : (Jvm.Cond.static ({ cls := "SlateHandsLaw", name := "rub", desc := "([IIII)I" } : Jvm.MethodName)) ∈ TB := tb5 3 rfl rfl
theorem w5_4 : (Jvm.Cond.code ({ cls := "SlateHandsLaw", name := "rub", desc := "([IIII)I" } : Jvm.MethodName) method_18_code (7 : Nat) (Option.some Jvm.ClassFile.FieldType.int)) ∈ TB := tb5 4 rfl rfl
theorem w5_5 : (Jvm.Cond.methodLink "SlateHandsLaw" (137 : Nat) ({ cls := "SlateHandsLaw", name := "lies", desc := "(II)I" } : Jvm.MethodName)) ∈ TB := tb5 5 rfl rfl
theorem w5_6 : (Jvm.Cond.static ({ cls := "SlateHandsLaw", name := "lies", desc := "(II)I" } : Jvm.MethodName)) ∈ TB := tb5 6 rfl rfl
theorem w5_7 : (Jvm.Cond.code ({ cls := "SlateHandsLaw", name := "lies", desc := "(II)I" } : Jvm.MethodName) method_21_code (2 : Nat) (Option.some Jvm.ClassFile.FieldType.int)) ∈ TB := tb5 7 rfl rfl
theorem w5_8 : (Jvm.Cond.methodLink "SlateHandsLaw" (141 : Nat) ({ cls := "SlateHandsLaw", name := "left", desc := "(II)I" } : Jvm.MethodName)) ∈ TB := tb5 8 rfl rfl
theorem w5_9 : (Jvm.Cond.static ({ cls := "SlateHandsLaw", name := "left", desc := "(II)I" } : Jvm.MethodName)) ∈ TB := tb5 9 rfl rfl
theorem w5_10 : (Jvm.Cond.code ({ cls := "SlateHandsLaw", name := "left", desc := "(II)I" } : Jvm.MethodName) method_22_code (2 : Nat) (Option.some Jvm.ClassFile.FieldType.int)) ∈ TB := tb5 10 rfl rfl
theorem w5_11 : (Jvm.Cond.methodLink "SlateHandsLaw" (81 : Nat) ({ cls := "SlateHandsLaw", name := "knows", desc := "(JI)I" } : Jvm.MethodName)) ∈ TB := tb5 11 rfl rfl
theorem w5_12 : (Jvm.Cond.static ({ cls := "SlateHandsLaw", name := "knows", desc := "(JI)I" } : Jvm.MethodName)) ∈ TB := tb5 12 rfl rfl
theorem w5_13 : (Jvm.Cond.code ({ cls := "SlateHandsLaw", name := "knows", desc := "(JI)I" } : Jvm.MethodName) method_23_code (3 : Nat) (Option.some Jvm.ClassFile.FieldType.int)) ∈ TB := tb5 13 rfl rfl
theorem w5_14 : (Jvm.Cond.constantLong "SlateHandsLaw" (79 : Nat) (63 : Int64)) ∈ TB := tb5 14 rfl rfl
theorem w5_15 : (Jvm.Cond.methodLink "SlateHandsLaw" (145 : Nat) ({ cls := "SlateHandsLaw", name := "heard", desc := "([IJ)I" } : Jvm.MethodName)) ∈ TB := tb5 15 rfl rfl
theorem w5_16 : (Jvm.Cond.static ({ cls := "SlateHandsLaw", name := "heard", desc := "([IJ)I" } : Jvm.MethodName)) ∈ TB := tb5 16 rfl rfl
theorem w5_17 : (Jvm.Cond.code ({ cls := "SlateHandsLaw", name := "heard", desc := "([IJ)I" } : Jvm.MethodName) method_24_code (5 : Nat) (Option.some Jvm.ClassFile.FieldType.int)) ∈ TB := tb5 17 rfl rfl
theorem w5_18 : (Jvm.Cond.methodLink "SlateHandsLaw" (85 : Nat) ({ cls := "SlateHandsLaw", name := "cell", desc := "([II)I" } : Jvm.MethodName)) ∈ TB := tb5 18 rfl rfl
theorem w5_19 : (Jvm.Cond.static ({ cls := "SlateHandsLaw", name := "cell", desc := "([II)I" } : Jvm.MethodName)) ∈ TB := tb5 19 rfl rfl
theorem w5_20 : (Jvm.Cond.code ({ cls := "SlateHandsLaw", name := "cell", desc := "([II)I" } : Jvm.MethodName) method_25_code (2 : Nat) (Option.some Jvm.ClassFile.FieldType.int)) ∈ TB := tb5 20 rfl rfl
theorem w5_21 : (Jvm.Cond.methodLink "SlateHandsLaw" (90 : Nat) ({ cls := "SlateHandsLaw", name := "draw", desc := "([III)I" } : Jvm.MethodName)) ∈ TB := tb5 21 rfl rfl
theorem w5_22 : (Jvm.Cond.static ({ cls := "SlateHandsLaw", name := "draw", desc := "([III)I" } : Jvm.MethodName)) ∈ TB := tb5 22 rfl rfl
theorem w5_23 : (Jvm.Cond.code ({ cls := "SlateHandsLaw", name := "draw", desc := "([III)I" } : Jvm.MethodName) method_26_code (3 : Nat) (Option.some Jvm.ClassFile.FieldType.int)) ∈ TB := tb5 23 rfl rfl
theorem w5_24 : (Jvm.Cond.constant "SlateHandsLaw" (89 : Nat) (2147483647 : Int32)) ∈ TB := tb5 24 rfl rfl
theorem w5_25 : (Jvm.Cond.methodLink "SlateHandsLaw" (124 : Nat) ({ cls := "SlateHandsLaw", name := "port", desc := "(LSlateHands;[I[I[I[I[I[I[I[I[I)Z" } : Jvm.MethodName)) ∈ TB := tb5 25 rfl rfl
theorem w5_26 : (Jvm.Cond.static ({ cls := "SlateHandsLaw", name := "port", desc := "(LSlateHands;[I[I[I[I[I[I[I[I[I)Z" } : Jvm.MethodName)) ∈ TB := tb5 26 rfl rfl
theorem w5_27 : (Jvm.Cond.code ({ cls := "SlateHandsLaw", name := "port", desc := "(LSlateHands;[I[I[I[I[I[I[I[I[I)Z" } : Jvm.MethodName) method_27_code (15 : Nat) (Option.some Jvm.ClassFile.FieldType.boolean)) ∈ TB := tb5 27 rfl rfl
theorem w5_28 : (Jvm.Cond.methodLink "SlateHandsLaw" (93 : Nat) ({ cls := "SlateHandsLaw", name := "port", desc := "(LSlateHands;[IIII)V" } : Jvm.MethodName)) ∈ TB := tb5 28 rfl rfl
theorem w5_29 : (Jvm.Cond.static ({ cls := "SlateHandsLaw", name := "port", desc := "(LSlateHands;[IIII)V" } : Jvm.MethodName)) ∈ TB := tb5 29 rfl rfl
theorem w5_30 : (Jvm.Cond.code ({ cls := "SlateHandsLaw", name := "port", desc := "(LSlateHands;[IIII)V" } : Jvm.MethodName) method_8_code (5 : Nat) (Option.none : Option Jvm.ClassFile.FieldType)) ∈ TB := tb5 30 rfl rfl
theorem w5_31 : (Jvm.Cond.constantLong "SlateHandsLaw" (28 : Nat) (8101820097204584448 : Int64)) ∈ TB := tb5 31 rfl rfl
theorem w5_32 : (Jvm.Cond.methodLink "SlateHandsLaw" (21 : Nat) ({ cls := "SlateHandsLaw", name := "say", desc := "(LSlateHands;[IJ)V" } : Jvm.MethodName)) ∈ TB := tb5 32 rfl rfl
theorem w5_33 : (Jvm.Cond.static ({ cls := "SlateHandsLaw", name := "say", desc := "(LSlateHands;[IJ)V" } : Jvm.MethodName)) ∈ TB := tb5 33 rfl rfl
theorem w5_34 : (Jvm.Cond.code ({ cls := "SlateHandsLaw", name := "say", desc := "(LSlateHands;[IJ)V" } : Jvm.MethodName) method_3_code (5 : Nat) (Option.none : Option Jvm.ClassFile.FieldType)) ∈ TB := tb5 34 rfl rfl
theorem w5_35 : (Jvm.Cond.methodLink "SlateHandsLaw" (13 : Nat) ({ cls := "SlateHandsLaw", name := "put", desc := "(LSlateHands;[II)V" } : Jvm.MethodName)) ∈ TB := tb5 35 rfl rfl
theorem w5_36 : (Jvm.Cond.static ({ cls := "SlateHandsLaw", name := "put", desc := "(LSlateHands;[II)V" } : Jvm.MethodName)) ∈ TB := tb5 36 rfl rfl
theorem w5_37 : (Jvm.Cond.code ({ cls := "SlateHandsLaw", name := "put", desc := "(LSlateHands;[II)V" } : Jvm.MethodName) method_2_code (3 : Nat) (Option.none : Option Jvm.ClassFile.FieldType)) ∈ TB := tb5 37 rfl rfl
theorem w5_38 : (Jvm.Cond.methodLink "SlateHandsLaw" (7 : Nat) ({ cls := "SlateHands", name := "feed", desc := "(IIIII)I" } : Jvm.MethodName)) ∈ TB := tb5 38 rfl rfl
theorem w5_39 : (Jvm.Cond.instanceMethod ({ cls := "SlateHands", name := "feed", desc := "(IIIII)I" } : Jvm.MethodName)) ∈ TB := tb5 39 rfl rfl
theorem w5_40 : (Jvm.Cond.selects "SlateHands" ({ cls := "SlateHands", name := "feed", desc := "(IIIII)I" } : Jvm.MethodName) ({ cls := "SlateHands", name := "feed", desc := "(IIIII)I" } : Jvm.MethodName)) ∈ TB := tb5 40 rfl rfl
theorem w5_41 : (Jvm.Cond.code ({ cls := "SlateHands", name := "feed", desc := "(IIIII)I" } : Jvm.MethodName) prog_1_method_2_code (6 : Nat) (Option.some Jvm.ClassFile.FieldType.int)) ∈ TB := tb5 41 rfl rfl
theorem w5_42 : (Jvm.Cond.methodLink "SlateHands" (93 : Nat) ({ cls := "SlateHands$Tape", name := "add", desc := "(I)V" } : Jvm.MethodName)) ∈ TB := tb5 42 rfl rfl
theorem w5_43 : (Jvm.Cond.instanceMethod ({ cls := "SlateHands$Tape", name := "add", desc := "(I)V" } : Jvm.MethodName)) ∈ TB := tb5 43 rfl rfl
theorem w5_44 : (Jvm.Cond.selects "SlateHands$Tape" ({ cls := "SlateHands$Tape", name := "add", desc := "(I)V" } : Jvm.MethodName) ({ cls := "SlateHands$Tape", name := "add", desc := "(I)V" } : Jvm.MethodName)) ∈ TB := tb5 44 rfl rfl
theorem w5_45 : (Jvm.Cond.code ({ cls := "SlateHands$Tape", name := "add", desc := "(I)V" } : Jvm.MethodName) prog_11_method_2_code (3 : Nat) (Option.none : Option Jvm.ClassFile.FieldType)) ∈ TB := tb5 45 rfl rfl
theorem w5_46 : (Jvm.Cond.constantLong "SlateHandsLaw" (19 : Nat) (255 : Int64)) ∈ TB := tb5 46 rfl rfl
theorem w5_47 : (Jvm.Cond.constantLong "SlateHandsLaw" (30 : Nat) (7233196011361927168 : Int64)) ∈ TB := tb5 47 rfl rfl
theorem w5_48 : (Jvm.Cond.methodLink "SlateHandsLaw" (32 : Nat) ({ cls := "SlateHandsLaw", name := "say", desc := "(LSlateHands;[IJI)V" } : Jvm.MethodName)) ∈ TB := tb5 48 rfl rfl
theorem w5_49 : (Jvm.Cond.static ({ cls := "SlateHandsLaw", name := "say", desc := "(LSlateHands;[IJI)V" } : Jvm.MethodName)) ∈ TB := tb5 49 rfl rfl
theorem w5_50 : (Jvm.Cond.code ({ cls := "SlateHandsLaw", name := "say", desc := "(LSlateHands;[IJI)V" } : Jvm.MethodName) method_5_code (5 : Nat) (Option.none : Option Jvm.ClassFile.FieldType)) ∈ TB := tb5 50 rfl rfl
theorem w5_51 : (Jvm.Cond.methodLink "SlateHandsLaw" (25 : Nat) ({ cls := "SlateHandsLaw", name := "number", desc := "(LSlateHands;[II)V" } : Jvm.MethodName)) ∈ TB := tb5 51 rfl rfl
theorem w5_52 : (Jvm.Cond.static ({ cls := "SlateHandsLaw", name := "number", desc := "(LSlateHands;[II)V" } : Jvm.MethodName)) ∈ TB := tb5 52 rfl rfl
theorem w5_53 : (Jvm.Cond.code ({ cls := "SlateHandsLaw", name := "number", desc := "(LSlateHands;[II)V" } : Jvm.MethodName) method_4_code (3 : Nat) (Option.none : Option Jvm.ClassFile.FieldType)) ∈ TB := tb5 53 rfl rfl
theorem w5_54 : (Jvm.Cond.constantLong "SlateHandsLaw" (35 : Nat) (7809654070720856064 : Int64)) ∈ TB := tb5 54 rfl rfl
theorem w5_55 : (Jvm.Cond.constantLong "SlateHandsLaw" (37 : Nat) (8026650880965083136 : Int64)) ∈ TB := tb5 55 rfl rfl
theorem w5_56 : (Jvm.Cond.methodLink "SlateHandsLaw" (39 : Nat) ({ cls := "SlateHandsLaw", name := "done", desc := "(LSlateHands;[I)V" } : Jvm.MethodName)) ∈ TB := tb5 56 rfl rfl
theorem w5_57 : (Jvm.Cond.static ({ cls := "SlateHandsLaw", name := "done", desc := "(LSlateHands;[I)V" } : Jvm.MethodName)) ∈ TB := tb5 57 rfl rfl
theorem w5_58 : (Jvm.Cond.code ({ cls := "SlateHandsLaw", name := "done", desc := "(LSlateHands;[I)V" } : Jvm.MethodName) method_6_code (2 : Nat) (Option.none : Option Jvm.ClassFile.FieldType)) ∈ TB := tb5 58 rfl rfl
theorem w5_59 : (Jvm.Cond.methodLink "SlateHandsLaw" (97 : Nat) ({ cls := "SlateHandsLaw", name := "house", desc := "(LSlateHands;[II)V" } : Jvm.MethodName)) ∈ TB := tb5 59 rfl rfl
theorem w5_60 : (Jvm.Cond.static ({ cls := "SlateHandsLaw", name := "house", desc := "(LSlateHands;[II)V" } : Jvm.MethodName)) ∈ TB := tb5 60 rfl rfl
theorem w5_61 : (Jvm.Cond.code ({ cls := "SlateHandsLaw", name := "house", desc := "(LSlateHands;[II)V" } : Jvm.MethodName) method_9_code (3 : Nat) (Option.none : Option Jvm.ClassFile.FieldType)) ∈ TB := tb5 61 rfl rfl
theorem w5_62 : (Jvm.Cond.constantLong "SlateHandsLaw" (43 : Nat) (7525362640835575808 : Int64)) ∈ TB := tb5 62 rfl rfl
theorem w5_63 : (Jvm.Cond.constantLong "SlateHandsLaw" (45 : Nat) (7523658348873383936 : Int64)) ∈ TB := tb5 63 rfl rfl
theorem w5_64 : (Jvm.Cond.constant "SlateHandsLaw" (100 : Nat) (1048576 : Int32)) ∈ TB := tb5 64 rfl rfl
theorem w5_65 : (Jvm.Cond.methodLink "SlateHandsLaw" (101 : Nat) ({ cls := "SlateHandsLaw", name := "way", desc := "(LSlateHands;[III)V" } : Jvm.MethodName)) ∈ TB := tb5 65 rfl rfl
theorem w5_66 : (Jvm.Cond.static ({ cls := "SlateHandsLaw", name := "way", desc := "(LSlateHands;[III)V" } : Jvm.MethodName)) ∈ TB := tb5 66 rfl rfl
theorem w5_67 : (Jvm.Cond.code ({ cls := "SlateHandsLaw", name := "way", desc := "(LSlateHands;[III)V" } : Jvm.MethodName) method_10_code (4 : Nat) (Option.none : Option Jvm.ClassFile.FieldType)) ∈ TB := tb5 67 rfl rfl
theorem w5_68 : (Jvm.Cond.constantLong "SlateHandsLaw" (47 : Nat) (8602289804161318912 : Int64)) ∈ TB := tb5 68 rfl rfl
theorem w5_69 : (Jvm.Cond.methodLink "SlateHandsLaw" (105 : Nat) ({ cls := "SlateHandsLaw", name := "carrier", desc := "(LSlateHands;[III)V" } : Jvm.MethodName)) ∈ TB := tb5 69 rfl rfl
theorem w5_70 : (Jvm.Cond.static ({ cls := "SlateHandsLaw", name := "carrier", desc := "(LSlateHands;[III)V" } : Jvm.MethodName)) ∈ TB := tb5 70 rfl rfl
theorem w5_71 : (Jvm.Cond.code ({ cls := "SlateHandsLaw", name := "carrier", desc := "(LSlateHands;[III)V" } : Jvm.MethodName) method_11_code (4 : Nat) (Option.none : Option Jvm.ClassFile.FieldType)) ∈ TB := tb5 71 rfl rfl
theorem w5_72 : (Jvm.Cond.constantLong "SlateHandsLaw" (49 : Nat) (7161130718215893504 : Int64)) ∈ TB := tb5 72 rfl rfl
theorem w5_73 : (Jvm.Cond.constantLong "SlateHandsLaw" (51 : Nat) (7022237718977445888 : Int64)) ∈ TB := tb5 73 rfl rfl
theorem w5_74 : (Jvm.Cond.constantLong "SlateHandsLaw" (53 : Nat) (8319400234579329024 : Int64)) ∈ TB := tb5 74 rfl rfl
theorem w5_75 : (Jvm.Cond.constant "SlateHandsLaw" (108 : Nat) (1073741824 : Int32)) ∈ TB := tb5 75 rfl rfl
theorem w5_76 : (Jvm.Cond.constantLong "SlateHandsLaw" (109 : Nat) (8317129764385062912 : Int64)) ∈ TB := tb5 76 rfl rfl
theorem w5_77 : (Jvm.Cond.constantLong "SlateHandsLaw" (111 : Nat) (8606223186750603264 : Int64)) ∈ TB := tb5 77 rfl rfl
theorem w5_78 : (Jvm.Cond.methodLink "SlateHandsLaw" (113 : Nat) ({ cls := "SlateHandsLaw", name := "carry", desc := "(LSlateHands;[IIIII)V" } : Jvm.MethodName)) ∈ TB := tb5 78 rfl rfl
theorem w5_79 : (Jvm.Cond.static ({ cls := "SlateHandsLaw", name := "carry", desc := "(LSlateHands;[IIIII)V" } : Jvm.MethodName)) ∈ TB := tb5 79 rfl rfl
theorem w5_80 : (Jvm.Cond.code ({ cls := "SlateHandsLaw", name := "carry", desc := "(LSlateHands;[IIIII)V" } : Jvm.MethodName) method_12_code (6 : Nat) (Option.none : Option Jvm.ClassFile.FieldType)) ∈ TB := tb5 80 rfl rfl
theorem w5_81 : (Jvm.Cond.constantLong "SlateHandsLaw" (55 : Nat) (7161130718477680640 : Int64)) ∈ TB := tb5 81 rfl rfl
theorem w5_82 : (Jvm.Cond.constantLong "SlateHandsLaw" (57 : Nat) (8389924630814523392 : Int64)) ∈ TB := tb5 82 rfl rfl
theorem w5_83 : (Jvm.Cond.methodLink "SlateHandsLaw" (117 : Nat) ({ cls := "SlateHandsLaw", name := "rest", desc := "(LSlateHands;[I)V" } : Jvm.MethodName)) ∈ TB := tb5 83 rfl rfl
theorem w5_84 : (Jvm.Cond.static ({ cls := "SlateHandsLaw", name := "rest", desc := "(LSlateHands;[I)V" } : Jvm.MethodName)) ∈ TB := tb5 84 rfl rfl
theorem w5_85 : (Jvm.Cond.code ({ cls := "SlateHandsLaw", name := "rest", desc := "(LSlateHands;[I)V" } : Jvm.MethodName) method_7_code (2 : Nat) (Option.none : Option Jvm.ClassFile.FieldType)) ∈ TB := tb5 85 rfl rfl
theorem w5_86 : (Jvm.Cond.methodLink "SlateHandsLaw" (120 : Nat) ({ cls := "SlateHands", name := "port", desc := "()I" } : Jvm.MethodName)) ∈ TB := tb5 86 rfl rfl
theorem w5_87 : (Jvm.Cond.instanceMethod ({ cls := "SlateHands", name := "port", desc := "()I" } : Jvm.MethodName)) ∈ TB := tb5 87 rfl rfl
theorem w5_88 : (Jvm.Cond.selects "SlateHands" ({ cls := "SlateHands", name := "port", desc := "()I" } : Jvm.MethodName) ({ cls := "SlateHands", name := "port", desc := "()I" } : Jvm.MethodName)) ∈ TB := tb5 88 rfl rfl
theorem w5_89 : (Jvm.Cond.code ({ cls := "SlateHands", name := "port", desc := "()I" } : Jvm.MethodName) prog_1_method_4_code (2 : Nat) (Option.some Jvm.ClassFile.FieldType.int)) ∈ TB := tb5 89 rfl rfl
theorem w5_90 : (Jvm.Cond.methodLink "SlateHands" (97 : Nat) ({ cls := "SlateHands$Reader", name := "read", desc := "(LSlateHands$Tape;LSlateHands$Port;)Z" } : Jvm.MethodName)) ∈ TB := tb5 90 rfl rfl
theorem w5_91 : (Jvm.Cond.instanceMethod ({ cls := "SlateHands$Reader", name := "read", desc := "(LSlateHands$Tape;LSlateHands$Port;)Z" } : Jvm.MethodName)) ∈ TB := tb5 91 rfl rfl
theorem w5_92 : (Jvm.Cond.selects "SlateHands$Reader" ({ cls := "SlateHands$Reader", name := "read", desc := "(LSlateHands$Tape;LSlateHands$Port;)Z" } : Jvm.MethodName) ({ cls := "SlateHands$Reader", name := "read", desc := "(LSlateHands$Tape;LSlateHands$Port;)Z" } : Jvm.MethodName)) ∈ TB := tb5 92 rfl rfl
theorem w5_93 : (Jvm.Cond.code ({ cls := "SlateHands$Reader", name := "read", desc := "(LSlateHands$Tape;LSlateHands$Port;)Z" } : Jvm.MethodName) prog_8_method_2_code (4 : Nat) (Option.some Jvm.ClassFile.FieldType.boolean)) ∈ TB := tb5 93 rfl rfl
theorem w5_94 : (Jvm.Cond.methodLink "SlateHands$Reader" (18 : Nat) ({ cls := "SlateHands$Port", name := "clear", desc := "()V" } : Jvm.MethodName)) ∈ TB := tb5 94 rfl rfl
theorem w5_95 : (Jvm.Cond.instanceMethod ({ cls := "SlateHands$Port", name := "clear", desc := "()V" } : Jvm.MethodName)) ∈ TB := tb5 95 rfl rfl
theorem w5_96 : (Jvm.Cond.selects "SlateHands$Port" ({ cls := "SlateHands$Port", name := "clear", desc := "()V" } : Jvm.MethodName) ({ cls := "SlateHands$Port", name := "clear", desc := "()V" } : Jvm.MethodName)) ∈ TB := tb5 96 rfl rfl
theorem w5_97 : (Jvm.Cond.code ({ cls := "SlateHands$Port", name := "clear", desc := "()V" } : Jvm.MethodName) prog_7_method_2_code (1 : Nat) (Option.none : Option Jvm.ClassFile.FieldType)) ∈ TB := tb5 97 rfl rfl
theorem w5_98 : (Jvm.Cond.methodLink "SlateHands$Port" (68 : Nat) ({ cls := "SlateHands$Carries", name := "clear", desc := "()V" } : Jvm.MethodName)) ∈ TB := tb5 98 rfl rfl
theorem w5_99 : (Jvm.Cond.instanceMethod ({ cls := "SlateHands$Carries", name := "clear", desc := "()V" } : Jvm.MethodName)) ∈ TB := tb5 99 rfl rfl
theorem w5_100 : (Jvm.Cond.selects "SlateHands$Carries" ({ cls := "SlateHands$Carries", name := "clear", desc := "()V" } : Jvm.MethodName) ({ cls := "SlateHands$Carries", name := "clear", desc := "()V" } : Jvm.MethodName)) ∈ TB := tb5 100 rfl rfl
theorem w5_101 : (Jvm.Cond.code ({ cls := "SlateHands$Carries", name := "clear", desc := "()V" } : Jvm.MethodName) prog_3_method_2_code (1 : Nat) (Option.none : Option Jvm.ClassFile.FieldType)) ∈ TB := tb5 101 rfl rfl
theorem w5_102 : (Jvm.Cond.methodLink "SlateHands$Reader" (23 : Nat) ({ cls := "SlateHands$Tape", name := "rewind", desc := "()V" } : Jvm.MethodName)) ∈ TB := tb5 102 rfl rfl
theorem w5_103 : (Jvm.Cond.instanceMethod ({ cls := "SlateHands$Tape", name := "rewind", desc := "()V" } : Jvm.MethodName)) ∈ TB := tb5 103 rfl rfl
theorem w5_104 : (Jvm.Cond.selects "SlateHands$Tape" ({ cls := "SlateHands$Tape", name := "rewind", desc := "()V" } : Jvm.MethodName) ({ cls := "SlateHands$Tape", name := "rewind", desc := "()V" } : Jvm.MethodName)) ∈ TB := tb5 104 rfl rfl
theorem w5_105 : (Jvm.Cond.code ({ cls := "SlateHands$Tape", name := "rewind", desc := "()V" } : Jvm.MethodName) prog_11_method_3_code (1 : Nat) (Option.none : Option Jvm.ClassFile.FieldType)) ∈ TB := tb5 105 rfl rfl
theorem w5_106 : (Jvm.Cond.methodLink "SlateHands$Reader" (28 : Nat) ({ cls := "SlateHands$Tape", name := "next", desc := "()V" } : Jvm.MethodName)) ∈ TB := tb5 106 rfl rfl
theorem w5_107 : (Jvm.Cond.instanceMethod ({ cls := "SlateHands$Tape", name := "next", desc := "()V" } : Jvm.MethodName)) ∈ TB := tb5 107 rfl rfl
theorem w5_108 : (Jvm.Cond.selects "SlateHands$Tape" ({ cls := "SlateHands$Tape", name := "next", desc := "()V" } : Jvm.MethodName) ({ cls := "SlateHands$Tape", name := "next", desc := "()V" } : Jvm.MethodName)) ∈ TB := tb5 108 rfl rfl
theorem w5_109 : (Jvm.Cond.code ({ cls := "SlateHands$Tape", name := "next", desc := "()V" } : Jvm.MethodName) prog_11_method_4_code (2 : Nat) (Option.none : Option Jvm.ClassFile.FieldType)) ∈ TB := tb5 109 rfl rfl
theorem w5_110 : (Jvm.Cond.methodLink "SlateHands$Tape" (25 : Nat) ({ cls := "SlateHands$Tape", name := "byteAt", desc := "(I)I" } : Jvm.MethodName)) ∈ TB := tb5 110 rfl rfl
theorem w5_112 : (Jvm.Cond.instanceMethod ({ cls := "SlateHands$Tape", name := "byteAt", desc := "(I)I" } : Jvm.MethodName)) ∈ TB := tb5 112 rfl rfl
theorem w5_113 : (Jvm.Cond.code ({ cls := "SlateHands$Tape", name := "byteAt", desc := "(I)I" } : Jvm.MethodName) prog_11_method_6_code (2 : Nat) (Option.some Jvm.ClassFile.FieldType.int)) ∈ TB := tb5 113 rfl rfl
theorem w5_114 : (Jvm.Cond.methodLink "SlateHands$Tape" (29 : Nat) ({ cls := "SlateHands$Tape", name := "isBlank", desc := "(I)Z" } : Jvm.MethodName)) ∈ TB := tb5 114 rfl rfl
theorem w5_115 : (Jvm.Cond.static ({ cls := "SlateHands$Tape", name := "isBlank", desc := "(I)Z" } : Jvm.MethodName)) ∈ TB := tb5 115 rfl rfl
theorem w5_116 : (Jvm.Cond.code ({ cls := "SlateHands$Tape", name := "isBlank", desc := "(I)Z" } : Jvm.MethodName) prog_11_method_8_code (1 : Nat) (Option.some Jvm.ClassFile.FieldType.boolean)) ∈ TB := tb5 116 rfl rfl
theorem w5_117 : (Jvm.Cond.methodLink "SlateHands$Tape" (39 : Nat) ({ cls := "SlateHands$Tape", name := "kindOf", desc := "(I)I" } : Jvm.MethodName)) ∈ TB := tb5 117 rfl rfl
theorem w5_118 : (Jvm.Cond.static ({ cls := "SlateHands$Tape", name := "kindOf", desc := "(I)I" } : Jvm.MethodName)) ∈ TB := tb5 118 rfl rfl
theorem w5_119 : (Jvm.Cond.code ({ cls := "SlateHands$Tape", name := "kindOf", desc := "(I)I" } : Jvm.MethodName) prog_11_method_7_code (1 : Nat) (Option.some Jvm.ClassFile.FieldType.int)) ∈ TB := tb5 119 rfl rfl
theorem w5_120 : (Jvm.Cond.methodLink "SlateHands$Tape" (42 : Nat) ({ cls := "java/lang/Math", name := "min", desc := "(II)I" } : Jvm.MethodName)) ∈ TB := tb5 120 rfl rfl
theorem w5_121 : (Jvm.Cond.static ({ cls := "java/lang/Math", name := "min", desc := "(II)I" } : Jvm.MethodName)) ∈ TB := tb5 121 rfl rfl
theorem w5_122 : (Jvm.Cond.code ({ cls := "java/lang/Math", name := "min", desc := "(II)I" } : Jvm.MethodName) prog_16_method_69_code (2 : Nat) (Option.some Jvm.ClassFile.FieldType.int)) ∈ TB := tb5 122 rfl rfl
theorem w5_123 : (Jvm.Cond.methodLink "SlateHands$Reader" (34 : Nat) ({ cls := "SlateHands$Reader", name := "readLine", desc := "(LSlateHands$Tape;LSlateHands$Port;)Z" } : Jvm.MethodName)) ∈ TB := tb5 123 rfl rfl
theorem w5_125 : (Jvm.Cond.instanceMethod ({ cls := "SlateHands$Reader", name := "readLine", desc := "(LSlateHands$Tape;LSlateHands$Port;)Z" } : Jvm.MethodName)) ∈ TB := tb5 125 rfl rfl
theorem w5_126 : (Jvm.Cond.code ({ cls := "SlateHands$Reader", name := "readLine", desc := "(LSlateHands$Tape;LSlateHands$Port;)Z" } : Jvm.MethodName) prog_8_method_3_code (3 : Nat) (Option.some Jvm.ClassFile.FieldType.boolean)) ∈ TB := tb5 126 rfl rfl
theorem w5_127 : (Jvm.Cond.methodLink "SlateHands$Reader" (57 : Nat) ({ cls := "SlateHands$Reader", name := "readPort", desc := "(LSlateHands$Tape;LSlateHands$Port;)Z" } : Jvm.MethodName)) ∈ TB := tb5 127 rfl rfl
theorem w5_129 : (Jvm.Cond.instanceMethod ({ cls := "SlateHands$Reader", name := "readPort", desc := "(LSlateHands$Tape;LSlateHands$Port;)Z" } : Jvm.MethodName)) ∈ TB := tb5 129 rfl rfl
theorem w5_130 : (Jvm.Cond.code ({ cls := "SlateHands$Reader", name := "readPort", desc := "(LSlateHands$Tape;LSlateHands$Port;)Z" } : Jvm.MethodName) prog_8_method_4_code (3 : Nat) (Option.some Jvm.ClassFile.FieldType.boolean)) ∈ TB := tb5 130 rfl rfl
theorem w5_132 : (Jvm.Cond.methodLink "SlateHands$Reader" (111 : Nat) ({ cls := "SlateHands$Reader", name := "readWord", desc := "(LSlateHands$Tape;Ljava/lang/String;)Z" } : Jvm.MethodName)) ∈ TB := tb5 132 rfl rfl
theorem w5_134 : (Jvm.Cond.instanceMethod ({ cls := "SlateHands$Reader", name := "readWord", desc := "(LSlateHands$Tape;Ljava/lang/String;)Z" } : Jvm.MethodName)) ∈ TB := tb5 134 rfl rfl
theorem w5_135 : (Jvm.Cond.code ({ cls := "SlateHands$Reader", name := "readWord", desc := "(LSlateHands$Tape;Ljava/lang/String;)Z" } : Jvm.MethodName) prog_8_method_11_code (3 : Nat) (Option.some Jvm.ClassFile.FieldType.boolean)) ∈ TB := tb5 135 rfl rfl
theorem w5_136 : (Jvm.Cond.methodLink "SlateHands$Reader" (62 : Nat) ({ cls := "SlateHands$Tape", name := "isAt", desc := "(Ljava/lang/String;)Z" } : Jvm.MethodName)) ∈ TB := tb5 136 rfl rfl
theorem w5_137 : (Jvm.Cond.instanceMethod ({ cls := "SlateHands$Tape", name := "isAt", desc := "(Ljava/lang/String;)Z" } : Jvm.MethodName)) ∈ TB := tb5 137 rfl rfl
theorem w5_138 : (Jvm.Cond.selects "SlateHands$Tape" ({ cls := "SlateHands$Tape", name := "isAt", desc := "(Ljava/lang/String;)Z" } : Jvm.MethodName) ({ cls := "SlateHands$Tape", name := "isAt", desc := "(Ljava/lang/String;)Z" } : Jvm.MethodName)) ∈ TB := tb5 138 rfl rfl
theorem w5_139 : (Jvm.Cond.code ({ cls := "SlateHands$Tape", name := "isAt", desc := "(Ljava/lang/String;)Z" } : Jvm.MethodName) prog_11_method_5_code (3 : Nat) (Option.some Jvm.ClassFile.FieldType.boolean)) ∈ TB := tb5 139 rfl rfl
theorem w5_140 : (Jvm.Cond.methodLink "SlateHands$Tape" (48 : Nat) ({ cls := "java/lang/String", name := "length", desc := "()I" } : Jvm.MethodName)) ∈ TB := tb5 140 rfl rfl
theorem w5_141 : (Jvm.Cond.instanceMethod ({ cls := "java/lang/String", name := "length", desc := "()I" } : Jvm.MethodName)) ∈ TB := tb5 141 rfl rfl
theorem w5_142 : (Jvm.Cond.selects "java/lang/String" ({ cls := "java/lang/String", name := "length", desc := "()I" } : Jvm.MethodName) ({ cls := "java/lang/String", name := "length", desc := "()I" } : Jvm.MethodName)) ∈ TB := tb5 142 rfl rfl
theorem w5_143 : (Jvm.Cond.code ({ cls := "java/lang/String", name := "length", desc := "()I" } : Jvm.MethodName) prog_17_method_54_code (1 : Nat) (Option.some Jvm.ClassFile.FieldType.int)) ∈ TB := tb5 143 rfl rfl
theorem w5_144 : (Jvm.Cond.methodLink "java/lang/String" (335 : Nat) ({ cls := "java/lang/String", name := "coder", desc := "()B" } : Jvm.MethodName)) ∈ TB := tb5 144 rfl rfl
theorem w5_145 : (Jvm.Cond.instanceMethod ({ cls := "java/lang/String", name := "coder", desc := "()B" } : Jvm.MethodName)) ∈ TB := tb5 145 rfl rfl
theorem w5_146 : (Jvm.Cond.selects "java/lang/String" ({ cls := "java/lang/String", name := "coder", desc := "()B" } : Jvm.MethodName) ({ cls := "java/lang/String", name := "coder", desc := "()B" } : Jvm.MethodName)) ∈ TB := tb5 146 rfl rfl
theorem w5_147 : (Jvm.Cond.code ({ cls := "java/lang/String", name := "coder", desc := "()B" } : Jvm.MethodName) prog_17_method_152_code (1 : Nat) (Option.some Jvm.ClassFile.FieldType.byte)) ∈ TB := tb5 147 rfl rfl
theorem w5_148 : (Jvm.Cond.fieldLink "java/lang/String" (38 : Nat) "java/lang/String" "COMPACT_STRINGS" "Z") ∈ TB := tb5 148 rfl rfl
theorem w5_150 : (Jvm.Cond.methodLink "SlateHands$Tape" (54 : Nat) ({ cls := "java/lang/String", name := "charAt", desc := "(I)C" } : Jvm.MethodName)) ∈ TB := tb5 150 rfl rfl
theorem w5_151 : (Jvm.Cond.instanceMethod ({ cls := "java/lang/String", name := "charAt", desc := "(I)C" } : Jvm.MethodName)) ∈ TB := tb5 151 rfl rfl
theorem w5_152 : (Jvm.Cond.selects "java/lang/String" ({ cls := "java/lang/String", name := "charAt", desc := "(I)C" } : Jvm.MethodName) ({ cls := "java/lang/String", name := "charAt", desc := "(I)C" } : Jvm.MethodName)) ∈ TB := tb5 152 rfl rfl
theorem w5_153 : (Jvm.Cond.code ({ cls := "java/lang/String", name := "charAt", desc := "(I)C" } : Jvm.MethodName) prog_17_method_56_code (2 : Nat) (Option.some Jvm.ClassFile.FieldType.char)) ∈ TB := tb5 153 rfl rfl
theorem w5_154 : (Jvm.Cond.methodLink "java/lang/String" (492 : Nat) ({ cls := "java/lang/String", name := "isLatin1", desc := "()Z" } : Jvm.MethodName)) ∈ TB := tb5 154 rfl rfl
theorem w5_155 : (Jvm.Cond.instanceMethod ({ cls := "java/lang/String", name := "isLatin1", desc := "()Z" } : Jvm.MethodName)) ∈ TB := tb5 155 rfl rfl
theorem w5_156 : (Jvm.Cond.selects "java/lang/String" ({ cls := "java/lang/String", name := "isLatin1", desc := "()Z" } : Jvm.MethodName) ({ cls := "java/lang/String", name := "isLatin1", desc := "()Z" } : Jvm.MethodName)) ∈ TB := tb5 156 rfl rfl
theorem w5_157 : (Jvm.Cond.code ({ cls := "java/lang/String", name := "isLatin1", desc := "()Z" } : Jvm.MethodName) prog_17_method_154_code (1 : Nat) (Option.some Jvm.ClassFile.FieldType.boolean)) ∈ TB := tb5 157 rfl rfl
theorem w5_158 : (Jvm.Cond.methodLink "java/lang/String" (495 : Nat) ({ cls := "java/lang/StringLatin1", name := "charAt", desc := "([BI)C" } : Jvm.MethodName)) ∈ TB := tb5 158 rfl rfl
theorem w5_159 : (Jvm.Cond.static ({ cls := "java/lang/StringLatin1", name := "charAt", desc := "([BI)C" } : Jvm.MethodName)) ∈ TB := tb5 159 rfl rfl
theorem w5_160 : (Jvm.Cond.code ({ cls := "java/lang/StringLatin1", name := "charAt", desc := "([BI)C" } : Jvm.MethodName) prog_18_method_2_code (2 : Nat) (Option.some Jvm.ClassFile.FieldType.char)) ∈ TB := tb5 160 rfl rfl
theorem w5_161 : (Jvm.Cond.methodLink "java/lang/StringLatin1" (9 : Nat) ({ cls := "java/lang/String", name := "checkIndex", desc := "(II)V" } : Jvm.MethodName)) ∈ TB := tb5 161 rfl rfl
theorem w5_162 : (Jvm.Cond.static ({ cls := "java/lang/String", name := "checkIndex", desc := "(II)V" } : Jvm.MethodName)) ∈ TB := tb5 162 rfl rfl
theorem w5_163 : (Jvm.Cond.code ({ cls := "java/lang/String", name := "checkIndex", desc := "(II)V" } : Jvm.MethodName) prog_17_method_155_code (2 : Nat) (Option.none : Option Jvm.ClassFile.FieldType)) ∈ TB := tb5 163 rfl rfl
theorem w5_164 : (Jvm.Cond.fieldLink "java/lang/String" (1053 : Nat) "jdk/internal/util/Preconditions" "SIOOBE_FORMATTER" "Ljava/util/function/BiFunction;") ∈ TB := tb5 164 rfl rfl
theorem w5_166 : (Jvm.Cond.methodLink "java/lang/String" (1059 : Nat) ({ cls := "jdk/internal/util/Preconditions", name := "checkIndex", desc := "(IILjava/util/function/BiFunction;)I" } : Jvm.MethodName)) ∈ TB := tb5 166 rfl rfl
theorem w5_167 : (Jvm.Cond.static ({ cls := "jdk/internal/util/Preconditions", name := "checkIndex", desc := "(IILjava/util/function/BiFunction;)I" } : Jvm.MethodName)) ∈ TB := tb5 167 rfl rfl
theorem w5_168 : (Jvm.Cond.code ({ cls := "jdk/internal/util/Preconditions", name := "checkIndex", desc := "(IILjava/util/function/BiFunction;)I" } : Jvm.MethodName) prog_22_method_11_code (3 : Nat) (Option.some Jvm.ClassFile.FieldType.int)) ∈ TB := tb5 168 rfl rfl
theorem w5_169 : (Jvm.Cond.methodLink "java/lang/String" (498 : Nat) ({ cls := "java/lang/StringUTF16", name := "charAt", desc := "([BI)C" } : Jvm.MethodName)) ∈ TB := tb5 169 rfl rfl
theorem w5_170 : (Jvm.Cond.static ({ cls := "java/lang/StringUTF16", name := "charAt", desc := "([BI)C" } : Jvm.MethodName)) ∈ TB := tb5 170 rfl rfl
theorem w5_171 : (Jvm.Cond.code ({ cls := "java/lang/StringUTF16", name := "charAt", desc := "([BI)C" } : Jvm.MethodName) prog_19_method_83_code (2 : Nat) (Option.some Jvm.ClassFile.FieldType.char)) ∈ TB := tb5 171 rfl rfl
theorem w5_172 : (Jvm.Cond.methodLink "java/lang/StringUTF16" (67 : Nat) ({ cls := "java/lang/StringUTF16", name := "checkIndex", desc := "(I[B)V" } : Jvm.MethodName)) ∈ TB := tb5 172 rfl rfl
theorem w5_173 : (Jvm.Cond.static ({ cls := "java/lang/StringUTF16", name := "checkIndex", desc := "(I[B)V" } : Jvm.MethodName)) ∈ TB := tb5 173 rfl rfl
theorem w5_174 : (Jvm.Cond.code ({ cls := "java/lang/StringUTF16", name := "checkIndex", desc := "(I[B)V" } : Jvm.MethodName) prog_19_method_91_code (2 : Nat) (Option.none : Option Jvm.ClassFile.FieldType)) ∈ TB := tb5 174 rfl rfl
theorem w5_175 : (Jvm.Cond.methodLink "java/lang/StringUTF16" (48 : Nat) ({ cls := "java/lang/StringUTF16", name := "length", desc := "([B)I" } : Jvm.MethodName)) ∈ TB := tb5 175 rfl rfl
theorem w5_176 : (Jvm.Cond.static ({ cls := "java/lang/StringUTF16", name := "length", desc := "([B)I" } : Jvm.MethodName)) ∈ TB := tb5 176 rfl rfl
theorem w5_177 : (Jvm.Cond.code ({ cls := "java/lang/StringUTF16", name := "length", desc := "([B)I" } : Jvm.MethodName) prog_19_method_6_code (1 : Nat) (Option.some Jvm.ClassFile.FieldType.int)) ∈ TB := tb5 177 rfl rfl
theorem w5_178 : (Jvm.Cond.methodLink "java/lang/StringUTF16" (414 : Nat) ({ cls := "java/lang/String", name := "checkIndex", desc := "(II)V" } : Jvm.MethodName)) ∈ TB := tb5 178 rfl rfl
theorem w5_179 : (Jvm.Cond.methodLink "java/lang/StringUTF16" (71 : Nat) ({ cls := "java/lang/StringUTF16", name := "getChar", desc := "([BI)C" } : Jvm.MethodName)) ∈ TB := tb5 179 rfl rfl
theorem w5_180 : (Jvm.Cond.static ({ cls := "java/lang/StringUTF16", name := "getChar", desc := "([BI)C" } : Jvm.MethodName)) ∈ TB := tb5 180 rfl rfl
theorem w5_181 : (Jvm.Cond.code ({ cls := "java/lang/StringUTF16", name := "getChar", desc := "([BI)C" } : Jvm.MethodName) prog_19_method_5_code (2 : Nat) (Option.some Jvm.ClassFile.FieldType.char)) ∈ TB := tb5 181 rfl rfl
theorem w5_182 : (Jvm.Cond.fieldLink "java/lang/StringUTF16" (44 : Nat) "java/lang/StringUTF16" "$assertionsDisabled" "Z") ∈ TB := tb5 182 rfl rfl
theorem w5_184 : (Jvm.Cond.fieldLink "java/lang/StringUTF16" (59 : Nat) "java/lang/StringUTF16" "HI_BYTE_SHIFT" "I") ∈ TB := tb5 184 rfl rfl
theorem w5_186 : (Jvm.Cond.fieldLink "java/lang/StringUTF16" (63 : Nat) "java/lang/StringUTF16" "LO_BYTE_SHIFT" "I") ∈ TB := tb5 186 rfl rfl
theorem w5_188 : (Jvm.Cond.methodLink "SlateHands$Reader" (105 : Nat) ({ cls := "SlateHands$Reader", name := "fail", desc := "(LSlateHands$Tape;I)Z" } : Jvm.MethodName)) ∈ TB := tb5 188 rfl rfl
theorem w5_190 : (Jvm.Cond.instanceMethod ({ cls := "SlateHands$Reader", name := "fail", desc := "(LSlateHands$Tape;I)Z" } : Jvm.MethodName)) ∈ TB := tb5 190 rfl rfl
theorem w5_191 : (Jvm.Cond.code ({ cls := "SlateHands$Reader", name := "fail", desc := "(LSlateHands$Tape;I)Z" } : Jvm.MethodName) prog_8_method_15_code (3 : Nat) (Option.some Jvm.ClassFile.FieldType.boolean)) ∈ TB := tb5 191 rfl rfl
theorem w5_193 : (Jvm.Cond.methodLink "SlateHands$Reader" (117 : Nat) ({ cls := "SlateHands$Reader", name := "readAmount", desc := "(LSlateHands$Tape;Ljava/lang/String;II)I" } : Jvm.MethodName)) ∈ TB := tb5 193 rfl rfl
theorem w5_195 : (Jvm.Cond.instanceMethod ({ cls := "SlateHands$Reader", name := "readAmount", desc := "(LSlateHands$Tape;Ljava/lang/String;II)I" } : Jvm.MethodName)) ∈ TB := tb5 195 rfl rfl
theorem w5_196 : (Jvm.Cond.code ({ cls := "SlateHands$Reader", name := "readAmount", desc := "(LSlateHands$Tape;Ljava/lang/String;II)I" } : Jvm.MethodName) prog_8_method_12_code (5 : Nat) (Option.some Jvm.ClassFile.FieldType.int)) ∈ TB := tb5 196 rfl rfl
theorem w5_197 : (Jvm.Cond.methodLink "SlateHands$Reader" (140 : Nat) ({ cls := "SlateHands$Reader", name := "readNumber", desc := "(LSlateHands$Tape;II)I" } : Jvm.MethodName)) ∈ TB := tb5 197 rfl rfl
theorem w5_199 : (Jvm.Cond.instanceMethod ({ cls := "SlateHands$Reader", name := "readNumber", desc := "(LSlateHands$Tape;II)I" } : Jvm.MethodName)) ∈ TB := tb5 199 rfl rfl
theorem w5_200 : (Jvm.Cond.code ({ cls := "SlateHands$Reader", name := "readNumber", desc := "(LSlateHands$Tape;II)I" } : Jvm.MethodName) prog_8_method_13_code (5 : Nat) (Option.some Jvm.ClassFile.FieldType.int)) ∈ TB := tb5 200 rfl rfl
theorem w5_204 : (Jvm.Cond.methodLink "SlateHands$Reader" (69 : Nat) ({ cls := "SlateHands$Reader", name := "hasRoom", desc := "(LSlateHands$Tape;II)Z" } : Jvm.MethodName)) ∈ TB := tb5 204 rfl rfl
theorem w5_206 : (Jvm.Cond.instanceMethod ({ cls := "SlateHands$Reader", name := "hasRoom", desc := "(LSlateHands$Tape;II)Z" } : Jvm.MethodName)) ∈ TB := tb5 206 rfl rfl
theorem w5_207 : (Jvm.Cond.code ({ cls := "SlateHands$Reader", name := "hasRoom", desc := "(LSlateHands$Tape;II)Z" } : Jvm.MethodName) prog_8_method_14_code (4 : Nat) (Option.some Jvm.ClassFile.FieldType.boolean)) ∈ TB := tb5 207 rfl rfl
theorem w5_208 : (Jvm.Cond.methodLink "SlateHands$Reader" (73 : Nat) ({ cls := "SlateHands$Reader", name := "readHouse", desc := "(LSlateHands$Tape;LSlateHands$Port;)Z" } : Jvm.MethodName)) ∈ TB := tb5 208 rfl rfl
theorem w5_210 : (Jvm.Cond.instanceMethod ({ cls := "SlateHands$Reader", name := "readHouse", desc := "(LSlateHands$Tape;LSlateHands$Port;)Z" } : Jvm.MethodName)) ∈ TB := tb5 210 rfl rfl
theorem w5_211 : (Jvm.Cond.code ({ cls := "SlateHands$Reader", name := "readHouse", desc := "(LSlateHands$Tape;LSlateHands$Port;)Z" } : Jvm.MethodName) prog_8_method_5_code (3 : Nat) (Option.some Jvm.ClassFile.FieldType.boolean)) ∈ TB := tb5 211 rfl rfl
theorem w5_215 : (Jvm.Cond.methodLink "SlateHands$Reader" (81 : Nat) ({ cls := "SlateHands$Reader", name := "readWay", desc := "(LSlateHands$Tape;LSlateHands$Port;)Z" } : Jvm.MethodName)) ∈ TB := tb5 215 rfl rfl
theorem w5_217 : (Jvm.Cond.instanceMethod ({ cls := "SlateHands$Reader", name := "readWay", desc := "(LSlateHands$Tape;LSlateHands$Port;)Z" } : Jvm.MethodName)) ∈ TB := tb5 217 rfl rfl
theorem w5_218 : (Jvm.Cond.code ({ cls := "SlateHands$Reader", name := "readWay", desc := "(LSlateHands$Tape;LSlateHands$Port;)Z" } : Jvm.MethodName) prog_8_method_6_code (4 : Nat) (Option.some Jvm.ClassFile.FieldType.boolean)) ∈ TB := tb5 218 rfl rfl
theorem w5_220 : (Jvm.Cond.methodLink "SlateHands$Reader" (89 : Nat) ({ cls := "SlateHands$Reader", name := "readCarrier", desc := "(LSlateHands$Tape;LSlateHands$Port;)Z" } : Jvm.MethodName)) ∈ TB := tb5 220 rfl rfl
theorem w5_222 : (Jvm.Cond.instanceMethod ({ cls := "SlateHands$Reader", name := "readCarrier", desc := "(LSlateHands$Tape;LSlateHands$Port;)Z" } : Jvm.MethodName)) ∈ TB := tb5 222 rfl rfl
theorem w5_223 : (Jvm.Cond.code ({ cls := "SlateHands$Reader", name := "readCarrier", desc := "(LSlateHands$Tape;LSlateHands$Port;)Z" } : Jvm.MethodName) prog_8_method_7_code (3 : Nat) (Option.some Jvm.ClassFile.FieldType.boolean)) ∈ TB := tb5 223 rfl rfl
theorem w5_227 : (Jvm.Cond.methodLink "SlateHands$Reader" (97 : Nat) ({ cls := "SlateHands$Reader", name := "readSlate", desc := "(LSlateHands$Tape;LSlateHands$Port;)Z" } : Jvm.MethodName)) ∈ TB := tb5 227 rfl rfl
theorem w5_229 : (Jvm.Cond.instanceMethod ({ cls := "SlateHands$Reader", name := "readSlate", desc := "(LSlateHands$Tape;LSlateHands$Port;)Z" } : Jvm.MethodName)) ∈ TB := tb5 229 rfl rfl
theorem w5_230 : (Jvm.Cond.code ({ cls := "SlateHands$Reader", name := "readSlate", desc := "(LSlateHands$Tape;LSlateHands$Port;)Z" } : Jvm.MethodName) prog_8_method_8_code (5 : Nat) (Option.some Jvm.ClassFile.FieldType.boolean)) ∈ TB := tb5 230 rfl rfl
theorem w5_233 : (Jvm.Cond.methodLink "SlateHands$Reader" (102 : Nat) ({ cls := "SlateHands$Reader", name := "readCarry", desc := "(LSlateHands$Tape;LSlateHands$Port;)Z" } : Jvm.MethodName)) ∈ TB := tb5 233 rfl rfl
theorem w5_235 : (Jvm.Cond.instanceMethod ({ cls := "SlateHands$Reader", name := "readCarry", desc := "(LSlateHands$Tape;LSlateHands$Port;)Z" } : Jvm.MethodName)) ∈ TB := tb5 235 rfl rfl
theorem w5_236 : (Jvm.Cond.code ({ cls := "SlateHands$Reader", name := "readCarry", desc := "(LSlateHands$Tape;LSlateHands$Port;)Z" } : Jvm.MethodName) prog_8_method_9_code (7 : Nat) (Option.some Jvm.ClassFile.FieldType.boolean)) ∈ TB := tb5 236 rfl rfl
theorem w5_238 : (Jvm.Cond.methodLink "SlateHands$Reader" (175 : Nat) ({ cls := "SlateHands$Carries", name := "add", desc := "(IIII)V" } : Jvm.MethodName)) ∈ TB := tb5 238 rfl rfl
theorem w5_239 : (Jvm.Cond.methodLink "SlateHands$Reader" (38 : Nat) ({ cls := "SlateHands$Reader", name := "readSign", desc := "(LSlateHands$Tape;)Z" } : Jvm.MethodName)) ∈ TB := tb5 239 rfl rfl
theorem w6_1 : (Jvm.Cond.instanceMethod ({ cls := "SlateHands$Reader", name := "readSign", desc := "(LSlateHands$Tape;)Z" } : Jvm.MethodName)) ∈ TB := tb6 1 rfl rfl
theorem w6_2 : (Jvm.Cond.code ({ cls := "SlateHands$Reader", name := "readSign", desc := "(LSlateHands$Tape;)Z" } : Jvm.MethodName) prog_8_method_10_code (2 : Nat) (Option.some Jvm.ClassFile.FieldType.boolean)) ∈ TB := tb6 2 rfl rfl
theorem w6_3 : (Jvm.Cond.constant "SlateHandsLaw" (197 : Nat) (1073741823 : Int32)) ∈ TB := tb6 3 rfl rfl
theorem w6_4 : (Jvm.Cond.constantLong "SlateHandsLaw" (198 : Nat) (1103515245 : Int64)) ∈ TB := tb6 4 rfl rfl
theorem w6_5 : (Jvm.Cond.constantLong "SlateHandsLaw" (200 : Nat) (12345 : Int64)) ∈ TB := tb6 5 rfl rfl
theorem w6_6 : (Jvm.Cond.constantLong "SlateHandsLaw" (202 : Nat) (2147483648 : Int64)) ∈ TB := tb6 6 rfl rfl
theorem w6_7 : (Jvm.Cond.constantLong "SlateHandsLaw" (204 : Nat) (65536 : Int64)) ∈ TB := tb6 7 rfl rfl
theorem w6_8 : (Jvm.Cond.constantLong "SlateHandsLaw" (206 : Nat) (10 : Int64)) ∈ TB := tb6 8 rfl rfl
theorem w6_9 : (Jvm.Cond.fieldLink "java/lang/String" (9 : Nat) "java/lang/String" "value" "[B") ∈ TB := tb6 9 rfl rfl
theorem w6_10 : (Jvm.Cond.fieldLink "java/lang/String" (15 : Nat) "java/lang/String" "coder" "B") ∈ TB := tb6 10 rfl rfl
def NB : List Cond := [(Jvm.Cond.methodLinkNest "SlateHands" (11 : Nat) ({ cls := "SlateHands$Tape", name := "<init>", desc := "()V" } : Jvm.MethodName) "SlateHands"), (Jvm.Cond.methodLinkNest "SlateHands" (18 : Nat) ({ cls := "SlateHands$Reader", name := "<init>", desc := "()V" } : Jvm.MethodName) "SlateHands"), (Jvm.Cond.methodLinkNest "SlateHands" (25 : Nat) ({ cls := "SlateHands$Port", name := "<init>", desc := "()V" } : Jvm.MethodName) "SlateHands"), (Jvm.Cond.methodLinkNest "SlateHands$Port" (38 : Nat) ({ cls := "SlateHands$Carries", name := "<init>", desc := "()V" } : Jvm.MethodName) "SlateHands"), (Jvm.Cond.methodLinkNest "SlateHands" (39 : Nat) ({ cls := "SlateHands$Slots", name := "<init>", desc := "()V" } : Jvm.MethodName) "SlateHands"), (Jvm.Cond.methodLinkNest "SlateHands" (46 : Nat) ({ cls := "SlateHands$Diary", name := "<init>", desc := "()V" } : Jvm.MethodName) "SlateHands"), (Jvm.Cond.methodLinkNest "SlateHands$Diary" (11 : Nat) ({ cls := "SlateHands$Course", name := "<init>", desc := "()V" } : Jvm.MethodName) "SlateHands"), (Jvm.Cond.methodLinkNest "SlateHands" (56 : Nat) ({ cls := "SlateHands$Paths", name := "<init>", desc := "()V" } : Jvm.MethodName) "SlateHands"), (Jvm.Cond.methodLinkNest "SlateHands" (63 : Nat) ({ cls := "SlateHands$Alone", name := "<init>", desc := "()V" } : Jvm.MethodName) "SlateHands"), (Jvm.Cond.methodLinkNest "SlateHands" (70 : Nat) ({ cls := "SlateHands$Weather", name := "<init>", desc := "()V" } : Jvm.MethodName) "SlateHands"), (Jvm.Cond.methodLinkNest "SlateHands" (77 : Nat) ({ cls := "SlateHands$Seen", name := "<init>", desc := "()V" } : Jvm.MethodName) "SlateHands"), (Jvm.Cond.methodLinkNest "SlateHands$Paths" (15 : Nat) ({ cls := "SlateHands", name := "hasBit", desc := "(II)Z" } : Jvm.MethodName) "SlateHands"), (Jvm.Cond.methodLinkNest "SlateHands$Port" (85 : Nat) ({ cls := "SlateHands", name := "cell", desc := "([II)I" } : Jvm.MethodName) "SlateHands"), (Jvm.Cond.methodLinkNest "SlateHands$Course" (65 : Nat) ({ cls := "SlateHands", name := "cell", desc := "([II)I" } : Jvm.MethodName) "SlateHands"), (Jvm.Cond.methodLinkNest "SlateHands$Course" (69 : Nat) ({ cls := "SlateHands", name := "put", desc := "([III)V" } : Jvm.MethodName) "SlateHands"), (Jvm.Cond.methodLinkNest "SlateHands$Carries" (50 : Nat) ({ cls := "SlateHands", name := "cell", desc := "([II)I" } : Jvm.MethodName) "SlateHands"), (Jvm.Cond.methodLinkNest "SlateHands$Course" (103 : Nat) ({ cls := "SlateHands", name := "hasBit", desc := "(II)Z" } : Jvm.MethodName) "SlateHands"), (Jvm.Cond.methodLinkNest "SlateHands$Port" (113 : Nat) ({ cls := "SlateHands", name := "hasBit", desc := "(II)Z" } : Jvm.MethodName) "SlateHands"), (Jvm.Cond.methodLinkNest "SlateHands$Diary" (54 : Nat) ({ cls := "SlateHands", name := "put", desc := "([III)V" } : Jvm.MethodName) "SlateHands"), (Jvm.Cond.methodLinkNest "SlateHands$Diary" (58 : Nat) ({ cls := "SlateHands", name := "cell", desc := "([II)I" } : Jvm.MethodName) "SlateHands"), (Jvm.Cond.methodLinkNest "SlateHands$Alone" (80 : Nat) ({ cls := "SlateHands", name := "put", desc := "([III)V" } : Jvm.MethodName) "SlateHands"), (Jvm.Cond.methodLinkNest "SlateHands$Alone" (76 : Nat) ({ cls := "SlateHands", name := "cell", desc := "([II)I" } : Jvm.MethodName) "SlateHands"), (Jvm.Cond.methodLinkNest "SlateHands$Alone" (136 : Nat) ({ cls := "SlateHands", name := "hasBit", desc := "(II)Z" } : Jvm.MethodName) "SlateHands"), (Jvm.Cond.methodLinkNest "SlateHands$Slots" (22 : Nat) ({ cls := "SlateHands", name := "cell", desc := "([II)I" } : Jvm.MethodName) "SlateHands"), (Jvm.Cond.methodLinkNest "SlateHands$Seen" (72 : Nat) ({ cls := "SlateHands", name := "put", desc := "([III)V" } : Jvm.MethodName) "SlateHands"), (Jvm.Cond.methodLinkNest "SlateHands$Carries" (46 : Nat) ({ cls := "SlateHands", name := "put", desc := "([III)V" } : Jvm.MethodName) "SlateHands"), (Jvm.Cond.methodLinkNest "SlateHands$Slots" (33 : Nat) ({ cls := "SlateHands", name := "put", desc := "([III)V" } : Jvm.MethodName) "SlateHands"), (Jvm.Cond.methodLinkNest "SlateHands$Reader" (136 : Nat) ({ cls := "SlateHands", name := "put", desc := "([III)V" } : Jvm.MethodName) "SlateHands")]
theorem nb_in : ∀ w ∈ NB, w ∈ lw_tbl := by
  intro w hw
  simp only [NB, List.mem_cons, List.not_mem_nil, or_false] at hw
  rcases hw with h | h | h | h | h | h | h | h | h | h | h | h | h | h | h | h | h | h | h | h | h | h | h | h | h | h | h | h
  · exact h ▸ tr1 31 rfl
  · exact h ▸ tr1 61 rfl
  · exact h ▸ tr1 74 rfl
  · exact h ▸ tr1 80 rfl
  · exact h ▸ tr1 224 rfl
  · exact h ▸ tr2 1 rfl
  · exact h ▸ tr2 7 rfl
  · exact h ▸ tr2 95 rfl
  · exact h ▸ tr2 105 rfl
  · exact h ▸ tr2 166 rfl
  · exact h ▸ tr2 184 rfl
  · exact h ▸ tr3 15 rfl
  · exact h ▸ tr3 25 rfl
  · exact h ▸ tr3 63 rfl
  · exact h ▸ tr3 64 rfl
  · exact h ▸ tr3 79 rfl
  · exact h ▸ tr3 95 rfl
  · exact h ▸ tr3 105 rfl
  · exact h ▸ tr3 121 rfl
  · exact h ▸ tr3 126 rfl
  · exact h ▸ tr3 206 rfl
  · exact h ▸ tr3 215 rfl
  · exact h ▸ tr3 224 rfl
  · exact h ▸ tr4 67 rfl
  · exact h ▸ tr4 83 rfl
  · exact h ▸ tr4 130 rfl
  · exact h ▸ tr4 213 rfl
  · exact h ▸ tr5 213 rfl
theorem nb_nest : ∀ w ∈ NB, ∃ a i x h, w = Cond.methodLinkNest a i x h := by
  intro w hw
  simp only [NB, List.mem_cons, List.not_mem_nil, or_false] at hw
  rcases hw with h | h | h | h | h | h | h | h | h | h | h | h | h | h | h | h | h | h | h | h | h | h | h | h | h | h | h | h
  all_goals exact ⟨_, _, _, _, h⟩
theorem ps_T {q : MethodName × Nat} (h : q ∈ lw_privs) : Cond.selects q.1.cls q.1 q.1 ∈ TB := tb_in (List.mem_append_left _ (List.mem_map.mpr ⟨q, h, rfl⟩)) rfl
theorem pk1 {q : MethodName × Nat} (i : Nat) (h : lw_privs_1[i]? = some q) : q ∈ lw_privs := List.mem_append_left _ (List.mem_of_getElem? (i := i) h)
theorem ps1_0 : Cond.selects (⟨"SlateHands", "today", "()LSlateHands$Diary;"⟩ : MethodName).cls ⟨"SlateHands", "today", "()LSlateHands$Diary;"⟩ ⟨"SlateHands", "today", "()LSlateHands$Diary;"⟩ ∈ TB := ps_T (q := (⟨"SlateHands", "today", "()LSlateHands$Diary;"⟩, 14)) (pk1 0 rfl)
theorem ps1_1 : Cond.selects (⟨"SlateHands$Diary", "note", "(I)V"⟩ : MethodName).cls ⟨"SlateHands$Diary", "note", "(I)V"⟩ ⟨"SlateHands$Diary", "note", "(I)V"⟩ ∈ TB := ps_T (q := (⟨"SlateHands$Diary", "note", "(I)V"⟩, 7)) (pk1 1 rfl)
theorem ps1_2 : Cond.selects (⟨"SlateHands$Course", "hindrance", "(LSlateHands$Port;I)I"⟩ : MethodName).cls ⟨"SlateHands$Course", "hindrance", "(LSlateHands$Port;I)I"⟩ ⟨"SlateHands$Course", "hindrance", "(LSlateHands$Port;I)I"⟩ ∈ TB := ps_T (q := (⟨"SlateHands$Course", "hindrance", "(LSlateHands$Port;I)I"⟩, 15)) (pk1 2 rfl)
theorem ps1_3 : Cond.selects (⟨"SlateHands$Course", "loadTo", "(LSlateHands$Port;II)I"⟩ : MethodName).cls ⟨"SlateHands$Course", "loadTo", "(LSlateHands$Port;II)I"⟩ ⟨"SlateHands$Course", "loadTo", "(LSlateHands$Port;II)I"⟩ ∈ TB := ps_T (q := (⟨"SlateHands$Course", "loadTo", "(LSlateHands$Port;II)I"⟩, 15)) (pk1 3 rfl)
theorem ps1_4 : Cond.selects (⟨"SlateHands$Course", "carryOut", "(LSlateHands$Port;IZ)V"⟩ : MethodName).cls ⟨"SlateHands$Course", "carryOut", "(LSlateHands$Port;IZ)V"⟩ ⟨"SlateHands$Course", "carryOut", "(LSlateHands$Port;IZ)V"⟩ ∈ TB := ps_T (q := (⟨"SlateHands$Course", "carryOut", "(LSlateHands$Port;IZ)V"⟩, 15)) (pk1 4 rfl)
theorem ps1_5 : Cond.selects (⟨"SlateHands", "isSlateOn", "(II)Z"⟩ : MethodName).cls ⟨"SlateHands", "isSlateOn", "(II)Z"⟩ ⟨"SlateHands", "isSlateOn", "(II)Z"⟩ ∈ TB := ps_T (q := (⟨"SlateHands", "isSlateOn", "(II)Z"⟩, 14)) (pk1 5 rfl)
theorem ps1_6 : Cond.selects (⟨"SlateHands", "areAlone", "(II)Z"⟩ : MethodName).cls ⟨"SlateHands", "areAlone", "(II)Z"⟩ ⟨"SlateHands", "areAlone", "(II)Z"⟩ ∈ TB := ps_T (q := (⟨"SlateHands", "areAlone", "(II)Z"⟩, 14)) (pk1 6 rfl)
theorem ps1_7 : Cond.selects (⟨"SlateHands$Alone", "prepare", "(LSlateHands$Port;I)V"⟩ : MethodName).cls ⟨"SlateHands$Alone", "prepare", "(LSlateHands$Port;I)V"⟩ ⟨"SlateHands$Alone", "prepare", "(LSlateHands$Port;I)V"⟩ ∈ TB := ps_T (q := (⟨"SlateHands$Alone", "prepare", "(LSlateHands$Port;I)V"⟩, 17)) (pk1 7 rfl)
theorem ps1_8 : Cond.selects (⟨"SlateHands$Alone", "enter", "(III)V"⟩ : MethodName).cls ⟨"SlateHands$Alone", "enter", "(III)V"⟩ ⟨"SlateHands$Alone", "enter", "(III)V"⟩ ∈ TB := ps_T (q := (⟨"SlateHands$Alone", "enter", "(III)V"⟩, 17)) (pk1 8 rfl)
theorem ps1_9 : Cond.selects (⟨"SlateHands$Alone", "markSeen", "(II)Z"⟩ : MethodName).cls ⟨"SlateHands$Alone", "markSeen", "(II)Z"⟩ ⟨"SlateHands$Alone", "markSeen", "(II)Z"⟩ ∈ TB := ps_T (q := (⟨"SlateHands$Alone", "markSeen", "(II)Z"⟩, 17)) (pk1 9 rfl)
theorem ps1_10 : Cond.selects (⟨"SlateHands$Alone", "leave", "(LSlateHands$Port;II)V"⟩ : MethodName).cls ⟨"SlateHands$Alone", "leave", "(LSlateHands$Port;II)V"⟩ ⟨"SlateHands$Alone", "leave", "(LSlateHands$Port;II)V"⟩ ∈ TB := ps_T (q := (⟨"SlateHands$Alone", "leave", "(LSlateHands$Port;II)V"⟩, 17)) (pk1 10 rfl)
theorem ps1_11 : Cond.selects (⟨"SlateHands$Alone", "await", "(II)V"⟩ : MethodName).cls ⟨"SlateHands$Alone", "await", "(II)V"⟩ ⟨"SlateHands$Alone", "await", "(II)V"⟩ ∈ TB := ps_T (q := (⟨"SlateHands$Alone", "await", "(II)V"⟩, 17)) (pk1 11 rfl)
theorem ps1_12 : Cond.selects (⟨"SlateHands$Alone", "settle", "(LSlateHands$Port;II)V"⟩ : MethodName).cls ⟨"SlateHands$Alone", "settle", "(LSlateHands$Port;II)V"⟩ ⟨"SlateHands$Alone", "settle", "(LSlateHands$Port;II)V"⟩ ∈ TB := ps_T (q := (⟨"SlateHands$Alone", "settle", "(LSlateHands$Port;II)V"⟩, 17)) (pk1 12 rfl)
theorem ps1_13 : Cond.selects (⟨"SlateHands", "hearersBy", "(II)I"⟩ : MethodName).cls ⟨"SlateHands", "hearersBy", "(II)I"⟩ ⟨"SlateHands", "hearersBy", "(II)I"⟩ ∈ TB := ps_T (q := (⟨"SlateHands", "hearersBy", "(II)I"⟩, 14)) (pk1 13 rfl)
theorem ps1_14 : Cond.selects (⟨"SlateHands", "isGame", "(III)Z"⟩ : MethodName).cls ⟨"SlateHands", "isGame", "(III)Z"⟩ ⟨"SlateHands", "isGame", "(III)Z"⟩ ∈ TB := ps_T (q := (⟨"SlateHands", "isGame", "(III)Z"⟩, 14)) (pk1 14 rfl)
theorem ps1_15 : Cond.selects (⟨"SlateHands", "shutBy", "(IIII)V"⟩ : MethodName).cls ⟨"SlateHands", "shutBy", "(IIII)V"⟩ ⟨"SlateHands", "shutBy", "(IIII)V"⟩ ∈ TB := ps_T (q := (⟨"SlateHands", "shutBy", "(IIII)V"⟩, 14)) (pk1 15 rfl)
theorem pk2 {q : MethodName × Nat} (i : Nat) (h : lw_privs_2[i]? = some q) : q ∈ lw_privs := List.mem_append_right _ (List.mem_append_left _ (List.mem_of_getElem? (i := i) h))
theorem ps2_0 : Cond.selects (⟨"SlateHands", "gainOf", "(II)I"⟩ : MethodName).cls ⟨"SlateHands", "gainOf", "(II)I"⟩ ⟨"SlateHands", "gainOf", "(II)I"⟩ ∈ TB := ps_T (q := (⟨"SlateHands", "gainOf", "(II)I"⟩, 14)) (pk2 0 rfl)
theorem ps2_1 : Cond.selects (⟨"SlateHands", "makeStale", "()V"⟩ : MethodName).cls ⟨"SlateHands", "makeStale", "()V"⟩ ⟨"SlateHands", "makeStale", "()V"⟩ ∈ TB := ps_T (q := (⟨"SlateHands", "makeStale", "()V"⟩, 14)) (pk2 1 rfl)
theorem ps2_2 : Cond.selects (⟨"SlateHands", "runInRain", "(I)V"⟩ : MethodName).cls ⟨"SlateHands", "runInRain", "(I)V"⟩ ⟨"SlateHands", "runInRain", "(I)V"⟩ ∈ TB := ps_T (q := (⟨"SlateHands", "runInRain", "(I)V"⟩, 14)) (pk2 2 rfl)
theorem ps2_3 : Cond.selects (⟨"SlateHands$Tape", "byteAt", "(I)I"⟩ : MethodName).cls ⟨"SlateHands$Tape", "byteAt", "(I)I"⟩ ⟨"SlateHands$Tape", "byteAt", "(I)I"⟩ ∈ TB := ps_T (q := (⟨"SlateHands$Tape", "byteAt", "(I)I"⟩, 6)) (pk2 3 rfl)
theorem ps2_4 : Cond.selects (⟨"SlateHands$Reader", "readLine", "(LSlateHands$Tape;LSlateHands$Port;)Z"⟩ : MethodName).cls ⟨"SlateHands$Reader", "readLine", "(LSlateHands$Tape;LSlateHands$Port;)Z"⟩ ⟨"SlateHands$Reader", "readLine", "(LSlateHands$Tape;LSlateHands$Port;)Z"⟩ ∈ TB := ps_T (q := (⟨"SlateHands$Reader", "readLine", "(LSlateHands$Tape;LSlateHands$Port;)Z"⟩, 2)) (pk2 4 rfl)
theorem ps2_5 : Cond.selects (⟨"SlateHands$Reader", "readPort", "(LSlateHands$Tape;LSlateHands$Port;)Z"⟩ : MethodName).cls ⟨"SlateHands$Reader", "readPort", "(LSlateHands$Tape;LSlateHands$Port;)Z"⟩ ⟨"SlateHands$Reader", "readPort", "(LSlateHands$Tape;LSlateHands$Port;)Z"⟩ ∈ TB := ps_T (q := (⟨"SlateHands$Reader", "readPort", "(LSlateHands$Tape;LSlateHands$Port;)Z"⟩, 2)) (pk2 5 rfl)
theorem ps2_6 : Cond.selects (⟨"SlateHands$Reader", "readWord", "(LSlateHands$Tape;Ljava/lang/String;)Z"⟩ : MethodName).cls ⟨"SlateHands$Reader", "readWord", "(LSlateHands$Tape;Ljava/lang/String;)Z"⟩ ⟨"SlateHands$Reader", "readWord", "(LSlateHands$Tape;Ljava/lang/String;)Z"⟩ ∈ TB := ps_T (q := (⟨"SlateHands$Reader", "readWord", "(LSlateHands$Tape;Ljava/lang/String;)Z"⟩, 2)) (pk2 6 rfl)
theorem ps2_7 : Cond.selects (⟨"SlateHands$Reader", "fail", "(LSlateHands$Tape;I)Z"⟩ : MethodName).cls ⟨"SlateHands$Reader", "fail", "(LSlateHands$Tape;I)Z"⟩ ⟨"SlateHands$Reader", "fail", "(LSlateHands$Tape;I)Z"⟩ ∈ TB := ps_T (q := (⟨"SlateHands$Reader", "fail", "(LSlateHands$Tape;I)Z"⟩, 2)) (pk2 7 rfl)
theorem ps2_8 : Cond.selects (⟨"SlateHands$Reader", "readAmount", "(LSlateHands$Tape;Ljava/lang/String;II)I"⟩ : MethodName).cls ⟨"SlateHands$Reader", "readAmount", "(LSlateHands$Tape;Ljava/lang/String;II)I"⟩ ⟨"SlateHands$Reader", "readAmount", "(LSlateHands$Tape;Ljava/lang/String;II)I"⟩ ∈ TB := ps_T (q := (⟨"SlateHands$Reader", "readAmount", "(LSlateHands$Tape;Ljava/lang/String;II)I"⟩, 2)) (pk2 8 rfl)
theorem ps2_9 : Cond.selects (⟨"SlateHands$Reader", "readNumber", "(LSlateHands$Tape;II)I"⟩ : MethodName).cls ⟨"SlateHands$Reader", "readNumber", "(LSlateHands$Tape;II)I"⟩ ⟨"SlateHands$Reader", "readNumber", "(LSlateHands$Tape;II)I"⟩ ∈ TB := ps_T (q := (⟨"SlateHands$Reader", "readNumber", "(LSlateHands$Tape;II)I"⟩, 2)) (pk2 9 rfl)
theorem ps2_10 : Cond.selects (⟨"SlateHands$Reader", "hasRoom", "(LSlateHands$Tape;II)Z"⟩ : MethodName).cls ⟨"SlateHands$Reader", "hasRoom", "(LSlateHands$Tape;II)Z"⟩ ⟨"SlateHands$Reader", "hasRoom", "(LSlateHands$Tape;II)Z"⟩ ∈ TB := ps_T (q := (⟨"SlateHands$Reader", "hasRoom", "(LSlateHands$Tape;II)Z"⟩, 2)) (pk2 10 rfl)
theorem ps2_11 : Cond.selects (⟨"SlateHands$Reader", "readHouse", "(LSlateHands$Tape;LSlateHands$Port;)Z"⟩ : MethodName).cls ⟨"SlateHands$Reader", "readHouse", "(LSlateHands$Tape;LSlateHands$Port;)Z"⟩ ⟨"SlateHands$Reader", "readHouse", "(LSlateHands$Tape;LSlateHands$Port;)Z"⟩ ∈ TB := ps_T (q := (⟨"SlateHands$Reader", "readHouse", "(LSlateHands$Tape;LSlateHands$Port;)Z"⟩, 2)) (pk2 11 rfl)
theorem ps2_12 : Cond.selects (⟨"SlateHands$Reader", "readWay", "(LSlateHands$Tape;LSlateHands$Port;)Z"⟩ : MethodName).cls ⟨"SlateHands$Reader", "readWay", "(LSlateHands$Tape;LSlateHands$Port;)Z"⟩ ⟨"SlateHands$Reader", "readWay", "(LSlateHands$Tape;LSlateHands$Port;)Z"⟩ ∈ TB := ps_T (q := (⟨"SlateHands$Reader", "readWay", "(LSlateHands$Tape;LSlateHands$Port;)Z"⟩, 2)) (pk2 12 rfl)
theorem ps2_13 : Cond.selects (⟨"SlateHands$Reader", "readCarrier", "(LSlateHands$Tape;LSlateHands$Port;)Z"⟩ : MethodName).cls ⟨"SlateHands$Reader", "readCarrier", "(LSlateHands$Tape;LSlateHands$Port;)Z"⟩ ⟨"SlateHands$Reader", "readCarrier", "(LSlateHands$Tape;LSlateHands$Port;)Z"⟩ ∈ TB := ps_T (q := (⟨"SlateHands$Reader", "readCarrier", "(LSlateHands$Tape;LSlateHands$Port;)Z"⟩, 2)) (pk2 13 rfl)
theorem ps2_14 : Cond.selects (⟨"SlateHands$Reader", "readSlate", "(LSlateHands$Tape;LSlateHands$Port;)Z"⟩ : MethodName).cls ⟨"SlateHands$Reader", "readSlate", "(LSlateHands$Tape;LSlateHands$Port;)Z"⟩ ⟨"SlateHands$Reader", "readSlate", "(LSlateHands$Tape;LSlateHands$Port;)Z"⟩ ∈ TB := ps_T (q := (⟨"SlateHands$Reader", "readSlate", "(LSlateHands$Tape;LSlateHands$Port;)Z"⟩, 2)) (pk2 14 rfl)
theorem ps2_15 : Cond.selects (⟨"SlateHands$Reader", "readCarry", "(LSlateHands$Tape;LSlateHands$Port;)Z"⟩ : MethodName).cls ⟨"SlateHands$Reader", "readCarry", "(LSlateHands$Tape;LSlateHands$Port;)Z"⟩ ⟨"SlateHands$Reader", "readCarry", "(LSlateHands$Tape;LSlateHands$Port;)Z"⟩ ∈ TB := ps_T (q := (⟨"SlateHands$Reader", "readCarry", "(LSlateHands$Tape;LSlateHands$Port;)Z"⟩, 2)) (pk2 15 rfl)
theorem pk3 {q : MethodName × Nat} (i : Nat) (h : lw_privs_3[i]? = some q) : q ∈ lw_privs := List.mem_append_right _ (List.mem_append_right _ (List.mem_of_getElem? (i := i) h))
theorem ps3_0 : Cond.selects (⟨"SlateHands$Reader", "readSign", "(LSlateHands$Tape;)Z"⟩ : MethodName).cls ⟨"SlateHands$Reader", "readSign", "(LSlateHands$Tape;)Z"⟩ ⟨"SlateHands$Reader", "readSign", "(LSlateHands$Tape;)Z"⟩ ∈ TB := ps_T (q := (⟨"SlateHands$Reader", "readSign", "(LSlateHands$Tape;)Z"⟩, 2)) (pk3 0 rfl)
theorem cw_0 : ∀ w ∈ wsX00, w ∈ TB := by
  have h : wsX00.all (fun w => decide (w ∈ tables_1) && goodWord w) = true := by decide +kernel
  intro w hw
  have h1 := List.all_eq_true.mp h w hw
  simp only [Bool.and_eq_true, decide_eq_true_eq] at h1
  exact tb_T h1.1 h1.2
theorem cw_1 : ∀ w ∈ wsX10, w ∈ TB := by
  have h : wsX10.all (fun w => decide (w ∈ tables_1) && goodWord w) = true := by decide +kernel
  intro w hw
  have h1 := List.all_eq_true.mp h w hw
  simp only [Bool.and_eq_true, decide_eq_true_eq] at h1
  exact tb_T h1.1 h1.2
theorem cw_2 : ∀ w ∈ wsX20, w ∈ TB := by
  have h : wsX20.all (fun w => decide (w ∈ tables_1) && goodWord w) = true := by decide +kernel
  intro w hw
  have h1 := List.all_eq_true.mp h w hw
  simp only [Bool.and_eq_true, decide_eq_true_eq] at h1
  exact tb_T h1.1 h1.2
theorem cw_3 : ∀ w ∈ wsX30, w ∈ TB := by
  have h : wsX30.all (fun w => decide (w ∈ tables_1) && goodWord w) = true := by decide +kernel
  intro w hw
  have h1 := List.all_eq_true.mp h w hw
  simp only [Bool.and_eq_true, decide_eq_true_eq] at h1
  exact tb_T h1.1 h1.2
theorem cw_4 : ∀ w ∈ wsX40, w ∈ TB := by
  have h : wsX40.all (fun w => decide (w ∈ tables_1) && goodWord w) = true := by decide +kernel
  intro w hw
  have h1 := List.all_eq_true.mp h w hw
  simp only [Bool.and_eq_true, decide_eq_true_eq] at h1
  exact tb_T h1.1 h1.2
theorem cw_5 : ∀ w ∈ wsX50, w ∈ TB := by
  have h : wsX50.all (fun w => decide (w ∈ tables_1) && goodWord w) = true := by decide +kernel
  intro w hw
  have h1 := List.all_eq_true.mp h w hw
  simp only [Bool.and_eq_true, decide_eq_true_eq] at h1
  exact tb_T h1.1 h1.2
theorem cw_6 : ∀ w ∈ wsX60, w ∈ TB := by
  have h : wsX60.all (fun w => decide (w ∈ tables_1) && goodWord w) = true := by decide +kernel
  intro w hw
  have h1 := List.all_eq_true.mp h w hw
  simp only [Bool.and_eq_true, decide_eq_true_eq] at h1
  exact tb_T h1.1 h1.2
theorem cw_7 : ∀ w ∈ wsX70, w ∈ TB := by
  have h : wsX70.all (fun w => decide (w ∈ tables_1) && goodWord w) = true := by decide +kernel
  intro w hw
  have h1 := List.all_eq_true.mp h w hw
  simp only [Bool.and_eq_true, decide_eq_true_eq] at h1
  exact tb_T h1.1 h1.2
theorem cw_8 : ∀ w ∈ wsX80, w ∈ TB := by
  have h : wsX80.all (fun w => decide (w ∈ tables_1) && goodWord w) = true := by decide +kernel
  intro w hw
  have h1 := List.all_eq_true.mp h w hw
  simp only [Bool.and_eq_true, decide_eq_true_eq] at h1
  exact tb_T h1.1 h1.2
theorem cw_9 : ∀ w ∈ wsX90, w ∈ TB := by
  have h : wsX90.all (fun w => decide (w ∈ tables_1) && goodWord w) = true := by decide +kernel
  intro w hw
  have h1 := List.all_eq_true.mp h w hw
  simp only [Bool.and_eq_true, decide_eq_true_eq] at h1
  exact tb_T h1.1 h1.2
theorem cw_10 : ∀ w ∈ wsX100, w ∈ TB := by
  have h : wsX100.all (fun w => decide (w ∈ tables_1) && goodWord w) = true := by decide +kernel
  intro w hw
  have h1 := List.all_eq_true.mp h w hw
  simp only [Bool.and_eq_true, decide_eq_true_eq] at h1
  exact tb_T h1.1 h1.2
theorem cw_11 : ∀ w ∈ wsX110, w ∈ TB := by
  have h : wsX110.all (fun w => decide (w ∈ tables_1) && goodWord w) = true := by decide +kernel
  intro w hw
  have h1 := List.all_eq_true.mp h w hw
  simp only [Bool.and_eq_true, decide_eq_true_eq] at h1
  exact tb_T h1.1 h1.2

/-- the good words of the tables, and a method's own word ahead of them -/
def GT : List Cond := lw_tbl.filter goodWord
abbrev gW (y : MethodName) (c : ByteArray) (mx : Nat) (rt : Option FieldType) : List Cond := Cond.code y c mx rt :: GT
theorem GT_t {w : Cond} (h : w ∈ tables_1) (hg : goodWord w = true) : w ∈ GT := List.mem_filter.mpr ⟨List.mem_append_right _ h, hg⟩
theorem GT_s {w : Cond} (h : w ∈ k2_sels lw_privs) (hg : goodWord w = true) : w ∈ GT := List.mem_filter.mpr ⟨List.mem_append_left _ h, hg⟩
theorem GT_1 {w : Cond} (j : Nat) (h : tables_1_1[j]? = some w) (hg : goodWord w = true) : w ∈ GT := GT_t (List.mem_append_left _ (List.mem_of_getElem? h)) hg
theorem GT_2 {w : Cond} (j : Nat) (h : tables_1_2[j]? = some w) (hg : goodWord w = true) : w ∈ GT := GT_t (List.mem_append_right _ (List.mem_append_left _ (List.mem_of_getElem? h))) hg
theorem GT_3 {w : Cond} (j : Nat) (h : tables_1_3[j]? = some w) (hg : goodWord w = true) : w ∈ GT := GT_t (List.mem_append_right _ (List.mem_append_right _ (List.mem_append_left _ (List.mem_of_getElem? h)))) hg
theorem GT_4 {w : Cond} (j : Nat) (h : tables_1_4[j]? = some w) (hg : goodWord w = true) : w ∈ GT := GT_t (List.mem_append_right _ (List.mem_append_right _ (List.mem_append_right _ (List.mem_append_left _ (List.mem_of_getElem? h))))) hg
theorem GT_5 {w : Cond} (j : Nat) (h : tables_1_5[j]? = some w) (hg : goodWord w = true) : w ∈ GT := GT_t (List.mem_append_right _ (List.mem_append_right _ (List.mem_append_right _ (List.mem_append_right _ (List.mem_append_left _ (List.mem_of_getElem? h)))))) hg
theorem GT_6 {w : Cond} (j : Nat) (h : tables_1_6[j]? = some w) (hg : goodWord w = true) : w ∈ GT := GT_t (List.mem_append_right _ (List.mem_append_right _ (List.mem_append_right _ (List.mem_append_right _ (List.mem_append_right _ (List.mem_of_getElem? h)))))) hg
theorem GT_good {big ws : List Cond} (hb : ∀ w ∈ GT, w ∈ big) (hw : ∀ w ∈ ws, w ∈ GT) : GoodIn big ws := fun w h => ⟨hb w (hw w h), good_of_word (List.mem_filter.mp (hw w h)).2⟩
theorem gW_of {y : MethodName} {c : ByteArray} {mx : Nat} {rt : Option FieldType} {w : Cond} (h : w ∈ GT) : w ∈ gW y c mx rt := List.mem_cons_of_mem _ h
theorem gW_sub {y : MethodName} {c : ByteArray} {mx : Nat} {rt : Option FieldType} (h : Cond.code y c mx rt ∈ GT) : ∀ w ∈ gW y c mx rt, w ∈ GT := fun w hw => (List.mem_cons.mp hw).elim (fun e => e ▸ h) id
theorem goodV {y0 y : MethodName} {c0 c : ByteArray} {m0 m9 : Nat} {r0 r9 : Option FieldType} {own C : String} {ix : Nat} (h1 : Cond.methodLink own ix y ∈ GT) (h2 : Cond.instanceMethod y ∈ GT) (h3 : Cond.selects C y y ∈ GT) (h4 : Cond.initialized C ∈ GT) (h5 : Cond.code y c m9 r9 ∈ GT) : GoodIn (gW y0 c0 m0 r0) (wsV own ix C y (gW y c m9 r9)) :=
  GT_good (fun w h => gW_of h) (fun w h => (List.mem_append.mp h).elim (fun h => by
    rcases List.mem_cons.mp h with e | h
    · rw [e]; exact h1
    · rcases List.mem_cons.mp h with e | h
      · rw [e]; exact h2
      · rcases List.mem_cons.mp h with e | h
        · rw [e]; exact h3
        · rw [List.mem_singleton.mp h]; exact h4) (gW_sub h5 w))
theorem goodS {y0 y : MethodName} {c0 c : ByteArray} {m0 m9 : Nat} {r0 r9 : Option FieldType} {own : String} {ix : Nat} (h1 : Cond.methodLink own ix y ∈ GT) (h2 : Cond.static y ∈ GT) (h4 : Cond.initialized own ∈ GT) (h5 : Cond.code y c m9 r9 ∈ GT) : GoodIn (gW y0 c0 m0 r0) (wsS own ix y (gW y c m9 r9)) :=
  GT_good (fun w h => gW_of h) (fun w h => (List.mem_append.mp h).elim (fun h => by
    rcases List.mem_cons.mp h with e | h
    · rw [e]; exact h1
    · rcases List.mem_cons.mp h with e | h
      · rw [e]; exact h2
      · rw [List.mem_singleton.mp h]; exact h4) (gW_sub h5 w))
theorem goodN {y0 y : MethodName} {c0 c : ByteArray} {m0 m9 : Nat} {r0 r9 : Option FieldType} (h5 : Cond.code y c m9 r9 ∈ GT) : GoodIn (gW y0 c0 m0 r0) (gW y c m9 r9) := GT_good (fun w h => gW_of h) (gW_sub h5)
set_option maxRecDepth 20000 in
theorem tm_1_0 : Cond.initialized "FormatDumpLaw" ∈ GT := GT_1 0 rfl rfl
set_option maxRecDepth 20000 in
theorem tm_1_1 : Cond.initialized "FormatDump" ∈ GT := GT_1 1 rfl rfl
set_option maxRecDepth 20000 in
theorem tm_1_2 : Cond.initialized "FormatDump$Figures" ∈ GT := GT_1 2 rfl rfl
set_option maxRecDepth 20000 in
theorem tm_1_3 : Cond.initialized "FormatDump$Row" ∈ GT := GT_1 3 rfl rfl
set_option maxRecDepth 20000 in
theorem tm_1_4 : Cond.initialized "FormatDump$Arguments" ∈ GT := GT_1 4 rfl rfl
set_option maxRecDepth 20000 in
theorem tm_1_5 : Cond.initialized "FormatDump$Argument" ∈ GT := GT_1 5 rfl rfl
set_option maxRecDepth 20000 in
theorem tm_1_6 : Cond.initialized "FormatDump$NumberReading" ∈ GT := GT_1 6 rfl rfl
set_option maxRecDepth 20000 in
theorem tm_1_7 : Cond.initialized "FormatDump$Printer" ∈ GT := GT_1 7 rfl rfl
set_option maxRecDepth 20000 in
theorem tm_1_8 : Cond.initialized "FormatDump$Escape" ∈ GT := GT_1 8 rfl rfl
set_option maxRecDepth 20000 in
theorem tm_1_9 : Cond.initialized "FormatDump$Directive" ∈ GT := GT_1 9 rfl rfl
set_option maxRecDepth 20000 in
theorem tm_1_10 : Cond.initialized "FormatDump$WordDump" ∈ GT := GT_1 10 rfl rfl
set_option maxRecDepth 20000 in
theorem tm_1_11 : Cond.initialized "FormatDump$PairDump" ∈ GT := GT_1 11 rfl rfl
set_option maxRecDepth 20000 in
theorem tm_1_12 : Cond.initialized "FormatDump$PairReader" ∈ GT := GT_1 12 rfl rfl
set_option maxRecDepth 20000 in
theorem tm_1_13 : Cond.initialized "FormatDumpModel" ∈ GT := GT_1 13 rfl rfl
set_option maxRecDepth 20000 in
theorem tm_1_14 : Cond.initialized "java/lang/Throwable" ∈ GT := GT_1 14 rfl rfl
set_option maxRecDepth 20000 in
theorem tm_1_15 : Cond.initialized "java/lang/Exception" ∈ GT := GT_1 15 rfl rfl
set_option maxRecDepth 20000 in
theorem tm_1_16 : Cond.initialized "java/lang/RuntimeException" ∈ GT := GT_1 16 rfl rfl
set_option maxRecDepth 20000 in
theorem tm_1_17 : Cond.initialized "java/lang/IllegalStateException" ∈ GT := GT_1 17 rfl rfl
set_option maxRecDepth 20000 in
theorem tm_1_18 : Cond.initialized "java/lang/IllegalArgumentException" ∈ GT := GT_1 18 rfl rfl
set_option maxRecDepth 20000 in
theorem tm_1_19 : Cond.initialized "java/lang/Math" ∈ GT := GT_1 19 rfl rfl
set_option maxRecDepth 20000 in
theorem tm_1_20 : Cond.initialized "java/lang/IndexOutOfBoundsException" ∈ GT := GT_1 20 rfl rfl
set_option maxRecDepth 20000 in
theorem tm_1_21 : Cond.classLink "FormatDumpLaw" 8 "FormatDump" ∈ GT := GT_1 21 rfl rfl
set_option maxRecDepth 20000 in
theorem tm_1_22 : Cond.instantiable "FormatDump" 10 ∈ GT := GT_1 22 rfl rfl
set_option maxRecDepth 20000 in
theorem tm_1_23 : Cond.methodLink "FormatDumpLaw" 56 yX11_init ∈ GT := GT_1 23 rfl rfl
set_option maxRecDepth 20000 in
theorem tm_1_24 : Cond.instanceMethod yX11_init ∈ GT := GT_1 24 rfl rfl
set_option maxRecDepth 20000 in
theorem tm_1_25 : Cond.code yX11_init cX11_init 2 (Option.none : Option Jvm.ClassFile.FieldType) ∈ GT := GT_1 25 rfl rfl
set_option maxRecDepth 20000 in
theorem tm_1_26 : Cond.methodLink "FormatDump" 1 (⟨"java/lang/Object", "<init>", "()V"⟩ : MethodName) ∈ GT := GT_1 26 rfl rfl
set_option maxRecDepth 20000 in
theorem tm_1_27 : Cond.instanceMethod (⟨"java/lang/Object", "<init>", "()V"⟩ : MethodName) ∈ GT := GT_1 27 rfl rfl
set_option maxRecDepth 20000 in
theorem tm_1_28 : Cond.code (⟨"java/lang/Object", "<init>", "()V"⟩ : MethodName) object_method_1_code 1 (Option.none : Option Jvm.ClassFile.FieldType) ∈ GT := GT_1 28 rfl rfl
set_option maxRecDepth 20000 in
theorem tm_1_29 : Cond.classLink "FormatDump" 7 "FormatDump$Figures" ∈ GT := GT_1 29 rfl rfl
set_option maxRecDepth 20000 in
theorem tm_1_30 : Cond.instantiable "FormatDump$Figures" 3 ∈ GT := GT_1 30 rfl rfl
set_option maxRecDepth 20000 in
theorem tm_1_31 : Cond.methodLink "FormatDump" 9 yX4_init ∈ GT := GT_1 31 rfl rfl
set_option maxRecDepth 20000 in
theorem tm_1_32 : Cond.instanceMethod yX4_init ∈ GT := GT_1 32 rfl rfl
set_option maxRecDepth 20000 in
theorem tm_1_33 : Cond.code yX4_init cX4_init 1 (Option.none : Option Jvm.ClassFile.FieldType) ∈ GT := GT_1 33 rfl rfl
set_option maxRecDepth 20000 in
theorem tm_1_34 : Cond.methodLink "FormatDump$Figures" 3 (⟨"java/lang/Object", "<init>", "()V"⟩ : MethodName) ∈ GT := GT_1 34 rfl rfl
set_option maxRecDepth 20000 in
theorem tm_1_35 : Cond.fieldLink "FormatDump$Figures" 9 "FormatDump$Figures" "lowestFirst" "[I" ∈ GT := GT_1 35 rfl rfl
set_option maxRecDepth 20000 in
theorem tm_1_36 : Cond.fieldLink "FormatDump$Figures" 15 "FormatDump$Figures" "size" "I" ∈ GT := GT_1 36 rfl rfl
set_option maxRecDepth 20000 in
theorem tm_1_37 : Cond.fieldLink "FormatDump$Figures" 19 "FormatDump$Figures" "large" "Z" ∈ GT := GT_1 37 rfl rfl
set_option maxRecDepth 20000 in
theorem tm_1_45 : Cond.arrayClass Jvm.ClassFile.FieldType.int ∈ GT := GT_1 45 rfl rfl
set_option maxRecDepth 20000 in
theorem tm_1_46 : Cond.classLink "FormatDump" 10 "FormatDump$Row" ∈ GT := GT_1 46 rfl rfl
set_option maxRecDepth 20000 in
theorem tm_1_47 : Cond.instantiable "FormatDump$Row" 4 ∈ GT := GT_1 47 rfl rfl
set_option maxRecDepth 20000 in
theorem tm_1_48 : Cond.methodLink "FormatDump" 14 yX9_init ∈ GT := GT_1 48 rfl rfl
set_option maxRecDepth 20000 in
theorem tm_1_49 : Cond.instanceMethod yX9_init ∈ GT := GT_1 49 rfl rfl
set_option maxRecDepth 20000 in
theorem tm_1_50 : Cond.code yX9_init cX9_init 2 (Option.none : Option Jvm.ClassFile.FieldType) ∈ GT := GT_1 50 rfl rfl
set_option maxRecDepth 20000 in
theorem tm_1_51 : Cond.methodLink "FormatDump$Row" 3 (⟨"java/lang/Object", "<init>", "()V"⟩ : MethodName) ∈ GT := GT_1 51 rfl rfl
set_option maxRecDepth 20000 in
theorem tm_1_52 : Cond.fieldLink "FormatDump$Row" 9 "FormatDump$Row" "cells" "[I" ∈ GT := GT_1 52 rfl rfl
set_option maxRecDepth 20000 in
theorem tm_1_53 : Cond.fieldLink "FormatDump$Row" 15 "FormatDump$Row" "limit" "I" ∈ GT := GT_1 53 rfl rfl
set_option maxRecDepth 20000 in
theorem tm_1_54 : Cond.fieldLink "FormatDump$Row" 19 "FormatDump$Row" "size" "I" ∈ GT := GT_1 54 rfl rfl
set_option maxRecDepth 20000 in
theorem tm_1_55 : Cond.fieldLink "FormatDump$Row" 22 "FormatDump$Row" "over" "Z" ∈ GT := GT_1 55 rfl rfl
set_option maxRecDepth 20000 in
theorem tm_1_65 : Cond.classLink "FormatDump" 27 "FormatDump$Arguments" ∈ GT := GT_1 65 rfl rfl
set_option maxRecDepth 20000 in
theorem tm_1_66 : Cond.instantiable "FormatDump$Arguments" 5 ∈ GT := GT_1 66 rfl rfl
set_option maxRecDepth 20000 in
theorem tm_1_67 : Cond.methodLink "FormatDump" 29 yX1_init ∈ GT := GT_1 67 rfl rfl
set_option maxRecDepth 20000 in
theorem tm_1_68 : Cond.instanceMethod yX1_init ∈ GT := GT_1 68 rfl rfl
set_option maxRecDepth 20000 in
theorem tm_1_69 : Cond.code yX1_init cX1_init 2 (Option.none : Option Jvm.ClassFile.FieldType) ∈ GT := GT_1 69 rfl rfl
set_option maxRecDepth 20000 in
theorem tm_1_70 : Cond.methodLink "FormatDump$Arguments" 3 (⟨"java/lang/Object", "<init>", "()V"⟩ : MethodName) ∈ GT := GT_1 70 rfl rfl
set_option maxRecDepth 20000 in
theorem tm_1_71 : Cond.classLink "FormatDump$Arguments" 9 "FormatDump$Argument" ∈ GT := GT_1 71 rfl rfl
set_option maxRecDepth 20000 in
theorem tm_1_73 : Cond.instantiable "FormatDump$Argument" 3 ∈ GT := GT_1 73 rfl rfl
set_option maxRecDepth 20000 in
theorem tm_1_74 : Cond.methodLink "FormatDump$Arguments" 17 yX0_init ∈ GT := GT_1 74 rfl rfl
set_option maxRecDepth 20000 in
theorem tm_1_75 : Cond.instanceMethod yX0_init ∈ GT := GT_1 75 rfl rfl
set_option maxRecDepth 20000 in
theorem tm_1_76 : Cond.code yX0_init cX0_init 1 (Option.none : Option Jvm.ClassFile.FieldType) ∈ GT := GT_1 76 rfl rfl
set_option maxRecDepth 20000 in
theorem tm_1_77 : Cond.methodLink "FormatDump$Argument" 3 (⟨"java/lang/Object", "<init>", "()V"⟩ : MethodName) ∈ GT := GT_1 77 rfl rfl
set_option maxRecDepth 20000 in
theorem tm_1_78 : Cond.classLink "FormatDump$Argument" 9 "FormatDump$Row" ∈ GT := GT_1 78 rfl rfl
set_option maxRecDepth 20000 in
theorem tm_1_79 : Cond.methodLink "FormatDump$Argument" 11 yX9_init ∈ GT := GT_1 79 rfl rfl
set_option maxRecDepth 20000 in
theorem tm_1_80 : Cond.fieldLink "FormatDump$Argument" 14 "FormatDump$Argument" "characters" "LFormatDump$Row;" ∈ GT := GT_1 80 rfl rfl
set_option maxRecDepth 20000 in
theorem tm_1_81 : Cond.fieldLink "FormatDump$Arguments" 43 "FormatDump$Argument" "characters" "LFormatDump$Row;" ∈ GT := GT_1 81 rfl rfl
set_option maxRecDepth 20000 in
theorem tm_1_82 : Cond.fieldLink "FormatDump$Printer" 145 "FormatDump$Argument" "characters" "LFormatDump$Row;" ∈ GT := GT_1 82 rfl rfl
set_option maxRecDepth 20000 in
theorem tm_1_83 : Cond.fieldLink "FormatDump$Argument" 20 "FormatDump$Argument" "isText" "Z" ∈ GT := GT_1 83 rfl rfl
set_option maxRecDepth 20000 in
theorem tm_1_84 : Cond.fieldLink "FormatDump$Arguments" 35 "FormatDump$Argument" "isText" "Z" ∈ GT := GT_1 84 rfl rfl
set_option maxRecDepth 20000 in
theorem tm_1_85 : Cond.fieldLink "FormatDump$Printer" 137 "FormatDump$Argument" "isText" "Z" ∈ GT := GT_1 85 rfl rfl
set_option maxRecDepth 20000 in
theorem tm_1_86 : Cond.fieldLink "FormatDump$Argument" 24 "FormatDump$Argument" "value" "J" ∈ GT := GT_1 86 rfl rfl
set_option maxRecDepth 20000 in
theorem tm_1_87 : Cond.fieldLink "FormatDump$Arguments" 39 "FormatDump$Argument" "value" "J" ∈ GT := GT_1 87 rfl rfl
set_option maxRecDepth 20000 in
theorem tm_1_88 : Cond.fieldLink "FormatDump$Printer" 142 "FormatDump$Argument" "value" "J" ∈ GT := GT_1 88 rfl rfl
set_option maxRecDepth 20000 in
theorem tm_1_96 : Cond.classLink "FormatDump$Arguments" 18 "FormatDump$NumberReading" ∈ GT := GT_1 96 rfl rfl
set_option maxRecDepth 20000 in
theorem tm_1_97 : Cond.instantiable "FormatDump$NumberReading" 2 ∈ GT := GT_1 97 rfl rfl
set_option maxRecDepth 20000 in
theorem tm_1_98 : Cond.methodLink "FormatDump$Arguments" 20 yX5_init ∈ GT := GT_1 98 rfl rfl
set_option maxRecDepth 20000 in
theorem tm_1_99 : Cond.instanceMethod yX5_init ∈ GT := GT_1 99 rfl rfl
set_option maxRecDepth 20000 in
theorem tm_1_100 : Cond.code yX5_init cX5_init 1 (Option.none : Option Jvm.ClassFile.FieldType) ∈ GT := GT_1 100 rfl rfl
set_option maxRecDepth 20000 in
theorem tm_1_101 : Cond.methodLink "FormatDump$NumberReading" 3 (⟨"java/lang/Object", "<init>", "()V"⟩ : MethodName) ∈ GT := GT_1 101 rfl rfl
set_option maxRecDepth 20000 in
theorem tm_1_102 : Cond.fieldLink "FormatDump$NumberReading" 9 "FormatDump$NumberReading" "value" "J" ∈ GT := GT_1 102 rfl rfl
set_option maxRecDepth 20000 in
theorem tm_1_103 : Cond.fieldLink "FormatDump$NumberReading" 15 "FormatDump$NumberReading" "odd" "Z" ∈ GT := GT_1 103 rfl rfl
set_option maxRecDepth 20000 in
theorem tm_1_109 : Cond.fieldLink "FormatDump$Arguments" 11 "FormatDump$Arguments" "all" "[LFormatDump$Argument;" ∈ GT := GT_1 109 rfl rfl
set_option maxRecDepth 20000 in
theorem tm_1_110 : Cond.fieldLink "FormatDump$Arguments" 21 "FormatDump$Arguments" "reading" "LFormatDump$NumberReading;" ∈ GT := GT_1 110 rfl rfl
set_option maxRecDepth 20000 in
theorem tm_1_111 : Cond.fieldLink "FormatDump$Arguments" 25 "FormatDump$Arguments" "count" "I" ∈ GT := GT_1 111 rfl rfl
set_option maxRecDepth 20000 in
theorem tm_1_112 : Cond.fieldLink "FormatDump$Arguments" 29 "FormatDump$Arguments" "taken" "I" ∈ GT := GT_1 112 rfl rfl
set_option maxRecDepth 20000 in
theorem tm_1_113 : Cond.fieldLink "FormatDump$Arguments" 32 "FormatDump$Arguments" "oddTexts" "I" ∈ GT := GT_1 113 rfl rfl
set_option maxRecDepth 20000 in
theorem tm_1_125 : Cond.classLink "FormatDump" 34 "FormatDump$Printer" ∈ GT := GT_1 125 rfl rfl
set_option maxRecDepth 20000 in
theorem tm_1_126 : Cond.instantiable "FormatDump$Printer" 8 ∈ GT := GT_1 126 rfl rfl
set_option maxRecDepth 20000 in
theorem tm_1_127 : Cond.methodLink "FormatDump" 36 yX8_init ∈ GT := GT_1 127 rfl rfl
set_option maxRecDepth 20000 in
theorem tm_1_128 : Cond.instanceMethod yX8_init ∈ GT := GT_1 128 rfl rfl
set_option maxRecDepth 20000 in
theorem tm_1_129 : Cond.code yX8_init cX8_init 4 (Option.none : Option Jvm.ClassFile.FieldType) ∈ GT := GT_1 129 rfl rfl
set_option maxRecDepth 20000 in
theorem tm_1_130 : Cond.methodLink "FormatDump$Printer" 3 (⟨"java/lang/Object", "<init>", "()V"⟩ : MethodName) ∈ GT := GT_1 130 rfl rfl
set_option maxRecDepth 20000 in
theorem tm_1_131 : Cond.classLink "FormatDump$Printer" 23 "FormatDump$Escape" ∈ GT := GT_1 131 rfl rfl
set_option maxRecDepth 20000 in
theorem tm_1_132 : Cond.instantiable "FormatDump$Escape" 2 ∈ GT := GT_1 132 rfl rfl
set_option maxRecDepth 20000 in
theorem tm_1_133 : Cond.methodLink "FormatDump$Printer" 25 yX3_init ∈ GT := GT_1 133 rfl rfl
set_option maxRecDepth 20000 in
theorem tm_1_134 : Cond.instanceMethod yX3_init ∈ GT := GT_1 134 rfl rfl
set_option maxRecDepth 20000 in
theorem tm_1_135 : Cond.code yX3_init cX3_init 1 (Option.none : Option Jvm.ClassFile.FieldType) ∈ GT := GT_1 135 rfl rfl
set_option maxRecDepth 20000 in
theorem tm_1_136 : Cond.methodLink "FormatDump$Escape" 3 (⟨"java/lang/Object", "<init>", "()V"⟩ : MethodName) ∈ GT := GT_1 136 rfl rfl
set_option maxRecDepth 20000 in
theorem tm_1_137 : Cond.fieldLink "FormatDump$Escape" 9 "FormatDump$Escape" "value" "I" ∈ GT := GT_1 137 rfl rfl
set_option maxRecDepth 20000 in
theorem tm_1_138 : Cond.fieldLink "FormatDump$Escape" 15 "FormatDump$Escape" "end" "I" ∈ GT := GT_1 138 rfl rfl
set_option maxRecDepth 20000 in
theorem tm_1_144 : Cond.classLink "FormatDump$Printer" 30 "FormatDump$Directive" ∈ GT := GT_1 144 rfl rfl
set_option maxRecDepth 20000 in
theorem tm_1_145 : Cond.instantiable "FormatDump$Directive" 12 ∈ GT := GT_1 145 rfl rfl
set_option maxRecDepth 20000 in
theorem tm_1_146 : Cond.methodLink "FormatDump$Printer" 32 yX2_init ∈ GT := GT_1 146 rfl rfl
set_option maxRecDepth 20000 in
theorem tm_1_147 : Cond.instanceMethod yX2_init ∈ GT := GT_1 147 rfl rfl
set_option maxRecDepth 20000 in
theorem tm_1_148 : Cond.code yX2_init cX2_init 1 (Option.none : Option Jvm.ClassFile.FieldType) ∈ GT := GT_1 148 rfl rfl
set_option maxRecDepth 20000 in
theorem tm_1_149 : Cond.methodLink "FormatDump$Directive" 3 (⟨"java/lang/Object", "<init>", "()V"⟩ : MethodName) ∈ GT := GT_1 149 rfl rfl
set_option maxRecDepth 20000 in
theorem tm_1_150 : Cond.methodLink "FormatDump$Directive" 9 yX2_forget ∈ GT := GT_1 150 rfl rfl
set_option maxRecDepth 20000 in
theorem tm_1_152 : Cond.instanceMethod yX2_forget ∈ GT := GT_1 152 rfl rfl
set_option maxRecDepth 20000 in
theorem tm_1_153 : Cond.code yX2_forget cX2_forget 1 (Option.none : Option Jvm.ClassFile.FieldType) ∈ GT := GT_1 153 rfl rfl
set_option maxRecDepth 20000 in
theorem tm_1_154 : Cond.fieldLink "FormatDump$Directive" 51 "FormatDump$Directive" "flagLeft" "Z" ∈ GT := GT_1 154 rfl rfl
set_option maxRecDepth 20000 in
theorem tm_1_155 : Cond.fieldLink "FormatDump$Printer" 177 "FormatDump$Directive" "flagLeft" "Z" ∈ GT := GT_1 155 rfl rfl
set_option maxRecDepth 20000 in
theorem tm_1_156 : Cond.fieldLink "FormatDump$Directive" 77 "FormatDump$Directive" "flagPlus" "Z" ∈ GT := GT_1 156 rfl rfl
set_option maxRecDepth 20000 in
theorem tm_1_157 : Cond.fieldLink "FormatDump$Printer" 221 "FormatDump$Directive" "flagPlus" "Z" ∈ GT := GT_1 157 rfl rfl
set_option maxRecDepth 20000 in
theorem tm_1_158 : Cond.fieldLink "FormatDump$Directive" 80 "FormatDump$Directive" "flagBlank" "Z" ∈ GT := GT_1 158 rfl rfl
set_option maxRecDepth 20000 in
theorem tm_1_159 : Cond.fieldLink "FormatDump$Printer" 224 "FormatDump$Directive" "flagBlank" "Z" ∈ GT := GT_1 159 rfl rfl
set_option maxRecDepth 20000 in
theorem tm_1_160 : Cond.fieldLink "FormatDump$Directive" 83 "FormatDump$Directive" "flagMark" "Z" ∈ GT := GT_1 160 rfl rfl
set_option maxRecDepth 20000 in
theorem tm_1_161 : Cond.fieldLink "FormatDump$Printer" 198 "FormatDump$Directive" "flagMark" "Z" ∈ GT := GT_1 161 rfl rfl
set_option maxRecDepth 20000 in
theorem tm_1_162 : Cond.fieldLink "FormatDump$Directive" 47 "FormatDump$Directive" "flagZero" "Z" ∈ GT := GT_1 162 rfl rfl
set_option maxRecDepth 20000 in
theorem tm_1_163 : Cond.fieldLink "FormatDump$Printer" 94 "FormatDump$Directive" "starWidth" "Z" ∈ GT := GT_1 163 rfl rfl
set_option maxRecDepth 20000 in
theorem tm_1_164 : Cond.fieldLink "FormatDump$Directive" 86 "FormatDump$Directive" "starWidth" "Z" ∈ GT := GT_1 164 rfl rfl
set_option maxRecDepth 20000 in
theorem tm_1_165 : Cond.fieldLink "FormatDump$Printer" 105 "FormatDump$Directive" "starPrecision" "Z" ∈ GT := GT_1 165 rfl rfl
set_option maxRecDepth 20000 in
theorem tm_1_166 : Cond.fieldLink "FormatDump$Directive" 89 "FormatDump$Directive" "starPrecision" "Z" ∈ GT := GT_1 166 rfl rfl
set_option maxRecDepth 20000 in
theorem tm_1_167 : Cond.fieldLink "FormatDump$Directive" 61 "FormatDump$Directive" "width" "I" ∈ GT := GT_1 167 rfl rfl
set_option maxRecDepth 20000 in
theorem tm_1_168 : Cond.fieldLink "FormatDump$Printer" 174 "FormatDump$Directive" "width" "I" ∈ GT := GT_1 168 rfl rfl
set_option maxRecDepth 20000 in
theorem tm_1_169 : Cond.fieldLink "FormatDump$Directive" 54 "FormatDump$Directive" "precision" "I" ∈ GT := GT_1 169 rfl rfl
set_option maxRecDepth 20000 in
theorem tm_1_170 : Cond.fieldLink "FormatDump$Printer" 168 "FormatDump$Directive" "precision" "I" ∈ GT := GT_1 170 rfl rfl
set_option maxRecDepth 20000 in
theorem tm_1_171 : Cond.fieldLink "FormatDump$Directive" 92 "FormatDump$Directive" "bits" "I" ∈ GT := GT_1 171 rfl rfl
set_option maxRecDepth 20000 in
theorem tm_1_172 : Cond.fieldLink "FormatDump$Printer" 211 "FormatDump$Directive" "bits" "I" ∈ GT := GT_1 172 rfl rfl
set_option maxRecDepth 20000 in
theorem tm_1_173 : Cond.fieldLink "FormatDump$Directive" 37 "FormatDump$Directive" "letter" "I" ∈ GT := GT_1 173 rfl rfl
set_option maxRecDepth 20000 in
theorem tm_1_174 : Cond.fieldLink "FormatDump$Printer" 111 "FormatDump$Directive" "letter" "I" ∈ GT := GT_1 174 rfl rfl
set_option maxRecDepth 20000 in
theorem tm_1_175 : Cond.fieldLink "FormatDump$Directive" 14 "FormatDump$Directive" "end" "I" ∈ GT := GT_1 175 rfl rfl
set_option maxRecDepth 20000 in
theorem tm_1_176 : Cond.fieldLink "FormatDump$Printer" 91 "FormatDump$Directive" "end" "I" ∈ GT := GT_1 176 rfl rfl
set_option maxRecDepth 20000 in
theorem tm_1_202 : Cond.classLink "FormatDump$Printer" 37 "FormatDump$Row" ∈ GT := GT_1 202 rfl rfl
set_option maxRecDepth 20000 in
theorem tm_1_203 : Cond.methodLink "FormatDump$Printer" 39 yX9_init ∈ GT := GT_1 203 rfl rfl
set_option maxRecDepth 20000 in
theorem tm_1_204 : Cond.fieldLink "FormatDump$Printer" 9 "FormatDump$Printer" "page" "LFormatDump$Row;" ∈ GT := GT_1 204 rfl rfl
set_option maxRecDepth 20000 in
theorem tm_1_205 : Cond.fieldLink "FormatDump$Printer" 15 "FormatDump$Printer" "arguments" "LFormatDump$Arguments;" ∈ GT := GT_1 205 rfl rfl
set_option maxRecDepth 20000 in
theorem tm_1_206 : Cond.fieldLink "FormatDump$Printer" 19 "FormatDump$Printer" "figures" "LFormatDump$Figures;" ∈ GT := GT_1 206 rfl rfl
set_option maxRecDepth 20000 in
theorem tm_1_207 : Cond.fieldLink "FormatDump$Printer" 26 "FormatDump$Printer" "escape" "LFormatDump$Escape;" ∈ GT := GT_1 207 rfl rfl
set_option maxRecDepth 20000 in
theorem tm_1_208 : Cond.fieldLink "FormatDump$Printer" 33 "FormatDump$Printer" "directive" "LFormatDump$Directive;" ∈ GT := GT_1 208 rfl rfl
set_option maxRecDepth 20000 in
theorem tm_1_209 : Cond.fieldLink "FormatDump$Printer" 42 "FormatDump$Printer" "piece" "LFormatDump$Row;" ∈ GT := GT_1 209 rfl rfl
set_option maxRecDepth 20000 in
theorem tm_1_210 : Cond.fieldLink "FormatDump$Printer" 45 "FormatDump$Printer" "raw" "LFormatDump$Row;" ∈ GT := GT_1 210 rfl rfl
set_option maxRecDepth 20000 in
theorem tm_1_211 : Cond.fieldLink "FormatDump$Printer" 48 "FormatDump$Printer" "ended" "Z" ∈ GT := GT_1 211 rfl rfl
set_option maxRecDepth 20000 in
theorem tm_1_229 : Cond.classLink "FormatDump" 43 "FormatDump$WordDump" ∈ GT := GT_1 229 rfl rfl
set_option maxRecDepth 20000 in
theorem tm_1_230 : Cond.instantiable "FormatDump$WordDump" 7 ∈ GT := GT_1 230 rfl rfl
set_option maxRecDepth 20000 in
theorem tm_1_231 : Cond.methodLink "FormatDump" 45 yX10_init ∈ GT := GT_1 231 rfl rfl
set_option maxRecDepth 20000 in
theorem tm_1_232 : Cond.instanceMethod yX10_init ∈ GT := GT_1 232 rfl rfl
set_option maxRecDepth 20000 in
theorem tm_1_233 : Cond.code yX10_init cX10_init 4 (Option.none : Option Jvm.ClassFile.FieldType) ∈ GT := GT_1 233 rfl rfl
set_option maxRecDepth 20000 in
theorem tm_1_234 : Cond.methodLink "FormatDump$WordDump" 3 (⟨"java/lang/Object", "<init>", "()V"⟩ : MethodName) ∈ GT := GT_1 234 rfl rfl
set_option maxRecDepth 20000 in
theorem tm_1_235 : Cond.classLink "FormatDump$WordDump" 22 "FormatDump$Row" ∈ GT := GT_1 235 rfl rfl
set_option maxRecDepth 20000 in
theorem tm_1_236 : Cond.methodLink "FormatDump$WordDump" 24 yX9_init ∈ GT := GT_1 236 rfl rfl
set_option maxRecDepth 20000 in
theorem tm_1_237 : Cond.fieldLink "FormatDump$WordDump" 9 "FormatDump$WordDump" "page" "LFormatDump$Row;" ∈ GT := GT_1 237 rfl rfl
set_option maxRecDepth 20000 in
theorem tm_1_238 : Cond.fieldLink "FormatDump$WordDump" 15 "FormatDump$WordDump" "bytes" "LFormatDump$Row;" ∈ GT := GT_1 238 rfl rfl
set_option maxRecDepth 20000 in
theorem tm_1_239 : Cond.fieldLink "FormatDump$WordDump" 18 "FormatDump$WordDump" "figures" "LFormatDump$Figures;" ∈ GT := GT_1 239 rfl rfl
set_option maxRecDepth 20000 in
theorem tm_2_0 : Cond.fieldLink "FormatDump$WordDump" 27 "FormatDump$WordDump" "field" "LFormatDump$Row;" ∈ GT := GT_2 0 rfl rfl
set_option maxRecDepth 20000 in
theorem tm_2_1 : Cond.fieldLink "FormatDump$WordDump" 30 "FormatDump$WordDump" "addressBase" "I" ∈ GT := GT_2 1 rfl rfl
set_option maxRecDepth 20000 in
theorem tm_2_2 : Cond.fieldLink "FormatDump$WordDump" 34 "FormatDump$WordDump" "letter" "C" ∈ GT := GT_2 2 rfl rfl
set_option maxRecDepth 20000 in
theorem tm_2_3 : Cond.fieldLink "FormatDump$WordDump" 38 "FormatDump$WordDump" "wordSize" "I" ∈ GT := GT_2 3 rfl rfl
set_option maxRecDepth 20000 in
theorem tm_2_19 : Cond.classLink "FormatDump" 52 "FormatDump$PairDump" ∈ GT := GT_2 19 rfl rfl
set_option maxRecDepth 20000 in
theorem tm_2_20 : Cond.instantiable "FormatDump$PairDump" 3 ∈ GT := GT_2 20 rfl rfl
set_option maxRecDepth 20000 in
theorem tm_2_21 : Cond.methodLink "FormatDump" 54 yX6_init ∈ GT := GT_2 21 rfl rfl
set_option maxRecDepth 20000 in
theorem tm_2_22 : Cond.instanceMethod yX6_init ∈ GT := GT_2 22 rfl rfl
set_option maxRecDepth 20000 in
theorem tm_2_23 : Cond.code yX6_init cX6_init 4 (Option.none : Option Jvm.ClassFile.FieldType) ∈ GT := GT_2 23 rfl rfl
set_option maxRecDepth 20000 in
theorem tm_2_24 : Cond.methodLink "FormatDump$PairDump" 3 (⟨"java/lang/Object", "<init>", "()V"⟩ : MethodName) ∈ GT := GT_2 24 rfl rfl
set_option maxRecDepth 20000 in
theorem tm_2_25 : Cond.fieldLink "FormatDump$PairDump" 9 "FormatDump$PairDump" "page" "LFormatDump$Row;" ∈ GT := GT_2 25 rfl rfl
set_option maxRecDepth 20000 in
theorem tm_2_26 : Cond.fieldLink "FormatDump$PairDump" 15 "FormatDump$PairDump" "bytes" "LFormatDump$Row;" ∈ GT := GT_2 26 rfl rfl
set_option maxRecDepth 20000 in
theorem tm_2_27 : Cond.fieldLink "FormatDump$PairDump" 18 "FormatDump$PairDump" "figures" "LFormatDump$Figures;" ∈ GT := GT_2 27 rfl rfl
set_option maxRecDepth 20000 in
theorem tm_2_35 : Cond.classLink "FormatDump" 59 "FormatDump$PairReader" ∈ GT := GT_2 35 rfl rfl
set_option maxRecDepth 20000 in
theorem tm_2_36 : Cond.instantiable "FormatDump$PairReader" 5 ∈ GT := GT_2 36 rfl rfl
set_option maxRecDepth 20000 in
theorem tm_2_37 : Cond.methodLink "FormatDump" 61 yX7_init ∈ GT := GT_2 37 rfl rfl
set_option maxRecDepth 20000 in
theorem tm_2_38 : Cond.instanceMethod yX7_init ∈ GT := GT_2 38 rfl rfl
set_option maxRecDepth 20000 in
theorem tm_2_39 : Cond.code yX7_init cX7_init 2 (Option.none : Option Jvm.ClassFile.FieldType) ∈ GT := GT_2 39 rfl rfl
set_option maxRecDepth 20000 in
theorem tm_2_40 : Cond.methodLink "FormatDump$PairReader" 3 (⟨"java/lang/Object", "<init>", "()V"⟩ : MethodName) ∈ GT := GT_2 40 rfl rfl
set_option maxRecDepth 20000 in
theorem tm_2_41 : Cond.classLink "FormatDump$PairReader" 15 "FormatDump$Row" ∈ GT := GT_2 41 rfl rfl
set_option maxRecDepth 20000 in
theorem tm_2_42 : Cond.methodLink "FormatDump$PairReader" 17 yX9_init ∈ GT := GT_2 42 rfl rfl
set_option maxRecDepth 20000 in
theorem tm_2_43 : Cond.fieldLink "FormatDump$PairReader" 9 "FormatDump$PairReader" "page" "LFormatDump$Row;" ∈ GT := GT_2 43 rfl rfl
set_option maxRecDepth 20000 in
theorem tm_2_44 : Cond.fieldLink "FormatDump$PairReader" 20 "FormatDump$PairReader" "found" "LFormatDump$Row;" ∈ GT := GT_2 44 rfl rfl
set_option maxRecDepth 20000 in
theorem tm_2_45 : Cond.fieldLink "FormatDump$PairReader" 23 "FormatDump$PairReader" "lineBytes" "LFormatDump$Row;" ∈ GT := GT_2 45 rfl rfl
set_option maxRecDepth 20000 in
theorem tm_2_46 : Cond.fieldLink "FormatDump$PairReader" 26 "FormatDump$PairReader" "total" "I" ∈ GT := GT_2 46 rfl rfl
set_option maxRecDepth 20000 in
theorem tm_2_47 : Cond.fieldLink "FormatDump$PairReader" 30 "FormatDump$PairReader" "at" "I" ∈ GT := GT_2 47 rfl rfl
set_option maxRecDepth 20000 in
theorem tm_2_59 : Cond.fieldLink "FormatDump" 17 "FormatDump" "line" "LFormatDump$Row;" ∈ GT := GT_2 59 rfl rfl
set_option maxRecDepth 20000 in
theorem tm_2_60 : Cond.fieldLink "FormatDump" 21 "FormatDump" "page" "LFormatDump$Row;" ∈ GT := GT_2 60 rfl rfl
set_option maxRecDepth 20000 in
theorem tm_2_61 : Cond.fieldLink "FormatDump" 24 "FormatDump" "bytes" "LFormatDump$Row;" ∈ GT := GT_2 61 rfl rfl
set_option maxRecDepth 20000 in
theorem tm_2_62 : Cond.fieldLink "FormatDump" 30 "FormatDump" "arguments" "LFormatDump$Arguments;" ∈ GT := GT_2 62 rfl rfl
set_option maxRecDepth 20000 in
theorem tm_2_63 : Cond.fieldLink "FormatDump" 39 "FormatDump" "printer" "LFormatDump$Printer;" ∈ GT := GT_2 63 rfl rfl
set_option maxRecDepth 20000 in
theorem tm_2_64 : Cond.fieldLink "FormatDump" 48 "FormatDump" "wordDump" "LFormatDump$WordDump;" ∈ GT := GT_2 64 rfl rfl
set_option maxRecDepth 20000 in
theorem tm_2_65 : Cond.fieldLink "FormatDump" 55 "FormatDump" "pairDump" "LFormatDump$PairDump;" ∈ GT := GT_2 65 rfl rfl
set_option maxRecDepth 20000 in
theorem tm_2_66 : Cond.fieldLink "FormatDump" 64 "FormatDump" "pairReader" "LFormatDump$PairReader;" ∈ GT := GT_2 66 rfl rfl
set_option maxRecDepth 20000 in
theorem tm_2_67 : Cond.fieldLink "FormatDump" 68 "FormatDump" "faultPlace" "I" ∈ GT := GT_2 67 rfl rfl
set_option maxRecDepth 20000 in
theorem tm_2_68 : Cond.fieldLink "FormatDump" 72 "FormatDump" "oddTexts" "I" ∈ GT := GT_2 68 rfl rfl
set_option maxRecDepth 20000 in
theorem tm_2_90 : Cond.methodLink "FormatDumpLaw" 69 yX11_erase ∈ GT := GT_2 90 rfl rfl
set_option maxRecDepth 20000 in
theorem tm_2_91 : Cond.instanceMethod yX11_erase ∈ GT := GT_2 91 rfl rfl
set_option maxRecDepth 20000 in
theorem tm_2_92 : Cond.selects "FormatDump" yX11_erase yX11_erase ∈ GT := GT_2 92 rfl rfl
set_option maxRecDepth 20000 in
theorem tm_2_93 : Cond.code yX11_erase cX11_erase 2 (Option.some Jvm.ClassFile.FieldType.int) ∈ GT := GT_2 93 rfl rfl
set_option maxRecDepth 20000 in
theorem tm_2_94 : Cond.methodLink "FormatDump" 79 yX9_size ∈ GT := GT_2 94 rfl rfl
set_option maxRecDepth 20000 in
theorem tm_2_95 : Cond.instanceMethod yX9_size ∈ GT := GT_2 95 rfl rfl
set_option maxRecDepth 20000 in
theorem tm_2_96 : Cond.selects "FormatDump$Row" yX9_size yX9_size ∈ GT := GT_2 96 rfl rfl
set_option maxRecDepth 20000 in
theorem tm_2_97 : Cond.code yX9_size cX9_size 1 (Option.some Jvm.ClassFile.FieldType.int) ∈ GT := GT_2 97 rfl rfl
set_option maxRecDepth 20000 in
theorem tm_2_98 : Cond.methodLink "FormatDump" 89 yX9_clear ∈ GT := GT_2 98 rfl rfl
set_option maxRecDepth 20000 in
theorem tm_2_99 : Cond.instanceMethod yX9_clear ∈ GT := GT_2 99 rfl rfl
set_option maxRecDepth 20000 in
theorem tm_2_100 : Cond.selects "FormatDump$Row" yX9_clear yX9_clear ∈ GT := GT_2 100 rfl rfl
set_option maxRecDepth 20000 in
theorem tm_2_101 : Cond.code yX9_clear cX9_clear 1 (Option.none : Option Jvm.ClassFile.FieldType) ∈ GT := GT_2 101 rfl rfl
set_option maxRecDepth 20000 in
theorem tm_2_102 : Cond.methodLink "FormatDumpLaw" 83 yX11_none ∈ GT := GT_2 102 rfl rfl
set_option maxRecDepth 20000 in
theorem tm_2_103 : Cond.instanceMethod yX11_none ∈ GT := GT_2 103 rfl rfl
set_option maxRecDepth 20000 in
theorem tm_2_104 : Cond.selects "FormatDump" yX11_none yX11_none ∈ GT := GT_2 104 rfl rfl
set_option maxRecDepth 20000 in
theorem tm_2_105 : Cond.code yX11_none cX11_none 2 (Option.some Jvm.ClassFile.FieldType.int) ∈ GT := GT_2 105 rfl rfl
set_option maxRecDepth 20000 in
theorem tm_2_106 : Cond.methodLink "FormatDump" 92 yX1_count ∈ GT := GT_2 106 rfl rfl
set_option maxRecDepth 20000 in
theorem tm_2_107 : Cond.instanceMethod yX1_count ∈ GT := GT_2 107 rfl rfl
set_option maxRecDepth 20000 in
theorem tm_2_108 : Cond.selects "FormatDump$Arguments" yX1_count yX1_count ∈ GT := GT_2 108 rfl rfl
set_option maxRecDepth 20000 in
theorem tm_2_109 : Cond.code yX1_count cX1_count 1 (Option.some Jvm.ClassFile.FieldType.int) ∈ GT := GT_2 109 rfl rfl
set_option maxRecDepth 20000 in
theorem tm_2_110 : Cond.methodLink "FormatDump" 102 yX1_clear ∈ GT := GT_2 110 rfl rfl
set_option maxRecDepth 20000 in
theorem tm_2_111 : Cond.instanceMethod yX1_clear ∈ GT := GT_2 111 rfl rfl
set_option maxRecDepth 20000 in
theorem tm_2_112 : Cond.selects "FormatDump$Arguments" yX1_clear yX1_clear ∈ GT := GT_2 112 rfl rfl
set_option maxRecDepth 20000 in
theorem tm_2_113 : Cond.code yX1_clear cX1_clear 1 (Option.none : Option Jvm.ClassFile.FieldType) ∈ GT := GT_2 113 rfl rfl
set_option maxRecDepth 20000 in
theorem tm_2_114 : Cond.methodLink "FormatDumpLaw" 91 yX11_print ∈ GT := GT_2 114 rfl rfl
set_option maxRecDepth 20000 in
theorem tm_2_115 : Cond.instanceMethod yX11_print ∈ GT := GT_2 115 rfl rfl
set_option maxRecDepth 20000 in
theorem tm_2_116 : Cond.selects "FormatDump" yX11_print yX11_print ∈ GT := GT_2 116 rfl rfl
set_option maxRecDepth 20000 in
theorem tm_2_117 : Cond.code yX11_print cX11_print 5 (Option.some Jvm.ClassFile.FieldType.int) ∈ GT := GT_2 117 rfl rfl
set_option maxRecDepth 20000 in
theorem tm_2_118 : Cond.methodLink "FormatDump" 109 yX8_faultIn ∈ GT := GT_2 118 rfl rfl
set_option maxRecDepth 20000 in
theorem tm_2_119 : Cond.instanceMethod yX8_faultIn ∈ GT := GT_2 119 rfl rfl
set_option maxRecDepth 20000 in
theorem tm_2_120 : Cond.selects "FormatDump$Printer" yX8_faultIn yX8_faultIn ∈ GT := GT_2 120 rfl rfl
set_option maxRecDepth 20000 in
theorem tm_2_121 : Cond.code yX8_faultIn cX8_faultIn 5 (Option.some Jvm.ClassFile.FieldType.int) ∈ GT := GT_2 121 rfl rfl
set_option maxRecDepth 20000 in
theorem tm_2_122 : Cond.methodLink "FormatDump$Printer" 52 yX9_size ∈ GT := GT_2 122 rfl rfl
set_option maxRecDepth 20000 in
theorem tm_2_123 : Cond.methodLink "FormatDump$Printer" 56 yX8_readPiece ∈ GT := GT_2 123 rfl rfl
set_option maxRecDepth 20000 in
theorem tm_2_125 : Cond.instanceMethod yX8_readPiece ∈ GT := GT_2 125 rfl rfl
set_option maxRecDepth 20000 in
theorem tm_2_126 : Cond.code yX8_readPiece cX8_readPiece 4 (Option.some Jvm.ClassFile.FieldType.int) ∈ GT := GT_2 126 rfl rfl
set_option maxRecDepth 20000 in
theorem tm_2_127 : Cond.methodLink "FormatDump$Printer" 68 yX9_at ∈ GT := GT_2 127 rfl rfl
set_option maxRecDepth 20000 in
theorem tm_2_128 : Cond.instanceMethod yX9_at ∈ GT := GT_2 128 rfl rfl
set_option maxRecDepth 20000 in
theorem tm_2_129 : Cond.selects "FormatDump$Row" yX9_at yX9_at ∈ GT := GT_2 129 rfl rfl
set_option maxRecDepth 20000 in
theorem tm_2_130 : Cond.code yX9_at cX9_at 2 (Option.some Jvm.ClassFile.FieldType.int) ∈ GT := GT_2 130 rfl rfl
set_option maxRecDepth 20000 in
theorem tm_2_131 : Cond.methodLink "FormatDump$Printer" 81 yX3_readInFormat ∈ GT := GT_2 131 rfl rfl
set_option maxRecDepth 20000 in
theorem tm_2_132 : Cond.instanceMethod yX3_readInFormat ∈ GT := GT_2 132 rfl rfl
set_option maxRecDepth 20000 in
theorem tm_2_133 : Cond.selects "FormatDump$Escape" yX3_readInFormat yX3_readInFormat ∈ GT := GT_2 133 rfl rfl
set_option maxRecDepth 20000 in
theorem tm_2_134 : Cond.code yX3_readInFormat cX3_readInFormat 3 (Option.some Jvm.ClassFile.FieldType.boolean) ∈ GT := GT_2 134 rfl rfl
set_option maxRecDepth 20000 in
theorem tm_2_135 : Cond.methodLink "FormatDump$Escape" 18 yX3_readLetter ∈ GT := GT_2 135 rfl rfl
set_option maxRecDepth 20000 in
theorem tm_2_137 : Cond.instanceMethod yX3_readLetter ∈ GT := GT_2 137 rfl rfl
set_option maxRecDepth 20000 in
theorem tm_2_138 : Cond.code yX3_readLetter cX3_readLetter 3 (Option.some Jvm.ClassFile.FieldType.boolean) ∈ GT := GT_2 138 rfl rfl
set_option maxRecDepth 20000 in
theorem tm_2_139 : Cond.methodLink "FormatDump$Escape" 26 yX9_at ∈ GT := GT_2 139 rfl rfl
set_option maxRecDepth 20000 in
theorem tm_2_140 : Cond.methodLink "FormatDump$Escape" 32 yX3_meaningOf ∈ GT := GT_2 140 rfl rfl
set_option maxRecDepth 20000 in
theorem tm_2_141 : Cond.static yX3_meaningOf ∈ GT := GT_2 141 rfl rfl
set_option maxRecDepth 20000 in
theorem tm_2_142 : Cond.code yX3_meaningOf cX3_meaningOf 1 (Option.some Jvm.ClassFile.FieldType.int) ∈ GT := GT_2 142 rfl rfl
set_option maxRecDepth 20000 in
theorem tm_2_143 : Cond.methodLink "FormatDump$Escape" 22 yX3_readOctal ∈ GT := GT_2 143 rfl rfl
set_option maxRecDepth 20000 in
theorem tm_2_145 : Cond.instanceMethod yX3_readOctal ∈ GT := GT_2 145 rfl rfl
set_option maxRecDepth 20000 in
theorem tm_2_146 : Cond.code yX3_readOctal cX3_readOctal 4 (Option.none : Option Jvm.ClassFile.FieldType) ∈ GT := GT_2 146 rfl rfl
set_option maxRecDepth 20000 in
theorem tm_2_148 : Cond.static yX11_digitOf ∈ GT := GT_2 148 rfl rfl
set_option maxRecDepth 20000 in
theorem tm_2_149 : Cond.code yX11_digitOf cX11_digitOf 3 (Option.some Jvm.ClassFile.FieldType.int) ∈ GT := GT_2 149 rfl rfl
set_option maxRecDepth 20000 in
theorem tm_2_150 : Cond.methodLink "FormatDump$Printer" 85 yX3_end ∈ GT := GT_2 150 rfl rfl
set_option maxRecDepth 20000 in
theorem tm_2_151 : Cond.instanceMethod yX3_end ∈ GT := GT_2 151 rfl rfl
set_option maxRecDepth 20000 in
theorem tm_2_152 : Cond.selects "FormatDump$Escape" yX3_end yX3_end ∈ GT := GT_2 152 rfl rfl
set_option maxRecDepth 20000 in
theorem tm_2_153 : Cond.code yX3_end cX3_end 1 (Option.some Jvm.ClassFile.FieldType.int) ∈ GT := GT_2 153 rfl rfl
set_option maxRecDepth 20000 in
theorem tm_2_154 : Cond.methodLink "FormatDump$Printer" 88 yX2_read ∈ GT := GT_2 154 rfl rfl
set_option maxRecDepth 20000 in
theorem tm_2_155 : Cond.instanceMethod yX2_read ∈ GT := GT_2 155 rfl rfl
set_option maxRecDepth 20000 in
theorem tm_2_156 : Cond.selects "FormatDump$Directive" yX2_read yX2_read ∈ GT := GT_2 156 rfl rfl
set_option maxRecDepth 20000 in
theorem tm_2_157 : Cond.code yX2_read cX2_read 3 (Option.some Jvm.ClassFile.FieldType.boolean) ∈ GT := GT_2 157 rfl rfl
set_option maxRecDepth 20000 in
theorem tm_2_158 : Cond.methodLink "FormatDump$Directive" 18 yX2_readFlags ∈ GT := GT_2 158 rfl rfl
set_option maxRecDepth 20000 in
theorem tm_2_160 : Cond.instanceMethod yX2_readFlags ∈ GT := GT_2 160 rfl rfl
set_option maxRecDepth 20000 in
theorem tm_2_161 : Cond.code yX2_readFlags cX2_readFlags 2 (Option.none : Option Jvm.ClassFile.FieldType) ∈ GT := GT_2 161 rfl rfl
set_option maxRecDepth 20000 in
theorem tm_2_162 : Cond.methodLink "FormatDump$Directive" 95 yX9_size ∈ GT := GT_2 162 rfl rfl
set_option maxRecDepth 20000 in
theorem tm_2_163 : Cond.methodLink "FormatDump$Directive" 31 yX9_at ∈ GT := GT_2 163 rfl rfl
set_option maxRecDepth 20000 in
theorem tm_2_164 : Cond.methodLink "FormatDump$Directive" 99 yX2_noteFlag ∈ GT := GT_2 164 rfl rfl
set_option maxRecDepth 20000 in
theorem tm_2_166 : Cond.instanceMethod yX2_noteFlag ∈ GT := GT_2 166 rfl rfl
set_option maxRecDepth 20000 in
theorem tm_2_167 : Cond.code yX2_noteFlag cX2_noteFlag 2 (Option.some Jvm.ClassFile.FieldType.boolean) ∈ GT := GT_2 167 rfl rfl
set_option maxRecDepth 20000 in
theorem tm_2_168 : Cond.methodLink "FormatDump$Directive" 22 yX2_readWidth ∈ GT := GT_2 168 rfl rfl
set_option maxRecDepth 20000 in
theorem tm_2_170 : Cond.instanceMethod yX2_readWidth ∈ GT := GT_2 170 rfl rfl
set_option maxRecDepth 20000 in
theorem tm_2_171 : Cond.code yX2_readWidth cX2_readWidth 2 (Option.none : Option Jvm.ClassFile.FieldType) ∈ GT := GT_2 171 rfl rfl
set_option maxRecDepth 20000 in
theorem tm_2_172 : Cond.methodLink "FormatDump$Directive" 103 yX2_readTwoDigits ∈ GT := GT_2 172 rfl rfl
set_option maxRecDepth 20000 in
theorem tm_2_174 : Cond.instanceMethod yX2_readTwoDigits ∈ GT := GT_2 174 rfl rfl
set_option maxRecDepth 20000 in
theorem tm_2_175 : Cond.code yX2_readTwoDigits cX2_readTwoDigits 4 (Option.some Jvm.ClassFile.FieldType.int) ∈ GT := GT_2 175 rfl rfl
set_option maxRecDepth 20000 in
theorem tm_2_177 : Cond.methodLink "FormatDump$Directive" 25 yX2_readPrecision ∈ GT := GT_2 177 rfl rfl
set_option maxRecDepth 20000 in
theorem tm_2_179 : Cond.instanceMethod yX2_readPrecision ∈ GT := GT_2 179 rfl rfl
set_option maxRecDepth 20000 in
theorem tm_2_180 : Cond.code yX2_readPrecision cX2_readPrecision 2 (Option.none : Option Jvm.ClassFile.FieldType) ∈ GT := GT_2 180 rfl rfl
set_option maxRecDepth 20000 in
theorem tm_2_181 : Cond.methodLink "FormatDump$Directive" 28 yX2_readLength ∈ GT := GT_2 181 rfl rfl
set_option maxRecDepth 20000 in
theorem tm_2_183 : Cond.instanceMethod yX2_readLength ∈ GT := GT_2 183 rfl rfl
set_option maxRecDepth 20000 in
theorem tm_2_184 : Cond.code yX2_readLength cX2_readLength 3 (Option.none : Option Jvm.ClassFile.FieldType) ∈ GT := GT_2 184 rfl rfl
set_option maxRecDepth 20000 in
theorem tm_2_185 : Cond.methodLink "FormatDump$Directive" 40 yX2_isLetter ∈ GT := GT_2 185 rfl rfl
set_option maxRecDepth 20000 in
theorem tm_2_187 : Cond.instanceMethod yX2_isLetter ∈ GT := GT_2 187 rfl rfl
set_option maxRecDepth 20000 in
theorem tm_2_188 : Cond.code yX2_isLetter cX2_isLetter 1 (Option.some Jvm.ClassFile.FieldType.boolean) ∈ GT := GT_2 188 rfl rfl
set_option maxRecDepth 20000 in
theorem tm_2_189 : Cond.methodLink "FormatDump" 113 yX8_begin ∈ GT := GT_2 189 rfl rfl
set_option maxRecDepth 20000 in
theorem tm_2_190 : Cond.instanceMethod yX8_begin ∈ GT := GT_2 190 rfl rfl
set_option maxRecDepth 20000 in
theorem tm_2_191 : Cond.selects "FormatDump$Printer" yX8_begin yX8_begin ∈ GT := GT_2 191 rfl rfl
set_option maxRecDepth 20000 in
theorem tm_2_192 : Cond.code yX8_begin cX8_begin 1 (Option.none : Option Jvm.ClassFile.FieldType) ∈ GT := GT_2 192 rfl rfl
set_option maxRecDepth 20000 in
theorem tm_2_193 : Cond.methodLink "FormatDump$Printer" 60 yX9_clear ∈ GT := GT_2 193 rfl rfl
set_option maxRecDepth 20000 in
theorem tm_2_194 : Cond.methodLink "FormatDump$Printer" 63 yX1_takeFromFront ∈ GT := GT_2 194 rfl rfl
set_option maxRecDepth 20000 in
theorem tm_2_195 : Cond.instanceMethod yX1_takeFromFront ∈ GT := GT_2 195 rfl rfl
set_option maxRecDepth 20000 in
theorem tm_2_196 : Cond.selects "FormatDump$Arguments" yX1_takeFromFront yX1_takeFromFront ∈ GT := GT_2 196 rfl rfl
set_option maxRecDepth 20000 in
theorem tm_2_197 : Cond.code yX1_takeFromFront cX1_takeFromFront 1 (Option.none : Option Jvm.ClassFile.FieldType) ∈ GT := GT_2 197 rfl rfl
set_option maxRecDepth 20000 in
theorem tm_2_198 : Cond.methodLink "FormatDump" 116 yX1_taken ∈ GT := GT_2 198 rfl rfl
set_option maxRecDepth 20000 in
theorem tm_2_199 : Cond.instanceMethod yX1_taken ∈ GT := GT_2 199 rfl rfl
set_option maxRecDepth 20000 in
theorem tm_2_200 : Cond.selects "FormatDump$Arguments" yX1_taken yX1_taken ∈ GT := GT_2 200 rfl rfl
set_option maxRecDepth 20000 in
theorem tm_2_201 : Cond.code yX1_taken cX1_taken 1 (Option.some Jvm.ClassFile.FieldType.int) ∈ GT := GT_2 201 rfl rfl
set_option maxRecDepth 20000 in
theorem tm_2_202 : Cond.methodLink "FormatDump" 119 yX8_printOnce ∈ GT := GT_2 202 rfl rfl
set_option maxRecDepth 20000 in
theorem tm_2_203 : Cond.instanceMethod yX8_printOnce ∈ GT := GT_2 203 rfl rfl
set_option maxRecDepth 20000 in
theorem tm_2_204 : Cond.selects "FormatDump$Printer" yX8_printOnce yX8_printOnce ∈ GT := GT_2 204 rfl rfl
set_option maxRecDepth 20000 in
theorem tm_2_205 : Cond.code yX8_printOnce cX8_printOnce 6 (Option.none : Option Jvm.ClassFile.FieldType) ∈ GT := GT_2 205 rfl rfl
set_option maxRecDepth 20000 in
theorem tm_2_206 : Cond.methodLink "FormatDump$Printer" 72 yX3_value ∈ GT := GT_2 206 rfl rfl
set_option maxRecDepth 20000 in
theorem tm_2_207 : Cond.instanceMethod yX3_value ∈ GT := GT_2 207 rfl rfl
set_option maxRecDepth 20000 in
theorem tm_2_208 : Cond.selects "FormatDump$Escape" yX3_value yX3_value ∈ GT := GT_2 208 rfl rfl
set_option maxRecDepth 20000 in
theorem tm_2_209 : Cond.code yX3_value cX3_value 1 (Option.some Jvm.ClassFile.FieldType.int) ∈ GT := GT_2 209 rfl rfl
set_option maxRecDepth 20000 in
theorem tm_2_210 : Cond.methodLink "FormatDump$Printer" 75 yX9_add ∈ GT := GT_2 210 rfl rfl
set_option maxRecDepth 20000 in
theorem tm_2_211 : Cond.instanceMethod yX9_add ∈ GT := GT_2 211 rfl rfl
set_option maxRecDepth 20000 in
theorem tm_2_212 : Cond.selects "FormatDump$Row" yX9_add yX9_add ∈ GT := GT_2 212 rfl rfl
set_option maxRecDepth 20000 in
theorem tm_2_213 : Cond.code yX9_add cX9_add 2 (Option.none : Option Jvm.ClassFile.FieldType) ∈ GT := GT_2 213 rfl rfl
set_option maxRecDepth 20000 in
theorem tm_2_214 : Cond.methodLink "FormatDump$Printer" 78 yX8_printDirective ∈ GT := GT_2 214 rfl rfl
set_option maxRecDepth 20000 in
theorem tm_2_216 : Cond.instanceMethod yX8_printDirective ∈ GT := GT_2 216 rfl rfl
set_option maxRecDepth 20000 in
theorem tm_2_217 : Cond.code yX8_printDirective cX8_printDirective 1 (Option.none : Option Jvm.ClassFile.FieldType) ∈ GT := GT_2 217 rfl rfl
set_option maxRecDepth 20000 in
theorem tm_2_218 : Cond.methodLink "FormatDump$Printer" 97 yX1_takeNumber ∈ GT := GT_2 218 rfl rfl
set_option maxRecDepth 20000 in
theorem tm_2_219 : Cond.instanceMethod yX1_takeNumber ∈ GT := GT_2 219 rfl rfl
set_option maxRecDepth 20000 in
theorem tm_2_220 : Cond.selects "FormatDump$Arguments" yX1_takeNumber yX1_takeNumber ∈ GT := GT_2 220 rfl rfl
set_option maxRecDepth 20000 in
theorem tm_2_221 : Cond.code yX1_takeNumber cX1_takeNumber 2 (Option.some Jvm.ClassFile.FieldType.long) ∈ GT := GT_2 221 rfl rfl
set_option maxRecDepth 20000 in
theorem tm_2_222 : Cond.methodLink "FormatDump$Arguments" 53 yX1_takeNext ∈ GT := GT_2 222 rfl rfl
set_option maxRecDepth 20000 in
theorem tm_2_223 : Cond.instanceMethod yX1_takeNext ∈ GT := GT_2 223 rfl rfl
set_option maxRecDepth 20000 in
theorem tm_2_224 : Cond.selects "FormatDump$Arguments" yX1_takeNext yX1_takeNext ∈ GT := GT_2 224 rfl rfl
set_option maxRecDepth 20000 in
theorem tm_2_225 : Cond.code yX1_takeNext cX1_takeNext 1 (Option.some (Jvm.ClassFile.FieldType.object "FormatDump$Argument")) ∈ GT := GT_2 225 rfl rfl
set_option maxRecDepth 20000 in
theorem tm_2_226 : Cond.methodLink "FormatDump$Arguments" 57 yX5_read ∈ GT := GT_2 226 rfl rfl
set_option maxRecDepth 20000 in
theorem tm_2_227 : Cond.instanceMethod yX5_read ∈ GT := GT_2 227 rfl rfl
set_option maxRecDepth 20000 in
theorem tm_2_228 : Cond.selects "FormatDump$NumberReading" yX5_read yX5_read ∈ GT := GT_2 228 rfl rfl
set_option maxRecDepth 20000 in
theorem tm_2_229 : Cond.code yX5_read cX5_read 4 (Option.none : Option Jvm.ClassFile.FieldType) ∈ GT := GT_2 229 rfl rfl
set_option maxRecDepth 20000 in
theorem tm_2_230 : Cond.methodLink "FormatDump$NumberReading" 19 yX9_at ∈ GT := GT_2 230 rfl rfl
set_option maxRecDepth 20000 in
theorem tm_2_231 : Cond.methodLink "FormatDump$NumberReading" 25 yX5_readCharacter ∈ GT := GT_2 231 rfl rfl
set_option maxRecDepth 20000 in
theorem tm_2_233 : Cond.instanceMethod yX5_readCharacter ∈ GT := GT_2 233 rfl rfl
set_option maxRecDepth 20000 in
theorem tm_2_234 : Cond.code yX5_readCharacter cX5_readCharacter 2 (Option.none : Option Jvm.ClassFile.FieldType) ∈ GT := GT_2 234 rfl rfl
set_option maxRecDepth 20000 in
theorem tm_2_235 : Cond.methodLink "FormatDump$NumberReading" 37 yX9_size ∈ GT := GT_2 235 rfl rfl
set_option maxRecDepth 20000 in
theorem tm_2_236 : Cond.methodLink "FormatDump$NumberReading" 29 yX5_readDigits ∈ GT := GT_2 236 rfl rfl
set_option maxRecDepth 20000 in
theorem tm_2_238 : Cond.instanceMethod yX5_readDigits ∈ GT := GT_2 238 rfl rfl
set_option maxRecDepth 20000 in
theorem tm_2_239 : Cond.code yX5_readDigits cX5_readDigits 5 (Option.none : Option Jvm.ClassFile.FieldType) ∈ GT := GT_2 239 rfl rfl
set_option maxRecDepth 20000 in
theorem tm_3_1 : Cond.methodLink "FormatDump$NumberReading" 33 yX5_isHexadecimal ∈ GT := GT_3 1 rfl rfl
set_option maxRecDepth 20000 in
theorem tm_3_2 : Cond.static yX5_isHexadecimal ∈ GT := GT_3 2 rfl rfl
set_option maxRecDepth 20000 in
theorem tm_3_3 : Cond.code yX5_isHexadecimal cX5_isHexadecimal 3 (Option.some Jvm.ClassFile.FieldType.boolean) ∈ GT := GT_3 3 rfl rfl
set_option maxRecDepth 20000 in
theorem tm_3_4 : Cond.methodLink "FormatDump$Arguments" 60 yX5_isOdd ∈ GT := GT_3 4 rfl rfl
set_option maxRecDepth 20000 in
theorem tm_3_5 : Cond.instanceMethod yX5_isOdd ∈ GT := GT_3 5 rfl rfl
set_option maxRecDepth 20000 in
theorem tm_3_6 : Cond.selects "FormatDump$NumberReading" yX5_isOdd yX5_isOdd ∈ GT := GT_3 6 rfl rfl
set_option maxRecDepth 20000 in
theorem tm_3_7 : Cond.code yX5_isOdd cX5_isOdd 1 (Option.some Jvm.ClassFile.FieldType.boolean) ∈ GT := GT_3 7 rfl rfl
set_option maxRecDepth 20000 in
theorem tm_3_8 : Cond.methodLink "FormatDump$Arguments" 64 yX5_value ∈ GT := GT_3 8 rfl rfl
set_option maxRecDepth 20000 in
theorem tm_3_9 : Cond.instanceMethod yX5_value ∈ GT := GT_3 9 rfl rfl
set_option maxRecDepth 20000 in
theorem tm_3_10 : Cond.selects "FormatDump$NumberReading" yX5_value yX5_value ∈ GT := GT_3 10 rfl rfl
set_option maxRecDepth 20000 in
theorem tm_3_11 : Cond.code yX5_value cX5_value 1 (Option.some Jvm.ClassFile.FieldType.long) ∈ GT := GT_3 11 rfl rfl
set_option maxRecDepth 20000 in
theorem tm_3_12 : Cond.methodLink "FormatDump$Printer" 101 yX2_takeWidth ∈ GT := GT_3 12 rfl rfl
set_option maxRecDepth 20000 in
theorem tm_3_13 : Cond.instanceMethod yX2_takeWidth ∈ GT := GT_3 13 rfl rfl
set_option maxRecDepth 20000 in
theorem tm_3_14 : Cond.selects "FormatDump$Directive" yX2_takeWidth yX2_takeWidth ∈ GT := GT_3 14 rfl rfl
set_option maxRecDepth 20000 in
theorem tm_3_15 : Cond.code yX2_takeWidth cX2_takeWidth 4 (Option.none : Option Jvm.ClassFile.FieldType) ∈ GT := GT_3 15 rfl rfl
set_option maxRecDepth 20000 in
theorem tm_3_16 : Cond.methodLink "FormatDump$Directive" 57 yX2_cutToStar ∈ GT := GT_3 16 rfl rfl
set_option maxRecDepth 20000 in
theorem tm_3_17 : Cond.static yX2_cutToStar ∈ GT := GT_3 17 rfl rfl
set_option maxRecDepth 20000 in
theorem tm_3_18 : Cond.code yX2_cutToStar cX2_cutToStar 2 (Option.some Jvm.ClassFile.FieldType.int) ∈ GT := GT_3 18 rfl rfl
set_option maxRecDepth 20000 in
theorem tm_3_19 : Cond.constantLong "FormatDump$Directive" 64 (-99) ∈ GT := GT_3 19 rfl rfl
set_option maxRecDepth 20000 in
theorem tm_3_20 : Cond.constantLong "FormatDump$Directive" 66 (99) ∈ GT := GT_3 20 rfl rfl
set_option maxRecDepth 20000 in
theorem tm_3_21 : Cond.methodLink "FormatDump$Directive" 68 yJ9_min_f86c9 ∈ GT := GT_3 21 rfl rfl
set_option maxRecDepth 20000 in
theorem tm_3_22 : Cond.static yJ9_min_f86c9 ∈ GT := GT_3 22 rfl rfl
set_option maxRecDepth 20000 in
theorem tm_3_23 : Cond.code yJ9_min_f86c9 cJ9_min_f86c9 4 (Option.some Jvm.ClassFile.FieldType.long) ∈ GT := GT_3 23 rfl rfl
set_option maxRecDepth 20000 in
theorem tm_3_24 : Cond.methodLink "FormatDump$Directive" 74 yJ9_max_f86c9 ∈ GT := GT_3 24 rfl rfl
set_option maxRecDepth 20000 in
theorem tm_3_25 : Cond.static yJ9_max_f86c9 ∈ GT := GT_3 25 rfl rfl
set_option maxRecDepth 20000 in
theorem tm_3_26 : Cond.code yJ9_max_f86c9 cJ9_max_f86c9 4 (Option.some Jvm.ClassFile.FieldType.long) ∈ GT := GT_3 26 rfl rfl
set_option maxRecDepth 20000 in
theorem tm_3_27 : Cond.methodLink "FormatDump$Printer" 108 yX2_takePrecision ∈ GT := GT_3 27 rfl rfl
set_option maxRecDepth 20000 in
theorem tm_3_28 : Cond.instanceMethod yX2_takePrecision ∈ GT := GT_3 28 rfl rfl
set_option maxRecDepth 20000 in
theorem tm_3_29 : Cond.selects "FormatDump$Directive" yX2_takePrecision yX2_takePrecision ∈ GT := GT_3 29 rfl rfl
set_option maxRecDepth 20000 in
theorem tm_3_30 : Cond.code yX2_takePrecision cX2_takePrecision 3 (Option.none : Option Jvm.ClassFile.FieldType) ∈ GT := GT_3 30 rfl rfl
set_option maxRecDepth 20000 in
theorem tm_3_31 : Cond.methodLink "FormatDump$Printer" 114 yX1_takeNext ∈ GT := GT_3 31 rfl rfl
set_option maxRecDepth 20000 in
theorem tm_3_32 : Cond.methodLink "FormatDump$Printer" 118 yX8_loadCharacter ∈ GT := GT_3 32 rfl rfl
set_option maxRecDepth 20000 in
theorem tm_3_34 : Cond.instanceMethod yX8_loadCharacter ∈ GT := GT_3 34 rfl rfl
set_option maxRecDepth 20000 in
theorem tm_3_35 : Cond.code yX8_loadCharacter cX8_loadCharacter 2 (Option.none : Option Jvm.ClassFile.FieldType) ∈ GT := GT_3 35 rfl rfl
set_option maxRecDepth 20000 in
theorem tm_3_36 : Cond.methodLink "FormatDump$Printer" 122 yX8_printFilled ∈ GT := GT_3 36 rfl rfl
set_option maxRecDepth 20000 in
theorem tm_3_38 : Cond.instanceMethod yX8_printFilled ∈ GT := GT_3 38 rfl rfl
set_option maxRecDepth 20000 in
theorem tm_3_39 : Cond.code yX8_printFilled cX8_printFilled 3 (Option.none : Option Jvm.ClassFile.FieldType) ∈ GT := GT_3 39 rfl rfl
set_option maxRecDepth 20000 in
theorem tm_3_40 : Cond.methodLink "FormatDump$Printer" 180 yX9_addMany ∈ GT := GT_3 40 rfl rfl
set_option maxRecDepth 20000 in
theorem tm_3_41 : Cond.instanceMethod yX9_addMany ∈ GT := GT_3 41 rfl rfl
set_option maxRecDepth 20000 in
theorem tm_3_42 : Cond.selects "FormatDump$Row" yX9_addMany yX9_addMany ∈ GT := GT_3 42 rfl rfl
set_option maxRecDepth 20000 in
theorem tm_3_43 : Cond.code yX9_addMany cX9_addMany 4 (Option.none : Option Jvm.ClassFile.FieldType) ∈ GT := GT_3 43 rfl rfl
set_option maxRecDepth 20000 in
theorem tm_3_44 : Cond.methodLink "FormatDump$Row" 35 yX9_add ∈ GT := GT_3 44 rfl rfl
set_option maxRecDepth 20000 in
theorem tm_3_45 : Cond.methodLink "FormatDump$Printer" 125 yX8_loadText ∈ GT := GT_3 45 rfl rfl
set_option maxRecDepth 20000 in
theorem tm_3_47 : Cond.instanceMethod yX8_loadText ∈ GT := GT_3 47 rfl rfl
set_option maxRecDepth 20000 in
theorem tm_3_48 : Cond.code yX8_loadText cX8_loadText 2 (Option.none : Option Jvm.ClassFile.FieldType) ∈ GT := GT_3 48 rfl rfl
set_option maxRecDepth 20000 in
theorem tm_3_49 : Cond.methodLink "FormatDump$Printer" 148 yX9_copyOf ∈ GT := GT_3 49 rfl rfl
set_option maxRecDepth 20000 in
theorem tm_3_50 : Cond.instanceMethod yX9_copyOf ∈ GT := GT_3 50 rfl rfl
set_option maxRecDepth 20000 in
theorem tm_3_51 : Cond.selects "FormatDump$Row" yX9_copyOf yX9_copyOf ∈ GT := GT_3 51 rfl rfl
set_option maxRecDepth 20000 in
theorem tm_3_52 : Cond.code yX9_copyOf cX9_copyOf 3 (Option.none : Option Jvm.ClassFile.FieldType) ∈ GT := GT_3 52 rfl rfl
set_option maxRecDepth 20000 in
theorem tm_3_53 : Cond.methodLink "FormatDump$Row" 39 yX9_clear ∈ GT := GT_3 53 rfl rfl
set_option maxRecDepth 20000 in
theorem tm_3_54 : Cond.methodLink "FormatDump$Row" 42 yX9_size ∈ GT := GT_3 54 rfl rfl
set_option maxRecDepth 20000 in
theorem tm_3_55 : Cond.methodLink "FormatDump$Row" 45 yX9_at ∈ GT := GT_3 55 rfl rfl
set_option maxRecDepth 20000 in
theorem tm_3_56 : Cond.methodLink "FormatDump$Printer" 152 yX8_loadNumber ∈ GT := GT_3 56 rfl rfl
set_option maxRecDepth 20000 in
theorem tm_3_58 : Cond.instanceMethod yX8_loadNumber ∈ GT := GT_3 58 rfl rfl
set_option maxRecDepth 20000 in
theorem tm_3_59 : Cond.code yX8_loadNumber cX8_loadNumber 3 (Option.none : Option Jvm.ClassFile.FieldType) ∈ GT := GT_3 59 rfl rfl
set_option maxRecDepth 20000 in
theorem tm_3_60 : Cond.methodLink "FormatDump$Printer" 155 yX4_take ∈ GT := GT_3 60 rfl rfl
set_option maxRecDepth 20000 in
theorem tm_3_61 : Cond.instanceMethod yX4_take ∈ GT := GT_3 61 rfl rfl
set_option maxRecDepth 20000 in
theorem tm_3_62 : Cond.selects "FormatDump$Figures" yX4_take yX4_take ∈ GT := GT_3 62 rfl rfl
set_option maxRecDepth 20000 in
theorem tm_3_63 : Cond.code yX4_take cX4_take 11 (Option.none : Option Jvm.ClassFile.FieldType) ∈ GT := GT_3 63 rfl rfl
set_option maxRecDepth 20000 in
theorem tm_3_64 : Cond.methodLink "FormatDump$Figures" 23 yJ9_max_7cf53 ∈ GT := GT_3 64 rfl rfl
set_option maxRecDepth 20000 in
theorem tm_3_65 : Cond.static yJ9_max_7cf53 ∈ GT := GT_3 65 rfl rfl
set_option maxRecDepth 20000 in
theorem tm_3_66 : Cond.code yJ9_max_7cf53 cJ9_max_7cf53 2 (Option.some Jvm.ClassFile.FieldType.int) ∈ GT := GT_3 66 rfl rfl
set_option maxRecDepth 20000 in
theorem tm_3_67 : Cond.methodLink "FormatDump$Printer" 161 yX4_writeTo ∈ GT := GT_3 67 rfl rfl
set_option maxRecDepth 20000 in
theorem tm_3_68 : Cond.instanceMethod yX4_writeTo ∈ GT := GT_3 68 rfl rfl
set_option maxRecDepth 20000 in
theorem tm_3_69 : Cond.selects "FormatDump$Figures" yX4_writeTo yX4_writeTo ∈ GT := GT_3 69 rfl rfl
set_option maxRecDepth 20000 in
theorem tm_3_70 : Cond.code yX4_writeTo cX4_writeTo 4 (Option.none : Option Jvm.ClassFile.FieldType) ∈ GT := GT_3 70 rfl rfl
set_option maxRecDepth 20000 in
theorem tm_3_71 : Cond.methodLink "FormatDump$Figures" 29 yX4_characterOf ∈ GT := GT_3 71 rfl rfl
set_option maxRecDepth 20000 in
theorem tm_3_73 : Cond.instanceMethod yX4_characterOf ∈ GT := GT_3 73 rfl rfl
set_option maxRecDepth 20000 in
theorem tm_3_74 : Cond.code yX4_characterOf cX4_characterOf 2 (Option.some Jvm.ClassFile.FieldType.int) ∈ GT := GT_3 74 rfl rfl
set_option maxRecDepth 20000 in
theorem tm_3_75 : Cond.methodLink "FormatDump$Figures" 33 yX9_add ∈ GT := GT_3 75 rfl rfl
set_option maxRecDepth 20000 in
theorem tm_3_76 : Cond.methodLink "FormatDump$Printer" 128 yX8_keepPrecision ∈ GT := GT_3 76 rfl rfl
set_option maxRecDepth 20000 in
theorem tm_3_78 : Cond.instanceMethod yX8_keepPrecision ∈ GT := GT_3 78 rfl rfl
set_option maxRecDepth 20000 in
theorem tm_3_79 : Cond.code yX8_keepPrecision cX8_keepPrecision 1 (Option.none : Option Jvm.ClassFile.FieldType) ∈ GT := GT_3 79 rfl rfl
set_option maxRecDepth 20000 in
theorem tm_3_80 : Cond.methodLink "FormatDump$Printer" 171 yX9_keepFirst ∈ GT := GT_3 80 rfl rfl
set_option maxRecDepth 20000 in
theorem tm_3_81 : Cond.instanceMethod yX9_keepFirst ∈ GT := GT_3 81 rfl rfl
set_option maxRecDepth 20000 in
theorem tm_3_82 : Cond.selects "FormatDump$Row" yX9_keepFirst yX9_keepFirst ∈ GT := GT_3 82 rfl rfl
set_option maxRecDepth 20000 in
theorem tm_3_83 : Cond.code yX9_keepFirst cX9_keepFirst 4 (Option.some Jvm.ClassFile.FieldType.int) ∈ GT := GT_3 83 rfl rfl
set_option maxRecDepth 20000 in
theorem tm_3_84 : Cond.methodLink "FormatDump$Row" 26 yJ9_min_7cf53 ∈ GT := GT_3 84 rfl rfl
set_option maxRecDepth 20000 in
theorem tm_3_85 : Cond.static yJ9_min_7cf53 ∈ GT := GT_3 85 rfl rfl
set_option maxRecDepth 20000 in
theorem tm_3_86 : Cond.code yJ9_min_7cf53 cJ9_min_7cf53 2 (Option.some Jvm.ClassFile.FieldType.int) ∈ GT := GT_3 86 rfl rfl
set_option maxRecDepth 20000 in
theorem tm_3_87 : Cond.methodLink "FormatDump$Row" 32 yJ9_max_7cf53 ∈ GT := GT_3 87 rfl rfl
set_option maxRecDepth 20000 in
theorem tm_3_88 : Cond.methodLink "FormatDump$Printer" 131 yX8_unescapePiece ∈ GT := GT_3 88 rfl rfl
set_option maxRecDepth 20000 in
theorem tm_3_90 : Cond.instanceMethod yX8_unescapePiece ∈ GT := GT_3 90 rfl rfl
set_option maxRecDepth 20000 in
theorem tm_3_91 : Cond.code yX8_unescapePiece cX8_unescapePiece 4 (Option.none : Option Jvm.ClassFile.FieldType) ∈ GT := GT_3 91 rfl rfl
set_option maxRecDepth 20000 in
theorem tm_3_92 : Cond.methodLink "FormatDump$Printer" 165 yX3_readInText ∈ GT := GT_3 92 rfl rfl
set_option maxRecDepth 20000 in
theorem tm_3_93 : Cond.instanceMethod yX3_readInText ∈ GT := GT_3 93 rfl rfl
set_option maxRecDepth 20000 in
theorem tm_3_94 : Cond.selects "FormatDump$Escape" yX3_readInText yX3_readInText ∈ GT := GT_3 94 rfl rfl
set_option maxRecDepth 20000 in
theorem tm_3_95 : Cond.code yX3_readInText cX3_readInText 3 (Option.some Jvm.ClassFile.FieldType.boolean) ∈ GT := GT_3 95 rfl rfl
set_option maxRecDepth 20000 in
theorem tm_3_96 : Cond.methodLink "FormatDump$Printer" 134 yX8_printNumber ∈ GT := GT_3 96 rfl rfl
set_option maxRecDepth 20000 in
theorem tm_3_98 : Cond.instanceMethod yX8_printNumber ∈ GT := GT_3 98 rfl rfl
set_option maxRecDepth 20000 in
theorem tm_3_99 : Cond.code yX8_printNumber cX8_printNumber 12 (Option.none : Option Jvm.ClassFile.FieldType) ∈ GT := GT_3 99 rfl rfl
set_option maxRecDepth 20000 in
theorem tm_3_100 : Cond.methodLink "FormatDump$Printer" 184 yX8_narrowed ∈ GT := GT_3 100 rfl rfl
set_option maxRecDepth 20000 in
theorem tm_3_102 : Cond.instanceMethod yX8_narrowed ∈ GT := GT_3 102 rfl rfl
set_option maxRecDepth 20000 in
theorem tm_3_103 : Cond.code yX8_narrowed cX8_narrowed 6 (Option.some Jvm.ClassFile.FieldType.long) ∈ GT := GT_3 103 rfl rfl
set_option maxRecDepth 20000 in
theorem tm_3_104 : Cond.methodLink "FormatDump$Printer" 188 yX2_isSigned ∈ GT := GT_3 104 rfl rfl
set_option maxRecDepth 20000 in
theorem tm_3_105 : Cond.instanceMethod yX2_isSigned ∈ GT := GT_3 105 rfl rfl
set_option maxRecDepth 20000 in
theorem tm_3_106 : Cond.selects "FormatDump$Directive" yX2_isSigned yX2_isSigned ∈ GT := GT_3 106 rfl rfl
set_option maxRecDepth 20000 in
theorem tm_3_107 : Cond.code yX2_isSigned cX2_isSigned 1 (Option.some Jvm.ClassFile.FieldType.boolean) ∈ GT := GT_3 107 rfl rfl
set_option maxRecDepth 20000 in
theorem tm_3_108 : Cond.methodLink "FormatDump$Printer" 192 yX2_base ∈ GT := GT_3 108 rfl rfl
set_option maxRecDepth 20000 in
theorem tm_3_109 : Cond.instanceMethod yX2_base ∈ GT := GT_3 109 rfl rfl
set_option maxRecDepth 20000 in
theorem tm_3_110 : Cond.selects "FormatDump$Directive" yX2_base yX2_base ∈ GT := GT_3 110 rfl rfl
set_option maxRecDepth 20000 in
theorem tm_3_111 : Cond.code yX2_base cX2_base 1 (Option.some Jvm.ClassFile.FieldType.int) ∈ GT := GT_3 111 rfl rfl
set_option maxRecDepth 20000 in
theorem tm_3_112 : Cond.methodLink "FormatDump$Directive" 44 yX2_isHexadecimal ∈ GT := GT_3 112 rfl rfl
set_option maxRecDepth 20000 in
theorem tm_3_113 : Cond.instanceMethod yX2_isHexadecimal ∈ GT := GT_3 113 rfl rfl
set_option maxRecDepth 20000 in
theorem tm_3_114 : Cond.selects "FormatDump$Directive" yX2_isHexadecimal yX2_isHexadecimal ∈ GT := GT_3 114 rfl rfl
set_option maxRecDepth 20000 in
theorem tm_3_115 : Cond.code yX2_isHexadecimal cX2_isHexadecimal 1 (Option.some Jvm.ClassFile.FieldType.boolean) ∈ GT := GT_3 115 rfl rfl
set_option maxRecDepth 20000 in
theorem tm_3_116 : Cond.methodLink "FormatDump$Printer" 195 yX8_digitsDue ∈ GT := GT_3 116 rfl rfl
set_option maxRecDepth 20000 in
theorem tm_3_118 : Cond.instanceMethod yX8_digitsDue ∈ GT := GT_3 118 rfl rfl
set_option maxRecDepth 20000 in
theorem tm_3_119 : Cond.code yX8_digitsDue cX8_digitsDue 3 (Option.some Jvm.ClassFile.FieldType.int) ∈ GT := GT_3 119 rfl rfl
set_option maxRecDepth 20000 in
theorem tm_3_120 : Cond.methodLink "FormatDump$Printer" 214 yX4_size ∈ GT := GT_3 120 rfl rfl
set_option maxRecDepth 20000 in
theorem tm_3_121 : Cond.instanceMethod yX4_size ∈ GT := GT_3 121 rfl rfl
set_option maxRecDepth 20000 in
theorem tm_3_122 : Cond.selects "FormatDump$Figures" yX4_size yX4_size ∈ GT := GT_3 122 rfl rfl
set_option maxRecDepth 20000 in
theorem tm_3_123 : Cond.code yX4_size cX4_size 1 (Option.some Jvm.ClassFile.FieldType.int) ∈ GT := GT_3 123 rfl rfl
set_option maxRecDepth 20000 in
theorem tm_3_124 : Cond.methodLink "FormatDump$Printer" 215 yJ9_max_7cf53 ∈ GT := GT_3 124 rfl rfl
set_option maxRecDepth 20000 in
theorem tm_3_125 : Cond.methodLink "FormatDump$Printer" 201 yX2_isHexadecimal ∈ GT := GT_3 125 rfl rfl
set_option maxRecDepth 20000 in
theorem tm_3_126 : Cond.methodLink "FormatDump$Printer" 204 yX8_signOf ∈ GT := GT_3 126 rfl rfl
set_option maxRecDepth 20000 in
theorem tm_3_128 : Cond.instanceMethod yX8_signOf ∈ GT := GT_3 128 rfl rfl
set_option maxRecDepth 20000 in
theorem tm_3_129 : Cond.code yX8_signOf cX8_signOf 2 (Option.some Jvm.ClassFile.FieldType.int) ∈ GT := GT_3 129 rfl rfl
set_option maxRecDepth 20000 in
theorem tm_3_130 : Cond.methodLink "FormatDump$Printer" 208 yX2_fillsWithZeros ∈ GT := GT_3 130 rfl rfl
set_option maxRecDepth 20000 in
theorem tm_3_131 : Cond.instanceMethod yX2_fillsWithZeros ∈ GT := GT_3 131 rfl rfl
set_option maxRecDepth 20000 in
theorem tm_3_132 : Cond.selects "FormatDump$Directive" yX2_fillsWithZeros yX2_fillsWithZeros ∈ GT := GT_3 132 rfl rfl
set_option maxRecDepth 20000 in
theorem tm_3_133 : Cond.code yX2_fillsWithZeros cX2_fillsWithZeros 1 (Option.some Jvm.ClassFile.FieldType.boolean) ∈ GT := GT_3 133 rfl rfl
set_option maxRecDepth 20000 in
theorem tm_3_134 : Cond.methodLink "FormatDump" 122 yX8_hasEnded ∈ GT := GT_3 134 rfl rfl
set_option maxRecDepth 20000 in
theorem tm_3_135 : Cond.instanceMethod yX8_hasEnded ∈ GT := GT_3 135 rfl rfl
set_option maxRecDepth 20000 in
theorem tm_3_136 : Cond.selects "FormatDump$Printer" yX8_hasEnded yX8_hasEnded ∈ GT := GT_3 136 rfl rfl
set_option maxRecDepth 20000 in
theorem tm_3_137 : Cond.code yX8_hasEnded cX8_hasEnded 1 (Option.some Jvm.ClassFile.FieldType.boolean) ∈ GT := GT_3 137 rfl rfl
set_option maxRecDepth 20000 in
theorem tm_3_138 : Cond.methodLink "FormatDump" 126 yX11_answerOfPage ∈ GT := GT_3 138 rfl rfl
set_option maxRecDepth 20000 in
theorem tm_3_140 : Cond.instanceMethod yX11_answerOfPage ∈ GT := GT_3 140 rfl rfl
set_option maxRecDepth 20000 in
theorem tm_3_141 : Cond.code yX11_answerOfPage cX11_answerOfPage 1 (Option.some Jvm.ClassFile.FieldType.int) ∈ GT := GT_3 141 rfl rfl
set_option maxRecDepth 20000 in
theorem tm_3_142 : Cond.methodLink "FormatDump" 171 yX9_isOver ∈ GT := GT_3 142 rfl rfl
set_option maxRecDepth 20000 in
theorem tm_3_143 : Cond.instanceMethod yX9_isOver ∈ GT := GT_3 143 rfl rfl
set_option maxRecDepth 20000 in
theorem tm_3_144 : Cond.selects "FormatDump$Row" yX9_isOver yX9_isOver ∈ GT := GT_3 144 rfl rfl
set_option maxRecDepth 20000 in
theorem tm_3_145 : Cond.code yX9_isOver cX9_isOver 1 (Option.some Jvm.ClassFile.FieldType.boolean) ∈ GT := GT_3 145 rfl rfl
set_option maxRecDepth 20000 in
theorem tm_3_146 : Cond.methodLink "FormatDump" 129 yX1_oddTexts ∈ GT := GT_3 146 rfl rfl
set_option maxRecDepth 20000 in
theorem tm_3_147 : Cond.instanceMethod yX1_oddTexts ∈ GT := GT_3 147 rfl rfl
set_option maxRecDepth 20000 in
theorem tm_3_148 : Cond.selects "FormatDump$Arguments" yX1_oddTexts yX1_oddTexts ∈ GT := GT_3 148 rfl rfl
set_option maxRecDepth 20000 in
theorem tm_3_149 : Cond.code yX1_oddTexts cX1_oddTexts 1 (Option.some Jvm.ClassFile.FieldType.int) ∈ GT := GT_3 149 rfl rfl
set_option maxRecDepth 20000 in
theorem tm_3_150 : Cond.methodLink "FormatDumpLaw" 95 yX11_odd ∈ GT := GT_3 150 rfl rfl
set_option maxRecDepth 20000 in
theorem tm_3_151 : Cond.instanceMethod yX11_odd ∈ GT := GT_3 151 rfl rfl
set_option maxRecDepth 20000 in
theorem tm_3_152 : Cond.selects "FormatDump" yX11_odd yX11_odd ∈ GT := GT_3 152 rfl rfl
set_option maxRecDepth 20000 in
theorem tm_3_153 : Cond.code yX11_odd cX11_odd 1 (Option.some Jvm.ClassFile.FieldType.int) ∈ GT := GT_3 153 rfl rfl
set_option maxRecDepth 20000 in
theorem tm_3_154 : Cond.methodLink "FormatDumpLaw" 124 yX11_place ∈ GT := GT_3 154 rfl rfl
set_option maxRecDepth 20000 in
theorem tm_3_155 : Cond.instanceMethod yX11_place ∈ GT := GT_3 155 rfl rfl
set_option maxRecDepth 20000 in
theorem tm_3_156 : Cond.selects "FormatDump" yX11_place yX11_place ∈ GT := GT_3 156 rfl rfl
set_option maxRecDepth 20000 in
theorem tm_3_157 : Cond.code yX11_place cX11_place 1 (Option.some Jvm.ClassFile.FieldType.int) ∈ GT := GT_3 157 rfl rfl
set_option maxRecDepth 20000 in
theorem tm_3_158 : Cond.methodLink "FormatDumpLaw" 128 yX11_output ∈ GT := GT_3 158 rfl rfl
set_option maxRecDepth 20000 in
theorem tm_3_159 : Cond.instanceMethod yX11_output ∈ GT := GT_3 159 rfl rfl
set_option maxRecDepth 20000 in
theorem tm_3_160 : Cond.selects "FormatDump" yX11_output yX11_output ∈ GT := GT_3 160 rfl rfl
set_option maxRecDepth 20000 in
theorem tm_3_161 : Cond.code yX11_output cX11_output 2 (Option.some Jvm.ClassFile.FieldType.int) ∈ GT := GT_3 161 rfl rfl
set_option maxRecDepth 20000 in
theorem tm_3_162 : Cond.methodLink "FormatDump" 177 yX9_at ∈ GT := GT_3 162 rfl rfl
set_option maxRecDepth 20000 in
theorem tm_3_163 : Cond.methodLink "FormatDumpLaw" 132 yX11_data ∈ GT := GT_3 163 rfl rfl
set_option maxRecDepth 20000 in
theorem tm_3_164 : Cond.instanceMethod yX11_data ∈ GT := GT_3 164 rfl rfl
set_option maxRecDepth 20000 in
theorem tm_3_165 : Cond.selects "FormatDump" yX11_data yX11_data ∈ GT := GT_3 165 rfl rfl
set_option maxRecDepth 20000 in
theorem tm_3_166 : Cond.code yX11_data cX11_data 2 (Option.some Jvm.ClassFile.FieldType.int) ∈ GT := GT_3 166 rfl rfl
set_option maxRecDepth 20000 in
theorem tm_3_167 : Cond.methodLink "FormatDumpLaw" 60 yL_type ∈ GT := GT_3 167 rfl rfl
set_option maxRecDepth 20000 in
theorem tm_3_168 : Cond.static yL_type ∈ GT := GT_3 168 rfl rfl
set_option maxRecDepth 20000 in
theorem tm_3_170 : Cond.classLink "FormatDumpLaw" 13 "java/lang/IllegalStateException" ∈ GT := GT_3 170 rfl rfl
set_option maxRecDepth 20000 in
theorem tm_3_171 : Cond.methodLink "FormatDumpLaw" 7 yX11_type ∈ GT := GT_3 171 rfl rfl
set_option maxRecDepth 20000 in
theorem tm_3_172 : Cond.instanceMethod yX11_type ∈ GT := GT_3 172 rfl rfl
set_option maxRecDepth 20000 in
theorem tm_3_173 : Cond.selects "FormatDump" yX11_type yX11_type ∈ GT := GT_3 173 rfl rfl
set_option maxRecDepth 20000 in
theorem tm_3_174 : Cond.code yX11_type cX11_type 7 (Option.some Jvm.ClassFile.FieldType.int) ∈ GT := GT_3 174 rfl rfl
set_option maxRecDepth 20000 in
theorem tm_3_175 : Cond.methodLink "FormatDump" 75 yX11_charactersIn ∈ GT := GT_3 175 rfl rfl
set_option maxRecDepth 20000 in
theorem tm_3_176 : Cond.static yX11_charactersIn ∈ GT := GT_3 176 rfl rfl
set_option maxRecDepth 20000 in
theorem tm_3_177 : Cond.code yX11_charactersIn cX11_charactersIn 3 (Option.some Jvm.ClassFile.FieldType.int) ∈ GT := GT_3 177 rfl rfl
set_option maxRecDepth 20000 in
theorem tm_3_178 : Cond.methodLink "FormatDump" 186 yX11_byteOf ∈ GT := GT_3 178 rfl rfl
set_option maxRecDepth 20000 in
theorem tm_3_179 : Cond.static yX11_byteOf ∈ GT := GT_3 179 rfl rfl
set_option maxRecDepth 20000 in
theorem tm_3_180 : Cond.code yX11_byteOf cX11_byteOf 2 (Option.some Jvm.ClassFile.FieldType.int) ∈ GT := GT_3 180 rfl rfl
set_option maxRecDepth 20000 in
theorem tm_3_181 : Cond.classLink "FormatDump" 83 "java/lang/IllegalStateException" ∈ GT := GT_3 181 rfl rfl
set_option maxRecDepth 20000 in
theorem tm_3_182 : Cond.instantiable "java/lang/IllegalStateException" 6 ∈ GT := GT_3 182 rfl rfl
set_option maxRecDepth 20000 in
theorem tm_3_190 : Cond.selects "java/lang/IllegalStateException" (⟨"java/lang/Throwable", "fillInStackTrace", "(I)Ljava/lang/Throwable;"⟩ : MethodName) (⟨"java/lang/Throwable", "fillInStackTrace", "(I)Ljava/lang/Throwable;"⟩ : MethodName) ∈ GT := GT_3 190 rfl rfl
set_option maxRecDepth 20000 in
theorem tm_3_191 : Cond.selects "java/lang/IllegalStateException" (⟨"java/lang/Throwable", "fillInStackTrace", "()Ljava/lang/Throwable;"⟩ : MethodName) (⟨"java/lang/Throwable", "fillInStackTrace", "()Ljava/lang/Throwable;"⟩ : MethodName) ∈ GT := GT_3 191 rfl rfl
set_option maxRecDepth 20000 in
theorem tm_3_202 : Cond.fieldLink "java/lang/Throwable" 198 "java/lang/Throwable" "backtrace" "Ljava/lang/Object;" ∈ GT := GT_3 202 rfl rfl
set_option maxRecDepth 20000 in
theorem tm_3_204 : Cond.instanceMethod (⟨"java/lang/Throwable", "<init>", "()V"⟩ : MethodName) ∈ GT := GT_3 204 rfl rfl
set_option maxRecDepth 20000 in
theorem tm_3_205 : Cond.code (⟨"java/lang/Throwable", "<init>", "()V"⟩ : MethodName) prog_21_method_1_code 1 (Option.none : Option Jvm.ClassFile.FieldType) ∈ GT := GT_3 205 rfl rfl
set_option maxRecDepth 20000 in
theorem tm_3_206 : Cond.methodLink "java/lang/Throwable" 1 (⟨"java/lang/Object", "<init>", "()V"⟩ : MethodName) ∈ GT := GT_3 206 rfl rfl
set_option maxRecDepth 20000 in
theorem tm_3_207 : Cond.fieldLink "java/lang/Throwable" 13 "java/lang/Throwable" "UNASSIGNED_STACK" "[Ljava/lang/StackTraceElement;" ∈ GT := GT_3 207 rfl rfl
set_option maxRecDepth 20000 in
theorem tm_3_209 : Cond.fieldLink "java/lang/Throwable" 20 "java/lang/Throwable" "SUPPRESSED_SENTINEL" "Ljava/util/List;" ∈ GT := GT_3 209 rfl rfl
set_option maxRecDepth 20000 in
theorem tm_3_211 : Cond.methodLink "java/lang/Throwable" 27 (⟨"java/lang/Throwable", "fillInStackTrace", "()Ljava/lang/Throwable;"⟩ : MethodName) ∈ GT := GT_3 211 rfl rfl
set_option maxRecDepth 20000 in
theorem tm_3_212 : Cond.instanceMethod (⟨"java/lang/Throwable", "fillInStackTrace", "()Ljava/lang/Throwable;"⟩ : MethodName) ∈ GT := GT_3 212 rfl rfl
set_option maxRecDepth 20000 in
theorem tm_3_214 : Cond.selects "java/lang/IllegalArgumentException" (⟨"java/lang/Throwable", "fillInStackTrace", "()Ljava/lang/Throwable;"⟩ : MethodName) (⟨"java/lang/Throwable", "fillInStackTrace", "()Ljava/lang/Throwable;"⟩ : MethodName) ∈ GT := GT_3 214 rfl rfl
set_option maxRecDepth 20000 in
theorem tm_3_215 : Cond.selects "java/lang/IndexOutOfBoundsException" (⟨"java/lang/Throwable", "fillInStackTrace", "()Ljava/lang/Throwable;"⟩ : MethodName) (⟨"java/lang/Throwable", "fillInStackTrace", "()Ljava/lang/Throwable;"⟩ : MethodName) ∈ GT := GT_3 215 rfl rfl
set_option maxRecDepth 20000 in
theorem tm_3_217 : Cond.methodLink "java/lang/Throwable" 202 (⟨"java/lang/Throwable", "fillInStackTrace", "(I)Ljava/lang/Throwable;"⟩ : MethodName) ∈ GT := GT_3 217 rfl rfl
set_option maxRecDepth 20000 in
theorem tm_3_219 : Cond.instanceMethod (⟨"java/lang/Throwable", "fillInStackTrace", "(I)Ljava/lang/Throwable;"⟩ : MethodName) ∈ GT := GT_3 219 rfl rfl
set_option maxRecDepth 20000 in
theorem tm_3_220 : Cond.instantiable "java/lang/Throwable" 6 ∈ GT := GT_3 220 rfl rfl
set_option maxRecDepth 20000 in
theorem tm_3_222 : Cond.methodLink "FormatDump" 85 (⟨"java/lang/IllegalStateException", "<init>", "()V"⟩ : MethodName) ∈ GT := GT_3 222 rfl rfl
set_option maxRecDepth 20000 in
theorem tm_3_223 : Cond.instanceMethod (⟨"java/lang/IllegalStateException", "<init>", "()V"⟩ : MethodName) ∈ GT := GT_3 223 rfl rfl
set_option maxRecDepth 20000 in
theorem tm_3_224 : Cond.code (⟨"java/lang/IllegalStateException", "<init>", "()V"⟩ : MethodName) prog_17_method_1_code 1 (Option.none : Option Jvm.ClassFile.FieldType) ∈ GT := GT_3 224 rfl rfl
set_option maxRecDepth 20000 in
theorem tm_3_225 : Cond.methodLink "java/lang/IllegalStateException" 1 (⟨"java/lang/RuntimeException", "<init>", "()V"⟩ : MethodName) ∈ GT := GT_3 225 rfl rfl
set_option maxRecDepth 20000 in
theorem tm_3_226 : Cond.instanceMethod (⟨"java/lang/RuntimeException", "<init>", "()V"⟩ : MethodName) ∈ GT := GT_3 226 rfl rfl
set_option maxRecDepth 20000 in
theorem tm_3_227 : Cond.code (⟨"java/lang/RuntimeException", "<init>", "()V"⟩ : MethodName) prog_20_method_1_code 1 (Option.none : Option Jvm.ClassFile.FieldType) ∈ GT := GT_3 227 rfl rfl
set_option maxRecDepth 20000 in
theorem tm_3_228 : Cond.methodLink "java/lang/RuntimeException" 1 (⟨"java/lang/Exception", "<init>", "()V"⟩ : MethodName) ∈ GT := GT_3 228 rfl rfl
set_option maxRecDepth 20000 in
theorem tm_3_229 : Cond.instanceMethod (⟨"java/lang/Exception", "<init>", "()V"⟩ : MethodName) ∈ GT := GT_3 229 rfl rfl
set_option maxRecDepth 20000 in
theorem tm_3_230 : Cond.code (⟨"java/lang/Exception", "<init>", "()V"⟩ : MethodName) prog_15_method_1_code 1 (Option.none : Option Jvm.ClassFile.FieldType) ∈ GT := GT_3 230 rfl rfl
set_option maxRecDepth 20000 in
theorem tm_3_231 : Cond.methodLink "java/lang/Exception" 1 (⟨"java/lang/Throwable", "<init>", "()V"⟩ : MethodName) ∈ GT := GT_3 231 rfl rfl
set_option maxRecDepth 20000 in
theorem tm_3_233 : Cond.fieldLink "java/lang/Throwable" 7 "java/lang/Throwable" "cause" "Ljava/lang/Throwable;" ∈ GT := GT_3 233 rfl rfl
set_option maxRecDepth 20000 in
theorem tm_3_234 : Cond.fieldLink "java/lang/Throwable" 17 "java/lang/Throwable" "stackTrace" "[Ljava/lang/StackTraceElement;" ∈ GT := GT_3 234 rfl rfl
set_option maxRecDepth 20000 in
theorem tm_3_235 : Cond.fieldLink "java/lang/Throwable" 24 "java/lang/Throwable" "suppressedExceptions" "Ljava/util/List;" ∈ GT := GT_3 235 rfl rfl
set_option maxRecDepth 20000 in
theorem tm_4_4 : Cond.methodLink "FormatDump" 86 yX11_typeWord ∈ GT := GT_4 4 rfl rfl
set_option maxRecDepth 20000 in
theorem tm_4_6 : Cond.instanceMethod yX11_typeWord ∈ GT := GT_4 6 rfl rfl
set_option maxRecDepth 20000 in
theorem tm_4_7 : Cond.code yX11_typeWord cX11_typeWord 4 (Option.none : Option Jvm.ClassFile.FieldType) ∈ GT := GT_4 7 rfl rfl
set_option maxRecDepth 20000 in
theorem tm_4_8 : Cond.methodLink "FormatDump" 189 yX9_add ∈ GT := GT_4 8 rfl rfl
set_option maxRecDepth 20000 in
theorem tm_4_9 : Cond.methodLink "FormatDumpLaw" 75 yL_number ∈ GT := GT_4 9 rfl rfl
set_option maxRecDepth 20000 in
theorem tm_4_10 : Cond.static yL_number ∈ GT := GT_4 10 rfl rfl
set_option maxRecDepth 20000 in
theorem tm_4_12 : Cond.methodLink "FormatDumpLaw" 15 yX11_number ∈ GT := GT_4 12 rfl rfl
set_option maxRecDepth 20000 in
theorem tm_4_13 : Cond.instanceMethod yX11_number ∈ GT := GT_4 13 rfl rfl
set_option maxRecDepth 20000 in
theorem tm_4_14 : Cond.selects "FormatDump" yX11_number yX11_number ∈ GT := GT_4 14 rfl rfl
set_option maxRecDepth 20000 in
theorem tm_4_15 : Cond.code yX11_number cX11_number 3 (Option.some Jvm.ClassFile.FieldType.int) ∈ GT := GT_4 15 rfl rfl
set_option maxRecDepth 20000 in
theorem tm_4_16 : Cond.methodLink "FormatDump" 95 yX1_addNumber ∈ GT := GT_4 16 rfl rfl
set_option maxRecDepth 20000 in
theorem tm_4_17 : Cond.instanceMethod yX1_addNumber ∈ GT := GT_4 17 rfl rfl
set_option maxRecDepth 20000 in
theorem tm_4_18 : Cond.selects "FormatDump$Arguments" yX1_addNumber yX1_addNumber ∈ GT := GT_4 18 rfl rfl
set_option maxRecDepth 20000 in
theorem tm_4_19 : Cond.code yX1_addNumber cX1_addNumber 3 (Option.none : Option Jvm.ClassFile.FieldType) ∈ GT := GT_4 19 rfl rfl
set_option maxRecDepth 20000 in
theorem tm_4_20 : Cond.methodLink "FormatDumpLaw" 79 yL_text ∈ GT := GT_4 20 rfl rfl
set_option maxRecDepth 20000 in
theorem tm_4_21 : Cond.static yL_text ∈ GT := GT_4 21 rfl rfl
set_option maxRecDepth 20000 in
theorem tm_4_23 : Cond.methodLink "FormatDumpLaw" 19 yX11_text ∈ GT := GT_4 23 rfl rfl
set_option maxRecDepth 20000 in
theorem tm_4_24 : Cond.instanceMethod yX11_text ∈ GT := GT_4 24 rfl rfl
set_option maxRecDepth 20000 in
theorem tm_4_25 : Cond.selects "FormatDump" yX11_text yX11_text ∈ GT := GT_4 25 rfl rfl
set_option maxRecDepth 20000 in
theorem tm_4_26 : Cond.code yX11_text cX11_text 1 (Option.some Jvm.ClassFile.FieldType.int) ∈ GT := GT_4 26 rfl rfl
set_option maxRecDepth 20000 in
theorem tm_4_27 : Cond.methodLink "FormatDump" 99 yX1_addText ∈ GT := GT_4 27 rfl rfl
set_option maxRecDepth 20000 in
theorem tm_4_28 : Cond.instanceMethod yX1_addText ∈ GT := GT_4 28 rfl rfl
set_option maxRecDepth 20000 in
theorem tm_4_29 : Cond.selects "FormatDump$Arguments" yX1_addText yX1_addText ∈ GT := GT_4 29 rfl rfl
set_option maxRecDepth 20000 in
theorem tm_4_30 : Cond.code yX1_addText cX1_addText 2 (Option.none : Option Jvm.ClassFile.FieldType) ∈ GT := GT_4 30 rfl rfl
set_option maxRecDepth 20000 in
theorem tm_4_31 : Cond.methodLink "FormatDump$Arguments" 47 yX9_copyOf ∈ GT := GT_4 31 rfl rfl
set_option maxRecDepth 20000 in
theorem tm_4_32 : Cond.methodLink "FormatDumpLaw" 87 yL_room ∈ GT := GT_4 32 rfl rfl
set_option maxRecDepth 20000 in
theorem tm_4_33 : Cond.static yL_room ∈ GT := GT_4 33 rfl rfl
set_option maxRecDepth 20000 in
theorem tm_4_35 : Cond.classLink "FormatDumpLaw" 27 "java/lang/IllegalArgumentException" ∈ GT := GT_4 35 rfl rfl
set_option maxRecDepth 20000 in
theorem tm_4_36 : Cond.methodLink "FormatDumpLaw" 23 yX11_room ∈ GT := GT_4 36 rfl rfl
set_option maxRecDepth 20000 in
theorem tm_4_37 : Cond.instanceMethod yX11_room ∈ GT := GT_4 37 rfl rfl
set_option maxRecDepth 20000 in
theorem tm_4_38 : Cond.selects "FormatDump" yX11_room yX11_room ∈ GT := GT_4 38 rfl rfl
set_option maxRecDepth 20000 in
theorem tm_4_39 : Cond.code yX11_room cX11_room 2 (Option.none : Option Jvm.ClassFile.FieldType) ∈ GT := GT_4 39 rfl rfl
set_option maxRecDepth 20000 in
theorem tm_4_40 : Cond.classLink "FormatDump" 103 "java/lang/IllegalArgumentException" ∈ GT := GT_4 40 rfl rfl
set_option maxRecDepth 20000 in
theorem tm_4_41 : Cond.instantiable "java/lang/IllegalArgumentException" 6 ∈ GT := GT_4 41 rfl rfl
set_option maxRecDepth 20000 in
theorem tm_4_43 : Cond.selects "java/lang/IllegalArgumentException" (⟨"java/lang/Throwable", "fillInStackTrace", "(I)Ljava/lang/Throwable;"⟩ : MethodName) (⟨"java/lang/Throwable", "fillInStackTrace", "(I)Ljava/lang/Throwable;"⟩ : MethodName) ∈ GT := GT_4 43 rfl rfl
set_option maxRecDepth 20000 in
theorem tm_4_49 : Cond.methodLink "FormatDump" 105 (⟨"java/lang/IllegalArgumentException", "<init>", "()V"⟩ : MethodName) ∈ GT := GT_4 49 rfl rfl
set_option maxRecDepth 20000 in
theorem tm_4_50 : Cond.instanceMethod (⟨"java/lang/IllegalArgumentException", "<init>", "()V"⟩ : MethodName) ∈ GT := GT_4 50 rfl rfl
set_option maxRecDepth 20000 in
theorem tm_4_51 : Cond.code (⟨"java/lang/IllegalArgumentException", "<init>", "()V"⟩ : MethodName) prog_16_method_1_code 1 (Option.none : Option Jvm.ClassFile.FieldType) ∈ GT := GT_4 51 rfl rfl
set_option maxRecDepth 20000 in
theorem tm_4_52 : Cond.methodLink "java/lang/IllegalArgumentException" 1 (⟨"java/lang/RuntimeException", "<init>", "()V"⟩ : MethodName) ∈ GT := GT_4 52 rfl rfl
set_option maxRecDepth 20000 in
theorem tm_4_55 : Cond.methodLink "FormatDump" 106 yX9_limitTo ∈ GT := GT_4 55 rfl rfl
set_option maxRecDepth 20000 in
theorem tm_4_56 : Cond.instanceMethod yX9_limitTo ∈ GT := GT_4 56 rfl rfl
set_option maxRecDepth 20000 in
theorem tm_4_57 : Cond.selects "FormatDump$Row" yX9_limitTo yX9_limitTo ∈ GT := GT_4 57 rfl rfl
set_option maxRecDepth 20000 in
theorem tm_4_58 : Cond.code yX9_limitTo cX9_limitTo 2 (Option.none : Option Jvm.ClassFile.FieldType) ∈ GT := GT_4 58 rfl rfl
set_option maxRecDepth 20000 in
theorem tm_4_59 : Cond.methodLink "FormatDumpLaw" 99 yL_feed ∈ GT := GT_4 59 rfl rfl
set_option maxRecDepth 20000 in
theorem tm_4_60 : Cond.static yL_feed ∈ GT := GT_4 60 rfl rfl
set_option maxRecDepth 20000 in
theorem tm_4_62 : Cond.methodLink "FormatDumpLaw" 29 yX11_feed ∈ GT := GT_4 62 rfl rfl
set_option maxRecDepth 20000 in
theorem tm_4_63 : Cond.instanceMethod yX11_feed ∈ GT := GT_4 63 rfl rfl
set_option maxRecDepth 20000 in
theorem tm_4_64 : Cond.selects "FormatDump" yX11_feed yX11_feed ∈ GT := GT_4 64 rfl rfl
set_option maxRecDepth 20000 in
theorem tm_4_65 : Cond.code yX11_feed cX11_feed 6 (Option.some Jvm.ClassFile.FieldType.int) ∈ GT := GT_4 65 rfl rfl
set_option maxRecDepth 20000 in
theorem tm_4_66 : Cond.methodLink "FormatDump" 131 yX11_feedWord ∈ GT := GT_4 66 rfl rfl
set_option maxRecDepth 20000 in
theorem tm_4_68 : Cond.instanceMethod yX11_feedWord ∈ GT := GT_4 68 rfl rfl
set_option maxRecDepth 20000 in
theorem tm_4_69 : Cond.code yX11_feedWord cX11_feedWord 4 (Option.none : Option Jvm.ClassFile.FieldType) ∈ GT := GT_4 69 rfl rfl
set_option maxRecDepth 20000 in
theorem tm_4_70 : Cond.methodLink "FormatDumpLaw" 102 yL_cut ∈ GT := GT_4 70 rfl rfl
set_option maxRecDepth 20000 in
theorem tm_4_71 : Cond.static yL_cut ∈ GT := GT_4 71 rfl rfl
set_option maxRecDepth 20000 in
theorem tm_4_73 : Cond.methodLink "FormatDumpLaw" 32 yX11_cut ∈ GT := GT_4 73 rfl rfl
set_option maxRecDepth 20000 in
theorem tm_4_74 : Cond.instanceMethod yX11_cut ∈ GT := GT_4 74 rfl rfl
set_option maxRecDepth 20000 in
theorem tm_4_75 : Cond.selects "FormatDump" yX11_cut yX11_cut ∈ GT := GT_4 75 rfl rfl
set_option maxRecDepth 20000 in
theorem tm_4_76 : Cond.code yX11_cut cX11_cut 2 (Option.some Jvm.ClassFile.FieldType.int) ∈ GT := GT_4 76 rfl rfl
set_option maxRecDepth 20000 in
theorem tm_4_77 : Cond.methodLink "FormatDump" 135 yX9_keepFirst ∈ GT := GT_4 77 rfl rfl
set_option maxRecDepth 20000 in
theorem tm_4_78 : Cond.methodLink "FormatDumpLaw" 106 yL_words ∈ GT := GT_4 78 rfl rfl
set_option maxRecDepth 20000 in
theorem tm_4_79 : Cond.static yL_words ∈ GT := GT_4 79 rfl rfl
set_option maxRecDepth 20000 in
theorem tm_4_81 : Cond.methodLink "FormatDumpLaw" 36 yX11_words ∈ GT := GT_4 81 rfl rfl
set_option maxRecDepth 20000 in
theorem tm_4_82 : Cond.instanceMethod yX11_words ∈ GT := GT_4 82 rfl rfl
set_option maxRecDepth 20000 in
theorem tm_4_83 : Cond.selects "FormatDump" yX11_words yX11_words ∈ GT := GT_4 83 rfl rfl
set_option maxRecDepth 20000 in
theorem tm_4_84 : Cond.code yX11_words cX11_words 5 (Option.some Jvm.ClassFile.FieldType.int) ∈ GT := GT_4 84 rfl rfl
set_option maxRecDepth 20000 in
theorem tm_4_85 : Cond.methodLink "FormatDump" 138 yX11_isAddressBase ∈ GT := GT_4 85 rfl rfl
set_option maxRecDepth 20000 in
theorem tm_4_86 : Cond.static yX11_isAddressBase ∈ GT := GT_4 86 rfl rfl
set_option maxRecDepth 20000 in
theorem tm_4_87 : Cond.code yX11_isAddressBase cX11_isAddressBase 1 (Option.some Jvm.ClassFile.FieldType.boolean) ∈ GT := GT_4 87 rfl rfl
set_option maxRecDepth 20000 in
theorem tm_4_88 : Cond.methodLink "FormatDump" 142 yX11_isWord ∈ GT := GT_4 88 rfl rfl
set_option maxRecDepth 20000 in
theorem tm_4_89 : Cond.static yX11_isWord ∈ GT := GT_4 89 rfl rfl
set_option maxRecDepth 20000 in
theorem tm_4_90 : Cond.code yX11_isWord cX11_isWord 3 (Option.some Jvm.ClassFile.FieldType.boolean) ∈ GT := GT_4 90 rfl rfl
set_option maxRecDepth 20000 in
theorem tm_4_91 : Cond.methodLink "FormatDump" 146 yX10_dump ∈ GT := GT_4 91 rfl rfl
set_option maxRecDepth 20000 in
theorem tm_4_92 : Cond.instanceMethod yX10_dump ∈ GT := GT_4 92 rfl rfl
set_option maxRecDepth 20000 in
theorem tm_4_93 : Cond.selects "FormatDump$WordDump" yX10_dump yX10_dump ∈ GT := GT_4 93 rfl rfl
set_option maxRecDepth 20000 in
theorem tm_4_94 : Cond.code yX10_dump cX10_dump 7 (Option.none : Option Jvm.ClassFile.FieldType) ∈ GT := GT_4 94 rfl rfl
set_option maxRecDepth 20000 in
theorem tm_4_95 : Cond.methodLink "FormatDump$WordDump" 41 yX9_size ∈ GT := GT_4 95 rfl rfl
set_option maxRecDepth 20000 in
theorem tm_4_96 : Cond.methodLink "FormatDump$WordDump" 45 yX10_isLikeBefore ∈ GT := GT_4 96 rfl rfl
set_option maxRecDepth 20000 in
theorem tm_4_98 : Cond.instanceMethod yX10_isLikeBefore ∈ GT := GT_4 98 rfl rfl
set_option maxRecDepth 20000 in
theorem tm_4_99 : Cond.code yX10_isLikeBefore cX10_isLikeBefore 3 (Option.some Jvm.ClassFile.FieldType.boolean) ∈ GT := GT_4 99 rfl rfl
set_option maxRecDepth 20000 in
theorem tm_4_100 : Cond.methodLink "FormatDump$WordDump" 58 yX9_at ∈ GT := GT_4 100 rfl rfl
set_option maxRecDepth 20000 in
theorem tm_4_101 : Cond.methodLink "FormatDump$WordDump" 49 yX10_writeLine ∈ GT := GT_4 101 rfl rfl
set_option maxRecDepth 20000 in
theorem tm_4_103 : Cond.instanceMethod yX10_writeLine ∈ GT := GT_4 103 rfl rfl
set_option maxRecDepth 20000 in
theorem tm_4_104 : Cond.code yX10_writeLine cX10_writeLine 5 (Option.none : Option Jvm.ClassFile.FieldType) ∈ GT := GT_4 104 rfl rfl
set_option maxRecDepth 20000 in
theorem tm_4_105 : Cond.methodLink "FormatDump$WordDump" 62 yJ9_min_7cf53 ∈ GT := GT_4 105 rfl rfl
set_option maxRecDepth 20000 in
theorem tm_4_106 : Cond.methodLink "FormatDump$WordDump" 68 yJ9_max_7cf53 ∈ GT := GT_4 106 rfl rfl
set_option maxRecDepth 20000 in
theorem tm_4_107 : Cond.methodLink "FormatDump$WordDump" 55 yX10_writeAddress ∈ GT := GT_4 107 rfl rfl
set_option maxRecDepth 20000 in
theorem tm_4_109 : Cond.instanceMethod yX10_writeAddress ∈ GT := GT_4 109 rfl rfl
set_option maxRecDepth 20000 in
theorem tm_4_110 : Cond.code yX10_writeAddress cX10_writeAddress 2 (Option.none : Option Jvm.ClassFile.FieldType) ∈ GT := GT_4 110 rfl rfl
set_option maxRecDepth 20000 in
theorem tm_4_111 : Cond.methodLink "FormatDump$WordDump" 79 yX4_take ∈ GT := GT_4 111 rfl rfl
set_option maxRecDepth 20000 in
theorem tm_4_112 : Cond.methodLink "FormatDump$WordDump" 85 yX4_writeTo ∈ GT := GT_4 112 rfl rfl
set_option maxRecDepth 20000 in
theorem tm_4_113 : Cond.methodLink "FormatDump$WordDump" 52 yX9_add ∈ GT := GT_4 113 rfl rfl
set_option maxRecDepth 20000 in
theorem tm_4_114 : Cond.methodLink "FormatDump$WordDump" 71 yX10_wordAt ∈ GT := GT_4 114 rfl rfl
set_option maxRecDepth 20000 in
theorem tm_4_116 : Cond.instanceMethod yX10_wordAt ∈ GT := GT_4 116 rfl rfl
set_option maxRecDepth 20000 in
theorem tm_4_117 : Cond.code yX10_wordAt cX10_wordAt 6 (Option.some Jvm.ClassFile.FieldType.long) ∈ GT := GT_4 117 rfl rfl
set_option maxRecDepth 20000 in
theorem tm_4_118 : Cond.methodLink "FormatDump$WordDump" 75 yX10_writeField ∈ GT := GT_4 118 rfl rfl
set_option maxRecDepth 20000 in
theorem tm_4_120 : Cond.instanceMethod yX10_writeField ∈ GT := GT_4 120 rfl rfl
set_option maxRecDepth 20000 in
theorem tm_4_121 : Cond.code yX10_writeField cX10_writeField 4 (Option.none : Option Jvm.ClassFile.FieldType) ∈ GT := GT_4 121 rfl rfl
set_option maxRecDepth 20000 in
theorem tm_4_122 : Cond.methodLink "FormatDump$WordDump" 89 yX9_clear ∈ GT := GT_4 122 rfl rfl
set_option maxRecDepth 20000 in
theorem tm_4_123 : Cond.methodLink "FormatDump$WordDump" 92 yX10_loadCharacter ∈ GT := GT_4 123 rfl rfl
set_option maxRecDepth 20000 in
theorem tm_4_125 : Cond.instanceMethod yX10_loadCharacter ∈ GT := GT_4 125 rfl rfl
set_option maxRecDepth 20000 in
theorem tm_4_126 : Cond.code yX10_loadCharacter cX10_loadCharacter 3 (Option.none : Option Jvm.ClassFile.FieldType) ∈ GT := GT_4 126 rfl rfl
set_option maxRecDepth 20000 in
theorem tm_4_127 : Cond.methodLink "FormatDump$WordDump" 111 yX10_nameOf ∈ GT := GT_4 127 rfl rfl
set_option maxRecDepth 20000 in
theorem tm_4_128 : Cond.static yX10_nameOf ∈ GT := GT_4 128 rfl rfl
set_option maxRecDepth 20000 in
theorem tm_4_129 : Cond.code yX10_nameOf cX10_nameOf 1 (Option.some Jvm.ClassFile.FieldType.int) ∈ GT := GT_4 129 rfl rfl
set_option maxRecDepth 20000 in
theorem tm_4_131 : Cond.static yX11_canBeSeen ∈ GT := GT_4 131 rfl rfl
set_option maxRecDepth 20000 in
theorem tm_4_132 : Cond.code yX11_canBeSeen cX11_canBeSeen 1 (Option.some Jvm.ClassFile.FieldType.boolean) ∈ GT := GT_4 132 rfl rfl
set_option maxRecDepth 20000 in
theorem tm_4_133 : Cond.methodLink "FormatDump$WordDump" 95 yX10_loadNumber ∈ GT := GT_4 133 rfl rfl
set_option maxRecDepth 20000 in
theorem tm_4_135 : Cond.instanceMethod yX10_loadNumber ∈ GT := GT_4 135 rfl rfl
set_option maxRecDepth 20000 in
theorem tm_4_136 : Cond.code yX10_loadNumber cX10_loadNumber 5 (Option.none : Option Jvm.ClassFile.FieldType) ∈ GT := GT_4 136 rfl rfl
set_option maxRecDepth 20000 in
theorem tm_4_137 : Cond.methodLink "FormatDump$WordDump" 105 yX10_fieldBase ∈ GT := GT_4 137 rfl rfl
set_option maxRecDepth 20000 in
theorem tm_4_139 : Cond.instanceMethod yX10_fieldBase ∈ GT := GT_4 139 rfl rfl
set_option maxRecDepth 20000 in
theorem tm_4_140 : Cond.code yX10_fieldBase cX10_fieldBase 1 (Option.some Jvm.ClassFile.FieldType.int) ∈ GT := GT_4 140 rfl rfl
set_option maxRecDepth 20000 in
theorem tm_4_141 : Cond.methodLink "FormatDump$WordDump" 108 yX10_leastDigits ∈ GT := GT_4 141 rfl rfl
set_option maxRecDepth 20000 in
theorem tm_4_143 : Cond.instanceMethod yX10_leastDigits ∈ GT := GT_4 143 rfl rfl
set_option maxRecDepth 20000 in
theorem tm_4_144 : Cond.code yX10_leastDigits cX10_leastDigits 1 (Option.some Jvm.ClassFile.FieldType.int) ∈ GT := GT_4 144 rfl rfl
set_option maxRecDepth 20000 in
theorem tm_4_145 : Cond.methodLink "FormatDump$WordDump" 98 yX10_fieldWidth ∈ GT := GT_4 145 rfl rfl
set_option maxRecDepth 20000 in
theorem tm_4_147 : Cond.instanceMethod yX10_fieldWidth ∈ GT := GT_4 147 rfl rfl
set_option maxRecDepth 20000 in
theorem tm_4_148 : Cond.code yX10_fieldWidth cX10_fieldWidth 1 (Option.some Jvm.ClassFile.FieldType.int) ∈ GT := GT_4 148 rfl rfl
set_option maxRecDepth 20000 in
theorem tm_4_149 : Cond.methodLink "FormatDump$WordDump" 117 yX10_decimalWidth ∈ GT := GT_4 149 rfl rfl
set_option maxRecDepth 20000 in
theorem tm_4_151 : Cond.instanceMethod yX10_decimalWidth ∈ GT := GT_4 151 rfl rfl
set_option maxRecDepth 20000 in
theorem tm_4_152 : Cond.code yX10_decimalWidth cX10_decimalWidth 1 (Option.some Jvm.ClassFile.FieldType.int) ∈ GT := GT_4 152 rfl rfl
set_option maxRecDepth 20000 in
theorem tm_4_153 : Cond.methodLink "FormatDump$WordDump" 101 yX9_addMany ∈ GT := GT_4 153 rfl rfl
set_option maxRecDepth 20000 in
theorem tm_4_154 : Cond.methodLink "FormatDumpLaw" 110 yL_pairs ∈ GT := GT_4 154 rfl rfl
set_option maxRecDepth 20000 in
theorem tm_4_155 : Cond.static yL_pairs ∈ GT := GT_4 155 rfl rfl
set_option maxRecDepth 20000 in
theorem tm_4_157 : Cond.methodLink "FormatDumpLaw" 40 yX11_pairs ∈ GT := GT_4 157 rfl rfl
set_option maxRecDepth 20000 in
theorem tm_4_158 : Cond.instanceMethod yX11_pairs ∈ GT := GT_4 158 rfl rfl
set_option maxRecDepth 20000 in
theorem tm_4_159 : Cond.selects "FormatDump" yX11_pairs yX11_pairs ∈ GT := GT_4 159 rfl rfl
set_option maxRecDepth 20000 in
theorem tm_4_160 : Cond.code yX11_pairs cX11_pairs 4 (Option.some Jvm.ClassFile.FieldType.int) ∈ GT := GT_4 160 rfl rfl
set_option maxRecDepth 20000 in
theorem tm_4_161 : Cond.methodLink "FormatDump" 150 yX11_isShape ∈ GT := GT_4 161 rfl rfl
set_option maxRecDepth 20000 in
theorem tm_4_162 : Cond.static yX11_isShape ∈ GT := GT_4 162 rfl rfl
set_option maxRecDepth 20000 in
theorem tm_4_163 : Cond.code yX11_isShape cX11_isShape 2 (Option.some Jvm.ClassFile.FieldType.boolean) ∈ GT := GT_4 163 rfl rfl
set_option maxRecDepth 20000 in
theorem tm_4_164 : Cond.methodLink "FormatDump" 154 yX11_groupOf ∈ GT := GT_4 164 rfl rfl
set_option maxRecDepth 20000 in
theorem tm_4_165 : Cond.static yX11_groupOf ∈ GT := GT_4 165 rfl rfl
set_option maxRecDepth 20000 in
theorem tm_4_166 : Cond.code yX11_groupOf cX11_groupOf 2 (Option.some Jvm.ClassFile.FieldType.int) ∈ GT := GT_4 166 rfl rfl
set_option maxRecDepth 20000 in
theorem tm_4_167 : Cond.methodLink "FormatDump" 158 yX6_dump ∈ GT := GT_4 167 rfl rfl
set_option maxRecDepth 20000 in
theorem tm_4_168 : Cond.instanceMethod yX6_dump ∈ GT := GT_4 168 rfl rfl
set_option maxRecDepth 20000 in
theorem tm_4_169 : Cond.selects "FormatDump$PairDump" yX6_dump yX6_dump ∈ GT := GT_4 169 rfl rfl
set_option maxRecDepth 20000 in
theorem tm_4_170 : Cond.code yX6_dump cX6_dump 9 (Option.none : Option Jvm.ClassFile.FieldType) ∈ GT := GT_4 170 rfl rfl
set_option maxRecDepth 20000 in
theorem tm_4_172 : Cond.static yX11_pairsWidth ∈ GT := GT_4 172 rfl rfl
set_option maxRecDepth 20000 in
theorem tm_4_173 : Cond.code yX11_pairsWidth cX11_pairsWidth 4 (Option.some Jvm.ClassFile.FieldType.int) ∈ GT := GT_4 173 rfl rfl
set_option maxRecDepth 20000 in
theorem tm_4_174 : Cond.methodLink "FormatDump" 195 yX11_endsGroup ∈ GT := GT_4 174 rfl rfl
set_option maxRecDepth 20000 in
theorem tm_4_175 : Cond.static yX11_endsGroup ∈ GT := GT_4 175 rfl rfl
set_option maxRecDepth 20000 in
theorem tm_4_176 : Cond.code yX11_endsGroup cX11_endsGroup 3 (Option.some Jvm.ClassFile.FieldType.boolean) ∈ GT := GT_4 176 rfl rfl
set_option maxRecDepth 20000 in
theorem tm_4_177 : Cond.methodLink "FormatDump$PairDump" 26 yJ9_max_7cf53 ∈ GT := GT_4 177 rfl rfl
set_option maxRecDepth 20000 in
theorem tm_4_178 : Cond.methodLink "FormatDump$PairDump" 31 yX9_size ∈ GT := GT_4 178 rfl rfl
set_option maxRecDepth 20000 in
theorem tm_4_179 : Cond.methodLink "FormatDump$PairDump" 37 yJ9_min_7cf53 ∈ GT := GT_4 179 rfl rfl
set_option maxRecDepth 20000 in
theorem tm_4_180 : Cond.methodLink "FormatDump$PairDump" 40 yX6_writeDigits ∈ GT := GT_4 180 rfl rfl
set_option maxRecDepth 20000 in
theorem tm_4_182 : Cond.instanceMethod yX6_writeDigits ∈ GT := GT_4 182 rfl rfl
set_option maxRecDepth 20000 in
theorem tm_4_183 : Cond.code yX6_writeDigits cX6_writeDigits 4 (Option.none : Option Jvm.ClassFile.FieldType) ∈ GT := GT_4 183 rfl rfl
set_option maxRecDepth 20000 in
theorem tm_4_184 : Cond.methodLink "FormatDump$PairDump" 63 yX4_take ∈ GT := GT_4 184 rfl rfl
set_option maxRecDepth 20000 in
theorem tm_4_185 : Cond.methodLink "FormatDump$PairDump" 69 yX4_writeTo ∈ GT := GT_4 185 rfl rfl
set_option maxRecDepth 20000 in
theorem tm_4_186 : Cond.methodLink "FormatDump$PairDump" 44 yX9_add ∈ GT := GT_4 186 rfl rfl
set_option maxRecDepth 20000 in
theorem tm_4_187 : Cond.methodLink "FormatDump$PairDump" 48 yX9_at ∈ GT := GT_4 187 rfl rfl
set_option maxRecDepth 20000 in
theorem tm_4_189 : Cond.methodLink "FormatDump$PairDump" 56 yX9_addMany ∈ GT := GT_4 189 rfl rfl
set_option maxRecDepth 20000 in
theorem tm_4_191 : Cond.static yX11_seenAs ∈ GT := GT_4 191 rfl rfl
set_option maxRecDepth 20000 in
theorem tm_4_192 : Cond.code yX11_seenAs cX11_seenAs 1 (Option.some Jvm.ClassFile.FieldType.int) ∈ GT := GT_4 192 rfl rfl
set_option maxRecDepth 20000 in
theorem tm_4_193 : Cond.methodLink "FormatDump" 192 yX11_canBeSeen ∈ GT := GT_4 193 rfl rfl
set_option maxRecDepth 20000 in
theorem tm_4_194 : Cond.methodLink "FormatDumpLaw" 114 yL_back ∈ GT := GT_4 194 rfl rfl
set_option maxRecDepth 20000 in
theorem tm_4_195 : Cond.static yL_back ∈ GT := GT_4 195 rfl rfl
set_option maxRecDepth 20000 in
theorem tm_4_197 : Cond.methodLink "FormatDumpLaw" 44 yX11_back ∈ GT := GT_4 197 rfl rfl
set_option maxRecDepth 20000 in
theorem tm_4_198 : Cond.instanceMethod yX11_back ∈ GT := GT_4 198 rfl rfl
set_option maxRecDepth 20000 in
theorem tm_4_199 : Cond.selects "FormatDump" yX11_back yX11_back ∈ GT := GT_4 199 rfl rfl
set_option maxRecDepth 20000 in
theorem tm_4_200 : Cond.code yX11_back cX11_back 4 (Option.some Jvm.ClassFile.FieldType.int) ∈ GT := GT_4 200 rfl rfl
set_option maxRecDepth 20000 in
theorem tm_4_201 : Cond.methodLink "FormatDump" 161 yX7_readPage ∈ GT := GT_4 201 rfl rfl
set_option maxRecDepth 20000 in
theorem tm_4_202 : Cond.instanceMethod yX7_readPage ∈ GT := GT_4 202 rfl rfl
set_option maxRecDepth 20000 in
theorem tm_4_203 : Cond.selects "FormatDump$PairReader" yX7_readPage yX7_readPage ∈ GT := GT_4 203 rfl rfl
set_option maxRecDepth 20000 in
theorem tm_4_204 : Cond.code yX7_readPage cX7_readPage 6 (Option.some Jvm.ClassFile.FieldType.boolean) ∈ GT := GT_4 204 rfl rfl
set_option maxRecDepth 20000 in
theorem tm_4_206 : Cond.methodLink "FormatDump$PairReader" 37 yX9_clear ∈ GT := GT_4 206 rfl rfl
set_option maxRecDepth 20000 in
theorem tm_4_207 : Cond.methodLink "FormatDump$PairReader" 40 yX9_size ∈ GT := GT_4 207 rfl rfl
set_option maxRecDepth 20000 in
theorem tm_4_208 : Cond.methodLink "FormatDump$PairReader" 44 yX7_readLine ∈ GT := GT_4 208 rfl rfl
set_option maxRecDepth 20000 in
theorem tm_4_210 : Cond.instanceMethod yX7_readLine ∈ GT := GT_4 210 rfl rfl
set_option maxRecDepth 20000 in
theorem tm_4_211 : Cond.code yX7_readLine cX7_readLine 5 (Option.some Jvm.ClassFile.FieldType.boolean) ∈ GT := GT_4 211 rfl rfl
set_option maxRecDepth 20000 in
theorem tm_4_212 : Cond.methodLink "FormatDump$PairReader" 48 yX7_readAddress ∈ GT := GT_4 212 rfl rfl
set_option maxRecDepth 20000 in
theorem tm_4_214 : Cond.instanceMethod yX7_readAddress ∈ GT := GT_4 214 rfl rfl
set_option maxRecDepth 20000 in
theorem tm_4_215 : Cond.code yX7_readAddress cX7_readAddress 2 (Option.some Jvm.ClassFile.FieldType.boolean) ∈ GT := GT_4 215 rfl rfl
set_option maxRecDepth 20000 in
theorem tm_4_216 : Cond.methodLink "FormatDump$PairReader" 66 yX9_at ∈ GT := GT_4 216 rfl rfl
set_option maxRecDepth 20000 in
theorem tm_4_218 : Cond.methodLink "FormatDump$PairReader" 52 yX7_readOne ∈ GT := GT_4 218 rfl rfl
set_option maxRecDepth 20000 in
theorem tm_4_220 : Cond.instanceMethod yX7_readOne ∈ GT := GT_4 220 rfl rfl
set_option maxRecDepth 20000 in
theorem tm_4_221 : Cond.code yX7_readOne cX7_readOne 2 (Option.some Jvm.ClassFile.FieldType.boolean) ∈ GT := GT_4 221 rfl rfl
set_option maxRecDepth 20000 in
theorem tm_4_222 : Cond.methodLink "FormatDump$PairReader" 56 yX7_readPairs ∈ GT := GT_4 222 rfl rfl
set_option maxRecDepth 20000 in
theorem tm_4_224 : Cond.instanceMethod yX7_readPairs ∈ GT := GT_4 224 rfl rfl
set_option maxRecDepth 20000 in
theorem tm_4_225 : Cond.code yX7_readPairs cX7_readPairs 4 (Option.some Jvm.ClassFile.FieldType.boolean) ∈ GT := GT_4 225 rfl rfl
set_option maxRecDepth 20000 in
theorem tm_4_226 : Cond.methodLink "FormatDump$PairReader" 72 yX7_readPair ∈ GT := GT_4 226 rfl rfl
set_option maxRecDepth 20000 in
theorem tm_4_228 : Cond.instanceMethod yX7_readPair ∈ GT := GT_4 228 rfl rfl
set_option maxRecDepth 20000 in
theorem tm_4_229 : Cond.code yX7_readPair cX7_readPair 3 (Option.some Jvm.ClassFile.FieldType.boolean) ∈ GT := GT_4 229 rfl rfl
set_option maxRecDepth 20000 in
theorem tm_4_230 : Cond.methodLink "FormatDump$PairReader" 78 yX9_add ∈ GT := GT_4 230 rfl rfl
set_option maxRecDepth 20000 in
theorem tm_4_232 : Cond.methodLink "FormatDump$PairReader" 60 yX7_readBlanks ∈ GT := GT_4 232 rfl rfl
set_option maxRecDepth 20000 in
theorem tm_4_234 : Cond.instanceMethod yX7_readBlanks ∈ GT := GT_4 234 rfl rfl
set_option maxRecDepth 20000 in
theorem tm_4_235 : Cond.code yX7_readBlanks cX7_readBlanks 2 (Option.some Jvm.ClassFile.FieldType.boolean) ∈ GT := GT_4 235 rfl rfl
set_option maxRecDepth 20000 in
theorem tm_4_236 : Cond.methodLink "FormatDump$PairReader" 63 yX7_readSeen ∈ GT := GT_4 236 rfl rfl
set_option maxRecDepth 20000 in
theorem tm_4_238 : Cond.instanceMethod yX7_readSeen ∈ GT := GT_4 238 rfl rfl
set_option maxRecDepth 20000 in
theorem tm_4_239 : Cond.code yX7_readSeen cX7_readSeen 2 (Option.some Jvm.ClassFile.FieldType.boolean) ∈ GT := GT_4 239 rfl rfl
set_option maxRecDepth 20000 in
theorem tm_5_1 : Cond.methodLink "FormatDump" 164 yX7_stop ∈ GT := GT_5 1 rfl rfl
set_option maxRecDepth 20000 in
theorem tm_5_2 : Cond.instanceMethod yX7_stop ∈ GT := GT_5 2 rfl rfl
set_option maxRecDepth 20000 in
theorem tm_5_3 : Cond.selects "FormatDump$PairReader" yX7_stop yX7_stop ∈ GT := GT_5 3 rfl rfl
set_option maxRecDepth 20000 in
theorem tm_5_4 : Cond.code yX7_stop cX7_stop 1 (Option.some Jvm.ClassFile.FieldType.int) ∈ GT := GT_5 4 rfl rfl
set_option maxRecDepth 20000 in
theorem tm_5_5 : Cond.methodLink "FormatDump" 167 yX7_found ∈ GT := GT_5 5 rfl rfl
set_option maxRecDepth 20000 in
theorem tm_5_6 : Cond.instanceMethod yX7_found ∈ GT := GT_5 6 rfl rfl
set_option maxRecDepth 20000 in
theorem tm_5_7 : Cond.selects "FormatDump$PairReader" yX7_found yX7_found ∈ GT := GT_5 7 rfl rfl
set_option maxRecDepth 20000 in
theorem tm_5_8 : Cond.code yX7_found cX7_found 1 (Option.some (Jvm.ClassFile.FieldType.object "FormatDump$Row")) ∈ GT := GT_5 8 rfl rfl
set_option maxRecDepth 20000 in
theorem tm_5_9 : Cond.methodLink "FormatDump" 174 yX9_copyOf ∈ GT := GT_5 9 rfl rfl
set_option maxRecDepth 20000 in
theorem tm_5_10 : Cond.methodLink "FormatDumpLaw" 118 yL_patch ∈ GT := GT_5 10 rfl rfl
set_option maxRecDepth 20000 in
theorem tm_5_11 : Cond.static yL_patch ∈ GT := GT_5 11 rfl rfl
set_option maxRecDepth 20000 in
theorem tm_5_13 : Cond.classLink "FormatDumpLaw" 51 "java/lang/IndexOutOfBoundsException" ∈ GT := GT_5 13 rfl rfl
set_option maxRecDepth 20000 in
theorem tm_5_14 : Cond.methodLink "FormatDumpLaw" 48 yX11_patch ∈ GT := GT_5 14 rfl rfl
set_option maxRecDepth 20000 in
theorem tm_5_15 : Cond.instanceMethod yX11_patch ∈ GT := GT_5 15 rfl rfl
set_option maxRecDepth 20000 in
theorem tm_5_16 : Cond.selects "FormatDump" yX11_patch yX11_patch ∈ GT := GT_5 16 rfl rfl
set_option maxRecDepth 20000 in
theorem tm_5_17 : Cond.code yX11_patch cX11_patch 4 (Option.some Jvm.ClassFile.FieldType.int) ∈ GT := GT_5 17 rfl rfl
set_option maxRecDepth 20000 in
theorem tm_5_18 : Cond.classLink "FormatDump" 180 "java/lang/IndexOutOfBoundsException" ∈ GT := GT_5 18 rfl rfl
set_option maxRecDepth 20000 in
theorem tm_5_19 : Cond.instantiable "java/lang/IndexOutOfBoundsException" 6 ∈ GT := GT_5 19 rfl rfl
set_option maxRecDepth 20000 in
theorem tm_5_21 : Cond.selects "java/lang/IndexOutOfBoundsException" (⟨"java/lang/Throwable", "fillInStackTrace", "(I)Ljava/lang/Throwable;"⟩ : MethodName) (⟨"java/lang/Throwable", "fillInStackTrace", "(I)Ljava/lang/Throwable;"⟩ : MethodName) ∈ GT := GT_5 21 rfl rfl
set_option maxRecDepth 20000 in
theorem tm_5_27 : Cond.methodLink "FormatDump" 182 (⟨"java/lang/IndexOutOfBoundsException", "<init>", "()V"⟩ : MethodName) ∈ GT := GT_5 27 rfl rfl
set_option maxRecDepth 20000 in
theorem tm_5_28 : Cond.instanceMethod (⟨"java/lang/IndexOutOfBoundsException", "<init>", "()V"⟩ : MethodName) ∈ GT := GT_5 28 rfl rfl
set_option maxRecDepth 20000 in
theorem tm_5_29 : Cond.code (⟨"java/lang/IndexOutOfBoundsException", "<init>", "()V"⟩ : MethodName) prog_18_method_1_code 1 (Option.none : Option Jvm.ClassFile.FieldType) ∈ GT := GT_5 29 rfl rfl
set_option maxRecDepth 20000 in
theorem tm_5_30 : Cond.methodLink "java/lang/IndexOutOfBoundsException" 1 (⟨"java/lang/RuntimeException", "<init>", "()V"⟩ : MethodName) ∈ GT := GT_5 30 rfl rfl
set_option maxRecDepth 20000 in
theorem tm_5_33 : Cond.methodLink "FormatDump" 183 yX9_change ∈ GT := GT_5 33 rfl rfl
set_option maxRecDepth 20000 in
theorem tm_5_34 : Cond.instanceMethod yX9_change ∈ GT := GT_5 34 rfl rfl
set_option maxRecDepth 20000 in
theorem tm_5_35 : Cond.selects "FormatDump$Row" yX9_change yX9_change ∈ GT := GT_5 35 rfl rfl
set_option maxRecDepth 20000 in
theorem tm_5_36 : Cond.code yX9_change cX9_change 3 (Option.none : Option Jvm.ClassFile.FieldType) ∈ GT := GT_5 36 rfl rfl
set_option maxRecDepth 20000 in
theorem tm_5_37 : Cond.methodLink "FormatDumpLaw" 121 yL_trim ∈ GT := GT_5 37 rfl rfl
set_option maxRecDepth 20000 in
theorem tm_5_38 : Cond.static yL_trim ∈ GT := GT_5 38 rfl rfl
set_option maxRecDepth 20000 in
theorem tm_5_40 : Cond.methodLink "FormatDumpLaw" 53 yX11_trim ∈ GT := GT_5 40 rfl rfl
set_option maxRecDepth 20000 in
theorem tm_5_41 : Cond.instanceMethod yX11_trim ∈ GT := GT_5 41 rfl rfl
set_option maxRecDepth 20000 in
theorem tm_5_42 : Cond.selects "FormatDump" yX11_trim yX11_trim ∈ GT := GT_5 42 rfl rfl
set_option maxRecDepth 20000 in
theorem tm_5_43 : Cond.code yX11_trim cX11_trim 2 (Option.some Jvm.ClassFile.FieldType.int) ∈ GT := GT_5 43 rfl rfl
set_option maxRecDepth 20000 in
theorem tm_5_44 : Cond.classLink "FormatDumpLaw" 57 "FormatDumpModel" ∈ GT := GT_5 44 rfl rfl
set_option maxRecDepth 20000 in
theorem tm_5_45 : Cond.instantiable "FormatDumpModel" 36 ∈ GT := GT_5 45 rfl rfl
set_option maxRecDepth 20000 in
theorem tm_5_46 : Cond.methodLink "FormatDumpLaw" 59 yX12_init ∈ GT := GT_5 46 rfl rfl
set_option maxRecDepth 20000 in
theorem tm_5_47 : Cond.instanceMethod yX12_init ∈ GT := GT_5 47 rfl rfl
set_option maxRecDepth 20000 in
theorem tm_5_48 : Cond.code yX12_init cX12_init 1 (Option.none : Option Jvm.ClassFile.FieldType) ∈ GT := GT_5 48 rfl rfl
set_option maxRecDepth 20000 in
theorem tm_5_49 : Cond.methodLink "FormatDumpModel" 1 (⟨"java/lang/Object", "<init>", "()V"⟩ : MethodName) ∈ GT := GT_5 49 rfl rfl
set_option maxRecDepth 20000 in
theorem tm_5_50 : Cond.fieldLink "FormatDumpModel" 50 "FormatDumpModel" "fault" "I" ∈ GT := GT_5 50 rfl rfl
set_option maxRecDepth 20000 in
theorem tm_5_51 : Cond.fieldLink "FormatDumpModel" 7 "FormatDumpModel" "line" "[C" ∈ GT := GT_5 51 rfl rfl
set_option maxRecDepth 20000 in
theorem tm_5_52 : Cond.fieldLink "FormatDumpModel" 53 "FormatDumpModel" "lineSize" "I" ∈ GT := GT_5 52 rfl rfl
set_option maxRecDepth 20000 in
theorem tm_5_53 : Cond.fieldLink "FormatDumpModel" 64 "FormatDumpModel" "arguments" "I" ∈ GT := GT_5 53 rfl rfl
set_option maxRecDepth 20000 in
theorem tm_5_54 : Cond.fieldLink "FormatDumpModel" 13 "FormatDumpModel" "isText" "[Z" ∈ GT := GT_5 54 rfl rfl
set_option maxRecDepth 20000 in
theorem tm_5_55 : Cond.fieldLink "FormatDumpModel" 17 "FormatDumpModel" "numbers" "[J" ∈ GT := GT_5 55 rfl rfl
set_option maxRecDepth 20000 in
theorem tm_5_56 : Cond.fieldLink "FormatDumpModel" 21 "FormatDumpModel" "textSize" "[I" ∈ GT := GT_5 56 rfl rfl
set_option maxRecDepth 20000 in
theorem tm_5_57 : Cond.fieldLink "FormatDumpModel" 25 "FormatDumpModel" "texts" "[C" ∈ GT := GT_5 57 rfl rfl
set_option maxRecDepth 20000 in
theorem tm_5_58 : Cond.fieldLink "FormatDumpModel" 230 "FormatDumpModel" "dataSize" "I" ∈ GT := GT_5 58 rfl rfl
set_option maxRecDepth 20000 in
theorem tm_5_59 : Cond.fieldLink "FormatDumpModel" 28 "FormatDumpModel" "bytes" "[I" ∈ GT := GT_5 59 rfl rfl
set_option maxRecDepth 20000 in
theorem tm_5_60 : Cond.fieldLink "FormatDumpModel" 31 "FormatDumpModel" "room" "I" ∈ GT := GT_5 60 rfl rfl
set_option maxRecDepth 20000 in
theorem tm_5_61 : Cond.fieldLink "FormatDumpModel" 71 "FormatDumpModel" "outSize" "I" ∈ GT := GT_5 61 rfl rfl
set_option maxRecDepth 20000 in
theorem tm_5_62 : Cond.fieldLink "FormatDumpModel" 35 "FormatDumpModel" "out" "[C" ∈ GT := GT_5 62 rfl rfl
set_option maxRecDepth 20000 in
theorem tm_5_63 : Cond.fieldLink "FormatDumpModel" 74 "FormatDumpModel" "isFull" "Z" ∈ GT := GT_5 63 rfl rfl
set_option maxRecDepth 20000 in
theorem tm_5_64 : Cond.fieldLink "FormatDumpModel" 38 "FormatDumpModel" "faultPlace" "I" ∈ GT := GT_5 64 rfl rfl
set_option maxRecDepth 20000 in
theorem tm_5_65 : Cond.fieldLink "FormatDumpModel" 224 "FormatDumpModel" "odds" "I" ∈ GT := GT_5 65 rfl rfl
set_option maxRecDepth 20000 in
theorem tm_5_66 : Cond.fieldLink "FormatDumpModel" 149 "FormatDumpModel" "oddNow" "I" ∈ GT := GT_5 66 rfl rfl
set_option maxRecDepth 20000 in
theorem tm_5_67 : Cond.fieldLink "FormatDumpModel" 156 "FormatDumpModel" "next" "I" ∈ GT := GT_5 67 rfl rfl
set_option maxRecDepth 20000 in
theorem tm_5_68 : Cond.fieldLink "FormatDumpModel" 188 "FormatDumpModel" "ends" "Z" ∈ GT := GT_5 68 rfl rfl
set_option maxRecDepth 20000 in
theorem tm_5_69 : Cond.fieldLink "FormatDumpModel" 106 "FormatDumpModel" "at" "I" ∈ GT := GT_5 69 rfl rfl
set_option maxRecDepth 20000 in
theorem tm_5_70 : Cond.fieldLink "FormatDumpModel" 91 "FormatDumpModel" "minus" "Z" ∈ GT := GT_5 70 rfl rfl
set_option maxRecDepth 20000 in
theorem tm_5_71 : Cond.fieldLink "FormatDumpModel" 94 "FormatDumpModel" "plus" "Z" ∈ GT := GT_5 71 rfl rfl
set_option maxRecDepth 20000 in
theorem tm_5_72 : Cond.fieldLink "FormatDumpModel" 97 "FormatDumpModel" "blank" "Z" ∈ GT := GT_5 72 rfl rfl
set_option maxRecDepth 20000 in
theorem tm_5_73 : Cond.fieldLink "FormatDumpModel" 100 "FormatDumpModel" "sharp" "Z" ∈ GT := GT_5 73 rfl rfl
set_option maxRecDepth 20000 in
theorem tm_5_74 : Cond.fieldLink "FormatDumpModel" 103 "FormatDumpModel" "zero" "Z" ∈ GT := GT_5 74 rfl rfl
set_option maxRecDepth 20000 in
theorem tm_5_75 : Cond.fieldLink "FormatDumpModel" 113 "FormatDumpModel" "width" "I" ∈ GT := GT_5 75 rfl rfl
set_option maxRecDepth 20000 in
theorem tm_5_76 : Cond.fieldLink "FormatDumpModel" 120 "FormatDumpModel" "precision" "I" ∈ GT := GT_5 76 rfl rfl
set_option maxRecDepth 20000 in
theorem tm_5_77 : Cond.fieldLink "FormatDumpModel" 123 "FormatDumpModel" "bits" "I" ∈ GT := GT_5 77 rfl rfl
set_option maxRecDepth 20000 in
theorem tm_5_78 : Cond.fieldLink "FormatDumpModel" 126 "FormatDumpModel" "kind" "C" ∈ GT := GT_5 78 rfl rfl
set_option maxRecDepth 20000 in
theorem tm_5_79 : Cond.fieldLink "FormatDumpModel" 41 "FormatDumpModel" "row" "[C" ∈ GT := GT_5 79 rfl rfl
set_option maxRecDepth 20000 in
theorem tm_5_80 : Cond.fieldLink "FormatDumpModel" 163 "FormatDumpModel" "rowSize" "I" ∈ GT := GT_5 80 rfl rfl
set_option maxRecDepth 20000 in
theorem tm_5_81 : Cond.fieldLink "FormatDumpModel" 44 "FormatDumpModel" "digits" "[C" ∈ GT := GT_5 81 rfl rfl
set_option maxRecDepth 20000 in
theorem tm_5_82 : Cond.fieldLink "FormatDumpModel" 78 "FormatDumpModel" "digitCount" "I" ∈ GT := GT_5 82 rfl rfl
set_option maxRecDepth 20000 in
theorem tm_5_83 : Cond.fieldLink "FormatDumpModel" 47 "FormatDumpModel" "found" "[I" ∈ GT := GT_5 83 rfl rfl
set_option maxRecDepth 20000 in
theorem tm_5_84 : Cond.fieldLink "FormatDumpModel" 264 "FormatDumpModel" "foundSize" "I" ∈ GT := GT_5 84 rfl rfl
set_option maxRecDepth 20000 in
theorem tm_5_85 : Cond.fieldLink "FormatDumpModel" 261 "FormatDumpModel" "read" "I" ∈ GT := GT_5 85 rfl rfl
set_option maxRecDepth 20000 in
theorem tm_5_159 : Cond.arrayClass Jvm.ClassFile.FieldType.char ∈ GT := GT_5 159 rfl rfl
set_option maxRecDepth 20000 in
theorem tm_5_160 : Cond.arrayClass Jvm.ClassFile.FieldType.boolean ∈ GT := GT_5 160 rfl rfl
set_option maxRecDepth 20000 in
theorem tm_5_161 : Cond.arrayClass Jvm.ClassFile.FieldType.long ∈ GT := GT_5 161 rfl rfl
set_option maxRecDepth 20000 in
theorem tm_5_162 : Cond.methodLink "FormatDumpLaw" 66 yX12_thrown ∈ GT := GT_5 162 rfl rfl
set_option maxRecDepth 20000 in
theorem tm_5_163 : Cond.instanceMethod yX12_thrown ∈ GT := GT_5 163 rfl rfl
set_option maxRecDepth 20000 in
theorem tm_5_164 : Cond.selects "FormatDumpModel" yX12_thrown yX12_thrown ∈ GT := GT_5 164 rfl rfl
set_option maxRecDepth 20000 in
theorem tm_5_165 : Cond.code yX12_thrown cX12_thrown 1 (Option.some Jvm.ClassFile.FieldType.int) ∈ GT := GT_5 165 rfl rfl
set_option maxRecDepth 20000 in
theorem tm_5_166 : Cond.methodLink "FormatDumpLaw" 65 yX12_type ∈ GT := GT_5 166 rfl rfl
set_option maxRecDepth 20000 in
theorem tm_5_167 : Cond.instanceMethod yX12_type ∈ GT := GT_5 167 rfl rfl
set_option maxRecDepth 20000 in
theorem tm_5_168 : Cond.selects "FormatDumpModel" yX12_type yX12_type ∈ GT := GT_5 168 rfl rfl
set_option maxRecDepth 20000 in
theorem tm_5_169 : Cond.code yX12_type cX12_type 7 (Option.some Jvm.ClassFile.FieldType.int) ∈ GT := GT_5 169 rfl rfl
set_option maxRecDepth 20000 in
theorem tm_5_170 : Cond.methodLink "FormatDumpModel" 56 yX12_typed ∈ GT := GT_5 170 rfl rfl
set_option maxRecDepth 20000 in
theorem tm_5_172 : Cond.instanceMethod yX12_typed ∈ GT := GT_5 172 rfl rfl
set_option maxRecDepth 20000 in
theorem tm_5_173 : Cond.code yX12_typed cX12_typed 6 (Option.some Jvm.ClassFile.FieldType.int) ∈ GT := GT_5 173 rfl rfl
set_option maxRecDepth 20000 in
theorem tm_5_174 : Cond.methodLink "FormatDumpModel" 60 yX12_refused ∈ GT := GT_5 174 rfl rfl
set_option maxRecDepth 20000 in
theorem tm_5_176 : Cond.instanceMethod yX12_refused ∈ GT := GT_5 176 rfl rfl
set_option maxRecDepth 20000 in
theorem tm_5_177 : Cond.code yX12_refused cX12_refused 2 (Option.some Jvm.ClassFile.FieldType.boolean) ∈ GT := GT_5 177 rfl rfl
set_option maxRecDepth 20000 in
theorem tm_5_178 : Cond.methodLink "FormatDumpLaw" 72 yX12_erase ∈ GT := GT_5 178 rfl rfl
set_option maxRecDepth 20000 in
theorem tm_5_179 : Cond.instanceMethod yX12_erase ∈ GT := GT_5 179 rfl rfl
set_option maxRecDepth 20000 in
theorem tm_5_180 : Cond.selects "FormatDumpModel" yX12_erase yX12_erase ∈ GT := GT_5 180 rfl rfl
set_option maxRecDepth 20000 in
theorem tm_5_181 : Cond.code yX12_erase cX12_erase 2 (Option.some Jvm.ClassFile.FieldType.int) ∈ GT := GT_5 181 rfl rfl
set_option maxRecDepth 20000 in
theorem tm_5_182 : Cond.methodLink "FormatDumpLaw" 78 yX12_number ∈ GT := GT_5 182 rfl rfl
set_option maxRecDepth 20000 in
theorem tm_5_183 : Cond.instanceMethod yX12_number ∈ GT := GT_5 183 rfl rfl
set_option maxRecDepth 20000 in
theorem tm_5_184 : Cond.selects "FormatDumpModel" yX12_number yX12_number ∈ GT := GT_5 184 rfl rfl
set_option maxRecDepth 20000 in
theorem tm_5_185 : Cond.code yX12_number cX12_number 3 (Option.some Jvm.ClassFile.FieldType.int) ∈ GT := GT_5 185 rfl rfl
set_option maxRecDepth 20000 in
theorem tm_5_186 : Cond.methodLink "FormatDumpLaw" 82 yX12_text ∈ GT := GT_5 186 rfl rfl
set_option maxRecDepth 20000 in
theorem tm_5_187 : Cond.instanceMethod yX12_text ∈ GT := GT_5 187 rfl rfl
set_option maxRecDepth 20000 in
theorem tm_5_188 : Cond.selects "FormatDumpModel" yX12_text yX12_text ∈ GT := GT_5 188 rfl rfl
set_option maxRecDepth 20000 in
theorem tm_5_189 : Cond.code yX12_text cX12_text 2 (Option.some Jvm.ClassFile.FieldType.int) ∈ GT := GT_5 189 rfl rfl
set_option maxRecDepth 20000 in
theorem tm_5_190 : Cond.methodLink "FormatDumpLaw" 86 yX12_none ∈ GT := GT_5 190 rfl rfl
set_option maxRecDepth 20000 in
theorem tm_5_191 : Cond.instanceMethod yX12_none ∈ GT := GT_5 191 rfl rfl
set_option maxRecDepth 20000 in
theorem tm_5_192 : Cond.selects "FormatDumpModel" yX12_none yX12_none ∈ GT := GT_5 192 rfl rfl
set_option maxRecDepth 20000 in
theorem tm_5_193 : Cond.code yX12_none cX12_none 2 (Option.some Jvm.ClassFile.FieldType.int) ∈ GT := GT_5 193 rfl rfl
set_option maxRecDepth 20000 in
theorem tm_5_194 : Cond.methodLink "FormatDumpLaw" 90 yX12_room ∈ GT := GT_5 194 rfl rfl
set_option maxRecDepth 20000 in
theorem tm_5_195 : Cond.instanceMethod yX12_room ∈ GT := GT_5 195 rfl rfl
set_option maxRecDepth 20000 in
theorem tm_5_196 : Cond.selects "FormatDumpModel" yX12_room yX12_room ∈ GT := GT_5 196 rfl rfl
set_option maxRecDepth 20000 in
theorem tm_5_197 : Cond.code yX12_room cX12_room 2 (Option.none : Option Jvm.ClassFile.FieldType) ∈ GT := GT_5 197 rfl rfl
set_option maxRecDepth 20000 in
theorem tm_5_198 : Cond.methodLink "FormatDumpModel" 67 yX12_isIn ∈ GT := GT_5 198 rfl rfl
set_option maxRecDepth 20000 in
theorem tm_5_199 : Cond.static yX12_isIn ∈ GT := GT_5 199 rfl rfl
set_option maxRecDepth 20000 in
theorem tm_5_200 : Cond.code yX12_isIn cX12_isIn 3 (Option.some Jvm.ClassFile.FieldType.boolean) ∈ GT := GT_5 200 rfl rfl
set_option maxRecDepth 20000 in
theorem tm_5_201 : Cond.methodLink "FormatDumpLaw" 94 yX12_print ∈ GT := GT_5 201 rfl rfl
set_option maxRecDepth 20000 in
theorem tm_5_202 : Cond.instanceMethod yX12_print ∈ GT := GT_5 202 rfl rfl
set_option maxRecDepth 20000 in
theorem tm_5_203 : Cond.selects "FormatDumpModel" yX12_print yX12_print ∈ GT := GT_5 203 rfl rfl
set_option maxRecDepth 20000 in
theorem tm_5_204 : Cond.code yX12_print cX12_print 3 (Option.some Jvm.ClassFile.FieldType.int) ∈ GT := GT_5 204 rfl rfl
set_option maxRecDepth 20000 in
theorem tm_5_205 : Cond.methodLink "FormatDumpModel" 215 yX12_badAt ∈ GT := GT_5 205 rfl rfl
set_option maxRecDepth 20000 in
theorem tm_5_207 : Cond.instanceMethod yX12_badAt ∈ GT := GT_5 207 rfl rfl
set_option maxRecDepth 20000 in
theorem tm_5_208 : Cond.code yX12_badAt cX12_badAt 4 (Option.some Jvm.ClassFile.FieldType.int) ∈ GT := GT_5 208 rfl rfl
set_option maxRecDepth 20000 in
theorem tm_5_209 : Cond.methodLink "FormatDumpModel" 138 yX12_readEscape ∈ GT := GT_5 209 rfl rfl
set_option maxRecDepth 20000 in
theorem tm_5_211 : Cond.instanceMethod yX12_readEscape ∈ GT := GT_5 211 rfl rfl
set_option maxRecDepth 20000 in
theorem tm_5_212 : Cond.code yX12_readEscape cX12_readEscape 4 (Option.some Jvm.ClassFile.FieldType.int) ∈ GT := GT_5 212 rfl rfl
set_option maxRecDepth 20000 in
theorem tm_5_213 : Cond.methodLink "FormatDumpModel" 109 yX12_charAt ∈ GT := GT_5 213 rfl rfl
set_option maxRecDepth 20000 in
theorem tm_5_215 : Cond.instanceMethod yX12_charAt ∈ GT := GT_5 215 rfl rfl
set_option maxRecDepth 20000 in
theorem tm_5_216 : Cond.code yX12_charAt cX12_charAt 2 (Option.some Jvm.ClassFile.FieldType.char) ∈ GT := GT_5 216 rfl rfl
set_option maxRecDepth 20000 in
theorem tm_5_217 : Cond.methodLink "FormatDumpModel" 130 yX12_isOctal ∈ GT := GT_5 217 rfl rfl
set_option maxRecDepth 20000 in
theorem tm_5_218 : Cond.static yX12_isOctal ∈ GT := GT_5 218 rfl rfl
set_option maxRecDepth 20000 in
theorem tm_5_219 : Cond.code yX12_isOctal cX12_isOctal 1 (Option.some Jvm.ClassFile.FieldType.boolean) ∈ GT := GT_5 219 rfl rfl
set_option maxRecDepth 20000 in
theorem tm_5_220 : Cond.methodLink "FormatDumpModel" 134 yX12_escapeOf ∈ GT := GT_5 220 rfl rfl
set_option maxRecDepth 20000 in
theorem tm_5_221 : Cond.static yX12_escapeOf ∈ GT := GT_5 221 rfl rfl
set_option maxRecDepth 20000 in
theorem tm_5_222 : Cond.code yX12_escapeOf cX12_escapeOf 1 (Option.some Jvm.ClassFile.FieldType.int) ∈ GT := GT_5 222 rfl rfl
set_option maxRecDepth 20000 in
theorem tm_5_223 : Cond.methodLink "FormatDumpModel" 141 yX12_readDirective ∈ GT := GT_5 223 rfl rfl
set_option maxRecDepth 20000 in
theorem tm_5_225 : Cond.instanceMethod yX12_readDirective ∈ GT := GT_5 225 rfl rfl
set_option maxRecDepth 20000 in
theorem tm_5_226 : Cond.code yX12_readDirective cX12_readDirective 4 (Option.some Jvm.ClassFile.FieldType.boolean) ∈ GT := GT_5 226 rfl rfl
set_option maxRecDepth 20000 in
theorem tm_5_227 : Cond.methodLink "FormatDumpModel" 116 yX12_readTwo ∈ GT := GT_5 227 rfl rfl
set_option maxRecDepth 20000 in
theorem tm_5_229 : Cond.instanceMethod yX12_readTwo ∈ GT := GT_5 229 rfl rfl
set_option maxRecDepth 20000 in
theorem tm_5_230 : Cond.code yX12_readTwo cX12_readTwo 3 (Option.some Jvm.ClassFile.FieldType.int) ∈ GT := GT_5 230 rfl rfl
set_option maxRecDepth 20000 in
theorem tm_5_231 : Cond.methodLink "FormatDumpModel" 218 yX12_begin ∈ GT := GT_5 231 rfl rfl
set_option maxRecDepth 20000 in
theorem tm_5_233 : Cond.instanceMethod yX12_begin ∈ GT := GT_5 233 rfl rfl
set_option maxRecDepth 20000 in
theorem tm_5_234 : Cond.code yX12_begin cX12_begin 1 (Option.none : Option Jvm.ClassFile.FieldType) ∈ GT := GT_5 234 rfl rfl
set_option maxRecDepth 20000 in
theorem tm_5_235 : Cond.methodLink "FormatDumpModel" 221 yX12_printOnce ∈ GT := GT_5 235 rfl rfl
set_option maxRecDepth 20000 in
theorem tm_5_237 : Cond.instanceMethod yX12_printOnce ∈ GT := GT_5 237 rfl rfl
set_option maxRecDepth 20000 in
theorem tm_5_238 : Cond.code yX12_printOnce cX12_printOnce 2 (Option.none : Option Jvm.ClassFile.FieldType) ∈ GT := GT_5 238 rfl rfl
set_option maxRecDepth 20000 in
theorem tm_5_239 : Cond.methodLink "FormatDumpModel" 87 yX12_put ∈ GT := GT_5 239 rfl rfl
set_option maxRecDepth 20000 in
theorem tm_6_1 : Cond.instanceMethod yX12_put ∈ GT := GT_6 1 rfl rfl
set_option maxRecDepth 20000 in
theorem tm_6_2 : Cond.code yX12_put cX12_put 2 (Option.none : Option Jvm.ClassFile.FieldType) ∈ GT := GT_6 2 rfl rfl
set_option maxRecDepth 20000 in
theorem tm_6_3 : Cond.methodLink "FormatDumpModel" 212 yX12_printDirective ∈ GT := GT_6 3 rfl rfl
set_option maxRecDepth 20000 in
theorem tm_6_5 : Cond.instanceMethod yX12_printDirective ∈ GT := GT_6 5 rfl rfl
set_option maxRecDepth 20000 in
theorem tm_6_6 : Cond.code yX12_printDirective cX12_printDirective 3 (Option.none : Option Jvm.ClassFile.FieldType) ∈ GT := GT_6 6 rfl rfl
set_option maxRecDepth 20000 in
theorem tm_6_7 : Cond.methodLink "FormatDumpModel" 177 yX12_takeNumber ∈ GT := GT_6 7 rfl rfl
set_option maxRecDepth 20000 in
theorem tm_6_9 : Cond.instanceMethod yX12_takeNumber ∈ GT := GT_6 9 rfl rfl
set_option maxRecDepth 20000 in
theorem tm_6_10 : Cond.code yX12_takeNumber cX12_takeNumber 2 (Option.some Jvm.ClassFile.FieldType.long) ∈ GT := GT_6 10 rfl rfl
set_option maxRecDepth 20000 in
theorem tm_6_11 : Cond.methodLink "FormatDumpModel" 159 yX12_textNumber ∈ GT := GT_6 11 rfl rfl
set_option maxRecDepth 20000 in
theorem tm_6_13 : Cond.instanceMethod yX12_textNumber ∈ GT := GT_6 13 rfl rfl
set_option maxRecDepth 20000 in
theorem tm_6_14 : Cond.code yX12_textNumber cX12_textNumber 9 (Option.some Jvm.ClassFile.FieldType.long) ∈ GT := GT_6 14 rfl rfl
set_option maxRecDepth 20000 in
theorem tm_6_15 : Cond.methodLink "FormatDumpModel" 145 yX12_textAt ∈ GT := GT_6 15 rfl rfl
set_option maxRecDepth 20000 in
theorem tm_6_17 : Cond.instanceMethod yX12_textAt ∈ GT := GT_6 17 rfl rfl
set_option maxRecDepth 20000 in
theorem tm_6_18 : Cond.code yX12_textAt cX12_textAt 3 (Option.some Jvm.ClassFile.FieldType.char) ∈ GT := GT_6 18 rfl rfl
set_option maxRecDepth 20000 in
theorem tm_6_19 : Cond.methodLink "FormatDumpModel" 152 yX12_baseDigit ∈ GT := GT_6 19 rfl rfl
set_option maxRecDepth 20000 in
theorem tm_6_20 : Cond.static yX12_baseDigit ∈ GT := GT_6 20 rfl rfl
set_option maxRecDepth 20000 in
theorem tm_6_21 : Cond.code yX12_baseDigit cX12_baseDigit 3 (Option.some Jvm.ClassFile.FieldType.int) ∈ GT := GT_6 21 rfl rfl
set_option maxRecDepth 20000 in
theorem tm_6_22 : Cond.methodLink "FormatDumpModel" 191 yX12_cutTo ∈ GT := GT_6 22 rfl rfl
set_option maxRecDepth 20000 in
theorem tm_6_23 : Cond.static yX12_cutTo ∈ GT := GT_6 23 rfl rfl
set_option maxRecDepth 20000 in
theorem tm_6_24 : Cond.code yX12_cutTo cX12_cutTo 2 (Option.some Jvm.ClassFile.FieldType.int) ∈ GT := GT_6 24 rfl rfl
set_option maxRecDepth 20000 in
theorem tm_6_25 : Cond.constantLong "FormatDumpModel" 173 (-99) ∈ GT := GT_6 25 rfl rfl
set_option maxRecDepth 20000 in
theorem tm_6_26 : Cond.constantLong "FormatDumpModel" 175 (99) ∈ GT := GT_6 26 rfl rfl
set_option maxRecDepth 20000 in
theorem tm_6_27 : Cond.methodLink "FormatDumpModel" 195 yX12_takeText ∈ GT := GT_6 27 rfl rfl
set_option maxRecDepth 20000 in
theorem tm_6_29 : Cond.instanceMethod yX12_takeText ∈ GT := GT_6 29 rfl rfl
set_option maxRecDepth 20000 in
theorem tm_6_30 : Cond.code yX12_takeText cX12_takeText 5 (Option.none : Option Jvm.ClassFile.FieldType) ∈ GT := GT_6 30 rfl rfl
set_option maxRecDepth 20000 in
theorem tm_6_31 : Cond.methodLink "FormatDumpModel" 166 yX12_reckon ∈ GT := GT_6 31 rfl rfl
set_option maxRecDepth 20000 in
theorem tm_6_33 : Cond.instanceMethod yX12_reckon ∈ GT := GT_6 33 rfl rfl
set_option maxRecDepth 20000 in
theorem tm_6_34 : Cond.code yX12_reckon cX12_reckon 9 (Option.none : Option Jvm.ClassFile.FieldType) ∈ GT := GT_6 34 rfl rfl
set_option maxRecDepth 20000 in
theorem tm_6_35 : Cond.constantLong "FormatDumpModel" 81 (5) ∈ GT := GT_6 35 rfl rfl
set_option maxRecDepth 20000 in
theorem tm_6_36 : Cond.methodLink "FormatDumpModel" 83 yX12_digit ∈ GT := GT_6 36 rfl rfl
set_option maxRecDepth 20000 in
theorem tm_6_37 : Cond.static yX12_digit ∈ GT := GT_6 37 rfl rfl
set_option maxRecDepth 20000 in
theorem tm_6_38 : Cond.code yX12_digit cX12_digit 2 (Option.some Jvm.ClassFile.FieldType.char) ∈ GT := GT_6 38 rfl rfl
set_option maxRecDepth 20000 in
theorem tm_6_39 : Cond.methodLink "FormatDumpModel" 170 yX12_fill ∈ GT := GT_6 39 rfl rfl
set_option maxRecDepth 20000 in
theorem tm_6_41 : Cond.instanceMethod yX12_fill ∈ GT := GT_6 41 rfl rfl
set_option maxRecDepth 20000 in
theorem tm_6_42 : Cond.code yX12_fill cX12_fill 2 (Option.none : Option Jvm.ClassFile.FieldType) ∈ GT := GT_6 42 rfl rfl
set_option maxRecDepth 20000 in
theorem tm_6_43 : Cond.constantLong "FormatDumpModel" 198 (255) ∈ GT := GT_6 43 rfl rfl
set_option maxRecDepth 20000 in
theorem tm_6_44 : Cond.methodLink "FormatDumpModel" 200 yX12_noArgument ∈ GT := GT_6 44 rfl rfl
set_option maxRecDepth 20000 in
theorem tm_6_46 : Cond.instanceMethod yX12_noArgument ∈ GT := GT_6 46 rfl rfl
set_option maxRecDepth 20000 in
theorem tm_6_47 : Cond.code yX12_noArgument cX12_noArgument 1 (Option.some Jvm.ClassFile.FieldType.int) ∈ GT := GT_6 47 rfl rfl
set_option maxRecDepth 20000 in
theorem tm_6_48 : Cond.methodLink "FormatDumpModel" 203 yX12_printRow ∈ GT := GT_6 48 rfl rfl
set_option maxRecDepth 20000 in
theorem tm_6_50 : Cond.instanceMethod yX12_printRow ∈ GT := GT_6 50 rfl rfl
set_option maxRecDepth 20000 in
theorem tm_6_51 : Cond.code yX12_printRow cX12_printRow 3 (Option.none : Option Jvm.ClassFile.FieldType) ∈ GT := GT_6 51 rfl rfl
set_option maxRecDepth 20000 in
theorem tm_6_52 : Cond.methodLink "FormatDumpModel" 181 yX12_putMany ∈ GT := GT_6 52 rfl rfl
set_option maxRecDepth 20000 in
theorem tm_6_54 : Cond.instanceMethod yX12_putMany ∈ GT := GT_6 54 rfl rfl
set_option maxRecDepth 20000 in
theorem tm_6_55 : Cond.code yX12_putMany cX12_putMany 4 (Option.none : Option Jvm.ClassFile.FieldType) ∈ GT := GT_6 55 rfl rfl
set_option maxRecDepth 20000 in
theorem tm_6_56 : Cond.methodLink "FormatDumpModel" 206 yX12_undo ∈ GT := GT_6 56 rfl rfl
set_option maxRecDepth 20000 in
theorem tm_6_58 : Cond.instanceMethod yX12_undo ∈ GT := GT_6 58 rfl rfl
set_option maxRecDepth 20000 in
theorem tm_6_59 : Cond.code yX12_undo cX12_undo 8 (Option.none : Option Jvm.ClassFile.FieldType) ∈ GT := GT_6 59 rfl rfl
set_option maxRecDepth 20000 in
theorem tm_6_60 : Cond.methodLink "FormatDumpModel" 209 yX12_printWhole ∈ GT := GT_6 60 rfl rfl
set_option maxRecDepth 20000 in
theorem tm_6_62 : Cond.instanceMethod yX12_printWhole ∈ GT := GT_6 62 rfl rfl
set_option maxRecDepth 20000 in
theorem tm_6_63 : Cond.code yX12_printWhole cX12_printWhole 13 (Option.none : Option Jvm.ClassFile.FieldType) ∈ GT := GT_6 63 rfl rfl
set_option maxRecDepth 20000 in
theorem tm_6_64 : Cond.methodLink "FormatDumpModel" 185 yX12_putDigits ∈ GT := GT_6 64 rfl rfl
set_option maxRecDepth 20000 in
theorem tm_6_66 : Cond.instanceMethod yX12_putDigits ∈ GT := GT_6 66 rfl rfl
set_option maxRecDepth 20000 in
theorem tm_6_67 : Cond.code yX12_putDigits cX12_putDigits 2 (Option.none : Option Jvm.ClassFile.FieldType) ∈ GT := GT_6 67 rfl rfl
set_option maxRecDepth 20000 in
theorem tm_6_68 : Cond.methodLink "FormatDumpModel" 227 yX12_end ∈ GT := GT_6 68 rfl rfl
set_option maxRecDepth 20000 in
theorem tm_6_70 : Cond.instanceMethod yX12_end ∈ GT := GT_6 70 rfl rfl
set_option maxRecDepth 20000 in
theorem tm_6_71 : Cond.code yX12_end cX12_end 1 (Option.some Jvm.ClassFile.FieldType.int) ∈ GT := GT_6 71 rfl rfl
set_option maxRecDepth 20000 in
theorem tm_6_72 : Cond.methodLink "FormatDumpLaw" 98 yX12_odd ∈ GT := GT_6 72 rfl rfl
set_option maxRecDepth 20000 in
theorem tm_6_73 : Cond.instanceMethod yX12_odd ∈ GT := GT_6 73 rfl rfl
set_option maxRecDepth 20000 in
theorem tm_6_74 : Cond.selects "FormatDumpModel" yX12_odd yX12_odd ∈ GT := GT_6 74 rfl rfl
set_option maxRecDepth 20000 in
theorem tm_6_75 : Cond.code yX12_odd cX12_odd 1 (Option.some Jvm.ClassFile.FieldType.int) ∈ GT := GT_6 75 rfl rfl
set_option maxRecDepth 20000 in
theorem tm_6_76 : Cond.methodLink "FormatDumpLaw" 101 yX12_feed ∈ GT := GT_6 76 rfl rfl
set_option maxRecDepth 20000 in
theorem tm_6_77 : Cond.instanceMethod yX12_feed ∈ GT := GT_6 77 rfl rfl
set_option maxRecDepth 20000 in
theorem tm_6_78 : Cond.selects "FormatDumpModel" yX12_feed yX12_feed ∈ GT := GT_6 78 rfl rfl
set_option maxRecDepth 20000 in
theorem tm_6_79 : Cond.code yX12_feed cX12_feed 8 (Option.some Jvm.ClassFile.FieldType.int) ∈ GT := GT_6 79 rfl rfl
set_option maxRecDepth 20000 in
theorem tm_6_80 : Cond.methodLink "FormatDumpLaw" 105 yX12_cut ∈ GT := GT_6 80 rfl rfl
set_option maxRecDepth 20000 in
theorem tm_6_81 : Cond.instanceMethod yX12_cut ∈ GT := GT_6 81 rfl rfl
set_option maxRecDepth 20000 in
theorem tm_6_82 : Cond.selects "FormatDumpModel" yX12_cut yX12_cut ∈ GT := GT_6 82 rfl rfl
set_option maxRecDepth 20000 in
theorem tm_6_83 : Cond.code yX12_cut cX12_cut 3 (Option.some Jvm.ClassFile.FieldType.int) ∈ GT := GT_6 83 rfl rfl
set_option maxRecDepth 20000 in
theorem tm_6_84 : Cond.methodLink "FormatDumpLaw" 109 yX12_words ∈ GT := GT_6 84 rfl rfl
set_option maxRecDepth 20000 in
theorem tm_6_85 : Cond.instanceMethod yX12_words ∈ GT := GT_6 85 rfl rfl
set_option maxRecDepth 20000 in
theorem tm_6_86 : Cond.selects "FormatDumpModel" yX12_words yX12_words ∈ GT := GT_6 86 rfl rfl
set_option maxRecDepth 20000 in
theorem tm_6_87 : Cond.code yX12_words cX12_words 9 (Option.some Jvm.ClassFile.FieldType.int) ∈ GT := GT_6 87 rfl rfl
set_option maxRecDepth 20000 in
theorem tm_6_88 : Cond.methodLink "FormatDumpModel" 244 yX12_isLikeBefore ∈ GT := GT_6 88 rfl rfl
set_option maxRecDepth 20000 in
theorem tm_6_90 : Cond.instanceMethod yX12_isLikeBefore ∈ GT := GT_6 90 rfl rfl
set_option maxRecDepth 20000 in
theorem tm_6_91 : Cond.code yX12_isLikeBefore cX12_isLikeBefore 4 (Option.some Jvm.ClassFile.FieldType.boolean) ∈ GT := GT_6 91 rfl rfl
set_option maxRecDepth 20000 in
theorem tm_6_92 : Cond.methodLink "FormatDumpModel" 247 yX12_putAddress ∈ GT := GT_6 92 rfl rfl
set_option maxRecDepth 20000 in
theorem tm_6_94 : Cond.instanceMethod yX12_putAddress ∈ GT := GT_6 94 rfl rfl
set_option maxRecDepth 20000 in
theorem tm_6_95 : Cond.code yX12_putAddress cX12_putAddress 4 (Option.none : Option Jvm.ClassFile.FieldType) ∈ GT := GT_6 95 rfl rfl
set_option maxRecDepth 20000 in
theorem tm_6_96 : Cond.methodLink "FormatDumpModel" 251 yX12_putField ∈ GT := GT_6 96 rfl rfl
set_option maxRecDepth 20000 in
theorem tm_6_98 : Cond.instanceMethod yX12_putField ∈ GT := GT_6 98 rfl rfl
set_option maxRecDepth 20000 in
theorem tm_6_99 : Cond.code yX12_putField cX12_putField 11 (Option.none : Option Jvm.ClassFile.FieldType) ∈ GT := GT_6 99 rfl rfl
set_option maxRecDepth 20000 in
theorem tm_6_100 : Cond.methodLink "FormatDumpModel" 233 yX12_index ∈ GT := GT_6 100 rfl rfl
set_option maxRecDepth 20000 in
theorem tm_6_101 : Cond.static yX12_index ∈ GT := GT_6 101 rfl rfl
set_option maxRecDepth 20000 in
theorem tm_6_102 : Cond.code yX12_index cX12_index 1 (Option.some Jvm.ClassFile.FieldType.int) ∈ GT := GT_6 102 rfl rfl
set_option maxRecDepth 20000 in
theorem tm_6_103 : Cond.methodLink "FormatDumpModel" 237 yX12_choose ∈ GT := GT_6 103 rfl rfl
set_option maxRecDepth 20000 in
theorem tm_6_104 : Cond.static yX12_choose ∈ GT := GT_6 104 rfl rfl
set_option maxRecDepth 20000 in
theorem tm_6_105 : Cond.code yX12_choose cX12_choose 5 (Option.some Jvm.ClassFile.FieldType.int) ∈ GT := GT_6 105 rfl rfl
set_option maxRecDepth 20000 in
theorem tm_6_106 : Cond.methodLink "FormatDumpModel" 241 yX12_putShown ∈ GT := GT_6 106 rfl rfl
set_option maxRecDepth 20000 in
theorem tm_6_108 : Cond.instanceMethod yX12_putShown ∈ GT := GT_6 108 rfl rfl
set_option maxRecDepth 20000 in
theorem tm_6_109 : Cond.code yX12_putShown cX12_putShown 3 (Option.none : Option Jvm.ClassFile.FieldType) ∈ GT := GT_6 109 rfl rfl
set_option maxRecDepth 20000 in
theorem tm_6_110 : Cond.methodLink "FormatDumpLaw" 113 yX12_pairs ∈ GT := GT_6 110 rfl rfl
set_option maxRecDepth 20000 in
theorem tm_6_111 : Cond.instanceMethod yX12_pairs ∈ GT := GT_6 111 rfl rfl
set_option maxRecDepth 20000 in
theorem tm_6_112 : Cond.selects "FormatDumpModel" yX12_pairs yX12_pairs ∈ GT := GT_6 112 rfl rfl
set_option maxRecDepth 20000 in
theorem tm_6_113 : Cond.code yX12_pairs cX12_pairs 8 (Option.some Jvm.ClassFile.FieldType.int) ∈ GT := GT_6 113 rfl rfl
set_option maxRecDepth 20000 in
theorem tm_6_114 : Cond.methodLink "FormatDumpModel" 255 yX12_isGroupEnd ∈ GT := GT_6 114 rfl rfl
set_option maxRecDepth 20000 in
theorem tm_6_115 : Cond.static yX12_isGroupEnd ∈ GT := GT_6 115 rfl rfl
set_option maxRecDepth 20000 in
theorem tm_6_116 : Cond.code yX12_isGroupEnd cX12_isGroupEnd 3 (Option.some Jvm.ClassFile.FieldType.boolean) ∈ GT := GT_6 116 rfl rfl
set_option maxRecDepth 20000 in
theorem tm_6_117 : Cond.methodLink "FormatDumpModel" 258 yX12_shown ∈ GT := GT_6 117 rfl rfl
set_option maxRecDepth 20000 in
theorem tm_6_118 : Cond.static yX12_shown ∈ GT := GT_6 118 rfl rfl
set_option maxRecDepth 20000 in
theorem tm_6_119 : Cond.code yX12_shown cX12_shown 1 (Option.some Jvm.ClassFile.FieldType.char) ∈ GT := GT_6 119 rfl rfl
set_option maxRecDepth 20000 in
theorem tm_6_120 : Cond.methodLink "FormatDumpLaw" 117 yX12_back ∈ GT := GT_6 120 rfl rfl
set_option maxRecDepth 20000 in
theorem tm_6_121 : Cond.instanceMethod yX12_back ∈ GT := GT_6 121 rfl rfl
set_option maxRecDepth 20000 in
theorem tm_6_122 : Cond.selects "FormatDumpModel" yX12_back yX12_back ∈ GT := GT_6 122 rfl rfl
set_option maxRecDepth 20000 in
theorem tm_6_123 : Cond.code yX12_back cX12_back 4 (Option.some Jvm.ClassFile.FieldType.int) ∈ GT := GT_6 123 rfl rfl
set_option maxRecDepth 20000 in
theorem tm_6_124 : Cond.methodLink "FormatDumpModel" 273 yX12_readLine ∈ GT := GT_6 124 rfl rfl
set_option maxRecDepth 20000 in
theorem tm_6_126 : Cond.instanceMethod yX12_readLine ∈ GT := GT_6 126 rfl rfl
set_option maxRecDepth 20000 in
theorem tm_6_127 : Cond.code yX12_readLine cX12_readLine 8 (Option.some Jvm.ClassFile.FieldType.boolean) ∈ GT := GT_6 127 rfl rfl
set_option maxRecDepth 20000 in
theorem tm_6_128 : Cond.methodLink "FormatDumpModel" 267 yX12_hexAt ∈ GT := GT_6 128 rfl rfl
set_option maxRecDepth 20000 in
theorem tm_6_130 : Cond.instanceMethod yX12_hexAt ∈ GT := GT_6 130 rfl rfl
set_option maxRecDepth 20000 in
theorem tm_6_131 : Cond.code yX12_hexAt cX12_hexAt 2 (Option.some Jvm.ClassFile.FieldType.int) ∈ GT := GT_6 131 rfl rfl
set_option maxRecDepth 20000 in
theorem tm_6_132 : Cond.methodLink "FormatDumpModel" 270 yX12_isNext ∈ GT := GT_6 132 rfl rfl
set_option maxRecDepth 20000 in
theorem tm_6_134 : Cond.instanceMethod yX12_isNext ∈ GT := GT_6 134 rfl rfl
set_option maxRecDepth 20000 in
theorem tm_6_135 : Cond.code yX12_isNext cX12_isNext 2 (Option.some Jvm.ClassFile.FieldType.boolean) ∈ GT := GT_6 135 rfl rfl
set_option maxRecDepth 20000 in
theorem tm_6_136 : Cond.methodLink "FormatDumpLaw" 120 yX12_patch ∈ GT := GT_6 136 rfl rfl
set_option maxRecDepth 20000 in
theorem tm_6_137 : Cond.instanceMethod yX12_patch ∈ GT := GT_6 137 rfl rfl
set_option maxRecDepth 20000 in
theorem tm_6_138 : Cond.selects "FormatDumpModel" yX12_patch yX12_patch ∈ GT := GT_6 138 rfl rfl
set_option maxRecDepth 20000 in
theorem tm_6_139 : Cond.code yX12_patch cX12_patch 4 (Option.some Jvm.ClassFile.FieldType.int) ∈ GT := GT_6 139 rfl rfl
set_option maxRecDepth 20000 in
theorem tm_6_140 : Cond.methodLink "FormatDumpLaw" 123 yX12_trim ∈ GT := GT_6 140 rfl rfl
set_option maxRecDepth 20000 in
theorem tm_6_141 : Cond.instanceMethod yX12_trim ∈ GT := GT_6 141 rfl rfl
set_option maxRecDepth 20000 in
theorem tm_6_142 : Cond.selects "FormatDumpModel" yX12_trim yX12_trim ∈ GT := GT_6 142 rfl rfl
set_option maxRecDepth 20000 in
theorem tm_6_143 : Cond.code yX12_trim cX12_trim 3 (Option.some Jvm.ClassFile.FieldType.int) ∈ GT := GT_6 143 rfl rfl
set_option maxRecDepth 20000 in
theorem tm_6_144 : Cond.methodLink "FormatDumpLaw" 127 yX12_place ∈ GT := GT_6 144 rfl rfl
set_option maxRecDepth 20000 in
theorem tm_6_145 : Cond.instanceMethod yX12_place ∈ GT := GT_6 145 rfl rfl
set_option maxRecDepth 20000 in
theorem tm_6_146 : Cond.selects "FormatDumpModel" yX12_place yX12_place ∈ GT := GT_6 146 rfl rfl
set_option maxRecDepth 20000 in
theorem tm_6_147 : Cond.code yX12_place cX12_place 1 (Option.some Jvm.ClassFile.FieldType.int) ∈ GT := GT_6 147 rfl rfl
set_option maxRecDepth 20000 in
theorem tm_6_148 : Cond.methodLink "FormatDumpLaw" 131 yX12_output ∈ GT := GT_6 148 rfl rfl
set_option maxRecDepth 20000 in
theorem tm_6_149 : Cond.instanceMethod yX12_output ∈ GT := GT_6 149 rfl rfl
set_option maxRecDepth 20000 in
theorem tm_6_150 : Cond.selects "FormatDumpModel" yX12_output yX12_output ∈ GT := GT_6 150 rfl rfl
set_option maxRecDepth 20000 in
theorem tm_6_151 : Cond.code yX12_output cX12_output 2 (Option.some Jvm.ClassFile.FieldType.int) ∈ GT := GT_6 151 rfl rfl
set_option maxRecDepth 20000 in
theorem tm_6_152 : Cond.methodLink "FormatDumpLaw" 135 yX12_data ∈ GT := GT_6 152 rfl rfl
set_option maxRecDepth 20000 in
theorem tm_6_153 : Cond.instanceMethod yX12_data ∈ GT := GT_6 153 rfl rfl
set_option maxRecDepth 20000 in
theorem tm_6_154 : Cond.selects "FormatDumpModel" yX12_data yX12_data ∈ GT := GT_6 154 rfl rfl
set_option maxRecDepth 20000 in
theorem tm_6_155 : Cond.code yX12_data cX12_data 2 (Option.some Jvm.ClassFile.FieldType.int) ∈ GT := GT_6 155 rfl rfl
set_option maxRecDepth 20000 in
theorem tm_6_156 : Cond.constantLong "FormatDumpLaw" 73 (4294967295) ∈ GT := GT_6 156 rfl rfl
set_option maxRecDepth 20000 in
theorem tp_0 : Cond.selects "FormatDump$Directive" yX2_forget yX2_forget ∈ GT := GT_s (List.mem_of_getElem? (i := 0) rfl) rfl
set_option maxRecDepth 20000 in
theorem tp_1 : Cond.selects "FormatDump$Printer" yX8_readPiece yX8_readPiece ∈ GT := GT_s (List.mem_of_getElem? (i := 1) rfl) rfl
set_option maxRecDepth 20000 in
theorem tp_2 : Cond.selects "FormatDump$Escape" yX3_readLetter yX3_readLetter ∈ GT := GT_s (List.mem_of_getElem? (i := 2) rfl) rfl
set_option maxRecDepth 20000 in
theorem tp_3 : Cond.selects "FormatDump$Escape" yX3_readOctal yX3_readOctal ∈ GT := GT_s (List.mem_of_getElem? (i := 3) rfl) rfl
set_option maxRecDepth 20000 in
theorem tp_4 : Cond.selects "FormatDump$Directive" yX2_readFlags yX2_readFlags ∈ GT := GT_s (List.mem_of_getElem? (i := 4) rfl) rfl
set_option maxRecDepth 20000 in
theorem tp_5 : Cond.selects "FormatDump$Directive" yX2_noteFlag yX2_noteFlag ∈ GT := GT_s (List.mem_of_getElem? (i := 5) rfl) rfl
set_option maxRecDepth 20000 in
theorem tp_6 : Cond.selects "FormatDump$Directive" yX2_readWidth yX2_readWidth ∈ GT := GT_s (List.mem_of_getElem? (i := 6) rfl) rfl
set_option maxRecDepth 20000 in
theorem tp_7 : Cond.selects "FormatDump$Directive" yX2_readTwoDigits yX2_readTwoDigits ∈ GT := GT_s (List.mem_of_getElem? (i := 7) rfl) rfl
set_option maxRecDepth 20000 in
theorem tp_8 : Cond.selects "FormatDump$Directive" yX2_readPrecision yX2_readPrecision ∈ GT := GT_s (List.mem_of_getElem? (i := 8) rfl) rfl
set_option maxRecDepth 20000 in
theorem tp_9 : Cond.selects "FormatDump$Directive" yX2_readLength yX2_readLength ∈ GT := GT_s (List.mem_of_getElem? (i := 9) rfl) rfl
set_option maxRecDepth 20000 in
theorem tp_10 : Cond.selects "FormatDump$Directive" yX2_isLetter yX2_isLetter ∈ GT := GT_s (List.mem_of_getElem? (i := 10) rfl) rfl
set_option maxRecDepth 20000 in
theorem tp_11 : Cond.selects "FormatDump$Printer" yX8_printDirective yX8_printDirective ∈ GT := GT_s (List.mem_of_getElem? (i := 11) rfl) rfl
set_option maxRecDepth 20000 in
theorem tp_12 : Cond.selects "FormatDump$NumberReading" yX5_readCharacter yX5_readCharacter ∈ GT := GT_s (List.mem_of_getElem? (i := 12) rfl) rfl
set_option maxRecDepth 20000 in
theorem tp_13 : Cond.selects "FormatDump$NumberReading" yX5_readDigits yX5_readDigits ∈ GT := GT_s (List.mem_of_getElem? (i := 13) rfl) rfl
set_option maxRecDepth 20000 in
theorem tp_14 : Cond.selects "FormatDump$Printer" yX8_loadCharacter yX8_loadCharacter ∈ GT := GT_s (List.mem_of_getElem? (i := 14) rfl) rfl
set_option maxRecDepth 20000 in
theorem tp_15 : Cond.selects "FormatDump$Printer" yX8_printFilled yX8_printFilled ∈ GT := GT_s (List.mem_of_getElem? (i := 15) rfl) rfl
set_option maxRecDepth 20000 in
theorem tp_16 : Cond.selects "FormatDump$Printer" yX8_loadText yX8_loadText ∈ GT := GT_s (List.mem_of_getElem? (i := 16) rfl) rfl
set_option maxRecDepth 20000 in
theorem tp_17 : Cond.selects "FormatDump$Printer" yX8_loadNumber yX8_loadNumber ∈ GT := GT_s (List.mem_of_getElem? (i := 17) rfl) rfl
set_option maxRecDepth 20000 in
theorem tp_18 : Cond.selects "FormatDump$Figures" yX4_characterOf yX4_characterOf ∈ GT := GT_s (List.mem_of_getElem? (i := 18) rfl) rfl
set_option maxRecDepth 20000 in
theorem tp_19 : Cond.selects "FormatDump$Printer" yX8_keepPrecision yX8_keepPrecision ∈ GT := GT_s (List.mem_of_getElem? (i := 19) rfl) rfl
set_option maxRecDepth 20000 in
theorem tp_20 : Cond.selects "FormatDump$Printer" yX8_unescapePiece yX8_unescapePiece ∈ GT := GT_s (List.mem_of_getElem? (i := 20) rfl) rfl
set_option maxRecDepth 20000 in
theorem tp_21 : Cond.selects "FormatDump$Printer" yX8_printNumber yX8_printNumber ∈ GT := GT_s (List.mem_of_getElem? (i := 21) rfl) rfl
set_option maxRecDepth 20000 in
theorem tp_22 : Cond.selects "FormatDump$Printer" yX8_narrowed yX8_narrowed ∈ GT := GT_s (List.mem_of_getElem? (i := 22) rfl) rfl
set_option maxRecDepth 20000 in
theorem tp_23 : Cond.selects "FormatDump$Printer" yX8_digitsDue yX8_digitsDue ∈ GT := GT_s (List.mem_of_getElem? (i := 23) rfl) rfl
set_option maxRecDepth 20000 in
theorem tp_24 : Cond.selects "FormatDump$Printer" yX8_signOf yX8_signOf ∈ GT := GT_s (List.mem_of_getElem? (i := 24) rfl) rfl
set_option maxRecDepth 20000 in
theorem tp_25 : Cond.selects "FormatDump" yX11_answerOfPage yX11_answerOfPage ∈ GT := GT_s (List.mem_of_getElem? (i := 25) rfl) rfl
set_option maxRecDepth 20000 in
theorem tp_26 : Cond.selects "java/lang/Throwable" (⟨"java/lang/Throwable", "fillInStackTrace", "(I)Ljava/lang/Throwable;"⟩ : MethodName) (⟨"java/lang/Throwable", "fillInStackTrace", "(I)Ljava/lang/Throwable;"⟩ : MethodName) ∈ GT := GT_s (List.mem_of_getElem? (i := 26) rfl) rfl
set_option maxRecDepth 20000 in
theorem tp_27 : Cond.selects "FormatDump" yX11_typeWord yX11_typeWord ∈ GT := GT_s (List.mem_of_getElem? (i := 27) rfl) rfl
set_option maxRecDepth 20000 in
theorem tp_28 : Cond.selects "FormatDump" yX11_feedWord yX11_feedWord ∈ GT := GT_s (List.mem_of_getElem? (i := 28) rfl) rfl
set_option maxRecDepth 20000 in
theorem tp_29 : Cond.selects "FormatDump$WordDump" yX10_isLikeBefore yX10_isLikeBefore ∈ GT := GT_s (List.mem_of_getElem? (i := 29) rfl) rfl
set_option maxRecDepth 20000 in
theorem tp_30 : Cond.selects "FormatDump$WordDump" yX10_writeLine yX10_writeLine ∈ GT := GT_s (List.mem_of_getElem? (i := 30) rfl) rfl
set_option maxRecDepth 20000 in
theorem tp_31 : Cond.selects "FormatDump$WordDump" yX10_writeAddress yX10_writeAddress ∈ GT := GT_s (List.mem_of_getElem? (i := 31) rfl) rfl
set_option maxRecDepth 20000 in
theorem tp_32 : Cond.selects "FormatDump$WordDump" yX10_wordAt yX10_wordAt ∈ GT := GT_s (List.mem_of_getElem? (i := 32) rfl) rfl
set_option maxRecDepth 20000 in
theorem tp_33 : Cond.selects "FormatDump$WordDump" yX10_writeField yX10_writeField ∈ GT := GT_s (List.mem_of_getElem? (i := 33) rfl) rfl
set_option maxRecDepth 20000 in
theorem tp_34 : Cond.selects "FormatDump$WordDump" yX10_loadCharacter yX10_loadCharacter ∈ GT := GT_s (List.mem_of_getElem? (i := 34) rfl) rfl
set_option maxRecDepth 20000 in
theorem tp_35 : Cond.selects "FormatDump$WordDump" yX10_loadNumber yX10_loadNumber ∈ GT := GT_s (List.mem_of_getElem? (i := 35) rfl) rfl
set_option maxRecDepth 20000 in
theorem tp_36 : Cond.selects "FormatDump$WordDump" yX10_fieldBase yX10_fieldBase ∈ GT := GT_s (List.mem_of_getElem? (i := 36) rfl) rfl
set_option maxRecDepth 20000 in
theorem tp_37 : Cond.selects "FormatDump$WordDump" yX10_leastDigits yX10_leastDigits ∈ GT := GT_s (List.mem_of_getElem? (i := 37) rfl) rfl
set_option maxRecDepth 20000 in
theorem tp_38 : Cond.selects "FormatDump$WordDump" yX10_fieldWidth yX10_fieldWidth ∈ GT := GT_s (List.mem_of_getElem? (i := 38) rfl) rfl
set_option maxRecDepth 20000 in
theorem tp_39 : Cond.selects "FormatDump$WordDump" yX10_decimalWidth yX10_decimalWidth ∈ GT := GT_s (List.mem_of_getElem? (i := 39) rfl) rfl
set_option maxRecDepth 20000 in
theorem tp_40 : Cond.selects "FormatDump$PairDump" yX6_writeDigits yX6_writeDigits ∈ GT := GT_s (List.mem_of_getElem? (i := 40) rfl) rfl
set_option maxRecDepth 20000 in
theorem tp_41 : Cond.selects "FormatDump$PairReader" yX7_readLine yX7_readLine ∈ GT := GT_s (List.mem_of_getElem? (i := 41) rfl) rfl
set_option maxRecDepth 20000 in
theorem tp_42 : Cond.selects "FormatDump$PairReader" yX7_readAddress yX7_readAddress ∈ GT := GT_s (List.mem_of_getElem? (i := 42) rfl) rfl
set_option maxRecDepth 20000 in
theorem tp_43 : Cond.selects "FormatDump$PairReader" yX7_readOne yX7_readOne ∈ GT := GT_s (List.mem_of_getElem? (i := 43) rfl) rfl
set_option maxRecDepth 20000 in
theorem tp_44 : Cond.selects "FormatDump$PairReader" yX7_readPairs yX7_readPairs ∈ GT := GT_s (List.mem_of_getElem? (i := 44) rfl) rfl
set_option maxRecDepth 20000 in
theorem tp_45 : Cond.selects "FormatDump$PairReader" yX7_readPair yX7_readPair ∈ GT := GT_s (List.mem_of_getElem? (i := 45) rfl) rfl
set_option maxRecDepth 20000 in
theorem tp_46 : Cond.selects "FormatDump$PairReader" yX7_readBlanks yX7_readBlanks ∈ GT := GT_s (List.mem_of_getElem? (i := 46) rfl) rfl
set_option maxRecDepth 20000 in
theorem tp_47 : Cond.selects "FormatDump$PairReader" yX7_readSeen yX7_readSeen ∈ GT := GT_s (List.mem_of_getElem? (i := 47) rfl) rfl
set_option maxRecDepth 20000 in
theorem tp_48 : Cond.selects "FormatDumpModel" yX12_typed yX12_typed ∈ GT := GT_s (List.mem_of_getElem? (i := 48) rfl) rfl
set_option maxRecDepth 20000 in
theorem tp_49 : Cond.selects "FormatDumpModel" yX12_refused yX12_refused ∈ GT := GT_s (List.mem_of_getElem? (i := 49) rfl) rfl
set_option maxRecDepth 20000 in
theorem tp_50 : Cond.selects "FormatDumpModel" yX12_badAt yX12_badAt ∈ GT := GT_s (List.mem_of_getElem? (i := 50) rfl) rfl
set_option maxRecDepth 20000 in
theorem tp_51 : Cond.selects "FormatDumpModel" yX12_readEscape yX12_readEscape ∈ GT := GT_s (List.mem_of_getElem? (i := 51) rfl) rfl
set_option maxRecDepth 20000 in
theorem tp_52 : Cond.selects "FormatDumpModel" yX12_charAt yX12_charAt ∈ GT := GT_s (List.mem_of_getElem? (i := 52) rfl) rfl
set_option maxRecDepth 20000 in
theorem tp_53 : Cond.selects "FormatDumpModel" yX12_readDirective yX12_readDirective ∈ GT := GT_s (List.mem_of_getElem? (i := 53) rfl) rfl
set_option maxRecDepth 20000 in
theorem tp_54 : Cond.selects "FormatDumpModel" yX12_readTwo yX12_readTwo ∈ GT := GT_s (List.mem_of_getElem? (i := 54) rfl) rfl
set_option maxRecDepth 20000 in
theorem tp_55 : Cond.selects "FormatDumpModel" yX12_begin yX12_begin ∈ GT := GT_s (List.mem_of_getElem? (i := 55) rfl) rfl
set_option maxRecDepth 20000 in
theorem tp_56 : Cond.selects "FormatDumpModel" yX12_printOnce yX12_printOnce ∈ GT := GT_s (List.mem_of_getElem? (i := 56) rfl) rfl
set_option maxRecDepth 20000 in
theorem tp_57 : Cond.selects "FormatDumpModel" yX12_put yX12_put ∈ GT := GT_s (List.mem_of_getElem? (i := 57) rfl) rfl
set_option maxRecDepth 20000 in
theorem tp_58 : Cond.selects "FormatDumpModel" yX12_printDirective yX12_printDirective ∈ GT := GT_s (List.mem_of_getElem? (i := 58) rfl) rfl
set_option maxRecDepth 20000 in
theorem tp_59 : Cond.selects "FormatDumpModel" yX12_takeNumber yX12_takeNumber ∈ GT := GT_s (List.mem_of_getElem? (i := 59) rfl) rfl
set_option maxRecDepth 20000 in
theorem tp_60 : Cond.selects "FormatDumpModel" yX12_textNumber yX12_textNumber ∈ GT := GT_s (List.mem_of_getElem? (i := 60) rfl) rfl
set_option maxRecDepth 20000 in
theorem tp_61 : Cond.selects "FormatDumpModel" yX12_textAt yX12_textAt ∈ GT := GT_s (List.mem_of_getElem? (i := 61) rfl) rfl
set_option maxRecDepth 20000 in
theorem tp_62 : Cond.selects "FormatDumpModel" yX12_takeText yX12_takeText ∈ GT := GT_s (List.mem_of_getElem? (i := 62) rfl) rfl
set_option maxRecDepth 20000 in
theorem tp_63 : Cond.selects "FormatDumpModel" yX12_reckon yX12_reckon ∈ GT := GT_s (List.mem_of_getElem? (i := 63) rfl) rfl
set_option maxRecDepth 20000 in
theorem tp_64 : Cond.selects "FormatDumpModel" yX12_fill yX12_fill ∈ GT := GT_s (List.mem_of_getElem? (i := 64) rfl) rfl
set_option maxRecDepth 20000 in
theorem tp_65 : Cond.selects "FormatDumpModel" yX12_noArgument yX12_noArgument ∈ GT := GT_s (List.mem_of_getElem? (i := 65) rfl) rfl
set_option maxRecDepth 20000 in
theorem tp_66 : Cond.selects "FormatDumpModel" yX12_printRow yX12_printRow ∈ GT := GT_s (List.mem_of_getElem? (i := 66) rfl) rfl
set_option maxRecDepth 20000 in
theorem tp_67 : Cond.selects "FormatDumpModel" yX12_putMany yX12_putMany ∈ GT := GT_s (List.mem_of_getElem? (i := 67) rfl) rfl
set_option maxRecDepth 20000 in
theorem tp_68 : Cond.selects "FormatDumpModel" yX12_undo yX12_undo ∈ GT := GT_s (List.mem_of_getElem? (i := 68) rfl) rfl
set_option maxRecDepth 20000 in
theorem tp_69 : Cond.selects "FormatDumpModel" yX12_printWhole yX12_printWhole ∈ GT := GT_s (List.mem_of_getElem? (i := 69) rfl) rfl
set_option maxRecDepth 20000 in
theorem tp_70 : Cond.selects "FormatDumpModel" yX12_putDigits yX12_putDigits ∈ GT := GT_s (List.mem_of_getElem? (i := 70) rfl) rfl
set_option maxRecDepth 20000 in
theorem tp_71 : Cond.selects "FormatDumpModel" yX12_end yX12_end ∈ GT := GT_s (List.mem_of_getElem? (i := 71) rfl) rfl
set_option maxRecDepth 20000 in
theorem tp_72 : Cond.selects "FormatDumpModel" yX12_isLikeBefore yX12_isLikeBefore ∈ GT := GT_s (List.mem_of_getElem? (i := 72) rfl) rfl
set_option maxRecDepth 20000 in
theorem tp_73 : Cond.selects "FormatDumpModel" yX12_putAddress yX12_putAddress ∈ GT := GT_s (List.mem_of_getElem? (i := 73) rfl) rfl
set_option maxRecDepth 20000 in
theorem tp_74 : Cond.selects "FormatDumpModel" yX12_putField yX12_putField ∈ GT := GT_s (List.mem_of_getElem? (i := 74) rfl) rfl
set_option maxRecDepth 20000 in
theorem tp_75 : Cond.selects "FormatDumpModel" yX12_putShown yX12_putShown ∈ GT := GT_s (List.mem_of_getElem? (i := 75) rfl) rfl
set_option maxRecDepth 20000 in
theorem tp_76 : Cond.selects "FormatDumpModel" yX12_readLine yX12_readLine ∈ GT := GT_s (List.mem_of_getElem? (i := 76) rfl) rfl
set_option maxRecDepth 20000 in
theorem tp_77 : Cond.selects "FormatDumpModel" yX12_hexAt yX12_hexAt ∈ GT := GT_s (List.mem_of_getElem? (i := 77) rfl) rfl
set_option maxRecDepth 20000 in
theorem tp_78 : Cond.selects "FormatDumpModel" yX12_isNext yX12_isNext ∈ GT := GT_s (List.mem_of_getElem? (i := 78) rfl) rfl
theorem inG_X0 : ∀ w ∈ wsX00, w ∈ tables_1 ∧ goodWord w = true := by decide +kernel
theorem inW_X0 {y : MethodName} {c : ByteArray} {mx : Nat} {rt : Option FieldType} : ∀ w ∈ wsX00, w ∈ gW y c mx rt := fun w h => gW_of (GT_t (inG_X0 w h).1 (inG_X0 w h).2)
theorem inG_X1 : ∀ w ∈ wsX10, w ∈ tables_1 ∧ goodWord w = true := by decide +kernel
theorem inW_X1 {y : MethodName} {c : ByteArray} {mx : Nat} {rt : Option FieldType} : ∀ w ∈ wsX10, w ∈ gW y c mx rt := fun w h => gW_of (GT_t (inG_X1 w h).1 (inG_X1 w h).2)
theorem inG_X2 : ∀ w ∈ wsX20, w ∈ tables_1 ∧ goodWord w = true := by decide +kernel
theorem inW_X2 {y : MethodName} {c : ByteArray} {mx : Nat} {rt : Option FieldType} : ∀ w ∈ wsX20, w ∈ gW y c mx rt := fun w h => gW_of (GT_t (inG_X2 w h).1 (inG_X2 w h).2)
theorem inG_X3 : ∀ w ∈ wsX30, w ∈ tables_1 ∧ goodWord w = true := by decide +kernel
theorem inW_X3 {y : MethodName} {c : ByteArray} {mx : Nat} {rt : Option FieldType} : ∀ w ∈ wsX30, w ∈ gW y c mx rt := fun w h => gW_of (GT_t (inG_X3 w h).1 (inG_X3 w h).2)
theorem inG_X4 : ∀ w ∈ wsX40, w ∈ tables_1 ∧ goodWord w = true := by decide +kernel
theorem inW_X4 {y : MethodName} {c : ByteArray} {mx : Nat} {rt : Option FieldType} : ∀ w ∈ wsX40, w ∈ gW y c mx rt := fun w h => gW_of (GT_t (inG_X4 w h).1 (inG_X4 w h).2)
theorem inG_X5 : ∀ w ∈ wsX50, w ∈ tables_1 ∧ goodWord w = true := by decide +kernel
theorem inW_X5 {y : MethodName} {c : ByteArray} {mx : Nat} {rt : Option FieldType} : ∀ w ∈ wsX50, w ∈ gW y c mx rt := fun w h => gW_of (GT_t (inG_X5 w h).1 (inG_X5 w h).2)
theorem inG_X6 : ∀ w ∈ wsX60, w ∈ tables_1 ∧ goodWord w = true := by decide +kernel
theorem inW_X6 {y : MethodName} {c : ByteArray} {mx : Nat} {rt : Option FieldType} : ∀ w ∈ wsX60, w ∈ gW y c mx rt := fun w h => gW_of (GT_t (inG_X6 w h).1 (inG_X6 w h).2)
theorem inG_X7 : ∀ w ∈ wsX70, w ∈ tables_1 ∧ goodWord w = true := by decide +kernel
theorem inW_X7 {y : MethodName} {c : ByteArray} {mx : Nat} {rt : Option FieldType} : ∀ w ∈ wsX70, w ∈ gW y c mx rt := fun w h => gW_of (GT_t (inG_X7 w h).1 (inG_X7 w h).2)
theorem inG_X8 : ∀ w ∈ wsX80, w ∈ tables_1 ∧ goodWord w = true := by decide +kernel
theorem inW_X8 {y : MethodName} {c : ByteArray} {mx : Nat} {rt : Option FieldType} : ∀ w ∈ wsX80, w ∈ gW y c mx rt := fun w h => gW_of (GT_t (inG_X8 w h).1 (inG_X8 w h).2)
theorem inG_X9 : ∀ w ∈ wsX90, w ∈ tables_1 ∧ goodWord w = true := by decide +kernel
theorem inW_X9 {y : MethodName} {c : ByteArray} {mx : Nat} {rt : Option FieldType} : ∀ w ∈ wsX90, w ∈ gW y c mx rt := fun w h => gW_of (GT_t (inG_X9 w h).1 (inG_X9 w h).2)
theorem inG_X10 : ∀ w ∈ wsX100, w ∈ tables_1 ∧ goodWord w = true := by decide +kernel
theorem inW_X10 {y : MethodName} {c : ByteArray} {mx : Nat} {rt : Option FieldType} : ∀ w ∈ wsX100, w ∈ gW y c mx rt := fun w h => gW_of (GT_t (inG_X10 w h).1 (inG_X10 w h).2)
theorem inG_X11 : ∀ w ∈ wsX110, w ∈ tables_1 ∧ goodWord w = true := by decide +kernel
theorem inW_X11 {y : MethodName} {c : ByteArray} {mx : Nat} {rt : Option FieldType} : ∀ w ∈ wsX110, w ∈ gW y c mx rt := fun w h => gW_of (GT_t (inG_X11 w h).1 (inG_X11 w h).2)
theorem inG_X12 : ∀ w ∈ wsX120, w ∈ tables_1 ∧ goodWord w = true := by decide +kernel
theorem inW_X12 {y : MethodName} {c : ByteArray} {mx : Nat} {rt : Option FieldType} : ∀ w ∈ wsX120, w ∈ gW y c mx rt := fun w h => gW_of (GT_t (inG_X12 w h).1 (inG_X12 w h).2)

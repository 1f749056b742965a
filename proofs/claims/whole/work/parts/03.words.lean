/-! ===== words of the tables that every method takes along ===== -/
def zT : List Cond := lw_tbl.filter goodWord
set_option maxRecDepth 100000 in
theorem zT.at {w : Cond} (h : w ∈ lw_tbl) (g : goodWord w = true) : w ∈ zT := List.mem_filter.mpr ⟨h, g⟩
set_option maxRecDepth 100000 in
theorem zT.of {w : Cond} {i : Nat} (h : tables_1[i]? = some w) (g : goodWord w = true) : w ∈ zT := zT.at (List.mem_append_right _ (List.mem_of_getElem? h)) g
set_option maxRecDepth 100000 in
theorem zT.sel {w : Cond} {i : Nat} (h : (k2_sels lw_privs)[i]? = some w) (g : goodWord w = true) : w ∈ zT := zT.at (List.mem_append_left _ (List.mem_of_getElem? h)) g
set_option maxRecDepth 100000 in
theorem zGood {a b : Cond} (hb : b ∈ zT) : GoodIn (a :: zT) (b :: zT) := fun w hw => by
  rcases List.mem_cons.mp hw with rfl | h
  · exact ⟨List.mem_cons_of_mem _ hb, good_of_word (List.mem_filter.mp hb).2⟩
  · exact ⟨List.mem_cons_of_mem _ h, good_of_word (List.mem_filter.mp h).2⟩
set_option maxRecDepth 100000 in
theorem zGood1 {a w : Cond} {ws : List Cond} (hw : w ∈ zT) (h : GoodIn (a :: zT) ws) : GoodIn (a :: zT) (w :: ws) := fun x hx => by
  rcases List.mem_cons.mp hx with rfl | hx
  · exact ⟨List.mem_cons_of_mem _ hw, good_of_word (List.mem_filter.mp hw).2⟩
  · exact h x hx
set_option maxRecDepth 100000 in
theorem zGoodV {a b : Cond} {own C : String} {idx : Nat} {y : MethodName} (w1 : Cond.methodLink own idx y ∈ zT) (w2 : Cond.instanceMethod y ∈ zT) (w3 : Cond.selects C y y ∈ zT) (w4 : Cond.initialized C ∈ zT) (hb : b ∈ zT) : GoodIn (a :: zT) (wsV own idx C y (b :: zT)) := zGood1 w1 (zGood1 w2 (zGood1 w3 (zGood1 w4 (zGood hb))))
set_option maxRecDepth 100000 in
theorem zGoodS {a b : Cond} {own : String} {idx : Nat} {y : MethodName} (w1 : Cond.methodLink own idx y ∈ zT) (w2 : Cond.static y ∈ zT) (w3 : Cond.initialized y.cls ∈ zT) (hb : b ∈ zT) : GoodIn (a :: zT) (va_wsS own idx y (b :: zT)) := zGood1 w1 (zGood1 w2 (zGood1 w3 (zGood hb)))
def zObj (M : zMI) (pc : Nat) : Prop := ∃ idx : Nat, decode M.2.1 pc = .ok (.invokespecial idx, 3) ∧ Cond.methodLink M.1.cls idx Lib.objectInit ∈ M.2.2.2.2.1 ∧ Cond.instanceMethod Lib.objectInit ∈ M.2.2.2.2.1 ∧ Cond.code Lib.objectInit ⟨#[0xb1]⟩ 1 none ∈ M.2.2.2.2.1
def zMath (M : zMI) (pc : Nat) (y : MethodName) (cc : ByteArray) : Prop := ∃ idx : Nat, decode M.2.1 pc = .ok (.invokestatic idx, 3) ∧ Cond.methodLink M.1.cls idx y ∈ M.2.2.2.2.1 ∧ Cond.static y ∈ M.2.2.2.2.1 ∧ Cond.initialized "java/lang/Math" ∈ M.2.2.2.2.1 ∧ Cond.code y cc 2 (some .int) ∈ M.2.2.2.2.1
set_option maxRecDepth 100000 in
theorem w_0 : (Jvm.Cond.initialized "BufferedCoresLaw") ∈ zT := zT.of (i := 0) (by decide +kernel) (by decide +kernel)
set_option maxRecDepth 100000 in
theorem w_1 : (Jvm.Cond.initialized "BufferedCores") ∈ zT := zT.of (i := 1) (by decide +kernel) (by decide +kernel)
set_option maxRecDepth 100000 in
theorem w_2 : (Jvm.Cond.initialized "java/lang/Math") ∈ zT := zT.of (i := 2) (by decide +kernel) (by decide +kernel)
set_option maxRecDepth 100000 in
theorem w_3 : (Jvm.Cond.initialized "BufferedCores$Core") ∈ zT := zT.of (i := 3) (by decide +kernel) (by decide +kernel)
set_option maxRecDepth 100000 in
theorem w_4 : (Jvm.Cond.initialized "BufferedCores$Program") ∈ zT := zT.of (i := 4) (by decide +kernel) (by decide +kernel)
set_option maxRecDepth 100000 in
theorem w_5 : (Jvm.Cond.initialized "BufferedCores$Request") ∈ zT := zT.of (i := 5) (by decide +kernel) (by decide +kernel)
set_option maxRecDepth 100000 in
theorem w_6 : (Jvm.Cond.initialized "BufferedCores$StoreBuffer") ∈ zT := zT.of (i := 6) (by decide +kernel) (by decide +kernel)
set_option maxRecDepth 100000 in
theorem w_7 : (Jvm.Cond.initialized "BufferedCores$Line") ∈ zT := zT.of (i := 7) (by decide +kernel) (by decide +kernel)
set_option maxRecDepth 100000 in
theorem w_8 : (Jvm.Cond.initialized "BufferedCores$Log") ∈ zT := zT.of (i := 8) (by decide +kernel) (by decide +kernel)
set_option maxRecDepth 100000 in
theorem w_9 : (Jvm.Cond.initialized "BufferedCoresModel") ∈ zT := zT.of (i := 9) (by decide +kernel) (by decide +kernel)
set_option maxRecDepth 100000 in
theorem w_13 : (Jvm.Cond.initialized "java/lang/IndexOutOfBoundsException") ∈ zT := zT.of (i := 13) (by decide +kernel) (by decide +kernel)
set_option maxRecDepth 100000 in
theorem w_14 : (Jvm.Cond.initialized "java/lang/IllegalArgumentException") ∈ zT := zT.of (i := 14) (by decide +kernel) (by decide +kernel)
set_option maxRecDepth 100000 in
theorem w_15 : (Jvm.Cond.initialized "java/lang/IllegalStateException") ∈ zT := zT.of (i := 15) (by decide +kernel) (by decide +kernel)
set_option maxRecDepth 100000 in
theorem w_17 : (Jvm.Cond.classLink "BufferedCoresLaw" (8 : Nat) "BufferedCores") ∈ zT := zT.of (i := 17) (by decide +kernel) (by decide +kernel)
set_option maxRecDepth 100000 in
theorem w_18 : (Jvm.Cond.instantiable "BufferedCores" (3 : Nat)) ∈ zT := zT.of (i := 18) (by decide +kernel) (by decide +kernel)
set_option maxRecDepth 100000 in
theorem w_19 : (Jvm.Cond.methodLink "BufferedCoresLaw" (81 : Nat) ({ cls := "BufferedCores", name := "<init>", desc := "(I)V" } : Jvm.MethodName)) ∈ zT := zT.of (i := 19) (by decide +kernel) (by decide +kernel)
set_option maxRecDepth 100000 in
theorem w_20 : (Jvm.Cond.instanceMethod ({ cls := "BufferedCores", name := "<init>", desc := "(I)V" } : Jvm.MethodName)) ∈ zT := zT.of (i := 20) (by decide +kernel) (by decide +kernel)
set_option maxRecDepth 100000 in
theorem w_21 : (Jvm.Cond.code ({ cls := "BufferedCores", name := "<init>", desc := "(I)V" } : Jvm.MethodName) prog_1_method_1_code (4 : Nat) (Option.none : Option Jvm.ClassFile.FieldType)) ∈ zT := zT.of (i := 21) (by decide +kernel) (by decide +kernel)
set_option maxRecDepth 100000 in
theorem w_22 : (Jvm.Cond.methodLink "BufferedCores" (1 : Nat) ({ cls := "java/lang/Object", name := "<init>", desc := "()V" } : Jvm.MethodName)) ∈ zT := zT.of (i := 22) (by decide +kernel) (by decide +kernel)
set_option maxRecDepth 100000 in
theorem w_23 : (Jvm.Cond.instanceMethod ({ cls := "java/lang/Object", name := "<init>", desc := "()V" } : Jvm.MethodName)) ∈ zT := zT.of (i := 23) (by decide +kernel) (by decide +kernel)
set_option maxRecDepth 100000 in
theorem w_24 : (Jvm.Cond.code ({ cls := "java/lang/Object", name := "<init>", desc := "()V" } : Jvm.MethodName) object_method_1_code (1 : Nat) (Option.none : Option Jvm.ClassFile.FieldType)) ∈ zT := zT.of (i := 24) (by decide +kernel) (by decide +kernel)
set_option maxRecDepth 100000 in
theorem w_25 : (Jvm.Cond.methodLink "BufferedCores" (9 : Nat) ({ cls := "java/lang/Math", name := "min", desc := "(II)I" } : Jvm.MethodName)) ∈ zT := zT.of (i := 25) (by decide +kernel) (by decide +kernel)
set_option maxRecDepth 100000 in
theorem w_26 : (Jvm.Cond.static ({ cls := "java/lang/Math", name := "min", desc := "(II)I" } : Jvm.MethodName)) ∈ zT := zT.of (i := 26) (by decide +kernel) (by decide +kernel)
set_option maxRecDepth 100000 in
theorem w_27 : (Jvm.Cond.code ({ cls := "java/lang/Math", name := "min", desc := "(II)I" } : Jvm.MethodName) prog_14_method_69_code (2 : Nat) (Option.some Jvm.ClassFile.FieldType.int)) ∈ zT := zT.of (i := 27) (by decide +kernel) (by decide +kernel)
set_option maxRecDepth 100000 in
theorem w_28 : (Jvm.Cond.methodLink "BufferedCores" (15 : Nat) ({ cls := "java/lang/Math", name := "max", desc := "(II)I" } : Jvm.MethodName)) ∈ zT := zT.of (i := 28) (by decide +kernel) (by decide +kernel)
set_option maxRecDepth 100000 in
theorem w_29 : (Jvm.Cond.static ({ cls := "java/lang/Math", name := "max", desc := "(II)I" } : Jvm.MethodName)) ∈ zT := zT.of (i := 29) (by decide +kernel) (by decide +kernel)
set_option maxRecDepth 100000 in
theorem w_30 : (Jvm.Cond.code ({ cls := "java/lang/Math", name := "max", desc := "(II)I" } : Jvm.MethodName) prog_14_method_65_code (2 : Nat) (Option.some Jvm.ClassFile.FieldType.int)) ∈ zT := zT.of (i := 30) (by decide +kernel) (by decide +kernel)
set_option maxRecDepth 100000 in
theorem w_31 : (Jvm.Cond.classLink "BufferedCores" (22 : Nat) "BufferedCores$Core") ∈ zT := zT.of (i := 31) (by decide +kernel) (by decide +kernel)
set_option maxRecDepth 100000 in
theorem w_33 : (Jvm.Cond.instantiable "BufferedCores$Core" (7 : Nat)) ∈ zT := zT.of (i := 33) (by decide +kernel) (by decide +kernel)
set_option maxRecDepth 100000 in
theorem w_34 : (Jvm.Cond.methodLink "BufferedCores" (28 : Nat) ({ cls := "BufferedCores$Core", name := "<init>", desc := "(II)V" } : Jvm.MethodName)) ∈ zT := zT.of (i := 34) (by decide +kernel) (by decide +kernel)
set_option maxRecDepth 100000 in
theorem w_35 : (Jvm.Cond.instanceMethod ({ cls := "BufferedCores$Core", name := "<init>", desc := "(II)V" } : Jvm.MethodName)) ∈ zT := zT.of (i := 35) (by decide +kernel) (by decide +kernel)
set_option maxRecDepth 100000 in
theorem w_36 : (Jvm.Cond.code ({ cls := "BufferedCores$Core", name := "<init>", desc := "(II)V" } : Jvm.MethodName) prog_2_method_1_code (4 : Nat) (Option.none : Option Jvm.ClassFile.FieldType)) ∈ zT := zT.of (i := 36) (by decide +kernel) (by decide +kernel)
set_option maxRecDepth 100000 in
theorem w_37 : (Jvm.Cond.methodLink "BufferedCores$Core" (3 : Nat) ({ cls := "java/lang/Object", name := "<init>", desc := "()V" } : Jvm.MethodName)) ∈ zT := zT.of (i := 37) (by decide +kernel) (by decide +kernel)
set_option maxRecDepth 100000 in
theorem w_38 : (Jvm.Cond.classLink "BufferedCores$Core" (15 : Nat) "BufferedCores$Program") ∈ zT := zT.of (i := 38) (by decide +kernel) (by decide +kernel)
set_option maxRecDepth 100000 in
theorem w_39 : (Jvm.Cond.instantiable "BufferedCores$Program" (4 : Nat)) ∈ zT := zT.of (i := 39) (by decide +kernel) (by decide +kernel)
set_option maxRecDepth 100000 in
theorem w_41 : (Jvm.Cond.instanceMethod ({ cls := "BufferedCores$Program", name := "<init>", desc := "()V" } : Jvm.MethodName)) ∈ zT := zT.of (i := 41) (by decide +kernel) (by decide +kernel)
set_option maxRecDepth 100000 in
theorem w_42 : (Jvm.Cond.code ({ cls := "BufferedCores$Program", name := "<init>", desc := "()V" } : Jvm.MethodName) prog_5_method_1_code (1 : Nat) (Option.none : Option Jvm.ClassFile.FieldType)) ∈ zT := zT.of (i := 42) (by decide +kernel) (by decide +kernel)
set_option maxRecDepth 100000 in
theorem w_43 : (Jvm.Cond.methodLink "BufferedCores$Program" (3 : Nat) ({ cls := "java/lang/Object", name := "<init>", desc := "()V" } : Jvm.MethodName)) ∈ zT := zT.of (i := 43) (by decide +kernel) (by decide +kernel)
set_option maxRecDepth 100000 in
theorem w_44 : (Jvm.Cond.fieldLink "BufferedCores$Program" (9 : Nat) "BufferedCores$Program" "ops" "[I") ∈ zT := zT.of (i := 44) (by decide +kernel) (by decide +kernel)
set_option maxRecDepth 100000 in
theorem w_45 : (Jvm.Cond.fieldLink "BufferedCores" (85 : Nat) "BufferedCores$Program" "ops" "[I") ∈ zT := zT.of (i := 45) (by decide +kernel) (by decide +kernel)
set_option maxRecDepth 100000 in
theorem w_46 : (Jvm.Cond.fieldLink "BufferedCores$Program" (15 : Nat) "BufferedCores$Program" "as" "[I") ∈ zT := zT.of (i := 46) (by decide +kernel) (by decide +kernel)
set_option maxRecDepth 100000 in
theorem w_47 : (Jvm.Cond.fieldLink "BufferedCores" (88 : Nat) "BufferedCores$Program" "as" "[I") ∈ zT := zT.of (i := 47) (by decide +kernel) (by decide +kernel)
set_option maxRecDepth 100000 in
theorem w_48 : (Jvm.Cond.fieldLink "BufferedCores$Program" (18 : Nat) "BufferedCores$Program" "bs" "[I") ∈ zT := zT.of (i := 48) (by decide +kernel) (by decide +kernel)
set_option maxRecDepth 100000 in
theorem w_49 : (Jvm.Cond.fieldLink "BufferedCores" (91 : Nat) "BufferedCores$Program" "bs" "[I") ∈ zT := zT.of (i := 49) (by decide +kernel) (by decide +kernel)
set_option maxRecDepth 100000 in
theorem w_50 : (Jvm.Cond.fieldLink "BufferedCores$Program" (21 : Nat) "BufferedCores$Program" "length" "I") ∈ zT := zT.of (i := 50) (by decide +kernel) (by decide +kernel)
set_option maxRecDepth 100000 in
theorem w_51 : (Jvm.Cond.fieldLink "BufferedCores" (57 : Nat) "BufferedCores$Program" "length" "I") ∈ zT := zT.of (i := 51) (by decide +kernel) (by decide +kernel)
set_option maxRecDepth 100000 in
theorem w_61 : (Jvm.Cond.arrayClass Jvm.ClassFile.FieldType.int) ∈ zT := zT.of (i := 61) (by decide +kernel) (by decide +kernel)
set_option maxRecDepth 100000 in
theorem w_62 : (Jvm.Cond.classLink "BufferedCores$Core" (22 : Nat) "BufferedCores$Line") ∈ zT := zT.of (i := 62) (by decide +kernel) (by decide +kernel)
set_option maxRecDepth 100000 in
theorem w_64 : (Jvm.Cond.classLink "BufferedCores$Core" (28 : Nat) "BufferedCores$Request") ∈ zT := zT.of (i := 64) (by decide +kernel) (by decide +kernel)
set_option maxRecDepth 100000 in
theorem w_65 : (Jvm.Cond.instantiable "BufferedCores$Request" (4 : Nat)) ∈ zT := zT.of (i := 65) (by decide +kernel) (by decide +kernel)
set_option maxRecDepth 100000 in
theorem w_67 : (Jvm.Cond.instanceMethod ({ cls := "BufferedCores$Request", name := "<init>", desc := "()V" } : Jvm.MethodName)) ∈ zT := zT.of (i := 67) (by decide +kernel) (by decide +kernel)
set_option maxRecDepth 100000 in
theorem w_68 : (Jvm.Cond.code ({ cls := "BufferedCores$Request", name := "<init>", desc := "()V" } : Jvm.MethodName) prog_6_method_1_code (1 : Nat) (Option.none : Option Jvm.ClassFile.FieldType)) ∈ zT := zT.of (i := 68) (by decide +kernel) (by decide +kernel)
set_option maxRecDepth 100000 in
theorem w_69 : (Jvm.Cond.methodLink "BufferedCores$Request" (3 : Nat) ({ cls := "java/lang/Object", name := "<init>", desc := "()V" } : Jvm.MethodName)) ∈ zT := zT.of (i := 69) (by decide +kernel) (by decide +kernel)
set_option maxRecDepth 100000 in
theorem w_70 : (Jvm.Cond.fieldLink "BufferedCores$Request" (19 : Nat) "BufferedCores$Request" "kind" "I") ∈ zT := zT.of (i := 70) (by decide +kernel) (by decide +kernel)
set_option maxRecDepth 100000 in
theorem w_71 : (Jvm.Cond.fieldLink "BufferedCores" (143 : Nat) "BufferedCores$Request" "kind" "I") ∈ zT := zT.of (i := 71) (by decide +kernel) (by decide +kernel)
set_option maxRecDepth 100000 in
theorem w_72 : (Jvm.Cond.fieldLink "BufferedCores$Request" (15 : Nat) "BufferedCores$Request" "address" "I") ∈ zT := zT.of (i := 72) (by decide +kernel) (by decide +kernel)
set_option maxRecDepth 100000 in
theorem w_73 : (Jvm.Cond.fieldLink "BufferedCores" (152 : Nat) "BufferedCores$Request" "address" "I") ∈ zT := zT.of (i := 73) (by decide +kernel) (by decide +kernel)
set_option maxRecDepth 100000 in
theorem w_74 : (Jvm.Cond.fieldLink "BufferedCores$Request" (9 : Nat) "BufferedCores$Request" "inFlight" "Z") ∈ zT := zT.of (i := 74) (by decide +kernel) (by decide +kernel)
set_option maxRecDepth 100000 in
theorem w_75 : (Jvm.Cond.fieldLink "BufferedCores" (148 : Nat) "BufferedCores$Request" "inFlight" "Z") ∈ zT := zT.of (i := 75) (by decide +kernel) (by decide +kernel)
set_option maxRecDepth 100000 in
theorem w_76 : (Jvm.Cond.fieldLink "BufferedCores$Request" (22 : Nat) "BufferedCores$Request" "value" "I") ∈ zT := zT.of (i := 76) (by decide +kernel) (by decide +kernel)
set_option maxRecDepth 100000 in
theorem w_77 : (Jvm.Cond.fieldLink "BufferedCores" (177 : Nat) "BufferedCores$Request" "value" "I") ∈ zT := zT.of (i := 77) (by decide +kernel) (by decide +kernel)
set_option maxRecDepth 100000 in
theorem w_87 : (Jvm.Cond.classLink "BufferedCores$Core" (39 : Nat) "BufferedCores$StoreBuffer") ∈ zT := zT.of (i := 87) (by decide +kernel) (by decide +kernel)
set_option maxRecDepth 100000 in
theorem w_88 : (Jvm.Cond.instantiable "BufferedCores$StoreBuffer" (3 : Nat)) ∈ zT := zT.of (i := 88) (by decide +kernel) (by decide +kernel)
set_option maxRecDepth 100000 in
theorem w_89 : (Jvm.Cond.methodLink "BufferedCores$Core" (41 : Nat) ({ cls := "BufferedCores$StoreBuffer", name := "<init>", desc := "(I)V" } : Jvm.MethodName)) ∈ zT := zT.of (i := 89) (by decide +kernel) (by decide +kernel)
set_option maxRecDepth 100000 in
theorem w_90 : (Jvm.Cond.instanceMethod ({ cls := "BufferedCores$StoreBuffer", name := "<init>", desc := "(I)V" } : Jvm.MethodName)) ∈ zT := zT.of (i := 90) (by decide +kernel) (by decide +kernel)
set_option maxRecDepth 100000 in
theorem w_91 : (Jvm.Cond.code ({ cls := "BufferedCores$StoreBuffer", name := "<init>", desc := "(I)V" } : Jvm.MethodName) prog_7_method_1_code (2 : Nat) (Option.none : Option Jvm.ClassFile.FieldType)) ∈ zT := zT.of (i := 91) (by decide +kernel) (by decide +kernel)
set_option maxRecDepth 100000 in
theorem w_92 : (Jvm.Cond.methodLink "BufferedCores$StoreBuffer" (1 : Nat) ({ cls := "java/lang/Object", name := "<init>", desc := "()V" } : Jvm.MethodName)) ∈ zT := zT.of (i := 92) (by decide +kernel) (by decide +kernel)
set_option maxRecDepth 100000 in
theorem w_93 : (Jvm.Cond.fieldLink "BufferedCores$StoreBuffer" (7 : Nat) "BufferedCores$StoreBuffer" "addresses" "[I") ∈ zT := zT.of (i := 93) (by decide +kernel) (by decide +kernel)
set_option maxRecDepth 100000 in
theorem w_94 : (Jvm.Cond.fieldLink "BufferedCores" (107 : Nat) "BufferedCores$StoreBuffer" "addresses" "[I") ∈ zT := zT.of (i := 94) (by decide +kernel) (by decide +kernel)
set_option maxRecDepth 100000 in
theorem w_95 : (Jvm.Cond.fieldLink "BufferedCores$StoreBuffer" (13 : Nat) "BufferedCores$StoreBuffer" "values" "[I") ∈ zT := zT.of (i := 95) (by decide +kernel) (by decide +kernel)
set_option maxRecDepth 100000 in
theorem w_96 : (Jvm.Cond.fieldLink "BufferedCores" (123 : Nat) "BufferedCores$StoreBuffer" "values" "[I") ∈ zT := zT.of (i := 96) (by decide +kernel) (by decide +kernel)
set_option maxRecDepth 100000 in
theorem w_97 : (Jvm.Cond.fieldLink "BufferedCores$StoreBuffer" (16 : Nat) "BufferedCores$StoreBuffer" "size" "I") ∈ zT := zT.of (i := 97) (by decide +kernel) (by decide +kernel)
set_option maxRecDepth 100000 in
theorem w_98 : (Jvm.Cond.fieldLink "BufferedCores" (102 : Nat) "BufferedCores$StoreBuffer" "size" "I") ∈ zT := zT.of (i := 98) (by decide +kernel) (by decide +kernel)
set_option maxRecDepth 100000 in
theorem w_106 : (Jvm.Cond.instantiable "BufferedCores$Line" (3 : Nat)) ∈ zT := zT.of (i := 106) (by decide +kernel) (by decide +kernel)
set_option maxRecDepth 100000 in
theorem w_108 : (Jvm.Cond.instanceMethod ({ cls := "BufferedCores$Line", name := "<init>", desc := "()V" } : Jvm.MethodName)) ∈ zT := zT.of (i := 108) (by decide +kernel) (by decide +kernel)
set_option maxRecDepth 100000 in
theorem w_109 : (Jvm.Cond.code ({ cls := "BufferedCores$Line", name := "<init>", desc := "()V" } : Jvm.MethodName) prog_3_method_1_code (1 : Nat) (Option.none : Option Jvm.ClassFile.FieldType)) ∈ zT := zT.of (i := 109) (by decide +kernel) (by decide +kernel)
set_option maxRecDepth 100000 in
theorem w_110 : (Jvm.Cond.methodLink "BufferedCores$Line" (3 : Nat) ({ cls := "java/lang/Object", name := "<init>", desc := "()V" } : Jvm.MethodName)) ∈ zT := zT.of (i := 110) (by decide +kernel) (by decide +kernel)
set_option maxRecDepth 100000 in
theorem w_111 : (Jvm.Cond.fieldLink "BufferedCores$Line" (9 : Nat) "BufferedCores$Line" "state" "I") ∈ zT := zT.of (i := 111) (by decide +kernel) (by decide +kernel)
set_option maxRecDepth 100000 in
theorem w_112 : (Jvm.Cond.fieldLink "BufferedCores" (204 : Nat) "BufferedCores$Line" "state" "I") ∈ zT := zT.of (i := 112) (by decide +kernel) (by decide +kernel)
set_option maxRecDepth 100000 in
theorem w_113 : (Jvm.Cond.fieldLink "BufferedCores$Line" (15 : Nat) "BufferedCores$Line" "address" "I") ∈ zT := zT.of (i := 113) (by decide +kernel) (by decide +kernel)
set_option maxRecDepth 100000 in
theorem w_114 : (Jvm.Cond.fieldLink "BufferedCores" (207 : Nat) "BufferedCores$Line" "address" "I") ∈ zT := zT.of (i := 114) (by decide +kernel) (by decide +kernel)
set_option maxRecDepth 100000 in
theorem w_115 : (Jvm.Cond.fieldLink "BufferedCores$Line" (22 : Nat) "BufferedCores$Line" "value" "I") ∈ zT := zT.of (i := 115) (by decide +kernel) (by decide +kernel)
set_option maxRecDepth 100000 in
theorem w_116 : (Jvm.Cond.fieldLink "BufferedCores" (216 : Nat) "BufferedCores$Line" "value" "I") ∈ zT := zT.of (i := 116) (by decide +kernel) (by decide +kernel)
set_option maxRecDepth 100000 in
theorem w_124 : (Jvm.Cond.fieldLink "BufferedCores$Core" (35 : Nat) "BufferedCores$Core" "number" "I") ∈ zT := zT.of (i := 124) (by decide +kernel) (by decide +kernel)
set_option maxRecDepth 100000 in
theorem w_125 : (Jvm.Cond.fieldLink "BufferedCores" (132 : Nat) "BufferedCores$Core" "number" "I") ∈ zT := zT.of (i := 125) (by decide +kernel) (by decide +kernel)
set_option maxRecDepth 100000 in
theorem w_126 : (Jvm.Cond.fieldLink "BufferedCores$Core" (9 : Nat) "BufferedCores$Core" "registers" "[I") ∈ zT := zT.of (i := 126) (by decide +kernel) (by decide +kernel)
set_option maxRecDepth 100000 in
theorem w_127 : (Jvm.Cond.fieldLink "BufferedCores" (191 : Nat) "BufferedCores$Core" "registers" "[I") ∈ zT := zT.of (i := 127) (by decide +kernel) (by decide +kernel)
set_option maxRecDepth 100000 in
theorem w_128 : (Jvm.Cond.fieldLink "BufferedCores$Core" (18 : Nat) "BufferedCores$Core" "program" "LBufferedCores$Program;") ∈ zT := zT.of (i := 128) (by decide +kernel) (by decide +kernel)
set_option maxRecDepth 100000 in
theorem w_129 : (Jvm.Cond.fieldLink "BufferedCores" (42 : Nat) "BufferedCores$Core" "program" "LBufferedCores$Program;") ∈ zT := zT.of (i := 129) (by decide +kernel) (by decide +kernel)
set_option maxRecDepth 100000 in
theorem w_130 : (Jvm.Cond.fieldLink "BufferedCores$Core" (44 : Nat) "BufferedCores$Core" "buffer" "LBufferedCores$StoreBuffer;") ∈ zT := zT.of (i := 130) (by decide +kernel) (by decide +kernel)
set_option maxRecDepth 100000 in
theorem w_131 : (Jvm.Cond.fieldLink "BufferedCores" (98 : Nat) "BufferedCores$Core" "buffer" "LBufferedCores$StoreBuffer;") ∈ zT := zT.of (i := 131) (by decide +kernel) (by decide +kernel)
set_option maxRecDepth 100000 in
theorem w_132 : (Jvm.Cond.fieldLink "BufferedCores$Core" (24 : Nat) "BufferedCores$Core" "lines" "[LBufferedCores$Line;") ∈ zT := zT.of (i := 132) (by decide +kernel) (by decide +kernel)
set_option maxRecDepth 100000 in
theorem w_133 : (Jvm.Cond.fieldLink "BufferedCores" (200 : Nat) "BufferedCores$Core" "lines" "[LBufferedCores$Line;") ∈ zT := zT.of (i := 133) (by decide +kernel) (by decide +kernel)
set_option maxRecDepth 100000 in
theorem w_134 : (Jvm.Cond.fieldLink "BufferedCores$Core" (31 : Nat) "BufferedCores$Core" "wish" "LBufferedCores$Request;") ∈ zT := zT.of (i := 134) (by decide +kernel) (by decide +kernel)
set_option maxRecDepth 100000 in
theorem w_135 : (Jvm.Cond.fieldLink "BufferedCores" (139 : Nat) "BufferedCores$Core" "wish" "LBufferedCores$Request;") ∈ zT := zT.of (i := 135) (by decide +kernel) (by decide +kernel)
set_option maxRecDepth 100000 in
theorem w_136 : (Jvm.Cond.fieldLink "BufferedCores" (82 : Nat) "BufferedCores$Core" "at" "I") ∈ zT := zT.of (i := 136) (by decide +kernel) (by decide +kernel)
set_option maxRecDepth 100000 in
theorem w_152 : (Jvm.Cond.classLink "BufferedCores" (31 : Nat) "BufferedCores$Log") ∈ zT := zT.of (i := 152) (by decide +kernel) (by decide +kernel)
set_option maxRecDepth 100000 in
theorem w_153 : (Jvm.Cond.instantiable "BufferedCores$Log" (3 : Nat)) ∈ zT := zT.of (i := 153) (by decide +kernel) (by decide +kernel)
set_option maxRecDepth 100000 in
theorem w_155 : (Jvm.Cond.instanceMethod ({ cls := "BufferedCores$Log", name := "<init>", desc := "()V" } : Jvm.MethodName)) ∈ zT := zT.of (i := 155) (by decide +kernel) (by decide +kernel)
set_option maxRecDepth 100000 in
theorem w_156 : (Jvm.Cond.code ({ cls := "BufferedCores$Log", name := "<init>", desc := "()V" } : Jvm.MethodName) prog_4_method_1_code (1 : Nat) (Option.none : Option Jvm.ClassFile.FieldType)) ∈ zT := zT.of (i := 156) (by decide +kernel) (by decide +kernel)
set_option maxRecDepth 100000 in
theorem w_157 : (Jvm.Cond.methodLink "BufferedCores$Log" (3 : Nat) ({ cls := "java/lang/Object", name := "<init>", desc := "()V" } : Jvm.MethodName)) ∈ zT := zT.of (i := 157) (by decide +kernel) (by decide +kernel)
set_option maxRecDepth 100000 in
theorem w_158 : (Jvm.Cond.fieldLink "BufferedCores$Log" (9 : Nat) "BufferedCores$Log" "heads" "[I") ∈ zT := zT.of (i := 158) (by decide +kernel) (by decide +kernel)
set_option maxRecDepth 100000 in
theorem w_159 : (Jvm.Cond.fieldLink "BufferedCores" (223 : Nat) "BufferedCores$Log" "heads" "[I") ∈ zT := zT.of (i := 159) (by decide +kernel) (by decide +kernel)
set_option maxRecDepth 100000 in
theorem w_160 : (Jvm.Cond.fieldLink "BufferedCores$Log" (15 : Nat) "BufferedCores$Log" "values" "[I") ∈ zT := zT.of (i := 160) (by decide +kernel) (by decide +kernel)
set_option maxRecDepth 100000 in
theorem w_161 : (Jvm.Cond.fieldLink "BufferedCores" (226 : Nat) "BufferedCores$Log" "values" "[I") ∈ zT := zT.of (i := 161) (by decide +kernel) (by decide +kernel)
set_option maxRecDepth 100000 in
theorem w_162 : (Jvm.Cond.fieldLink "BufferedCores$Log" (18 : Nat) "BufferedCores$Log" "count" "I") ∈ zT := zT.of (i := 162) (by decide +kernel) (by decide +kernel)
set_option maxRecDepth 100000 in
theorem w_163 : (Jvm.Cond.fieldLink "BufferedCores" (217 : Nat) "BufferedCores$Log" "count" "I") ∈ zT := zT.of (i := 163) (by decide +kernel) (by decide +kernel)
set_option maxRecDepth 100000 in
theorem w_171 : (Jvm.Cond.fieldLink "BufferedCores" (18 : Nat) "BufferedCores" "words" "[I") ∈ zT := zT.of (i := 171) (by decide +kernel) (by decide +kernel)
set_option maxRecDepth 100000 in
theorem w_172 : (Jvm.Cond.fieldLink "BufferedCores" (24 : Nat) "BufferedCores" "cores" "[LBufferedCores$Core;") ∈ zT := zT.of (i := 172) (by decide +kernel) (by decide +kernel)
set_option maxRecDepth 100000 in
theorem w_173 : (Jvm.Cond.fieldLink "BufferedCores" (34 : Nat) "BufferedCores" "log" "LBufferedCores$Log;") ∈ zT := zT.of (i := 173) (by decide +kernel) (by decide +kernel)
set_option maxRecDepth 100000 in
theorem w_181 : (Jvm.Cond.methodLink "BufferedCoresLaw" (143 : Nat) ({ cls := "BufferedCores", name := "events", desc := "()I" } : Jvm.MethodName)) ∈ zT := zT.of (i := 181) (by decide +kernel) (by decide +kernel)
set_option maxRecDepth 100000 in
theorem w_182 : (Jvm.Cond.instanceMethod ({ cls := "BufferedCores", name := "events", desc := "()I" } : Jvm.MethodName)) ∈ zT := zT.of (i := 182) (by decide +kernel) (by decide +kernel)
set_option maxRecDepth 100000 in
theorem w_183 : (Jvm.Cond.selects "BufferedCores" ({ cls := "BufferedCores", name := "events", desc := "()I" } : Jvm.MethodName) ({ cls := "BufferedCores", name := "events", desc := "()I" } : Jvm.MethodName)) ∈ zT := zT.of (i := 183) (by decide +kernel) (by decide +kernel)
set_option maxRecDepth 100000 in
theorem w_184 : (Jvm.Cond.code ({ cls := "BufferedCores", name := "events", desc := "()I" } : Jvm.MethodName) prog_1_method_18_code (1 : Nat) (Option.some Jvm.ClassFile.FieldType.int)) ∈ zT := zT.of (i := 184) (by decide +kernel) (by decide +kernel)
set_option maxRecDepth 100000 in
theorem w_185 : (Jvm.Cond.methodLink "BufferedCoresLaw" (75 : Nat) ({ cls := "BufferedCoresLaw", name := "cell", desc := "([II)I" } : Jvm.MethodName)) ∈ zT := zT.of (i := 185) (by decide +kernel) (by decide +kernel)
set_option maxRecDepth 100000 in
theorem w_186 : (Jvm.Cond.static ({ cls := "BufferedCoresLaw", name := "cell", desc := "([II)I" } : Jvm.MethodName)) ∈ zT := zT.of (i := 186) (by decide +kernel) (by decide +kernel)
set_option maxRecDepth 100000 in
theorem w_187 : (Jvm.Cond.code ({ cls := "BufferedCoresLaw", name := "cell", desc := "([II)I" } : Jvm.MethodName) method_2_code (2 : Nat) (Option.some Jvm.ClassFile.FieldType.int)) ∈ zT := zT.of (i := 187) (by decide +kernel) (by decide +kernel)
set_option maxRecDepth 100000 in
theorem w_188 : (Jvm.Cond.methodLink "BufferedCoresLaw" (87 : Nat) ({ cls := "BufferedCoresLaw", name := "code", desc := "(LBufferedCores;IIII[J)I" } : Jvm.MethodName)) ∈ zT := zT.of (i := 188) (by decide +kernel) (by decide +kernel)
set_option maxRecDepth 100000 in
theorem w_189 : (Jvm.Cond.static ({ cls := "BufferedCoresLaw", name := "code", desc := "(LBufferedCores;IIII[J)I" } : Jvm.MethodName)) ∈ zT := zT.of (i := 189) (by decide +kernel) (by decide +kernel)
set_option maxRecDepth 100000 in
theorem w_190 : (Jvm.Cond.codeWith ({ cls := "BufferedCoresLaw", name := "code", desc := "(LBufferedCores;IIII[J)I" } : Jvm.MethodName) method_3_code (7 : Nat) (Option.some Jvm.ClassFile.FieldType.int) [((0 : Nat), (14 : Nat), (17 : Nat), (13 : Nat)), ((0 : Nat), (14 : Nat), (21 : Nat), (15 : Nat)), ((0 : Nat), (14 : Nat), (25 : Nat), (17 : Nat))]) ∈ zT := zT.of (i := 190) (by decide +kernel) (by decide +kernel)
set_option maxRecDepth 100000 in
theorem w_194 : (Jvm.Cond.methodLink "BufferedCoresLaw" (7 : Nat) ({ cls := "BufferedCores", name := "code", desc := "(IIII)I" } : Jvm.MethodName)) ∈ zT := zT.of (i := 194) (by decide +kernel) (by decide +kernel)
set_option maxRecDepth 100000 in
theorem w_195 : (Jvm.Cond.instanceMethod ({ cls := "BufferedCores", name := "code", desc := "(IIII)I" } : Jvm.MethodName)) ∈ zT := zT.of (i := 195) (by decide +kernel) (by decide +kernel)
set_option maxRecDepth 100000 in
theorem w_196 : (Jvm.Cond.selects "BufferedCores" ({ cls := "BufferedCores", name := "code", desc := "(IIII)I" } : Jvm.MethodName) ({ cls := "BufferedCores", name := "code", desc := "(IIII)I" } : Jvm.MethodName)) ∈ zT := zT.of (i := 196) (by decide +kernel) (by decide +kernel)
set_option maxRecDepth 100000 in
theorem w_197 : (Jvm.Cond.code ({ cls := "BufferedCores", name := "code", desc := "(IIII)I" } : Jvm.MethodName) prog_1_method_2_code (6 : Nat) (Option.some Jvm.ClassFile.FieldType.int)) ∈ zT := zT.of (i := 197) (by decide +kernel) (by decide +kernel)
set_option maxRecDepth 100000 in
theorem w_198 : (Jvm.Cond.methodLink "BufferedCores" (38 : Nat) ({ cls := "BufferedCores", name := "coreAt", desc := "(I)LBufferedCores$Core;" } : Jvm.MethodName)) ∈ zT := zT.of (i := 198) (by decide +kernel) (by decide +kernel)
set_option maxRecDepth 100000 in
theorem w_200 : (Jvm.Cond.instanceMethod ({ cls := "BufferedCores", name := "coreAt", desc := "(I)LBufferedCores$Core;" } : Jvm.MethodName)) ∈ zT := zT.of (i := 200) (by decide +kernel) (by decide +kernel)
set_option maxRecDepth 100000 in
theorem w_201 : (Jvm.Cond.code ({ cls := "BufferedCores", name := "coreAt", desc := "(I)LBufferedCores$Core;" } : Jvm.MethodName) prog_1_method_21_code (2 : Nat) (Option.some (Jvm.ClassFile.FieldType.object "BufferedCores$Core"))) ∈ zT := zT.of (i := 201) (by decide +kernel) (by decide +kernel)
set_option maxRecDepth 100000 in
theorem w_202 : (Jvm.Cond.classLink "BufferedCores" (227 : Nat) "java/lang/IndexOutOfBoundsException") ∈ zT := zT.of (i := 202) (by decide +kernel) (by decide +kernel)
set_option maxRecDepth 100000 in
theorem w_271 : (Jvm.Cond.methodLink "BufferedCores" (46 : Nat) ({ cls := "BufferedCores", name := "isInstruction", desc := "(III)Z" } : Jvm.MethodName)) ∈ zT := zT.of (i := 271) (by decide +kernel) (by decide +kernel)
set_option maxRecDepth 100000 in
theorem w_272 : (Jvm.Cond.static ({ cls := "BufferedCores", name := "isInstruction", desc := "(III)Z" } : Jvm.MethodName)) ∈ zT := zT.of (i := 272) (by decide +kernel) (by decide +kernel)
set_option maxRecDepth 100000 in
theorem w_273 : (Jvm.Cond.code ({ cls := "BufferedCores", name := "isInstruction", desc := "(III)Z" } : Jvm.MethodName) prog_1_method_26_code (3 : Nat) (Option.some Jvm.ClassFile.FieldType.boolean)) ∈ zT := zT.of (i := 273) (by decide +kernel) (by decide +kernel)
set_option maxRecDepth 100000 in
theorem w_274 : (Jvm.Cond.methodLink "BufferedCores" (186 : Nat) ({ cls := "BufferedCores", name := "isRegister", desc := "(I)Z" } : Jvm.MethodName)) ∈ zT := zT.of (i := 274) (by decide +kernel) (by decide +kernel)
set_option maxRecDepth 100000 in
theorem w_275 : (Jvm.Cond.static ({ cls := "BufferedCores", name := "isRegister", desc := "(I)Z" } : Jvm.MethodName)) ∈ zT := zT.of (i := 275) (by decide +kernel) (by decide +kernel)
set_option maxRecDepth 100000 in
theorem w_276 : (Jvm.Cond.code ({ cls := "BufferedCores", name := "isRegister", desc := "(I)Z" } : Jvm.MethodName) prog_1_method_25_code (1 : Nat) (Option.some Jvm.ClassFile.FieldType.boolean)) ∈ zT := zT.of (i := 276) (by decide +kernel) (by decide +kernel)
set_option maxRecDepth 100000 in
theorem w_277 : (Jvm.Cond.classLink "BufferedCores" (50 : Nat) "java/lang/IllegalArgumentException") ∈ zT := zT.of (i := 277) (by decide +kernel) (by decide +kernel)
set_option maxRecDepth 100000 in
theorem w_293 : (Jvm.Cond.classLink "BufferedCores" (63 : Nat) "java/lang/IllegalStateException") ∈ zT := zT.of (i := 293) (by decide +kernel) (by decide +kernel)
set_option maxRecDepth 100000 in
theorem w_309 : (Jvm.Cond.methodLink "BufferedCores" (68 : Nat) ({ cls := "BufferedCores$Program", name := "append", desc := "(III)V" } : Jvm.MethodName)) ∈ zT := zT.of (i := 309) (by decide +kernel) (by decide +kernel)
set_option maxRecDepth 100000 in
theorem w_310 : (Jvm.Cond.instanceMethod ({ cls := "BufferedCores$Program", name := "append", desc := "(III)V" } : Jvm.MethodName)) ∈ zT := zT.of (i := 310) (by decide +kernel) (by decide +kernel)
set_option maxRecDepth 100000 in
theorem w_311 : (Jvm.Cond.selects "BufferedCores$Program" ({ cls := "BufferedCores$Program", name := "append", desc := "(III)V" } : Jvm.MethodName) ({ cls := "BufferedCores$Program", name := "append", desc := "(III)V" } : Jvm.MethodName)) ∈ zT := zT.of (i := 311) (by decide +kernel) (by decide +kernel)
set_option maxRecDepth 100000 in
theorem w_312 : (Jvm.Cond.code ({ cls := "BufferedCores$Program", name := "append", desc := "(III)V" } : Jvm.MethodName) prog_5_method_2_code (4 : Nat) (Option.none : Option Jvm.ClassFile.FieldType)) ∈ zT := zT.of (i := 312) (by decide +kernel) (by decide +kernel)
set_option maxRecDepth 100000 in
theorem w_313 : (Jvm.Cond.methodLink "BufferedCoresLaw" (95 : Nat) ({ cls := "BufferedCoresLaw", name := "poke", desc := "(LBufferedCores;II)I" } : Jvm.MethodName)) ∈ zT := zT.of (i := 313) (by decide +kernel) (by decide +kernel)
set_option maxRecDepth 100000 in
theorem w_314 : (Jvm.Cond.static ({ cls := "BufferedCoresLaw", name := "poke", desc := "(LBufferedCores;II)I" } : Jvm.MethodName)) ∈ zT := zT.of (i := 314) (by decide +kernel) (by decide +kernel)
set_option maxRecDepth 100000 in
theorem w_315 : (Jvm.Cond.codeWith ({ cls := "BufferedCoresLaw", name := "poke", desc := "(LBufferedCores;II)I" } : Jvm.MethodName) method_4_code (4 : Nat) (Option.some Jvm.ClassFile.FieldType.int) [((0 : Nat), (6 : Nat), (9 : Nat), (15 : Nat)), ((0 : Nat), (6 : Nat), (12 : Nat), (17 : Nat))]) ∈ zT := zT.of (i := 315) (by decide +kernel) (by decide +kernel)
set_option maxRecDepth 100000 in
theorem w_316 : (Jvm.Cond.methodLink "BufferedCoresLaw" (19 : Nat) ({ cls := "BufferedCores", name := "poke", desc := "(II)V" } : Jvm.MethodName)) ∈ zT := zT.of (i := 316) (by decide +kernel) (by decide +kernel)
set_option maxRecDepth 100000 in
theorem w_317 : (Jvm.Cond.instanceMethod ({ cls := "BufferedCores", name := "poke", desc := "(II)V" } : Jvm.MethodName)) ∈ zT := zT.of (i := 317) (by decide +kernel) (by decide +kernel)
set_option maxRecDepth 100000 in
theorem w_318 : (Jvm.Cond.selects "BufferedCores" ({ cls := "BufferedCores", name := "poke", desc := "(II)V" } : Jvm.MethodName) ({ cls := "BufferedCores", name := "poke", desc := "(II)V" } : Jvm.MethodName)) ∈ zT := zT.of (i := 318) (by decide +kernel) (by decide +kernel)
set_option maxRecDepth 100000 in
theorem w_319 : (Jvm.Cond.code ({ cls := "BufferedCores", name := "poke", desc := "(II)V" } : Jvm.MethodName) prog_1_method_3_code (3 : Nat) (Option.none : Option Jvm.ClassFile.FieldType)) ∈ zT := zT.of (i := 319) (by decide +kernel) (by decide +kernel)
set_option maxRecDepth 100000 in
theorem w_320 : (Jvm.Cond.methodLink "BufferedCores" (72 : Nat) ({ cls := "BufferedCores", name := "requireAddress", desc := "(I)V" } : Jvm.MethodName)) ∈ zT := zT.of (i := 320) (by decide +kernel) (by decide +kernel)
set_option maxRecDepth 100000 in
theorem w_321 : (Jvm.Cond.static ({ cls := "BufferedCores", name := "requireAddress", desc := "(I)V" } : Jvm.MethodName)) ∈ zT := zT.of (i := 321) (by decide +kernel) (by decide +kernel)
set_option maxRecDepth 100000 in
theorem w_322 : (Jvm.Cond.code ({ cls := "BufferedCores", name := "requireAddress", desc := "(I)V" } : Jvm.MethodName) prog_1_method_22_code (1 : Nat) (Option.none : Option Jvm.ClassFile.FieldType)) ∈ zT := zT.of (i := 322) (by decide +kernel) (by decide +kernel)
set_option maxRecDepth 100000 in
theorem w_324 : (Jvm.Cond.methodLink "BufferedCores" (76 : Nat) ({ cls := "BufferedCores", name := "isInUse", desc := "(I)Z" } : Jvm.MethodName)) ∈ zT := zT.of (i := 324) (by decide +kernel) (by decide +kernel)
set_option maxRecDepth 100000 in
theorem w_326 : (Jvm.Cond.instanceMethod ({ cls := "BufferedCores", name := "isInUse", desc := "(I)Z" } : Jvm.MethodName)) ∈ zT := zT.of (i := 326) (by decide +kernel) (by decide +kernel)
set_option maxRecDepth 100000 in
theorem w_327 : (Jvm.Cond.code ({ cls := "BufferedCores", name := "isInUse", desc := "(I)Z" } : Jvm.MethodName) prog_1_method_34_code (3 : Nat) (Option.some Jvm.ClassFile.FieldType.boolean)) ∈ zT := zT.of (i := 327) (by decide +kernel) (by decide +kernel)
set_option maxRecDepth 100000 in
theorem w_328 : (Jvm.Cond.methodLink "BufferedCores" (110 : Nat) ({ cls := "BufferedCores$Core", name := "lineFor", desc := "(I)LBufferedCores$Line;" } : Jvm.MethodName)) ∈ zT := zT.of (i := 328) (by decide +kernel) (by decide +kernel)
set_option maxRecDepth 100000 in
theorem w_329 : (Jvm.Cond.instanceMethod ({ cls := "BufferedCores$Core", name := "lineFor", desc := "(I)LBufferedCores$Line;" } : Jvm.MethodName)) ∈ zT := zT.of (i := 329) (by decide +kernel) (by decide +kernel)
set_option maxRecDepth 100000 in
theorem w_330 : (Jvm.Cond.selects "BufferedCores$Core" ({ cls := "BufferedCores$Core", name := "lineFor", desc := "(I)LBufferedCores$Line;" } : Jvm.MethodName) ({ cls := "BufferedCores$Core", name := "lineFor", desc := "(I)LBufferedCores$Line;" } : Jvm.MethodName)) ∈ zT := zT.of (i := 330) (by decide +kernel) (by decide +kernel)
set_option maxRecDepth 100000 in
theorem w_331 : (Jvm.Cond.code ({ cls := "BufferedCores$Core", name := "lineFor", desc := "(I)LBufferedCores$Line;" } : Jvm.MethodName) prog_2_method_2_code (2 : Nat) (Option.some (Jvm.ClassFile.FieldType.object "BufferedCores$Line"))) ∈ zT := zT.of (i := 331) (by decide +kernel) (by decide +kernel)
set_option maxRecDepth 100000 in
theorem w_332 : (Jvm.Cond.methodLink "BufferedCores" (208 : Nat) ({ cls := "BufferedCores$Line", name := "has", desc := "(I)Z" } : Jvm.MethodName)) ∈ zT := zT.of (i := 332) (by decide +kernel) (by decide +kernel)
set_option maxRecDepth 100000 in
theorem w_333 : (Jvm.Cond.instanceMethod ({ cls := "BufferedCores$Line", name := "has", desc := "(I)Z" } : Jvm.MethodName)) ∈ zT := zT.of (i := 333) (by decide +kernel) (by decide +kernel)
set_option maxRecDepth 100000 in
theorem w_334 : (Jvm.Cond.selects "BufferedCores$Line" ({ cls := "BufferedCores$Line", name := "has", desc := "(I)Z" } : Jvm.MethodName) ({ cls := "BufferedCores$Line", name := "has", desc := "(I)Z" } : Jvm.MethodName)) ∈ zT := zT.of (i := 334) (by decide +kernel) (by decide +kernel)
set_option maxRecDepth 100000 in
theorem w_335 : (Jvm.Cond.code ({ cls := "BufferedCores$Line", name := "has", desc := "(I)Z" } : Jvm.MethodName) prog_3_method_2_code (2 : Nat) (Option.some Jvm.ClassFile.FieldType.boolean)) ∈ zT := zT.of (i := 335) (by decide +kernel) (by decide +kernel)
set_option maxRecDepth 100000 in
theorem w_336 : (Jvm.Cond.methodLink "BufferedCores" (266 : Nat) ({ cls := "BufferedCores$Request", name := "fliesFor", desc := "(I)Z" } : Jvm.MethodName)) ∈ zT := zT.of (i := 336) (by decide +kernel) (by decide +kernel)
set_option maxRecDepth 100000 in
theorem w_337 : (Jvm.Cond.instanceMethod ({ cls := "BufferedCores$Request", name := "fliesFor", desc := "(I)Z" } : Jvm.MethodName)) ∈ zT := zT.of (i := 337) (by decide +kernel) (by decide +kernel)
set_option maxRecDepth 100000 in
theorem w_338 : (Jvm.Cond.selects "BufferedCores$Request" ({ cls := "BufferedCores$Request", name := "fliesFor", desc := "(I)Z" } : Jvm.MethodName) ({ cls := "BufferedCores$Request", name := "fliesFor", desc := "(I)Z" } : Jvm.MethodName)) ∈ zT := zT.of (i := 338) (by decide +kernel) (by decide +kernel)
set_option maxRecDepth 100000 in
theorem w_339 : (Jvm.Cond.code ({ cls := "BufferedCores$Request", name := "fliesFor", desc := "(I)Z" } : Jvm.MethodName) prog_6_method_2_code (2 : Nat) (Option.some Jvm.ClassFile.FieldType.boolean)) ∈ zT := zT.of (i := 339) (by decide +kernel) (by decide +kernel)
set_option maxRecDepth 100000 in
theorem w_341 : (Jvm.Cond.methodLink "BufferedCoresLaw" (99 : Nat) ({ cls := "BufferedCoresLaw", name := "step", desc := "(LBufferedCores;I[J)I" } : Jvm.MethodName)) ∈ zT := zT.of (i := 341) (by decide +kernel) (by decide +kernel)
set_option maxRecDepth 100000 in
theorem w_342 : (Jvm.Cond.static ({ cls := "BufferedCoresLaw", name := "step", desc := "(LBufferedCores;I[J)I" } : Jvm.MethodName)) ∈ zT := zT.of (i := 342) (by decide +kernel) (by decide +kernel)
set_option maxRecDepth 100000 in
theorem w_343 : (Jvm.Cond.codeWith ({ cls := "BufferedCoresLaw", name := "step", desc := "(LBufferedCores;I[J)I" } : Jvm.MethodName) method_5_code (4 : Nat) (Option.some Jvm.ClassFile.FieldType.int) [((0 : Nat), (9 : Nat), (12 : Nat), (13 : Nat))]) ∈ zT := zT.of (i := 343) (by decide +kernel) (by decide +kernel)
set_option maxRecDepth 100000 in
theorem w_344 : (Jvm.Cond.methodLink "BufferedCoresLaw" (23 : Nat) ({ cls := "BufferedCores", name := "step", desc := "(I)I" } : Jvm.MethodName)) ∈ zT := zT.of (i := 344) (by decide +kernel) (by decide +kernel)
set_option maxRecDepth 100000 in
theorem w_345 : (Jvm.Cond.instanceMethod ({ cls := "BufferedCores", name := "step", desc := "(I)I" } : Jvm.MethodName)) ∈ zT := zT.of (i := 345) (by decide +kernel) (by decide +kernel)
set_option maxRecDepth 100000 in
theorem w_346 : (Jvm.Cond.selects "BufferedCores" ({ cls := "BufferedCores", name := "step", desc := "(I)I" } : Jvm.MethodName) ({ cls := "BufferedCores", name := "step", desc := "(I)I" } : Jvm.MethodName)) ∈ zT := zT.of (i := 346) (by decide +kernel) (by decide +kernel)
set_option maxRecDepth 100000 in
theorem w_347 : (Jvm.Cond.code ({ cls := "BufferedCores", name := "step", desc := "(I)I" } : Jvm.MethodName) prog_1_method_4_code (5 : Nat) (Option.some Jvm.ClassFile.FieldType.int)) ∈ zT := zT.of (i := 347) (by decide +kernel) (by decide +kernel)
set_option maxRecDepth 100000 in
theorem w_348 : (Jvm.Cond.methodLink "BufferedCores" (94 : Nat) ({ cls := "BufferedCores", name := "execute", desc := "(LBufferedCores$Core;III)I" } : Jvm.MethodName)) ∈ zT := zT.of (i := 348) (by decide +kernel) (by decide +kernel)
set_option maxRecDepth 100000 in
theorem w_350 : (Jvm.Cond.instanceMethod ({ cls := "BufferedCores", name := "execute", desc := "(LBufferedCores$Core;III)I" } : Jvm.MethodName)) ∈ zT := zT.of (i := 350) (by decide +kernel) (by decide +kernel)
set_option maxRecDepth 100000 in
theorem w_351 : (Jvm.Cond.code ({ cls := "BufferedCores", name := "execute", desc := "(LBufferedCores$Core;III)I" } : Jvm.MethodName) prog_1_method_27_code (6 : Nat) (Option.some Jvm.ClassFile.FieldType.int)) ∈ zT := zT.of (i := 351) (by decide +kernel) (by decide +kernel)
set_option maxRecDepth 100000 in
theorem w_352 : (Jvm.Cond.methodLink "BufferedCores" (241 : Nat) ({ cls := "BufferedCores", name := "executeLoad", desc := "(LBufferedCores$Core;II)I" } : Jvm.MethodName)) ∈ zT := zT.of (i := 352) (by decide +kernel) (by decide +kernel)
set_option maxRecDepth 100000 in
theorem w_354 : (Jvm.Cond.instanceMethod ({ cls := "BufferedCores", name := "executeLoad", desc := "(LBufferedCores$Core;II)I" } : Jvm.MethodName)) ∈ zT := zT.of (i := 354) (by decide +kernel) (by decide +kernel)
set_option maxRecDepth 100000 in
theorem w_355 : (Jvm.Cond.code ({ cls := "BufferedCores", name := "executeLoad", desc := "(LBufferedCores$Core;II)I" } : Jvm.MethodName) prog_1_method_28_code (7 : Nat) (Option.some Jvm.ClassFile.FieldType.int)) ∈ zT := zT.of (i := 355) (by decide +kernel) (by decide +kernel)
set_option maxRecDepth 100000 in
theorem w_356 : (Jvm.Cond.methodLink "BufferedCores" (254 : Nat) ({ cls := "BufferedCores$StoreBuffer", name := "youngestTo", desc := "(I)I" } : Jvm.MethodName)) ∈ zT := zT.of (i := 356) (by decide +kernel) (by decide +kernel)
set_option maxRecDepth 100000 in
theorem w_357 : (Jvm.Cond.instanceMethod ({ cls := "BufferedCores$StoreBuffer", name := "youngestTo", desc := "(I)I" } : Jvm.MethodName)) ∈ zT := zT.of (i := 357) (by decide +kernel) (by decide +kernel)
set_option maxRecDepth 100000 in
theorem w_358 : (Jvm.Cond.selects "BufferedCores$StoreBuffer" ({ cls := "BufferedCores$StoreBuffer", name := "youngestTo", desc := "(I)I" } : Jvm.MethodName) ({ cls := "BufferedCores$StoreBuffer", name := "youngestTo", desc := "(I)I" } : Jvm.MethodName)) ∈ zT := zT.of (i := 358) (by decide +kernel) (by decide +kernel)
set_option maxRecDepth 100000 in
theorem w_359 : (Jvm.Cond.code ({ cls := "BufferedCores$StoreBuffer", name := "youngestTo", desc := "(I)I" } : Jvm.MethodName) prog_7_method_5_code (3 : Nat) (Option.some Jvm.ClassFile.FieldType.int)) ∈ zT := zT.of (i := 359) (by decide +kernel) (by decide +kernel)
set_option maxRecDepth 100000 in
theorem w_360 : (Jvm.Cond.methodLink "BufferedCores" (119 : Nat) ({ cls := "BufferedCores", name := "ask", desc := "(LBufferedCores$Core;II)I" } : Jvm.MethodName)) ∈ zT := zT.of (i := 360) (by decide +kernel) (by decide +kernel)
set_option maxRecDepth 100000 in
theorem w_361 : (Jvm.Cond.static ({ cls := "BufferedCores", name := "ask", desc := "(LBufferedCores$Core;II)I" } : Jvm.MethodName)) ∈ zT := zT.of (i := 361) (by decide +kernel) (by decide +kernel)
set_option maxRecDepth 100000 in
theorem w_362 : (Jvm.Cond.code ({ cls := "BufferedCores", name := "ask", desc := "(LBufferedCores$Core;II)I" } : Jvm.MethodName) prog_1_method_32_code (3 : Nat) (Option.some Jvm.ClassFile.FieldType.int)) ∈ zT := zT.of (i := 362) (by decide +kernel) (by decide +kernel)
set_option maxRecDepth 100000 in
theorem w_363 : (Jvm.Cond.methodLink "BufferedCores" (263 : Nat) ({ cls := "BufferedCores$Request", name := "begin", desc := "(II)V" } : Jvm.MethodName)) ∈ zT := zT.of (i := 363) (by decide +kernel) (by decide +kernel)
set_option maxRecDepth 100000 in
theorem w_364 : (Jvm.Cond.instanceMethod ({ cls := "BufferedCores$Request", name := "begin", desc := "(II)V" } : Jvm.MethodName)) ∈ zT := zT.of (i := 364) (by decide +kernel) (by decide +kernel)
set_option maxRecDepth 100000 in
theorem w_365 : (Jvm.Cond.selects "BufferedCores$Request" ({ cls := "BufferedCores$Request", name := "begin", desc := "(II)V" } : Jvm.MethodName) ({ cls := "BufferedCores$Request", name := "begin", desc := "(II)V" } : Jvm.MethodName)) ∈ zT := zT.of (i := 365) (by decide +kernel) (by decide +kernel)
set_option maxRecDepth 100000 in
theorem w_366 : (Jvm.Cond.code ({ cls := "BufferedCores$Request", name := "begin", desc := "(II)V" } : Jvm.MethodName) prog_6_method_3_code (3 : Nat) (Option.none : Option Jvm.ClassFile.FieldType)) ∈ zT := zT.of (i := 366) (by decide +kernel) (by decide +kernel)
set_option maxRecDepth 100000 in
theorem w_367 : (Jvm.Cond.methodLink "BufferedCores" (135 : Nat) ({ cls := "BufferedCores$Log", name := "enter", desc := "(IIII)V" } : Jvm.MethodName)) ∈ zT := zT.of (i := 367) (by decide +kernel) (by decide +kernel)
set_option maxRecDepth 100000 in
theorem w_368 : (Jvm.Cond.instanceMethod ({ cls := "BufferedCores$Log", name := "enter", desc := "(IIII)V" } : Jvm.MethodName)) ∈ zT := zT.of (i := 368) (by decide +kernel) (by decide +kernel)
set_option maxRecDepth 100000 in
theorem w_369 : (Jvm.Cond.selects "BufferedCores$Log" ({ cls := "BufferedCores$Log", name := "enter", desc := "(IIII)V" } : Jvm.MethodName) ({ cls := "BufferedCores$Log", name := "enter", desc := "(IIII)V" } : Jvm.MethodName)) ∈ zT := zT.of (i := 369) (by decide +kernel) (by decide +kernel)
set_option maxRecDepth 100000 in
theorem w_370 : (Jvm.Cond.code ({ cls := "BufferedCores$Log", name := "enter", desc := "(IIII)V" } : Jvm.MethodName) prog_4_method_2_code (6 : Nat) (Option.none : Option Jvm.ClassFile.FieldType)) ∈ zT := zT.of (i := 370) (by decide +kernel) (by decide +kernel)
set_option maxRecDepth 100000 in
theorem w_371 : (Jvm.Cond.methodLink "BufferedCores$Log" (22 : Nat) ({ cls := "java/lang/Math", name := "floorMod", desc := "(II)I" } : Jvm.MethodName)) ∈ zT := zT.of (i := 371) (by decide +kernel) (by decide +kernel)
set_option maxRecDepth 100000 in
theorem w_372 : (Jvm.Cond.static ({ cls := "java/lang/Math", name := "floorMod", desc := "(II)I" } : Jvm.MethodName)) ∈ zT := zT.of (i := 372) (by decide +kernel) (by decide +kernel)
set_option maxRecDepth 100000 in
theorem w_373 : (Jvm.Cond.code ({ cls := "java/lang/Math", name := "floorMod", desc := "(II)I" } : Jvm.MethodName) prog_14_method_50_code (3 : Nat) (Option.some Jvm.ClassFile.FieldType.int)) ∈ zT := zT.of (i := 373) (by decide +kernel) (by decide +kernel)
set_option maxRecDepth 100000 in
theorem w_374 : (Jvm.Cond.methodLink "BufferedCores" (247 : Nat) ({ cls := "BufferedCores", name := "goTo", desc := "(LBufferedCores$Core;I)I" } : Jvm.MethodName)) ∈ zT := zT.of (i := 374) (by decide +kernel) (by decide +kernel)
set_option maxRecDepth 100000 in
theorem w_375 : (Jvm.Cond.static ({ cls := "BufferedCores", name := "goTo", desc := "(LBufferedCores$Core;I)I" } : Jvm.MethodName)) ∈ zT := zT.of (i := 375) (by decide +kernel) (by decide +kernel)
set_option maxRecDepth 100000 in
theorem w_376 : (Jvm.Cond.code ({ cls := "BufferedCores", name := "goTo", desc := "(LBufferedCores$Core;I)I" } : Jvm.MethodName) prog_1_method_31_code (2 : Nat) (Option.some Jvm.ClassFile.FieldType.int)) ∈ zT := zT.of (i := 376) (by decide +kernel) (by decide +kernel)
set_option maxRecDepth 100000 in
theorem w_377 : (Jvm.Cond.methodLink "BufferedCores" (244 : Nat) ({ cls := "BufferedCores", name := "executeStore", desc := "(LBufferedCores$Core;II)I" } : Jvm.MethodName)) ∈ zT := zT.of (i := 377) (by decide +kernel) (by decide +kernel)
set_option maxRecDepth 100000 in
theorem w_378 : (Jvm.Cond.static ({ cls := "BufferedCores", name := "executeStore", desc := "(LBufferedCores$Core;II)I" } : Jvm.MethodName)) ∈ zT := zT.of (i := 378) (by decide +kernel) (by decide +kernel)
set_option maxRecDepth 100000 in
theorem w_379 : (Jvm.Cond.code ({ cls := "BufferedCores", name := "executeStore", desc := "(LBufferedCores$Core;II)I" } : Jvm.MethodName) prog_1_method_29_code (3 : Nat) (Option.some Jvm.ClassFile.FieldType.int)) ∈ zT := zT.of (i := 379) (by decide +kernel) (by decide +kernel)
set_option maxRecDepth 100000 in
theorem w_380 : (Jvm.Cond.methodLink "BufferedCores" (257 : Nat) ({ cls := "BufferedCores$StoreBuffer", name := "isFull", desc := "()Z" } : Jvm.MethodName)) ∈ zT := zT.of (i := 380) (by decide +kernel) (by decide +kernel)
set_option maxRecDepth 100000 in
theorem w_381 : (Jvm.Cond.instanceMethod ({ cls := "BufferedCores$StoreBuffer", name := "isFull", desc := "()Z" } : Jvm.MethodName)) ∈ zT := zT.of (i := 381) (by decide +kernel) (by decide +kernel)
set_option maxRecDepth 100000 in
theorem w_382 : (Jvm.Cond.selects "BufferedCores$StoreBuffer" ({ cls := "BufferedCores$StoreBuffer", name := "isFull", desc := "()Z" } : Jvm.MethodName) ({ cls := "BufferedCores$StoreBuffer", name := "isFull", desc := "()Z" } : Jvm.MethodName)) ∈ zT := zT.of (i := 382) (by decide +kernel) (by decide +kernel)
set_option maxRecDepth 100000 in
theorem w_383 : (Jvm.Cond.code ({ cls := "BufferedCores$StoreBuffer", name := "isFull", desc := "()Z" } : Jvm.MethodName) prog_7_method_2_code (1 : Nat) (Option.some Jvm.ClassFile.FieldType.boolean)) ∈ zT := zT.of (i := 383) (by decide +kernel) (by decide +kernel)
set_option maxRecDepth 100000 in
theorem w_384 : (Jvm.Cond.methodLink "BufferedCores" (261 : Nat) ({ cls := "BufferedCores$StoreBuffer", name := "append", desc := "(II)V" } : Jvm.MethodName)) ∈ zT := zT.of (i := 384) (by decide +kernel) (by decide +kernel)
set_option maxRecDepth 100000 in
theorem w_385 : (Jvm.Cond.instanceMethod ({ cls := "BufferedCores$StoreBuffer", name := "append", desc := "(II)V" } : Jvm.MethodName)) ∈ zT := zT.of (i := 385) (by decide +kernel) (by decide +kernel)
set_option maxRecDepth 100000 in
theorem w_386 : (Jvm.Cond.selects "BufferedCores$StoreBuffer" ({ cls := "BufferedCores$StoreBuffer", name := "append", desc := "(II)V" } : Jvm.MethodName) ({ cls := "BufferedCores$StoreBuffer", name := "append", desc := "(II)V" } : Jvm.MethodName)) ∈ zT := zT.of (i := 386) (by decide +kernel) (by decide +kernel)
set_option maxRecDepth 100000 in
theorem w_387 : (Jvm.Cond.code ({ cls := "BufferedCores$StoreBuffer", name := "append", desc := "(II)V" } : Jvm.MethodName) prog_7_method_3_code (3 : Nat) (Option.none : Option Jvm.ClassFile.FieldType)) ∈ zT := zT.of (i := 387) (by decide +kernel) (by decide +kernel)
set_option maxRecDepth 100000 in
theorem w_388 : (Jvm.Cond.methodLink "BufferedCores" (251 : Nat) ({ cls := "BufferedCores", name := "executeSwap", desc := "(LBufferedCores$Core;II)I" } : Jvm.MethodName)) ∈ zT := zT.of (i := 388) (by decide +kernel) (by decide +kernel)
set_option maxRecDepth 100000 in
theorem w_390 : (Jvm.Cond.instanceMethod ({ cls := "BufferedCores", name := "executeSwap", desc := "(LBufferedCores$Core;II)I" } : Jvm.MethodName)) ∈ zT := zT.of (i := 390) (by decide +kernel) (by decide +kernel)
set_option maxRecDepth 100000 in
theorem w_391 : (Jvm.Cond.code ({ cls := "BufferedCores", name := "executeSwap", desc := "(LBufferedCores$Core;II)I" } : Jvm.MethodName) prog_1_method_30_code (7 : Nat) (Option.some Jvm.ClassFile.FieldType.int)) ∈ zT := zT.of (i := 391) (by decide +kernel) (by decide +kernel)
set_option maxRecDepth 100000 in
theorem w_392 : (Jvm.Cond.methodLink "BufferedCores" (114 : Nat) ({ cls := "BufferedCores$Line", name := "owns", desc := "(I)Z" } : Jvm.MethodName)) ∈ zT := zT.of (i := 392) (by decide +kernel) (by decide +kernel)
set_option maxRecDepth 100000 in
theorem w_393 : (Jvm.Cond.instanceMethod ({ cls := "BufferedCores$Line", name := "owns", desc := "(I)Z" } : Jvm.MethodName)) ∈ zT := zT.of (i := 393) (by decide +kernel) (by decide +kernel)
set_option maxRecDepth 100000 in
theorem w_394 : (Jvm.Cond.selects "BufferedCores$Line" ({ cls := "BufferedCores$Line", name := "owns", desc := "(I)Z" } : Jvm.MethodName) ({ cls := "BufferedCores$Line", name := "owns", desc := "(I)Z" } : Jvm.MethodName)) ∈ zT := zT.of (i := 394) (by decide +kernel) (by decide +kernel)
set_option maxRecDepth 100000 in
theorem w_395 : (Jvm.Cond.code ({ cls := "BufferedCores$Line", name := "owns", desc := "(I)Z" } : Jvm.MethodName) prog_3_method_3_code (2 : Nat) (Option.some Jvm.ClassFile.FieldType.boolean)) ∈ zT := zT.of (i := 395) (by decide +kernel) (by decide +kernel)
set_option maxRecDepth 100000 in
theorem w_396 : (Jvm.Cond.methodLink "BufferedCores$Line" (18 : Nat) ({ cls := "BufferedCores$Line", name := "has", desc := "(I)Z" } : Jvm.MethodName)) ∈ zT := zT.of (i := 396) (by decide +kernel) (by decide +kernel)
set_option maxRecDepth 100000 in
theorem w_397 : (Jvm.Cond.methodLink "BufferedCores" (126 : Nat) ({ cls := "BufferedCores$Line", name := "modify", desc := "(I)V" } : Jvm.MethodName)) ∈ zT := zT.of (i := 397) (by decide +kernel) (by decide +kernel)
set_option maxRecDepth 100000 in
theorem w_398 : (Jvm.Cond.instanceMethod ({ cls := "BufferedCores$Line", name := "modify", desc := "(I)V" } : Jvm.MethodName)) ∈ zT := zT.of (i := 398) (by decide +kernel) (by decide +kernel)
set_option maxRecDepth 100000 in
theorem w_399 : (Jvm.Cond.selects "BufferedCores$Line" ({ cls := "BufferedCores$Line", name := "modify", desc := "(I)V" } : Jvm.MethodName) ({ cls := "BufferedCores$Line", name := "modify", desc := "(I)V" } : Jvm.MethodName)) ∈ zT := zT.of (i := 399) (by decide +kernel) (by decide +kernel)
set_option maxRecDepth 100000 in
theorem w_400 : (Jvm.Cond.code ({ cls := "BufferedCores$Line", name := "modify", desc := "(I)V" } : Jvm.MethodName) prog_3_method_5_code (2 : Nat) (Option.none : Option Jvm.ClassFile.FieldType)) ∈ zT := zT.of (i := 400) (by decide +kernel) (by decide +kernel)
set_option maxRecDepth 100000 in
theorem w_401 : (Jvm.Cond.methodLink "BufferedCoresLaw" (103 : Nat) ({ cls := "BufferedCoresLaw", name := "drain", desc := "(LBufferedCores;I[J)I" } : Jvm.MethodName)) ∈ zT := zT.of (i := 401) (by decide +kernel) (by decide +kernel)
set_option maxRecDepth 100000 in
theorem w_402 : (Jvm.Cond.static ({ cls := "BufferedCoresLaw", name := "drain", desc := "(LBufferedCores;I[J)I" } : Jvm.MethodName)) ∈ zT := zT.of (i := 402) (by decide +kernel) (by decide +kernel)
set_option maxRecDepth 100000 in
theorem w_403 : (Jvm.Cond.codeWith ({ cls := "BufferedCoresLaw", name := "drain", desc := "(LBufferedCores;I[J)I" } : Jvm.MethodName) method_6_code (4 : Nat) (Option.some Jvm.ClassFile.FieldType.int) [((0 : Nat), (9 : Nat), (12 : Nat), (13 : Nat))]) ∈ zT := zT.of (i := 403) (by decide +kernel) (by decide +kernel)
set_option maxRecDepth 100000 in
theorem w_404 : (Jvm.Cond.methodLink "BufferedCoresLaw" (27 : Nat) ({ cls := "BufferedCores", name := "drain", desc := "(I)I" } : Jvm.MethodName)) ∈ zT := zT.of (i := 404) (by decide +kernel) (by decide +kernel)
set_option maxRecDepth 100000 in
theorem w_405 : (Jvm.Cond.instanceMethod ({ cls := "BufferedCores", name := "drain", desc := "(I)I" } : Jvm.MethodName)) ∈ zT := zT.of (i := 405) (by decide +kernel) (by decide +kernel)
set_option maxRecDepth 100000 in
theorem w_406 : (Jvm.Cond.selects "BufferedCores" ({ cls := "BufferedCores", name := "drain", desc := "(I)I" } : Jvm.MethodName) ({ cls := "BufferedCores", name := "drain", desc := "(I)I" } : Jvm.MethodName)) ∈ zT := zT.of (i := 406) (by decide +kernel) (by decide +kernel)
set_option maxRecDepth 100000 in
theorem w_407 : (Jvm.Cond.code ({ cls := "BufferedCores", name := "drain", desc := "(I)I" } : Jvm.MethodName) prog_1_method_5_code (6 : Nat) (Option.some Jvm.ClassFile.FieldType.int)) ∈ zT := zT.of (i := 407) (by decide +kernel) (by decide +kernel)
set_option maxRecDepth 100000 in
theorem w_408 : (Jvm.Cond.methodLink "BufferedCores" (129 : Nat) ({ cls := "BufferedCores$StoreBuffer", name := "removeOldest", desc := "()V" } : Jvm.MethodName)) ∈ zT := zT.of (i := 408) (by decide +kernel) (by decide +kernel)
set_option maxRecDepth 100000 in
theorem w_409 : (Jvm.Cond.instanceMethod ({ cls := "BufferedCores$StoreBuffer", name := "removeOldest", desc := "()V" } : Jvm.MethodName)) ∈ zT := zT.of (i := 409) (by decide +kernel) (by decide +kernel)
set_option maxRecDepth 100000 in
theorem w_410 : (Jvm.Cond.selects "BufferedCores$StoreBuffer" ({ cls := "BufferedCores$StoreBuffer", name := "removeOldest", desc := "()V" } : Jvm.MethodName) ({ cls := "BufferedCores$StoreBuffer", name := "removeOldest", desc := "()V" } : Jvm.MethodName)) ∈ zT := zT.of (i := 410) (by decide +kernel) (by decide +kernel)
set_option maxRecDepth 100000 in
theorem w_411 : (Jvm.Cond.code ({ cls := "BufferedCores$StoreBuffer", name := "removeOldest", desc := "()V" } : Jvm.MethodName) prog_7_method_4_code (2 : Nat) (Option.none : Option Jvm.ClassFile.FieldType)) ∈ zT := zT.of (i := 411) (by decide +kernel) (by decide +kernel)
set_option maxRecDepth 100000 in
theorem w_412 : (Jvm.Cond.methodLink "BufferedCoresLaw" (106 : Nat) ({ cls := "BufferedCoresLaw", name := "grant", desc := "(LBufferedCores;I[J)I" } : Jvm.MethodName)) ∈ zT := zT.of (i := 412) (by decide +kernel) (by decide +kernel)
set_option maxRecDepth 100000 in
theorem w_413 : (Jvm.Cond.static ({ cls := "BufferedCoresLaw", name := "grant", desc := "(LBufferedCores;I[J)I" } : Jvm.MethodName)) ∈ zT := zT.of (i := 413) (by decide +kernel) (by decide +kernel)
set_option maxRecDepth 100000 in
theorem w_414 : (Jvm.Cond.codeWith ({ cls := "BufferedCoresLaw", name := "grant", desc := "(LBufferedCores;I[J)I" } : Jvm.MethodName) method_7_code (4 : Nat) (Option.some Jvm.ClassFile.FieldType.int) [((0 : Nat), (9 : Nat), (12 : Nat), (13 : Nat))]) ∈ zT := zT.of (i := 414) (by decide +kernel) (by decide +kernel)
set_option maxRecDepth 100000 in
theorem w_415 : (Jvm.Cond.methodLink "BufferedCoresLaw" (30 : Nat) ({ cls := "BufferedCores", name := "grant", desc := "(I)I" } : Jvm.MethodName)) ∈ zT := zT.of (i := 415) (by decide +kernel) (by decide +kernel)
set_option maxRecDepth 100000 in
theorem w_416 : (Jvm.Cond.instanceMethod ({ cls := "BufferedCores", name := "grant", desc := "(I)I" } : Jvm.MethodName)) ∈ zT := zT.of (i := 416) (by decide +kernel) (by decide +kernel)
set_option maxRecDepth 100000 in
theorem w_417 : (Jvm.Cond.selects "BufferedCores" ({ cls := "BufferedCores", name := "grant", desc := "(I)I" } : Jvm.MethodName) ({ cls := "BufferedCores", name := "grant", desc := "(I)I" } : Jvm.MethodName)) ∈ zT := zT.of (i := 417) (by decide +kernel) (by decide +kernel)
set_option maxRecDepth 100000 in
theorem w_418 : (Jvm.Cond.code ({ cls := "BufferedCores", name := "grant", desc := "(I)I" } : Jvm.MethodName) prog_1_method_6_code (7 : Nat) (Option.some Jvm.ClassFile.FieldType.int)) ∈ zT := zT.of (i := 418) (by decide +kernel) (by decide +kernel)
set_option maxRecDepth 100000 in
theorem w_419 : (Jvm.Cond.methodLink "BufferedCores" (155 : Nat) ({ cls := "BufferedCores", name := "isInFlightElsewhere", desc := "(LBufferedCores$Core;I)Z" } : Jvm.MethodName)) ∈ zT := zT.of (i := 419) (by decide +kernel) (by decide +kernel)
set_option maxRecDepth 100000 in
theorem w_421 : (Jvm.Cond.instanceMethod ({ cls := "BufferedCores", name := "isInFlightElsewhere", desc := "(LBufferedCores$Core;I)Z" } : Jvm.MethodName)) ∈ zT := zT.of (i := 421) (by decide +kernel) (by decide +kernel)
set_option maxRecDepth 100000 in
theorem w_422 : (Jvm.Cond.code ({ cls := "BufferedCores", name := "isInFlightElsewhere", desc := "(LBufferedCores$Core;I)Z" } : Jvm.MethodName) prog_1_method_35_code (4 : Nat) (Option.some Jvm.ClassFile.FieldType.boolean)) ∈ zT := zT.of (i := 422) (by decide +kernel) (by decide +kernel)
set_option maxRecDepth 100000 in
theorem w_423 : (Jvm.Cond.methodLink "BufferedCores" (159 : Nat) ({ cls := "BufferedCores", name := "makeRoom", desc := "(LBufferedCores$Line;I)V" } : Jvm.MethodName)) ∈ zT := zT.of (i := 423) (by decide +kernel) (by decide +kernel)
set_option maxRecDepth 100000 in
theorem w_425 : (Jvm.Cond.instanceMethod ({ cls := "BufferedCores", name := "makeRoom", desc := "(LBufferedCores$Line;I)V" } : Jvm.MethodName)) ∈ zT := zT.of (i := 425) (by decide +kernel) (by decide +kernel)
set_option maxRecDepth 100000 in
theorem w_426 : (Jvm.Cond.code ({ cls := "BufferedCores", name := "makeRoom", desc := "(LBufferedCores$Line;I)V" } : Jvm.MethodName) prog_1_method_37_code (3 : Nat) (Option.none : Option Jvm.ClassFile.FieldType)) ∈ zT := zT.of (i := 426) (by decide +kernel) (by decide +kernel)
set_option maxRecDepth 100000 in
theorem w_427 : (Jvm.Cond.methodLink "BufferedCores" (269 : Nat) ({ cls := "BufferedCores", name := "writeBack", desc := "(LBufferedCores$Line;)V" } : Jvm.MethodName)) ∈ zT := zT.of (i := 427) (by decide +kernel) (by decide +kernel)
set_option maxRecDepth 100000 in
theorem w_429 : (Jvm.Cond.instanceMethod ({ cls := "BufferedCores", name := "writeBack", desc := "(LBufferedCores$Line;)V" } : Jvm.MethodName)) ∈ zT := zT.of (i := 429) (by decide +kernel) (by decide +kernel)
set_option maxRecDepth 100000 in
theorem w_430 : (Jvm.Cond.code ({ cls := "BufferedCores", name := "writeBack", desc := "(LBufferedCores$Line;)V" } : Jvm.MethodName) prog_1_method_39_code (2 : Nat) (Option.none : Option Jvm.ClassFile.FieldType)) ∈ zT := zT.of (i := 430) (by decide +kernel) (by decide +kernel)
set_option maxRecDepth 100000 in
theorem w_431 : (Jvm.Cond.methodLink "BufferedCores" (163 : Nat) ({ cls := "BufferedCores", name := "wordAt", desc := "(I)I" } : Jvm.MethodName)) ∈ zT := zT.of (i := 431) (by decide +kernel) (by decide +kernel)
set_option maxRecDepth 100000 in
theorem w_433 : (Jvm.Cond.instanceMethod ({ cls := "BufferedCores", name := "wordAt", desc := "(I)I" } : Jvm.MethodName)) ∈ zT := zT.of (i := 433) (by decide +kernel) (by decide +kernel)
set_option maxRecDepth 100000 in
theorem w_434 : (Jvm.Cond.code ({ cls := "BufferedCores", name := "wordAt", desc := "(I)I" } : Jvm.MethodName) prog_1_method_33_code (4 : Nat) (Option.some Jvm.ClassFile.FieldType.int)) ∈ zT := zT.of (i := 434) (by decide +kernel) (by decide +kernel)
set_option maxRecDepth 100000 in
theorem w_435 : (Jvm.Cond.methodLink "BufferedCores" (167 : Nat) ({ cls := "BufferedCores", name := "giveWay", desc := "(LBufferedCores$Line;II)V" } : Jvm.MethodName)) ∈ zT := zT.of (i := 435) (by decide +kernel) (by decide +kernel)
set_option maxRecDepth 100000 in
theorem w_437 : (Jvm.Cond.instanceMethod ({ cls := "BufferedCores", name := "giveWay", desc := "(LBufferedCores$Line;II)V" } : Jvm.MethodName)) ∈ zT := zT.of (i := 437) (by decide +kernel) (by decide +kernel)
set_option maxRecDepth 100000 in
theorem w_438 : (Jvm.Cond.code ({ cls := "BufferedCores", name := "giveWay", desc := "(LBufferedCores$Line;II)V" } : Jvm.MethodName) prog_1_method_38_code (4 : Nat) (Option.none : Option Jvm.ClassFile.FieldType)) ∈ zT := zT.of (i := 438) (by decide +kernel) (by decide +kernel)
set_option maxRecDepth 100000 in
theorem w_439 : (Jvm.Cond.methodLink "BufferedCores" (171 : Nat) ({ cls := "BufferedCores$Request", name := "takeOff", desc := "(I)V" } : Jvm.MethodName)) ∈ zT := zT.of (i := 439) (by decide +kernel) (by decide +kernel)
set_option maxRecDepth 100000 in
theorem w_440 : (Jvm.Cond.instanceMethod ({ cls := "BufferedCores$Request", name := "takeOff", desc := "(I)V" } : Jvm.MethodName)) ∈ zT := zT.of (i := 440) (by decide +kernel) (by decide +kernel)
set_option maxRecDepth 100000 in
theorem w_441 : (Jvm.Cond.selects "BufferedCores$Request" ({ cls := "BufferedCores$Request", name := "takeOff", desc := "(I)V" } : Jvm.MethodName) ({ cls := "BufferedCores$Request", name := "takeOff", desc := "(I)V" } : Jvm.MethodName)) ∈ zT := zT.of (i := 441) (by decide +kernel) (by decide +kernel)
set_option maxRecDepth 100000 in
theorem w_442 : (Jvm.Cond.code ({ cls := "BufferedCores$Request", name := "takeOff", desc := "(I)V" } : Jvm.MethodName) prog_6_method_4_code (2 : Nat) (Option.none : Option Jvm.ClassFile.FieldType)) ∈ zT := zT.of (i := 442) (by decide +kernel) (by decide +kernel)
set_option maxRecDepth 100000 in
theorem w_443 : (Jvm.Cond.methodLink "BufferedCoresLaw" (109 : Nat) ({ cls := "BufferedCoresLaw", name := "fill", desc := "(LBufferedCores;I[J)I" } : Jvm.MethodName)) ∈ zT := zT.of (i := 443) (by decide +kernel) (by decide +kernel)
set_option maxRecDepth 100000 in
theorem w_444 : (Jvm.Cond.static ({ cls := "BufferedCoresLaw", name := "fill", desc := "(LBufferedCores;I[J)I" } : Jvm.MethodName)) ∈ zT := zT.of (i := 444) (by decide +kernel) (by decide +kernel)
set_option maxRecDepth 100000 in
theorem w_445 : (Jvm.Cond.codeWith ({ cls := "BufferedCoresLaw", name := "fill", desc := "(LBufferedCores;I[J)I" } : Jvm.MethodName) method_8_code (4 : Nat) (Option.some Jvm.ClassFile.FieldType.int) [((0 : Nat), (9 : Nat), (12 : Nat), (13 : Nat))]) ∈ zT := zT.of (i := 445) (by decide +kernel) (by decide +kernel)
set_option maxRecDepth 100000 in
theorem w_446 : (Jvm.Cond.methodLink "BufferedCoresLaw" (33 : Nat) ({ cls := "BufferedCores", name := "fill", desc := "(I)I" } : Jvm.MethodName)) ∈ zT := zT.of (i := 446) (by decide +kernel) (by decide +kernel)
set_option maxRecDepth 100000 in
theorem w_447 : (Jvm.Cond.instanceMethod ({ cls := "BufferedCores", name := "fill", desc := "(I)I" } : Jvm.MethodName)) ∈ zT := zT.of (i := 447) (by decide +kernel) (by decide +kernel)
set_option maxRecDepth 100000 in
theorem w_448 : (Jvm.Cond.selects "BufferedCores" ({ cls := "BufferedCores", name := "fill", desc := "(I)I" } : Jvm.MethodName) ({ cls := "BufferedCores", name := "fill", desc := "(I)I" } : Jvm.MethodName)) ∈ zT := zT.of (i := 448) (by decide +kernel) (by decide +kernel)
set_option maxRecDepth 100000 in
theorem w_449 : (Jvm.Cond.code ({ cls := "BufferedCores", name := "fill", desc := "(I)I" } : Jvm.MethodName) prog_1_method_7_code (6 : Nat) (Option.some Jvm.ClassFile.FieldType.int)) ∈ zT := zT.of (i := 449) (by decide +kernel) (by decide +kernel)
set_option maxRecDepth 100000 in
theorem w_450 : (Jvm.Cond.methodLink "BufferedCores" (174 : Nat) ({ cls := "BufferedCores", name := "isHeldElsewhere", desc := "(LBufferedCores$Core;I)Z" } : Jvm.MethodName)) ∈ zT := zT.of (i := 450) (by decide +kernel) (by decide +kernel)
set_option maxRecDepth 100000 in
theorem w_452 : (Jvm.Cond.instanceMethod ({ cls := "BufferedCores", name := "isHeldElsewhere", desc := "(LBufferedCores$Core;I)Z" } : Jvm.MethodName)) ∈ zT := zT.of (i := 452) (by decide +kernel) (by decide +kernel)
set_option maxRecDepth 100000 in
theorem w_453 : (Jvm.Cond.code ({ cls := "BufferedCores", name := "isHeldElsewhere", desc := "(LBufferedCores$Core;I)Z" } : Jvm.MethodName) prog_1_method_36_code (4 : Nat) (Option.some Jvm.ClassFile.FieldType.boolean)) ∈ zT := zT.of (i := 453) (by decide +kernel) (by decide +kernel)
set_option maxRecDepth 100000 in
theorem w_454 : (Jvm.Cond.methodLink "BufferedCores" (180 : Nat) ({ cls := "BufferedCores$Line", name := "take", desc := "(III)V" } : Jvm.MethodName)) ∈ zT := zT.of (i := 454) (by decide +kernel) (by decide +kernel)
set_option maxRecDepth 100000 in
theorem w_455 : (Jvm.Cond.instanceMethod ({ cls := "BufferedCores$Line", name := "take", desc := "(III)V" } : Jvm.MethodName)) ∈ zT := zT.of (i := 455) (by decide +kernel) (by decide +kernel)
set_option maxRecDepth 100000 in
theorem w_456 : (Jvm.Cond.selects "BufferedCores$Line" ({ cls := "BufferedCores$Line", name := "take", desc := "(III)V" } : Jvm.MethodName) ({ cls := "BufferedCores$Line", name := "take", desc := "(III)V" } : Jvm.MethodName)) ∈ zT := zT.of (i := 456) (by decide +kernel) (by decide +kernel)
set_option maxRecDepth 100000 in
theorem w_457 : (Jvm.Cond.code ({ cls := "BufferedCores$Line", name := "take", desc := "(III)V" } : Jvm.MethodName) prog_3_method_4_code (4 : Nat) (Option.none : Option Jvm.ClassFile.FieldType)) ∈ zT := zT.of (i := 457) (by decide +kernel) (by decide +kernel)
set_option maxRecDepth 100000 in
theorem w_458 : (Jvm.Cond.methodLink "BufferedCores" (183 : Nat) ({ cls := "BufferedCores$Request", name := "forget", desc := "()V" } : Jvm.MethodName)) ∈ zT := zT.of (i := 458) (by decide +kernel) (by decide +kernel)
set_option maxRecDepth 100000 in
theorem w_459 : (Jvm.Cond.instanceMethod ({ cls := "BufferedCores$Request", name := "forget", desc := "()V" } : Jvm.MethodName)) ∈ zT := zT.of (i := 459) (by decide +kernel) (by decide +kernel)
set_option maxRecDepth 100000 in
theorem w_460 : (Jvm.Cond.selects "BufferedCores$Request" ({ cls := "BufferedCores$Request", name := "forget", desc := "()V" } : Jvm.MethodName) ({ cls := "BufferedCores$Request", name := "forget", desc := "()V" } : Jvm.MethodName)) ∈ zT := zT.of (i := 460) (by decide +kernel) (by decide +kernel)
set_option maxRecDepth 100000 in
theorem w_461 : (Jvm.Cond.code ({ cls := "BufferedCores$Request", name := "forget", desc := "()V" } : Jvm.MethodName) prog_6_method_5_code (1 : Nat) (Option.none : Option Jvm.ClassFile.FieldType)) ∈ zT := zT.of (i := 461) (by decide +kernel) (by decide +kernel)
set_option maxRecDepth 100000 in
theorem w_462 : (Jvm.Cond.methodLink "BufferedCoresLaw" (112 : Nat) ({ cls := "BufferedCoresLaw", name := "register", desc := "(LBufferedCores;II[J)I" } : Jvm.MethodName)) ∈ zT := zT.of (i := 462) (by decide +kernel) (by decide +kernel)
set_option maxRecDepth 100000 in
theorem w_463 : (Jvm.Cond.static ({ cls := "BufferedCoresLaw", name := "register", desc := "(LBufferedCores;II[J)I" } : Jvm.MethodName)) ∈ zT := zT.of (i := 463) (by decide +kernel) (by decide +kernel)
set_option maxRecDepth 100000 in
theorem w_464 : (Jvm.Cond.codeWith ({ cls := "BufferedCoresLaw", name := "register", desc := "(LBufferedCores;II[J)I" } : Jvm.MethodName) method_9_code (5 : Nat) (Option.some Jvm.ClassFile.FieldType.int) [((0 : Nat), (10 : Nat), (13 : Nat), (13 : Nat)), ((0 : Nat), (10 : Nat), (17 : Nat), (15 : Nat))]) ∈ zT := zT.of (i := 464) (by decide +kernel) (by decide +kernel)
set_option maxRecDepth 100000 in
theorem w_465 : (Jvm.Cond.methodLink "BufferedCoresLaw" (36 : Nat) ({ cls := "BufferedCores", name := "register", desc := "(II)I" } : Jvm.MethodName)) ∈ zT := zT.of (i := 465) (by decide +kernel) (by decide +kernel)
set_option maxRecDepth 100000 in
theorem w_466 : (Jvm.Cond.instanceMethod ({ cls := "BufferedCores", name := "register", desc := "(II)I" } : Jvm.MethodName)) ∈ zT := zT.of (i := 466) (by decide +kernel) (by decide +kernel)
set_option maxRecDepth 100000 in
theorem w_467 : (Jvm.Cond.selects "BufferedCores" ({ cls := "BufferedCores", name := "register", desc := "(II)I" } : Jvm.MethodName) ({ cls := "BufferedCores", name := "register", desc := "(II)I" } : Jvm.MethodName)) ∈ zT := zT.of (i := 467) (by decide +kernel) (by decide +kernel)
set_option maxRecDepth 100000 in
theorem w_468 : (Jvm.Cond.code ({ cls := "BufferedCores", name := "register", desc := "(II)I" } : Jvm.MethodName) prog_1_method_8_code (4 : Nat) (Option.some Jvm.ClassFile.FieldType.int)) ∈ zT := zT.of (i := 468) (by decide +kernel) (by decide +kernel)
set_option maxRecDepth 100000 in
theorem w_470 : (Jvm.Cond.methodLink "BufferedCoresLaw" (116 : Nat) ({ cls := "BufferedCoresLaw", name := "place", desc := "(LBufferedCores;I[J)I" } : Jvm.MethodName)) ∈ zT := zT.of (i := 470) (by decide +kernel) (by decide +kernel)
set_option maxRecDepth 100000 in
theorem w_471 : (Jvm.Cond.static ({ cls := "BufferedCoresLaw", name := "place", desc := "(LBufferedCores;I[J)I" } : Jvm.MethodName)) ∈ zT := zT.of (i := 471) (by decide +kernel) (by decide +kernel)
set_option maxRecDepth 100000 in
theorem w_472 : (Jvm.Cond.codeWith ({ cls := "BufferedCoresLaw", name := "place", desc := "(LBufferedCores;I[J)I" } : Jvm.MethodName) method_10_code (4 : Nat) (Option.some Jvm.ClassFile.FieldType.int) [((0 : Nat), (9 : Nat), (12 : Nat), (13 : Nat))]) ∈ zT := zT.of (i := 472) (by decide +kernel) (by decide +kernel)
set_option maxRecDepth 100000 in
theorem w_473 : (Jvm.Cond.methodLink "BufferedCoresLaw" (40 : Nat) ({ cls := "BufferedCores", name := "place", desc := "(I)I" } : Jvm.MethodName)) ∈ zT := zT.of (i := 473) (by decide +kernel) (by decide +kernel)
set_option maxRecDepth 100000 in
theorem w_474 : (Jvm.Cond.instanceMethod ({ cls := "BufferedCores", name := "place", desc := "(I)I" } : Jvm.MethodName)) ∈ zT := zT.of (i := 474) (by decide +kernel) (by decide +kernel)
set_option maxRecDepth 100000 in
theorem w_475 : (Jvm.Cond.selects "BufferedCores" ({ cls := "BufferedCores", name := "place", desc := "(I)I" } : Jvm.MethodName) ({ cls := "BufferedCores", name := "place", desc := "(I)I" } : Jvm.MethodName)) ∈ zT := zT.of (i := 475) (by decide +kernel) (by decide +kernel)
set_option maxRecDepth 100000 in
theorem w_476 : (Jvm.Cond.code ({ cls := "BufferedCores", name := "place", desc := "(I)I" } : Jvm.MethodName) prog_1_method_9_code (2 : Nat) (Option.some Jvm.ClassFile.FieldType.int)) ∈ zT := zT.of (i := 476) (by decide +kernel) (by decide +kernel)
set_option maxRecDepth 100000 in
theorem w_477 : (Jvm.Cond.methodLink "BufferedCoresLaw" (119 : Nat) ({ cls := "BufferedCoresLaw", name := "buffered", desc := "(LBufferedCores;I[J)I" } : Jvm.MethodName)) ∈ zT := zT.of (i := 477) (by decide +kernel) (by decide +kernel)
set_option maxRecDepth 100000 in
theorem w_478 : (Jvm.Cond.static ({ cls := "BufferedCoresLaw", name := "buffered", desc := "(LBufferedCores;I[J)I" } : Jvm.MethodName)) ∈ zT := zT.of (i := 478) (by decide +kernel) (by decide +kernel)
set_option maxRecDepth 100000 in
theorem w_479 : (Jvm.Cond.codeWith ({ cls := "BufferedCoresLaw", name := "buffered", desc := "(LBufferedCores;I[J)I" } : Jvm.MethodName) method_11_code (4 : Nat) (Option.some Jvm.ClassFile.FieldType.int) [((0 : Nat), (9 : Nat), (12 : Nat), (13 : Nat))]) ∈ zT := zT.of (i := 479) (by decide +kernel) (by decide +kernel)
set_option maxRecDepth 100000 in
theorem w_480 : (Jvm.Cond.methodLink "BufferedCoresLaw" (43 : Nat) ({ cls := "BufferedCores", name := "buffered", desc := "(I)I" } : Jvm.MethodName)) ∈ zT := zT.of (i := 480) (by decide +kernel) (by decide +kernel)
set_option maxRecDepth 100000 in
theorem w_481 : (Jvm.Cond.instanceMethod ({ cls := "BufferedCores", name := "buffered", desc := "(I)I" } : Jvm.MethodName)) ∈ zT := zT.of (i := 481) (by decide +kernel) (by decide +kernel)
set_option maxRecDepth 100000 in
theorem w_482 : (Jvm.Cond.selects "BufferedCores" ({ cls := "BufferedCores", name := "buffered", desc := "(I)I" } : Jvm.MethodName) ({ cls := "BufferedCores", name := "buffered", desc := "(I)I" } : Jvm.MethodName)) ∈ zT := zT.of (i := 482) (by decide +kernel) (by decide +kernel)
set_option maxRecDepth 100000 in
theorem w_483 : (Jvm.Cond.code ({ cls := "BufferedCores", name := "buffered", desc := "(I)I" } : Jvm.MethodName) prog_1_method_10_code (2 : Nat) (Option.some Jvm.ClassFile.FieldType.int)) ∈ zT := zT.of (i := 483) (by decide +kernel) (by decide +kernel)
set_option maxRecDepth 100000 in
theorem w_484 : (Jvm.Cond.methodLink "BufferedCoresLaw" (122 : Nat) ({ cls := "BufferedCoresLaw", name := "storeAddress", desc := "(LBufferedCores;II[J)I" } : Jvm.MethodName)) ∈ zT := zT.of (i := 484) (by decide +kernel) (by decide +kernel)
set_option maxRecDepth 100000 in
theorem w_485 : (Jvm.Cond.static ({ cls := "BufferedCoresLaw", name := "storeAddress", desc := "(LBufferedCores;II[J)I" } : Jvm.MethodName)) ∈ zT := zT.of (i := 485) (by decide +kernel) (by decide +kernel)
set_option maxRecDepth 100000 in
theorem w_486 : (Jvm.Cond.codeWith ({ cls := "BufferedCoresLaw", name := "storeAddress", desc := "(LBufferedCores;II[J)I" } : Jvm.MethodName) method_12_code (5 : Nat) (Option.some Jvm.ClassFile.FieldType.int) [((0 : Nat), (10 : Nat), (13 : Nat), (13 : Nat)), ((0 : Nat), (10 : Nat), (17 : Nat), (49 : Nat))]) ∈ zT := zT.of (i := 486) (by decide +kernel) (by decide +kernel)
set_option maxRecDepth 100000 in
theorem w_488 : (Jvm.Cond.methodLink "BufferedCoresLaw" (46 : Nat) ({ cls := "BufferedCores", name := "storeAddress", desc := "(II)I" } : Jvm.MethodName)) ∈ zT := zT.of (i := 488) (by decide +kernel) (by decide +kernel)
set_option maxRecDepth 100000 in
theorem w_489 : (Jvm.Cond.instanceMethod ({ cls := "BufferedCores", name := "storeAddress", desc := "(II)I" } : Jvm.MethodName)) ∈ zT := zT.of (i := 489) (by decide +kernel) (by decide +kernel)
set_option maxRecDepth 100000 in
theorem w_490 : (Jvm.Cond.selects "BufferedCores" ({ cls := "BufferedCores", name := "storeAddress", desc := "(II)I" } : Jvm.MethodName) ({ cls := "BufferedCores", name := "storeAddress", desc := "(II)I" } : Jvm.MethodName)) ∈ zT := zT.of (i := 490) (by decide +kernel) (by decide +kernel)
set_option maxRecDepth 100000 in
theorem w_491 : (Jvm.Cond.code ({ cls := "BufferedCores", name := "storeAddress", desc := "(II)I" } : Jvm.MethodName) prog_1_method_11_code (4 : Nat) (Option.some Jvm.ClassFile.FieldType.int)) ∈ zT := zT.of (i := 491) (by decide +kernel) (by decide +kernel)
set_option maxRecDepth 100000 in
theorem w_492 : (Jvm.Cond.methodLink "BufferedCores" (194 : Nat) ({ cls := "BufferedCores", name := "requireStore", desc := "(LBufferedCores$StoreBuffer;I)V" } : Jvm.MethodName)) ∈ zT := zT.of (i := 492) (by decide +kernel) (by decide +kernel)
set_option maxRecDepth 100000 in
theorem w_493 : (Jvm.Cond.static ({ cls := "BufferedCores", name := "requireStore", desc := "(LBufferedCores$StoreBuffer;I)V" } : Jvm.MethodName)) ∈ zT := zT.of (i := 493) (by decide +kernel) (by decide +kernel)
set_option maxRecDepth 100000 in
theorem w_494 : (Jvm.Cond.code ({ cls := "BufferedCores", name := "requireStore", desc := "(LBufferedCores$StoreBuffer;I)V" } : Jvm.MethodName) prog_1_method_23_code (2 : Nat) (Option.none : Option Jvm.ClassFile.FieldType)) ∈ zT := zT.of (i := 494) (by decide +kernel) (by decide +kernel)
set_option maxRecDepth 100000 in
theorem w_511 : (Jvm.Cond.methodLink "BufferedCoresLaw" (125 : Nat) ({ cls := "BufferedCoresLaw", name := "storeValue", desc := "(LBufferedCores;II[J)I" } : Jvm.MethodName)) ∈ zT := zT.of (i := 511) (by decide +kernel) (by decide +kernel)
set_option maxRecDepth 100000 in
theorem w_512 : (Jvm.Cond.static ({ cls := "BufferedCoresLaw", name := "storeValue", desc := "(LBufferedCores;II[J)I" } : Jvm.MethodName)) ∈ zT := zT.of (i := 512) (by decide +kernel) (by decide +kernel)
set_option maxRecDepth 100000 in
theorem w_513 : (Jvm.Cond.codeWith ({ cls := "BufferedCoresLaw", name := "storeValue", desc := "(LBufferedCores;II[J)I" } : Jvm.MethodName) method_13_code (5 : Nat) (Option.some Jvm.ClassFile.FieldType.int) [((0 : Nat), (10 : Nat), (13 : Nat), (13 : Nat)), ((0 : Nat), (10 : Nat), (17 : Nat), (49 : Nat))]) ∈ zT := zT.of (i := 513) (by decide +kernel) (by decide +kernel)
set_option maxRecDepth 100000 in
theorem w_514 : (Jvm.Cond.methodLink "BufferedCoresLaw" (51 : Nat) ({ cls := "BufferedCores", name := "storeValue", desc := "(II)I" } : Jvm.MethodName)) ∈ zT := zT.of (i := 514) (by decide +kernel) (by decide +kernel)
set_option maxRecDepth 100000 in
theorem w_515 : (Jvm.Cond.instanceMethod ({ cls := "BufferedCores", name := "storeValue", desc := "(II)I" } : Jvm.MethodName)) ∈ zT := zT.of (i := 515) (by decide +kernel) (by decide +kernel)
set_option maxRecDepth 100000 in
theorem w_516 : (Jvm.Cond.selects "BufferedCores" ({ cls := "BufferedCores", name := "storeValue", desc := "(II)I" } : Jvm.MethodName) ({ cls := "BufferedCores", name := "storeValue", desc := "(II)I" } : Jvm.MethodName)) ∈ zT := zT.of (i := 516) (by decide +kernel) (by decide +kernel)
set_option maxRecDepth 100000 in
theorem w_517 : (Jvm.Cond.code ({ cls := "BufferedCores", name := "storeValue", desc := "(II)I" } : Jvm.MethodName) prog_1_method_12_code (4 : Nat) (Option.some Jvm.ClassFile.FieldType.int)) ∈ zT := zT.of (i := 517) (by decide +kernel) (by decide +kernel)
set_option maxRecDepth 100000 in
theorem w_518 : (Jvm.Cond.methodLink "BufferedCoresLaw" (128 : Nat) ({ cls := "BufferedCoresLaw", name := "line", desc := "(LBufferedCores;II[J)I" } : Jvm.MethodName)) ∈ zT := zT.of (i := 518) (by decide +kernel) (by decide +kernel)
set_option maxRecDepth 100000 in
theorem w_519 : (Jvm.Cond.static ({ cls := "BufferedCoresLaw", name := "line", desc := "(LBufferedCores;II[J)I" } : Jvm.MethodName)) ∈ zT := zT.of (i := 519) (by decide +kernel) (by decide +kernel)
set_option maxRecDepth 100000 in
theorem w_520 : (Jvm.Cond.codeWith ({ cls := "BufferedCoresLaw", name := "line", desc := "(LBufferedCores;II[J)I" } : Jvm.MethodName) method_14_code (5 : Nat) (Option.some Jvm.ClassFile.FieldType.int) [((0 : Nat), (10 : Nat), (13 : Nat), (13 : Nat)), ((0 : Nat), (10 : Nat), (17 : Nat), (15 : Nat))]) ∈ zT := zT.of (i := 520) (by decide +kernel) (by decide +kernel)
set_option maxRecDepth 100000 in
theorem w_521 : (Jvm.Cond.methodLink "BufferedCoresLaw" (54 : Nat) ({ cls := "BufferedCores", name := "line", desc := "(II)I" } : Jvm.MethodName)) ∈ zT := zT.of (i := 521) (by decide +kernel) (by decide +kernel)
set_option maxRecDepth 100000 in
theorem w_522 : (Jvm.Cond.instanceMethod ({ cls := "BufferedCores", name := "line", desc := "(II)I" } : Jvm.MethodName)) ∈ zT := zT.of (i := 522) (by decide +kernel) (by decide +kernel)
set_option maxRecDepth 100000 in
theorem w_523 : (Jvm.Cond.selects "BufferedCores" ({ cls := "BufferedCores", name := "line", desc := "(II)I" } : Jvm.MethodName) ({ cls := "BufferedCores", name := "line", desc := "(II)I" } : Jvm.MethodName)) ∈ zT := zT.of (i := 523) (by decide +kernel) (by decide +kernel)
set_option maxRecDepth 100000 in
theorem w_524 : (Jvm.Cond.code ({ cls := "BufferedCores", name := "line", desc := "(II)I" } : Jvm.MethodName) prog_1_method_13_code (5 : Nat) (Option.some Jvm.ClassFile.FieldType.int)) ∈ zT := zT.of (i := 524) (by decide +kernel) (by decide +kernel)
set_option maxRecDepth 100000 in
theorem w_526 : (Jvm.Cond.methodLink "BufferedCoresLaw" (131 : Nat) ({ cls := "BufferedCoresLaw", name := "cached", desc := "(LBufferedCores;II[J)I" } : Jvm.MethodName)) ∈ zT := zT.of (i := 526) (by decide +kernel) (by decide +kernel)
set_option maxRecDepth 100000 in
theorem w_527 : (Jvm.Cond.static ({ cls := "BufferedCoresLaw", name := "cached", desc := "(LBufferedCores;II[J)I" } : Jvm.MethodName)) ∈ zT := zT.of (i := 527) (by decide +kernel) (by decide +kernel)
set_option maxRecDepth 100000 in
theorem w_528 : (Jvm.Cond.codeWith ({ cls := "BufferedCoresLaw", name := "cached", desc := "(LBufferedCores;II[J)I" } : Jvm.MethodName) method_15_code (5 : Nat) (Option.some Jvm.ClassFile.FieldType.int) [((0 : Nat), (10 : Nat), (13 : Nat), (13 : Nat)), ((0 : Nat), (10 : Nat), (17 : Nat), (15 : Nat)), ((0 : Nat), (10 : Nat), (21 : Nat), (49 : Nat))]) ∈ zT := zT.of (i := 528) (by decide +kernel) (by decide +kernel)
set_option maxRecDepth 100000 in
theorem w_529 : (Jvm.Cond.methodLink "BufferedCoresLaw" (57 : Nat) ({ cls := "BufferedCores", name := "cached", desc := "(II)I" } : Jvm.MethodName)) ∈ zT := zT.of (i := 529) (by decide +kernel) (by decide +kernel)
set_option maxRecDepth 100000 in
theorem w_530 : (Jvm.Cond.instanceMethod ({ cls := "BufferedCores", name := "cached", desc := "(II)I" } : Jvm.MethodName)) ∈ zT := zT.of (i := 530) (by decide +kernel) (by decide +kernel)
set_option maxRecDepth 100000 in
theorem w_531 : (Jvm.Cond.selects "BufferedCores" ({ cls := "BufferedCores", name := "cached", desc := "(II)I" } : Jvm.MethodName) ({ cls := "BufferedCores", name := "cached", desc := "(II)I" } : Jvm.MethodName)) ∈ zT := zT.of (i := 531) (by decide +kernel) (by decide +kernel)
set_option maxRecDepth 100000 in
theorem w_532 : (Jvm.Cond.code ({ cls := "BufferedCores", name := "cached", desc := "(II)I" } : Jvm.MethodName) prog_1_method_14_code (5 : Nat) (Option.some Jvm.ClassFile.FieldType.int)) ∈ zT := zT.of (i := 532) (by decide +kernel) (by decide +kernel)
set_option maxRecDepth 100000 in
theorem w_534 : (Jvm.Cond.methodLink "BufferedCoresLaw" (134 : Nat) ({ cls := "BufferedCoresLaw", name := "request", desc := "(LBufferedCores;I[J)I" } : Jvm.MethodName)) ∈ zT := zT.of (i := 534) (by decide +kernel) (by decide +kernel)
set_option maxRecDepth 100000 in
theorem w_535 : (Jvm.Cond.static ({ cls := "BufferedCoresLaw", name := "request", desc := "(LBufferedCores;I[J)I" } : Jvm.MethodName)) ∈ zT := zT.of (i := 535) (by decide +kernel) (by decide +kernel)
set_option maxRecDepth 100000 in
theorem w_536 : (Jvm.Cond.codeWith ({ cls := "BufferedCoresLaw", name := "request", desc := "(LBufferedCores;I[J)I" } : Jvm.MethodName) method_16_code (4 : Nat) (Option.some Jvm.ClassFile.FieldType.int) [((0 : Nat), (9 : Nat), (12 : Nat), (13 : Nat))]) ∈ zT := zT.of (i := 536) (by decide +kernel) (by decide +kernel)
set_option maxRecDepth 100000 in
theorem w_537 : (Jvm.Cond.methodLink "BufferedCoresLaw" (60 : Nat) ({ cls := "BufferedCores", name := "request", desc := "(I)I" } : Jvm.MethodName)) ∈ zT := zT.of (i := 537) (by decide +kernel) (by decide +kernel)
set_option maxRecDepth 100000 in
theorem w_538 : (Jvm.Cond.instanceMethod ({ cls := "BufferedCores", name := "request", desc := "(I)I" } : Jvm.MethodName)) ∈ zT := zT.of (i := 538) (by decide +kernel) (by decide +kernel)
set_option maxRecDepth 100000 in
theorem w_539 : (Jvm.Cond.selects "BufferedCores" ({ cls := "BufferedCores", name := "request", desc := "(I)I" } : Jvm.MethodName) ({ cls := "BufferedCores", name := "request", desc := "(I)I" } : Jvm.MethodName)) ∈ zT := zT.of (i := 539) (by decide +kernel) (by decide +kernel)
set_option maxRecDepth 100000 in
theorem w_540 : (Jvm.Cond.code ({ cls := "BufferedCores", name := "request", desc := "(I)I" } : Jvm.MethodName) prog_1_method_15_code (3 : Nat) (Option.some Jvm.ClassFile.FieldType.int)) ∈ zT := zT.of (i := 540) (by decide +kernel) (by decide +kernel)
set_option maxRecDepth 100000 in
theorem w_541 : (Jvm.Cond.methodLink "BufferedCoresLaw" (137 : Nat) ({ cls := "BufferedCoresLaw", name := "memory", desc := "(LBufferedCores;I[J)I" } : Jvm.MethodName)) ∈ zT := zT.of (i := 541) (by decide +kernel) (by decide +kernel)
set_option maxRecDepth 100000 in
theorem w_542 : (Jvm.Cond.static ({ cls := "BufferedCoresLaw", name := "memory", desc := "(LBufferedCores;I[J)I" } : Jvm.MethodName)) ∈ zT := zT.of (i := 542) (by decide +kernel) (by decide +kernel)
set_option maxRecDepth 100000 in
theorem w_543 : (Jvm.Cond.codeWith ({ cls := "BufferedCoresLaw", name := "memory", desc := "(LBufferedCores;I[J)I" } : Jvm.MethodName) method_17_code (4 : Nat) (Option.some Jvm.ClassFile.FieldType.int) [((0 : Nat), (9 : Nat), (12 : Nat), (15 : Nat))]) ∈ zT := zT.of (i := 543) (by decide +kernel) (by decide +kernel)
set_option maxRecDepth 100000 in
theorem w_544 : (Jvm.Cond.methodLink "BufferedCoresLaw" (63 : Nat) ({ cls := "BufferedCores", name := "memory", desc := "(I)I" } : Jvm.MethodName)) ∈ zT := zT.of (i := 544) (by decide +kernel) (by decide +kernel)
set_option maxRecDepth 100000 in
theorem w_545 : (Jvm.Cond.instanceMethod ({ cls := "BufferedCores", name := "memory", desc := "(I)I" } : Jvm.MethodName)) ∈ zT := zT.of (i := 545) (by decide +kernel) (by decide +kernel)
set_option maxRecDepth 100000 in
theorem w_546 : (Jvm.Cond.selects "BufferedCores" ({ cls := "BufferedCores", name := "memory", desc := "(I)I" } : Jvm.MethodName) ({ cls := "BufferedCores", name := "memory", desc := "(I)I" } : Jvm.MethodName)) ∈ zT := zT.of (i := 546) (by decide +kernel) (by decide +kernel)
set_option maxRecDepth 100000 in
theorem w_547 : (Jvm.Cond.code ({ cls := "BufferedCores", name := "memory", desc := "(I)I" } : Jvm.MethodName) prog_1_method_16_code (2 : Nat) (Option.some Jvm.ClassFile.FieldType.int)) ∈ zT := zT.of (i := 547) (by decide +kernel) (by decide +kernel)
set_option maxRecDepth 100000 in
theorem w_548 : (Jvm.Cond.methodLink "BufferedCoresLaw" (140 : Nat) ({ cls := "BufferedCoresLaw", name := "word", desc := "(LBufferedCores;I[J)I" } : Jvm.MethodName)) ∈ zT := zT.of (i := 548) (by decide +kernel) (by decide +kernel)
set_option maxRecDepth 100000 in
theorem w_549 : (Jvm.Cond.static ({ cls := "BufferedCoresLaw", name := "word", desc := "(LBufferedCores;I[J)I" } : Jvm.MethodName)) ∈ zT := zT.of (i := 549) (by decide +kernel) (by decide +kernel)
set_option maxRecDepth 100000 in
theorem w_550 : (Jvm.Cond.codeWith ({ cls := "BufferedCoresLaw", name := "word", desc := "(LBufferedCores;I[J)I" } : Jvm.MethodName) method_18_code (4 : Nat) (Option.some Jvm.ClassFile.FieldType.int) [((0 : Nat), (9 : Nat), (12 : Nat), (15 : Nat))]) ∈ zT := zT.of (i := 550) (by decide +kernel) (by decide +kernel)
set_option maxRecDepth 100000 in
theorem w_551 : (Jvm.Cond.methodLink "BufferedCoresLaw" (66 : Nat) ({ cls := "BufferedCores", name := "word", desc := "(I)I" } : Jvm.MethodName)) ∈ zT := zT.of (i := 551) (by decide +kernel) (by decide +kernel)
set_option maxRecDepth 100000 in
theorem w_552 : (Jvm.Cond.instanceMethod ({ cls := "BufferedCores", name := "word", desc := "(I)I" } : Jvm.MethodName)) ∈ zT := zT.of (i := 552) (by decide +kernel) (by decide +kernel)
set_option maxRecDepth 100000 in
theorem w_553 : (Jvm.Cond.selects "BufferedCores" ({ cls := "BufferedCores", name := "word", desc := "(I)I" } : Jvm.MethodName) ({ cls := "BufferedCores", name := "word", desc := "(I)I" } : Jvm.MethodName)) ∈ zT := zT.of (i := 553) (by decide +kernel) (by decide +kernel)
set_option maxRecDepth 100000 in
theorem w_554 : (Jvm.Cond.code ({ cls := "BufferedCores", name := "word", desc := "(I)I" } : Jvm.MethodName) prog_1_method_17_code (2 : Nat) (Option.some Jvm.ClassFile.FieldType.int)) ∈ zT := zT.of (i := 554) (by decide +kernel) (by decide +kernel)
set_option maxRecDepth 100000 in
theorem w_555 : (Jvm.Cond.methodLink "BufferedCoresLaw" (147 : Nat) ({ cls := "BufferedCoresLaw", name := "event", desc := "(LBufferedCores;I[J)I" } : Jvm.MethodName)) ∈ zT := zT.of (i := 555) (by decide +kernel) (by decide +kernel)
set_option maxRecDepth 100000 in
theorem w_556 : (Jvm.Cond.static ({ cls := "BufferedCoresLaw", name := "event", desc := "(LBufferedCores;I[J)I" } : Jvm.MethodName)) ∈ zT := zT.of (i := 556) (by decide +kernel) (by decide +kernel)
set_option maxRecDepth 100000 in
theorem w_557 : (Jvm.Cond.codeWith ({ cls := "BufferedCoresLaw", name := "event", desc := "(LBufferedCores;I[J)I" } : Jvm.MethodName) method_19_code (4 : Nat) (Option.some Jvm.ClassFile.FieldType.int) [((0 : Nat), (9 : Nat), (12 : Nat), (49 : Nat))]) ∈ zT := zT.of (i := 557) (by decide +kernel) (by decide +kernel)
set_option maxRecDepth 100000 in
theorem w_558 : (Jvm.Cond.methodLink "BufferedCoresLaw" (69 : Nat) ({ cls := "BufferedCores", name := "event", desc := "(I)I" } : Jvm.MethodName)) ∈ zT := zT.of (i := 558) (by decide +kernel) (by decide +kernel)
set_option maxRecDepth 100000 in
theorem w_559 : (Jvm.Cond.instanceMethod ({ cls := "BufferedCores", name := "event", desc := "(I)I" } : Jvm.MethodName)) ∈ zT := zT.of (i := 559) (by decide +kernel) (by decide +kernel)
set_option maxRecDepth 100000 in
theorem w_560 : (Jvm.Cond.selects "BufferedCores" ({ cls := "BufferedCores", name := "event", desc := "(I)I" } : Jvm.MethodName) ({ cls := "BufferedCores", name := "event", desc := "(I)I" } : Jvm.MethodName)) ∈ zT := zT.of (i := 560) (by decide +kernel) (by decide +kernel)
set_option maxRecDepth 100000 in
theorem w_561 : (Jvm.Cond.code ({ cls := "BufferedCores", name := "event", desc := "(I)I" } : Jvm.MethodName) prog_1_method_19_code (2 : Nat) (Option.some Jvm.ClassFile.FieldType.int)) ∈ zT := zT.of (i := 561) (by decide +kernel) (by decide +kernel)
set_option maxRecDepth 100000 in
theorem w_562 : (Jvm.Cond.methodLink "BufferedCores" (220 : Nat) ({ cls := "BufferedCores", name := "requireEvent", desc := "(I)V" } : Jvm.MethodName)) ∈ zT := zT.of (i := 562) (by decide +kernel) (by decide +kernel)
set_option maxRecDepth 100000 in
theorem w_564 : (Jvm.Cond.instanceMethod ({ cls := "BufferedCores", name := "requireEvent", desc := "(I)V" } : Jvm.MethodName)) ∈ zT := zT.of (i := 564) (by decide +kernel) (by decide +kernel)
set_option maxRecDepth 100000 in
theorem w_565 : (Jvm.Cond.code ({ cls := "BufferedCores", name := "requireEvent", desc := "(I)V" } : Jvm.MethodName) prog_1_method_24_code (2 : Nat) (Option.none : Option Jvm.ClassFile.FieldType)) ∈ zT := zT.of (i := 565) (by decide +kernel) (by decide +kernel)
set_option maxRecDepth 100000 in
theorem w_566 : (Jvm.Cond.methodLink "BufferedCores" (236 : Nat) ({ cls := "BufferedCores$Log", name := "keeps", desc := "(I)Z" } : Jvm.MethodName)) ∈ zT := zT.of (i := 566) (by decide +kernel) (by decide +kernel)
set_option maxRecDepth 100000 in
theorem w_567 : (Jvm.Cond.instanceMethod ({ cls := "BufferedCores$Log", name := "keeps", desc := "(I)Z" } : Jvm.MethodName)) ∈ zT := zT.of (i := 567) (by decide +kernel) (by decide +kernel)
set_option maxRecDepth 100000 in
theorem w_568 : (Jvm.Cond.selects "BufferedCores$Log" ({ cls := "BufferedCores$Log", name := "keeps", desc := "(I)Z" } : Jvm.MethodName) ({ cls := "BufferedCores$Log", name := "keeps", desc := "(I)Z" } : Jvm.MethodName)) ∈ zT := zT.of (i := 568) (by decide +kernel) (by decide +kernel)
set_option maxRecDepth 100000 in
theorem w_569 : (Jvm.Cond.code ({ cls := "BufferedCores$Log", name := "keeps", desc := "(I)Z" } : Jvm.MethodName) prog_4_method_3_code (2 : Nat) (Option.some Jvm.ClassFile.FieldType.boolean)) ∈ zT := zT.of (i := 569) (by decide +kernel) (by decide +kernel)
set_option maxRecDepth 100000 in
theorem w_571 : (Jvm.Cond.methodLink "BufferedCoresLaw" (150 : Nat) ({ cls := "BufferedCoresLaw", name := "eventValue", desc := "(LBufferedCores;I[J)I" } : Jvm.MethodName)) ∈ zT := zT.of (i := 571) (by decide +kernel) (by decide +kernel)
set_option maxRecDepth 100000 in
theorem w_572 : (Jvm.Cond.static ({ cls := "BufferedCoresLaw", name := "eventValue", desc := "(LBufferedCores;I[J)I" } : Jvm.MethodName)) ∈ zT := zT.of (i := 572) (by decide +kernel) (by decide +kernel)
set_option maxRecDepth 100000 in
theorem w_573 : (Jvm.Cond.codeWith ({ cls := "BufferedCoresLaw", name := "eventValue", desc := "(LBufferedCores;I[J)I" } : Jvm.MethodName) method_20_code (4 : Nat) (Option.some Jvm.ClassFile.FieldType.int) [((0 : Nat), (9 : Nat), (12 : Nat), (49 : Nat))]) ∈ zT := zT.of (i := 573) (by decide +kernel) (by decide +kernel)
set_option maxRecDepth 100000 in
theorem w_574 : (Jvm.Cond.methodLink "BufferedCoresLaw" (72 : Nat) ({ cls := "BufferedCores", name := "eventValue", desc := "(I)I" } : Jvm.MethodName)) ∈ zT := zT.of (i := 574) (by decide +kernel) (by decide +kernel)
set_option maxRecDepth 100000 in
theorem w_575 : (Jvm.Cond.instanceMethod ({ cls := "BufferedCores", name := "eventValue", desc := "(I)I" } : Jvm.MethodName)) ∈ zT := zT.of (i := 575) (by decide +kernel) (by decide +kernel)
set_option maxRecDepth 100000 in
theorem w_576 : (Jvm.Cond.selects "BufferedCores" ({ cls := "BufferedCores", name := "eventValue", desc := "(I)I" } : Jvm.MethodName) ({ cls := "BufferedCores", name := "eventValue", desc := "(I)I" } : Jvm.MethodName)) ∈ zT := zT.of (i := 576) (by decide +kernel) (by decide +kernel)
set_option maxRecDepth 100000 in
theorem w_577 : (Jvm.Cond.code ({ cls := "BufferedCores", name := "eventValue", desc := "(I)I" } : Jvm.MethodName) prog_1_method_20_code (2 : Nat) (Option.some Jvm.ClassFile.FieldType.int)) ∈ zT := zT.of (i := 577) (by decide +kernel) (by decide +kernel)
set_option maxRecDepth 100000 in
theorem w_578 : (Jvm.Cond.classLink "BufferedCoresLaw" (84 : Nat) "BufferedCoresModel") ∈ zT := zT.of (i := 578) (by decide +kernel) (by decide +kernel)
set_option maxRecDepth 100000 in
theorem w_579 : (Jvm.Cond.instantiable "BufferedCoresModel" (22 : Nat)) ∈ zT := zT.of (i := 579) (by decide +kernel) (by decide +kernel)
set_option maxRecDepth 100000 in
theorem w_580 : (Jvm.Cond.methodLink "BufferedCoresLaw" (86 : Nat) ({ cls := "BufferedCoresModel", name := "<init>", desc := "(I)V" } : Jvm.MethodName)) ∈ zT := zT.of (i := 580) (by decide +kernel) (by decide +kernel)
set_option maxRecDepth 100000 in
theorem w_581 : (Jvm.Cond.instanceMethod ({ cls := "BufferedCoresModel", name := "<init>", desc := "(I)V" } : Jvm.MethodName)) ∈ zT := zT.of (i := 581) (by decide +kernel) (by decide +kernel)
set_option maxRecDepth 100000 in
theorem w_582 : (Jvm.Cond.code ({ cls := "BufferedCoresModel", name := "<init>", desc := "(I)V" } : Jvm.MethodName) prog_9_method_1_code (2 : Nat) (Option.none : Option Jvm.ClassFile.FieldType)) ∈ zT := zT.of (i := 582) (by decide +kernel) (by decide +kernel)
set_option maxRecDepth 100000 in
theorem w_583 : (Jvm.Cond.methodLink "BufferedCoresModel" (1 : Nat) ({ cls := "java/lang/Object", name := "<init>", desc := "()V" } : Jvm.MethodName)) ∈ zT := zT.of (i := 583) (by decide +kernel) (by decide +kernel)
set_option maxRecDepth 100000 in
theorem w_584 : (Jvm.Cond.fieldLink "BufferedCoresModel" (72 : Nat) "BufferedCoresModel" "thrown" "I") ∈ zT := zT.of (i := 584) (by decide +kernel) (by decide +kernel)
set_option maxRecDepth 100000 in
theorem w_585 : (Jvm.Cond.fieldLink "BufferedCoresModel" (68 : Nat) "BufferedCoresModel" "most" "I") ∈ zT := zT.of (i := 585) (by decide +kernel) (by decide +kernel)
set_option maxRecDepth 100000 in
theorem w_586 : (Jvm.Cond.fieldLink "BufferedCoresModel" (7 : Nat) "BufferedCoresModel" "memory" "[I") ∈ zT := zT.of (i := 586) (by decide +kernel) (by decide +kernel)
set_option maxRecDepth 100000 in
theorem w_587 : (Jvm.Cond.fieldLink "BufferedCoresModel" (13 : Nat) "BufferedCoresModel" "registers" "[I") ∈ zT := zT.of (i := 587) (by decide +kernel) (by decide +kernel)
set_option maxRecDepth 100000 in
theorem w_588 : (Jvm.Cond.fieldLink "BufferedCoresModel" (16 : Nat) "BufferedCoresModel" "length" "[I") ∈ zT := zT.of (i := 588) (by decide +kernel) (by decide +kernel)
set_option maxRecDepth 100000 in
theorem w_589 : (Jvm.Cond.fieldLink "BufferedCoresModel" (19 : Nat) "BufferedCoresModel" "ops" "[I") ∈ zT := zT.of (i := 589) (by decide +kernel) (by decide +kernel)
set_option maxRecDepth 100000 in
theorem w_590 : (Jvm.Cond.fieldLink "BufferedCoresModel" (22 : Nat) "BufferedCoresModel" "as" "[I") ∈ zT := zT.of (i := 590) (by decide +kernel) (by decide +kernel)
set_option maxRecDepth 100000 in
theorem w_591 : (Jvm.Cond.fieldLink "BufferedCoresModel" (25 : Nat) "BufferedCoresModel" "bs" "[I") ∈ zT := zT.of (i := 591) (by decide +kernel) (by decide +kernel)
set_option maxRecDepth 100000 in
theorem w_592 : (Jvm.Cond.fieldLink "BufferedCoresModel" (28 : Nat) "BufferedCoresModel" "places" "[I") ∈ zT := zT.of (i := 592) (by decide +kernel) (by decide +kernel)
set_option maxRecDepth 100000 in
theorem w_593 : (Jvm.Cond.fieldLink "BufferedCoresModel" (31 : Nat) "BufferedCoresModel" "stores" "[I") ∈ zT := zT.of (i := 593) (by decide +kernel) (by decide +kernel)
set_option maxRecDepth 100000 in
theorem w_594 : (Jvm.Cond.fieldLink "BufferedCoresModel" (34 : Nat) "BufferedCoresModel" "storeX" "[I") ∈ zT := zT.of (i := 594) (by decide +kernel) (by decide +kernel)
set_option maxRecDepth 100000 in
theorem w_595 : (Jvm.Cond.fieldLink "BufferedCoresModel" (37 : Nat) "BufferedCoresModel" "storeV" "[I") ∈ zT := zT.of (i := 595) (by decide +kernel) (by decide +kernel)
set_option maxRecDepth 100000 in
theorem w_596 : (Jvm.Cond.fieldLink "BufferedCoresModel" (40 : Nat) "BufferedCoresModel" "states" "[I") ∈ zT := zT.of (i := 596) (by decide +kernel) (by decide +kernel)
set_option maxRecDepth 100000 in
theorem w_597 : (Jvm.Cond.fieldLink "BufferedCoresModel" (43 : Nat) "BufferedCoresModel" "tags" "[I") ∈ zT := zT.of (i := 597) (by decide +kernel) (by decide +kernel)
set_option maxRecDepth 100000 in
theorem w_598 : (Jvm.Cond.fieldLink "BufferedCoresModel" (46 : Nat) "BufferedCoresModel" "values" "[I") ∈ zT := zT.of (i := 598) (by decide +kernel) (by decide +kernel)
set_option maxRecDepth 100000 in
theorem w_599 : (Jvm.Cond.fieldLink "BufferedCoresModel" (49 : Nat) "BufferedCoresModel" "wants" "[I") ∈ zT := zT.of (i := 599) (by decide +kernel) (by decide +kernel)
set_option maxRecDepth 100000 in
theorem w_600 : (Jvm.Cond.fieldLink "BufferedCoresModel" (52 : Nat) "BufferedCoresModel" "wantX" "[I") ∈ zT := zT.of (i := 600) (by decide +kernel) (by decide +kernel)
set_option maxRecDepth 100000 in
theorem w_601 : (Jvm.Cond.fieldLink "BufferedCoresModel" (55 : Nat) "BufferedCoresModel" "flies" "[Z") ∈ zT := zT.of (i := 601) (by decide +kernel) (by decide +kernel)
set_option maxRecDepth 100000 in
theorem w_602 : (Jvm.Cond.fieldLink "BufferedCoresModel" (59 : Nat) "BufferedCoresModel" "wantV" "[I") ∈ zT := zT.of (i := 602) (by decide +kernel) (by decide +kernel)
set_option maxRecDepth 100000 in
theorem w_603 : (Jvm.Cond.fieldLink "BufferedCoresModel" (90 : Nat) "BufferedCoresModel" "events" "I") ∈ zT := zT.of (i := 603) (by decide +kernel) (by decide +kernel)
set_option maxRecDepth 100000 in
theorem w_604 : (Jvm.Cond.fieldLink "BufferedCoresModel" (62 : Nat) "BufferedCoresModel" "what" "[I") ∈ zT := zT.of (i := 604) (by decide +kernel) (by decide +kernel)
set_option maxRecDepth 100000 in
theorem w_605 : (Jvm.Cond.fieldLink "BufferedCoresModel" (65 : Nat) "BufferedCoresModel" "whatV" "[I") ∈ zT := zT.of (i := 605) (by decide +kernel) (by decide +kernel)
set_option maxRecDepth 100000 in
theorem w_651 : (Jvm.Cond.arrayClass Jvm.ClassFile.FieldType.boolean) ∈ zT := zT.of (i := 651) (by decide +kernel) (by decide +kernel)
set_option maxRecDepth 100000 in
theorem w_652 : (Jvm.Cond.methodLink "BufferedCoresLaw" (91 : Nat) ({ cls := "BufferedCoresModel", name := "thrown", desc := "()I" } : Jvm.MethodName)) ∈ zT := zT.of (i := 652) (by decide +kernel) (by decide +kernel)
set_option maxRecDepth 100000 in
theorem w_653 : (Jvm.Cond.instanceMethod ({ cls := "BufferedCoresModel", name := "thrown", desc := "()I" } : Jvm.MethodName)) ∈ zT := zT.of (i := 653) (by decide +kernel) (by decide +kernel)
set_option maxRecDepth 100000 in
theorem w_654 : (Jvm.Cond.selects "BufferedCoresModel" ({ cls := "BufferedCoresModel", name := "thrown", desc := "()I" } : Jvm.MethodName) ({ cls := "BufferedCoresModel", name := "thrown", desc := "()I" } : Jvm.MethodName)) ∈ zT := zT.of (i := 654) (by decide +kernel) (by decide +kernel)
set_option maxRecDepth 100000 in
theorem w_655 : (Jvm.Cond.code ({ cls := "BufferedCoresModel", name := "thrown", desc := "()I" } : Jvm.MethodName) prog_9_method_2_code (1 : Nat) (Option.some Jvm.ClassFile.FieldType.int)) ∈ zT := zT.of (i := 655) (by decide +kernel) (by decide +kernel)
set_option maxRecDepth 100000 in
theorem w_656 : (Jvm.Cond.methodLink "BufferedCoresLaw" (90 : Nat) ({ cls := "BufferedCoresModel", name := "code", desc := "(IIII)I" } : Jvm.MethodName)) ∈ zT := zT.of (i := 656) (by decide +kernel) (by decide +kernel)
set_option maxRecDepth 100000 in
theorem w_657 : (Jvm.Cond.instanceMethod ({ cls := "BufferedCoresModel", name := "code", desc := "(IIII)I" } : Jvm.MethodName)) ∈ zT := zT.of (i := 657) (by decide +kernel) (by decide +kernel)
set_option maxRecDepth 100000 in
theorem w_658 : (Jvm.Cond.selects "BufferedCoresModel" ({ cls := "BufferedCoresModel", name := "code", desc := "(IIII)I" } : Jvm.MethodName) ({ cls := "BufferedCoresModel", name := "code", desc := "(IIII)I" } : Jvm.MethodName)) ∈ zT := zT.of (i := 658) (by decide +kernel) (by decide +kernel)
set_option maxRecDepth 100000 in
theorem w_659 : (Jvm.Cond.code ({ cls := "BufferedCoresModel", name := "code", desc := "(IIII)I" } : Jvm.MethodName) prog_9_method_5_code (8 : Nat) (Option.some Jvm.ClassFile.FieldType.int)) ∈ zT := zT.of (i := 659) (by decide +kernel) (by decide +kernel)
set_option maxRecDepth 100000 in
theorem w_660 : (Jvm.Cond.methodLink "BufferedCoresModel" (75 : Nat) ({ cls := "BufferedCoresModel", name := "core", desc := "(I)Z" } : Jvm.MethodName)) ∈ zT := zT.of (i := 660) (by decide +kernel) (by decide +kernel)
set_option maxRecDepth 100000 in
theorem w_662 : (Jvm.Cond.instanceMethod ({ cls := "BufferedCoresModel", name := "core", desc := "(I)Z" } : Jvm.MethodName)) ∈ zT := zT.of (i := 662) (by decide +kernel) (by decide +kernel)
set_option maxRecDepth 100000 in
theorem w_663 : (Jvm.Cond.code ({ cls := "BufferedCoresModel", name := "core", desc := "(I)Z" } : Jvm.MethodName) prog_9_method_4_code (2 : Nat) (Option.some Jvm.ClassFile.FieldType.boolean)) ∈ zT := zT.of (i := 663) (by decide +kernel) (by decide +kernel)
set_option maxRecDepth 100000 in
theorem w_664 : (Jvm.Cond.methodLink "BufferedCoresModel" (79 : Nat) ({ cls := "BufferedCoresModel", name := "isRegister", desc := "(I)Z" } : Jvm.MethodName)) ∈ zT := zT.of (i := 664) (by decide +kernel) (by decide +kernel)
set_option maxRecDepth 100000 in
theorem w_665 : (Jvm.Cond.static ({ cls := "BufferedCoresModel", name := "isRegister", desc := "(I)Z" } : Jvm.MethodName)) ∈ zT := zT.of (i := 665) (by decide +kernel) (by decide +kernel)
set_option maxRecDepth 100000 in
theorem w_666 : (Jvm.Cond.code ({ cls := "BufferedCoresModel", name := "isRegister", desc := "(I)Z" } : Jvm.MethodName) prog_9_method_3_code (1 : Nat) (Option.some Jvm.ClassFile.FieldType.boolean)) ∈ zT := zT.of (i := 666) (by decide +kernel) (by decide +kernel)
set_option maxRecDepth 100000 in
theorem w_667 : (Jvm.Cond.methodLink "BufferedCoresLaw" (98 : Nat) ({ cls := "BufferedCoresModel", name := "poke", desc := "(II)V" } : Jvm.MethodName)) ∈ zT := zT.of (i := 667) (by decide +kernel) (by decide +kernel)
set_option maxRecDepth 100000 in
theorem w_668 : (Jvm.Cond.instanceMethod ({ cls := "BufferedCoresModel", name := "poke", desc := "(II)V" } : Jvm.MethodName)) ∈ zT := zT.of (i := 668) (by decide +kernel) (by decide +kernel)
set_option maxRecDepth 100000 in
theorem w_669 : (Jvm.Cond.selects "BufferedCoresModel" ({ cls := "BufferedCoresModel", name := "poke", desc := "(II)V" } : Jvm.MethodName) ({ cls := "BufferedCoresModel", name := "poke", desc := "(II)V" } : Jvm.MethodName)) ∈ zT := zT.of (i := 669) (by decide +kernel) (by decide +kernel)
set_option maxRecDepth 100000 in
theorem w_670 : (Jvm.Cond.code ({ cls := "BufferedCoresModel", name := "poke", desc := "(II)V" } : Jvm.MethodName) prog_9_method_10_code (5 : Nat) (Option.none : Option Jvm.ClassFile.FieldType)) ∈ zT := zT.of (i := 670) (by decide +kernel) (by decide +kernel)
set_option maxRecDepth 100000 in
theorem w_671 : (Jvm.Cond.methodLink "BufferedCoresModel" (86 : Nat) ({ cls := "BufferedCoresModel", name := "has", desc := "(II)Z" } : Jvm.MethodName)) ∈ zT := zT.of (i := 671) (by decide +kernel) (by decide +kernel)
set_option maxRecDepth 100000 in
theorem w_673 : (Jvm.Cond.instanceMethod ({ cls := "BufferedCoresModel", name := "has", desc := "(II)Z" } : Jvm.MethodName)) ∈ zT := zT.of (i := 673) (by decide +kernel) (by decide +kernel)
set_option maxRecDepth 100000 in
theorem w_674 : (Jvm.Cond.code ({ cls := "BufferedCoresModel", name := "has", desc := "(II)Z" } : Jvm.MethodName) prog_9_method_7_code (4 : Nat) (Option.some Jvm.ClassFile.FieldType.boolean)) ∈ zT := zT.of (i := 674) (by decide +kernel) (by decide +kernel)
set_option maxRecDepth 100000 in
theorem w_675 : (Jvm.Cond.methodLink "BufferedCoresModel" (82 : Nat) ({ cls := "BufferedCoresModel", name := "lineOf", desc := "(II)I" } : Jvm.MethodName)) ∈ zT := zT.of (i := 675) (by decide +kernel) (by decide +kernel)
set_option maxRecDepth 100000 in
theorem w_677 : (Jvm.Cond.instanceMethod ({ cls := "BufferedCoresModel", name := "lineOf", desc := "(II)I" } : Jvm.MethodName)) ∈ zT := zT.of (i := 677) (by decide +kernel) (by decide +kernel)
set_option maxRecDepth 100000 in
theorem w_678 : (Jvm.Cond.code ({ cls := "BufferedCoresModel", name := "lineOf", desc := "(II)I" } : Jvm.MethodName) prog_9_method_6_code (3 : Nat) (Option.some Jvm.ClassFile.FieldType.int)) ∈ zT := zT.of (i := 678) (by decide +kernel) (by decide +kernel)
set_option maxRecDepth 100000 in
theorem w_679 : (Jvm.Cond.methodLink "BufferedCoresLaw" (102 : Nat) ({ cls := "BufferedCoresModel", name := "step", desc := "(I)I" } : Jvm.MethodName)) ∈ zT := zT.of (i := 679) (by decide +kernel) (by decide +kernel)
set_option maxRecDepth 100000 in
theorem w_680 : (Jvm.Cond.instanceMethod ({ cls := "BufferedCoresModel", name := "step", desc := "(I)I" } : Jvm.MethodName)) ∈ zT := zT.of (i := 680) (by decide +kernel) (by decide +kernel)
set_option maxRecDepth 100000 in
theorem w_681 : (Jvm.Cond.selects "BufferedCoresModel" ({ cls := "BufferedCoresModel", name := "step", desc := "(I)I" } : Jvm.MethodName) ({ cls := "BufferedCoresModel", name := "step", desc := "(I)I" } : Jvm.MethodName)) ∈ zT := zT.of (i := 681) (by decide +kernel) (by decide +kernel)
set_option maxRecDepth 100000 in
theorem w_682 : (Jvm.Cond.code ({ cls := "BufferedCoresModel", name := "step", desc := "(I)I" } : Jvm.MethodName) prog_9_method_18_code (5 : Nat) (Option.some Jvm.ClassFile.FieldType.int)) ∈ zT := zT.of (i := 682) (by decide +kernel) (by decide +kernel)
set_option maxRecDepth 100000 in
theorem w_683 : (Jvm.Cond.methodLink "BufferedCoresModel" (114 : Nat) ({ cls := "BufferedCoresModel", name := "act", desc := "(IIII)I" } : Jvm.MethodName)) ∈ zT := zT.of (i := 683) (by decide +kernel) (by decide +kernel)
set_option maxRecDepth 100000 in
theorem w_685 : (Jvm.Cond.instanceMethod ({ cls := "BufferedCoresModel", name := "act", desc := "(IIII)I" } : Jvm.MethodName)) ∈ zT := zT.of (i := 685) (by decide +kernel) (by decide +kernel)
set_option maxRecDepth 100000 in
theorem w_686 : (Jvm.Cond.code ({ cls := "BufferedCoresModel", name := "act", desc := "(IIII)I" } : Jvm.MethodName) prog_9_method_17_code (5 : Nat) (Option.some Jvm.ClassFile.FieldType.int)) ∈ zT := zT.of (i := 686) (by decide +kernel) (by decide +kernel)
set_option maxRecDepth 100000 in
theorem w_687 : (Jvm.Cond.methodLink "BufferedCoresModel" (104 : Nat) ({ cls := "BufferedCoresModel", name := "load", desc := "(III)I" } : Jvm.MethodName)) ∈ zT := zT.of (i := 687) (by decide +kernel) (by decide +kernel)
set_option maxRecDepth 100000 in
theorem w_689 : (Jvm.Cond.instanceMethod ({ cls := "BufferedCoresModel", name := "load", desc := "(III)I" } : Jvm.MethodName)) ∈ zT := zT.of (i := 689) (by decide +kernel) (by decide +kernel)
set_option maxRecDepth 100000 in
theorem w_690 : (Jvm.Cond.code ({ cls := "BufferedCoresModel", name := "load", desc := "(III)I" } : Jvm.MethodName) prog_9_method_14_code (7 : Nat) (Option.some Jvm.ClassFile.FieldType.int)) ∈ zT := zT.of (i := 690) (by decide +kernel) (by decide +kernel)
set_option maxRecDepth 100000 in
theorem w_691 : (Jvm.Cond.methodLink "BufferedCoresModel" (93 : Nat) ({ cls := "BufferedCoresModel", name := "ask", desc := "(IIZ)V" } : Jvm.MethodName)) ∈ zT := zT.of (i := 691) (by decide +kernel) (by decide +kernel)
set_option maxRecDepth 100000 in
theorem w_693 : (Jvm.Cond.instanceMethod ({ cls := "BufferedCoresModel", name := "ask", desc := "(IIZ)V" } : Jvm.MethodName)) ∈ zT := zT.of (i := 693) (by decide +kernel) (by decide +kernel)
set_option maxRecDepth 100000 in
theorem w_694 : (Jvm.Cond.code ({ cls := "BufferedCoresModel", name := "ask", desc := "(IIZ)V" } : Jvm.MethodName) prog_9_method_11_code (4 : Nat) (Option.none : Option Jvm.ClassFile.FieldType)) ∈ zT := zT.of (i := 694) (by decide +kernel) (by decide +kernel)
set_option maxRecDepth 100000 in
theorem w_695 : (Jvm.Cond.methodLink "BufferedCoresModel" (97 : Nat) ({ cls := "BufferedCoresModel", name := "note", desc := "(IIII)V" } : Jvm.MethodName)) ∈ zT := zT.of (i := 695) (by decide +kernel) (by decide +kernel)
set_option maxRecDepth 100000 in
theorem w_697 : (Jvm.Cond.instanceMethod ({ cls := "BufferedCoresModel", name := "note", desc := "(IIII)V" } : Jvm.MethodName)) ∈ zT := zT.of (i := 697) (by decide +kernel) (by decide +kernel)
set_option maxRecDepth 100000 in
theorem w_698 : (Jvm.Cond.code ({ cls := "BufferedCoresModel", name := "note", desc := "(IIII)V" } : Jvm.MethodName) prog_9_method_12_code (5 : Nat) (Option.none : Option Jvm.ClassFile.FieldType)) ∈ zT := zT.of (i := 698) (by decide +kernel) (by decide +kernel)
set_option maxRecDepth 100000 in
theorem w_699 : (Jvm.Cond.methodLink "BufferedCoresModel" (108 : Nat) ({ cls := "BufferedCoresModel", name := "store", desc := "(III)I" } : Jvm.MethodName)) ∈ zT := zT.of (i := 699) (by decide +kernel) (by decide +kernel)
set_option maxRecDepth 100000 in
theorem w_701 : (Jvm.Cond.instanceMethod ({ cls := "BufferedCoresModel", name := "store", desc := "(III)I" } : Jvm.MethodName)) ∈ zT := zT.of (i := 701) (by decide +kernel) (by decide +kernel)
set_option maxRecDepth 100000 in
theorem w_702 : (Jvm.Cond.code ({ cls := "BufferedCoresModel", name := "store", desc := "(III)I" } : Jvm.MethodName) prog_9_method_15_code (4 : Nat) (Option.some Jvm.ClassFile.FieldType.int)) ∈ zT := zT.of (i := 702) (by decide +kernel) (by decide +kernel)
set_option maxRecDepth 100000 in
theorem w_703 : (Jvm.Cond.methodLink "BufferedCoresModel" (111 : Nat) ({ cls := "BufferedCoresModel", name := "swap", desc := "(III)I" } : Jvm.MethodName)) ∈ zT := zT.of (i := 703) (by decide +kernel) (by decide +kernel)
set_option maxRecDepth 100000 in
theorem w_705 : (Jvm.Cond.instanceMethod ({ cls := "BufferedCoresModel", name := "swap", desc := "(III)I" } : Jvm.MethodName)) ∈ zT := zT.of (i := 705) (by decide +kernel) (by decide +kernel)
set_option maxRecDepth 100000 in
theorem w_706 : (Jvm.Cond.code ({ cls := "BufferedCoresModel", name := "swap", desc := "(III)I" } : Jvm.MethodName) prog_9_method_16_code (8 : Nat) (Option.some Jvm.ClassFile.FieldType.int)) ∈ zT := zT.of (i := 706) (by decide +kernel) (by decide +kernel)
set_option maxRecDepth 100000 in
theorem w_707 : (Jvm.Cond.methodLink "BufferedCoresModel" (101 : Nat) ({ cls := "BufferedCoresModel", name := "owns", desc := "(II)Z" } : Jvm.MethodName)) ∈ zT := zT.of (i := 707) (by decide +kernel) (by decide +kernel)
set_option maxRecDepth 100000 in
theorem w_709 : (Jvm.Cond.instanceMethod ({ cls := "BufferedCoresModel", name := "owns", desc := "(II)Z" } : Jvm.MethodName)) ∈ zT := zT.of (i := 709) (by decide +kernel) (by decide +kernel)
set_option maxRecDepth 100000 in
theorem w_710 : (Jvm.Cond.code ({ cls := "BufferedCoresModel", name := "owns", desc := "(II)Z" } : Jvm.MethodName) prog_9_method_8_code (3 : Nat) (Option.some Jvm.ClassFile.FieldType.boolean)) ∈ zT := zT.of (i := 710) (by decide +kernel) (by decide +kernel)
set_option maxRecDepth 100000 in
theorem w_711 : (Jvm.Cond.methodLink "BufferedCoresLaw" (105 : Nat) ({ cls := "BufferedCoresModel", name := "drain", desc := "(I)I" } : Jvm.MethodName)) ∈ zT := zT.of (i := 711) (by decide +kernel) (by decide +kernel)
set_option maxRecDepth 100000 in
theorem w_712 : (Jvm.Cond.instanceMethod ({ cls := "BufferedCoresModel", name := "drain", desc := "(I)I" } : Jvm.MethodName)) ∈ zT := zT.of (i := 712) (by decide +kernel) (by decide +kernel)
set_option maxRecDepth 100000 in
theorem w_713 : (Jvm.Cond.selects "BufferedCoresModel" ({ cls := "BufferedCoresModel", name := "drain", desc := "(I)I" } : Jvm.MethodName) ({ cls := "BufferedCoresModel", name := "drain", desc := "(I)I" } : Jvm.MethodName)) ∈ zT := zT.of (i := 713) (by decide +kernel) (by decide +kernel)
set_option maxRecDepth 100000 in
theorem w_714 : (Jvm.Cond.code ({ cls := "BufferedCoresModel", name := "drain", desc := "(I)I" } : Jvm.MethodName) prog_9_method_19_code (6 : Nat) (Option.some Jvm.ClassFile.FieldType.int)) ∈ zT := zT.of (i := 714) (by decide +kernel) (by decide +kernel)
set_option maxRecDepth 100000 in
theorem w_715 : (Jvm.Cond.methodLink "BufferedCoresLaw" (108 : Nat) ({ cls := "BufferedCoresModel", name := "grant", desc := "(I)I" } : Jvm.MethodName)) ∈ zT := zT.of (i := 715) (by decide +kernel) (by decide +kernel)
set_option maxRecDepth 100000 in
theorem w_716 : (Jvm.Cond.instanceMethod ({ cls := "BufferedCoresModel", name := "grant", desc := "(I)I" } : Jvm.MethodName)) ∈ zT := zT.of (i := 716) (by decide +kernel) (by decide +kernel)
set_option maxRecDepth 100000 in
theorem w_717 : (Jvm.Cond.selects "BufferedCoresModel" ({ cls := "BufferedCoresModel", name := "grant", desc := "(I)I" } : Jvm.MethodName) ({ cls := "BufferedCoresModel", name := "grant", desc := "(I)I" } : Jvm.MethodName)) ∈ zT := zT.of (i := 717) (by decide +kernel) (by decide +kernel)
set_option maxRecDepth 100000 in
theorem w_718 : (Jvm.Cond.code ({ cls := "BufferedCoresModel", name := "grant", desc := "(I)I" } : Jvm.MethodName) prog_9_method_20_code (5 : Nat) (Option.some Jvm.ClassFile.FieldType.int)) ∈ zT := zT.of (i := 718) (by decide +kernel) (by decide +kernel)
set_option maxRecDepth 100000 in
theorem w_719 : (Jvm.Cond.methodLink "BufferedCoresModel" (118 : Nat) ({ cls := "BufferedCoresModel", name := "writeBack", desc := "(I)V" } : Jvm.MethodName)) ∈ zT := zT.of (i := 719) (by decide +kernel) (by decide +kernel)
set_option maxRecDepth 100000 in
theorem w_721 : (Jvm.Cond.instanceMethod ({ cls := "BufferedCoresModel", name := "writeBack", desc := "(I)V" } : Jvm.MethodName)) ∈ zT := zT.of (i := 721) (by decide +kernel) (by decide +kernel)
set_option maxRecDepth 100000 in
theorem w_722 : (Jvm.Cond.code ({ cls := "BufferedCoresModel", name := "writeBack", desc := "(I)V" } : Jvm.MethodName) prog_9_method_13_code (2 : Nat) (Option.none : Option Jvm.ClassFile.FieldType)) ∈ zT := zT.of (i := 722) (by decide +kernel) (by decide +kernel)
set_option maxRecDepth 100000 in
theorem w_723 : (Jvm.Cond.methodLink "BufferedCoresModel" (122 : Nat) ({ cls := "BufferedCoresModel", name := "wordAt", desc := "(I)I" } : Jvm.MethodName)) ∈ zT := zT.of (i := 723) (by decide +kernel) (by decide +kernel)
set_option maxRecDepth 100000 in
theorem w_725 : (Jvm.Cond.instanceMethod ({ cls := "BufferedCoresModel", name := "wordAt", desc := "(I)I" } : Jvm.MethodName)) ∈ zT := zT.of (i := 725) (by decide +kernel) (by decide +kernel)
set_option maxRecDepth 100000 in
theorem w_726 : (Jvm.Cond.code ({ cls := "BufferedCoresModel", name := "wordAt", desc := "(I)I" } : Jvm.MethodName) prog_9_method_9_code (4 : Nat) (Option.some Jvm.ClassFile.FieldType.int)) ∈ zT := zT.of (i := 726) (by decide +kernel) (by decide +kernel)
set_option maxRecDepth 100000 in
theorem w_727 : (Jvm.Cond.methodLink "BufferedCoresLaw" (111 : Nat) ({ cls := "BufferedCoresModel", name := "fill", desc := "(I)I" } : Jvm.MethodName)) ∈ zT := zT.of (i := 727) (by decide +kernel) (by decide +kernel)
set_option maxRecDepth 100000 in
theorem w_728 : (Jvm.Cond.instanceMethod ({ cls := "BufferedCoresModel", name := "fill", desc := "(I)I" } : Jvm.MethodName)) ∈ zT := zT.of (i := 728) (by decide +kernel) (by decide +kernel)
set_option maxRecDepth 100000 in
theorem w_729 : (Jvm.Cond.selects "BufferedCoresModel" ({ cls := "BufferedCoresModel", name := "fill", desc := "(I)I" } : Jvm.MethodName) ({ cls := "BufferedCoresModel", name := "fill", desc := "(I)I" } : Jvm.MethodName)) ∈ zT := zT.of (i := 729) (by decide +kernel) (by decide +kernel)
set_option maxRecDepth 100000 in
theorem w_730 : (Jvm.Cond.code ({ cls := "BufferedCoresModel", name := "fill", desc := "(I)I" } : Jvm.MethodName) prog_9_method_21_code (5 : Nat) (Option.some Jvm.ClassFile.FieldType.int)) ∈ zT := zT.of (i := 730) (by decide +kernel) (by decide +kernel)
set_option maxRecDepth 100000 in
theorem w_731 : (Jvm.Cond.methodLink "BufferedCoresLaw" (115 : Nat) ({ cls := "BufferedCoresModel", name := "register", desc := "(II)I" } : Jvm.MethodName)) ∈ zT := zT.of (i := 731) (by decide +kernel) (by decide +kernel)
set_option maxRecDepth 100000 in
theorem w_732 : (Jvm.Cond.instanceMethod ({ cls := "BufferedCoresModel", name := "register", desc := "(II)I" } : Jvm.MethodName)) ∈ zT := zT.of (i := 732) (by decide +kernel) (by decide +kernel)
set_option maxRecDepth 100000 in
theorem w_733 : (Jvm.Cond.selects "BufferedCoresModel" ({ cls := "BufferedCoresModel", name := "register", desc := "(II)I" } : Jvm.MethodName) ({ cls := "BufferedCoresModel", name := "register", desc := "(II)I" } : Jvm.MethodName)) ∈ zT := zT.of (i := 733) (by decide +kernel) (by decide +kernel)
set_option maxRecDepth 100000 in
theorem w_734 : (Jvm.Cond.code ({ cls := "BufferedCoresModel", name := "register", desc := "(II)I" } : Jvm.MethodName) prog_9_method_22_code (3 : Nat) (Option.some Jvm.ClassFile.FieldType.int)) ∈ zT := zT.of (i := 734) (by decide +kernel) (by decide +kernel)
set_option maxRecDepth 100000 in
theorem w_735 : (Jvm.Cond.methodLink "BufferedCoresLaw" (118 : Nat) ({ cls := "BufferedCoresModel", name := "place", desc := "(I)I" } : Jvm.MethodName)) ∈ zT := zT.of (i := 735) (by decide +kernel) (by decide +kernel)
set_option maxRecDepth 100000 in
theorem w_736 : (Jvm.Cond.instanceMethod ({ cls := "BufferedCoresModel", name := "place", desc := "(I)I" } : Jvm.MethodName)) ∈ zT := zT.of (i := 736) (by decide +kernel) (by decide +kernel)
set_option maxRecDepth 100000 in
theorem w_737 : (Jvm.Cond.selects "BufferedCoresModel" ({ cls := "BufferedCoresModel", name := "place", desc := "(I)I" } : Jvm.MethodName) ({ cls := "BufferedCoresModel", name := "place", desc := "(I)I" } : Jvm.MethodName)) ∈ zT := zT.of (i := 737) (by decide +kernel) (by decide +kernel)
set_option maxRecDepth 100000 in
theorem w_738 : (Jvm.Cond.code ({ cls := "BufferedCoresModel", name := "place", desc := "(I)I" } : Jvm.MethodName) prog_9_method_23_code (2 : Nat) (Option.some Jvm.ClassFile.FieldType.int)) ∈ zT := zT.of (i := 738) (by decide +kernel) (by decide +kernel)
set_option maxRecDepth 100000 in
theorem w_739 : (Jvm.Cond.methodLink "BufferedCoresLaw" (121 : Nat) ({ cls := "BufferedCoresModel", name := "buffered", desc := "(I)I" } : Jvm.MethodName)) ∈ zT := zT.of (i := 739) (by decide +kernel) (by decide +kernel)
set_option maxRecDepth 100000 in
theorem w_740 : (Jvm.Cond.instanceMethod ({ cls := "BufferedCoresModel", name := "buffered", desc := "(I)I" } : Jvm.MethodName)) ∈ zT := zT.of (i := 740) (by decide +kernel) (by decide +kernel)
set_option maxRecDepth 100000 in
theorem w_741 : (Jvm.Cond.selects "BufferedCoresModel" ({ cls := "BufferedCoresModel", name := "buffered", desc := "(I)I" } : Jvm.MethodName) ({ cls := "BufferedCoresModel", name := "buffered", desc := "(I)I" } : Jvm.MethodName)) ∈ zT := zT.of (i := 741) (by decide +kernel) (by decide +kernel)
set_option maxRecDepth 100000 in
theorem w_742 : (Jvm.Cond.code ({ cls := "BufferedCoresModel", name := "buffered", desc := "(I)I" } : Jvm.MethodName) prog_9_method_24_code (2 : Nat) (Option.some Jvm.ClassFile.FieldType.int)) ∈ zT := zT.of (i := 742) (by decide +kernel) (by decide +kernel)
set_option maxRecDepth 100000 in
theorem w_743 : (Jvm.Cond.methodLink "BufferedCoresLaw" (124 : Nat) ({ cls := "BufferedCoresModel", name := "storeAddress", desc := "(II)I" } : Jvm.MethodName)) ∈ zT := zT.of (i := 743) (by decide +kernel) (by decide +kernel)
set_option maxRecDepth 100000 in
theorem w_744 : (Jvm.Cond.instanceMethod ({ cls := "BufferedCoresModel", name := "storeAddress", desc := "(II)I" } : Jvm.MethodName)) ∈ zT := zT.of (i := 744) (by decide +kernel) (by decide +kernel)
set_option maxRecDepth 100000 in
theorem w_745 : (Jvm.Cond.selects "BufferedCoresModel" ({ cls := "BufferedCoresModel", name := "storeAddress", desc := "(II)I" } : Jvm.MethodName) ({ cls := "BufferedCoresModel", name := "storeAddress", desc := "(II)I" } : Jvm.MethodName)) ∈ zT := zT.of (i := 745) (by decide +kernel) (by decide +kernel)
set_option maxRecDepth 100000 in
theorem w_746 : (Jvm.Cond.code ({ cls := "BufferedCoresModel", name := "storeAddress", desc := "(II)I" } : Jvm.MethodName) prog_9_method_25_code (3 : Nat) (Option.some Jvm.ClassFile.FieldType.int)) ∈ zT := zT.of (i := 746) (by decide +kernel) (by decide +kernel)
set_option maxRecDepth 100000 in
theorem w_747 : (Jvm.Cond.methodLink "BufferedCoresLaw" (127 : Nat) ({ cls := "BufferedCoresModel", name := "storeValue", desc := "(II)I" } : Jvm.MethodName)) ∈ zT := zT.of (i := 747) (by decide +kernel) (by decide +kernel)
set_option maxRecDepth 100000 in
theorem w_748 : (Jvm.Cond.instanceMethod ({ cls := "BufferedCoresModel", name := "storeValue", desc := "(II)I" } : Jvm.MethodName)) ∈ zT := zT.of (i := 748) (by decide +kernel) (by decide +kernel)
set_option maxRecDepth 100000 in
theorem w_749 : (Jvm.Cond.selects "BufferedCoresModel" ({ cls := "BufferedCoresModel", name := "storeValue", desc := "(II)I" } : Jvm.MethodName) ({ cls := "BufferedCoresModel", name := "storeValue", desc := "(II)I" } : Jvm.MethodName)) ∈ zT := zT.of (i := 749) (by decide +kernel) (by decide +kernel)
set_option maxRecDepth 100000 in
theorem w_750 : (Jvm.Cond.code ({ cls := "BufferedCoresModel", name := "storeValue", desc := "(II)I" } : Jvm.MethodName) prog_9_method_26_code (3 : Nat) (Option.some Jvm.ClassFile.FieldType.int)) ∈ zT := zT.of (i := 750) (by decide +kernel) (by decide +kernel)
set_option maxRecDepth 100000 in
theorem w_751 : (Jvm.Cond.methodLink "BufferedCoresLaw" (130 : Nat) ({ cls := "BufferedCoresModel", name := "line", desc := "(II)I" } : Jvm.MethodName)) ∈ zT := zT.of (i := 751) (by decide +kernel) (by decide +kernel)
set_option maxRecDepth 100000 in
theorem w_752 : (Jvm.Cond.instanceMethod ({ cls := "BufferedCoresModel", name := "line", desc := "(II)I" } : Jvm.MethodName)) ∈ zT := zT.of (i := 752) (by decide +kernel) (by decide +kernel)
set_option maxRecDepth 100000 in
theorem w_753 : (Jvm.Cond.selects "BufferedCoresModel" ({ cls := "BufferedCoresModel", name := "line", desc := "(II)I" } : Jvm.MethodName) ({ cls := "BufferedCoresModel", name := "line", desc := "(II)I" } : Jvm.MethodName)) ∈ zT := zT.of (i := 753) (by decide +kernel) (by decide +kernel)
set_option maxRecDepth 100000 in
theorem w_754 : (Jvm.Cond.code ({ cls := "BufferedCoresModel", name := "line", desc := "(II)I" } : Jvm.MethodName) prog_9_method_27_code (4 : Nat) (Option.some Jvm.ClassFile.FieldType.int)) ∈ zT := zT.of (i := 754) (by decide +kernel) (by decide +kernel)
set_option maxRecDepth 100000 in
theorem w_755 : (Jvm.Cond.methodLink "BufferedCoresLaw" (133 : Nat) ({ cls := "BufferedCoresModel", name := "cached", desc := "(II)I" } : Jvm.MethodName)) ∈ zT := zT.of (i := 755) (by decide +kernel) (by decide +kernel)
set_option maxRecDepth 100000 in
theorem w_756 : (Jvm.Cond.instanceMethod ({ cls := "BufferedCoresModel", name := "cached", desc := "(II)I" } : Jvm.MethodName)) ∈ zT := zT.of (i := 756) (by decide +kernel) (by decide +kernel)
set_option maxRecDepth 100000 in
theorem w_757 : (Jvm.Cond.selects "BufferedCoresModel" ({ cls := "BufferedCoresModel", name := "cached", desc := "(II)I" } : Jvm.MethodName) ({ cls := "BufferedCoresModel", name := "cached", desc := "(II)I" } : Jvm.MethodName)) ∈ zT := zT.of (i := 757) (by decide +kernel) (by decide +kernel)
set_option maxRecDepth 100000 in
theorem w_758 : (Jvm.Cond.code ({ cls := "BufferedCoresModel", name := "cached", desc := "(II)I" } : Jvm.MethodName) prog_9_method_28_code (3 : Nat) (Option.some Jvm.ClassFile.FieldType.int)) ∈ zT := zT.of (i := 758) (by decide +kernel) (by decide +kernel)
set_option maxRecDepth 100000 in
theorem w_759 : (Jvm.Cond.methodLink "BufferedCoresLaw" (136 : Nat) ({ cls := "BufferedCoresModel", name := "request", desc := "(I)I" } : Jvm.MethodName)) ∈ zT := zT.of (i := 759) (by decide +kernel) (by decide +kernel)
set_option maxRecDepth 100000 in
theorem w_760 : (Jvm.Cond.instanceMethod ({ cls := "BufferedCoresModel", name := "request", desc := "(I)I" } : Jvm.MethodName)) ∈ zT := zT.of (i := 760) (by decide +kernel) (by decide +kernel)
set_option maxRecDepth 100000 in
theorem w_761 : (Jvm.Cond.selects "BufferedCoresModel" ({ cls := "BufferedCoresModel", name := "request", desc := "(I)I" } : Jvm.MethodName) ({ cls := "BufferedCoresModel", name := "request", desc := "(I)I" } : Jvm.MethodName)) ∈ zT := zT.of (i := 761) (by decide +kernel) (by decide +kernel)
set_option maxRecDepth 100000 in
theorem w_762 : (Jvm.Cond.code ({ cls := "BufferedCoresModel", name := "request", desc := "(I)I" } : Jvm.MethodName) prog_9_method_29_code (2 : Nat) (Option.some Jvm.ClassFile.FieldType.int)) ∈ zT := zT.of (i := 762) (by decide +kernel) (by decide +kernel)
set_option maxRecDepth 100000 in
theorem w_763 : (Jvm.Cond.methodLink "BufferedCoresLaw" (139 : Nat) ({ cls := "BufferedCoresModel", name := "memory", desc := "(I)I" } : Jvm.MethodName)) ∈ zT := zT.of (i := 763) (by decide +kernel) (by decide +kernel)
set_option maxRecDepth 100000 in
theorem w_764 : (Jvm.Cond.instanceMethod ({ cls := "BufferedCoresModel", name := "memory", desc := "(I)I" } : Jvm.MethodName)) ∈ zT := zT.of (i := 764) (by decide +kernel) (by decide +kernel)
set_option maxRecDepth 100000 in
theorem w_765 : (Jvm.Cond.selects "BufferedCoresModel" ({ cls := "BufferedCoresModel", name := "memory", desc := "(I)I" } : Jvm.MethodName) ({ cls := "BufferedCoresModel", name := "memory", desc := "(I)I" } : Jvm.MethodName)) ∈ zT := zT.of (i := 765) (by decide +kernel) (by decide +kernel)
set_option maxRecDepth 100000 in
theorem w_766 : (Jvm.Cond.code ({ cls := "BufferedCoresModel", name := "memory", desc := "(I)I" } : Jvm.MethodName) prog_9_method_30_code (2 : Nat) (Option.some Jvm.ClassFile.FieldType.int)) ∈ zT := zT.of (i := 766) (by decide +kernel) (by decide +kernel)
set_option maxRecDepth 100000 in
theorem w_767 : (Jvm.Cond.methodLink "BufferedCoresLaw" (142 : Nat) ({ cls := "BufferedCoresModel", name := "word", desc := "(I)I" } : Jvm.MethodName)) ∈ zT := zT.of (i := 767) (by decide +kernel) (by decide +kernel)
set_option maxRecDepth 100000 in
theorem w_768 : (Jvm.Cond.instanceMethod ({ cls := "BufferedCoresModel", name := "word", desc := "(I)I" } : Jvm.MethodName)) ∈ zT := zT.of (i := 768) (by decide +kernel) (by decide +kernel)
set_option maxRecDepth 100000 in
theorem w_769 : (Jvm.Cond.selects "BufferedCoresModel" ({ cls := "BufferedCoresModel", name := "word", desc := "(I)I" } : Jvm.MethodName) ({ cls := "BufferedCoresModel", name := "word", desc := "(I)I" } : Jvm.MethodName)) ∈ zT := zT.of (i := 769) (by decide +kernel) (by decide +kernel)
set_option maxRecDepth 100000 in
theorem w_770 : (Jvm.Cond.code ({ cls := "BufferedCoresModel", name := "word", desc := "(I)I" } : Jvm.MethodName) prog_9_method_31_code (2 : Nat) (Option.some Jvm.ClassFile.FieldType.int)) ∈ zT := zT.of (i := 770) (by decide +kernel) (by decide +kernel)
set_option maxRecDepth 100000 in
theorem w_771 : (Jvm.Cond.methodLink "BufferedCoresLaw" (146 : Nat) ({ cls := "BufferedCoresModel", name := "events", desc := "()I" } : Jvm.MethodName)) ∈ zT := zT.of (i := 771) (by decide +kernel) (by decide +kernel)
set_option maxRecDepth 100000 in
theorem w_772 : (Jvm.Cond.instanceMethod ({ cls := "BufferedCoresModel", name := "events", desc := "()I" } : Jvm.MethodName)) ∈ zT := zT.of (i := 772) (by decide +kernel) (by decide +kernel)
set_option maxRecDepth 100000 in
theorem w_773 : (Jvm.Cond.selects "BufferedCoresModel" ({ cls := "BufferedCoresModel", name := "events", desc := "()I" } : Jvm.MethodName) ({ cls := "BufferedCoresModel", name := "events", desc := "()I" } : Jvm.MethodName)) ∈ zT := zT.of (i := 773) (by decide +kernel) (by decide +kernel)
set_option maxRecDepth 100000 in
theorem w_774 : (Jvm.Cond.code ({ cls := "BufferedCoresModel", name := "events", desc := "()I" } : Jvm.MethodName) prog_9_method_32_code (1 : Nat) (Option.some Jvm.ClassFile.FieldType.int)) ∈ zT := zT.of (i := 774) (by decide +kernel) (by decide +kernel)
set_option maxRecDepth 100000 in
theorem w_775 : (Jvm.Cond.methodLink "BufferedCoresLaw" (149 : Nat) ({ cls := "BufferedCoresModel", name := "event", desc := "(I)I" } : Jvm.MethodName)) ∈ zT := zT.of (i := 775) (by decide +kernel) (by decide +kernel)
set_option maxRecDepth 100000 in
theorem w_776 : (Jvm.Cond.instanceMethod ({ cls := "BufferedCoresModel", name := "event", desc := "(I)I" } : Jvm.MethodName)) ∈ zT := zT.of (i := 776) (by decide +kernel) (by decide +kernel)
set_option maxRecDepth 100000 in
theorem w_777 : (Jvm.Cond.selects "BufferedCoresModel" ({ cls := "BufferedCoresModel", name := "event", desc := "(I)I" } : Jvm.MethodName) ({ cls := "BufferedCoresModel", name := "event", desc := "(I)I" } : Jvm.MethodName)) ∈ zT := zT.of (i := 777) (by decide +kernel) (by decide +kernel)
set_option maxRecDepth 100000 in
theorem w_778 : (Jvm.Cond.code ({ cls := "BufferedCoresModel", name := "event", desc := "(I)I" } : Jvm.MethodName) prog_9_method_33_code (2 : Nat) (Option.some Jvm.ClassFile.FieldType.int)) ∈ zT := zT.of (i := 778) (by decide +kernel) (by decide +kernel)
set_option maxRecDepth 100000 in
theorem w_779 : (Jvm.Cond.methodLink "BufferedCoresLaw" (152 : Nat) ({ cls := "BufferedCoresModel", name := "eventValue", desc := "(I)I" } : Jvm.MethodName)) ∈ zT := zT.of (i := 779) (by decide +kernel) (by decide +kernel)
set_option maxRecDepth 100000 in
theorem w_780 : (Jvm.Cond.instanceMethod ({ cls := "BufferedCoresModel", name := "eventValue", desc := "(I)I" } : Jvm.MethodName)) ∈ zT := zT.of (i := 780) (by decide +kernel) (by decide +kernel)
set_option maxRecDepth 100000 in
theorem w_781 : (Jvm.Cond.selects "BufferedCoresModel" ({ cls := "BufferedCoresModel", name := "eventValue", desc := "(I)I" } : Jvm.MethodName) ({ cls := "BufferedCoresModel", name := "eventValue", desc := "(I)I" } : Jvm.MethodName)) ∈ zT := zT.of (i := 781) (by decide +kernel) (by decide +kernel)
set_option maxRecDepth 100000 in
theorem w_782 : (Jvm.Cond.code ({ cls := "BufferedCoresModel", name := "eventValue", desc := "(I)I" } : Jvm.MethodName) prog_9_method_34_code (2 : Nat) (Option.some Jvm.ClassFile.FieldType.int)) ∈ zT := zT.of (i := 782) (by decide +kernel) (by decide +kernel)
set_option maxRecDepth 100000 in
theorem w_783 : (Jvm.Cond.arrayClass Jvm.ClassFile.FieldType.long) ∈ zT := zT.of (i := 783) (by decide +kernel) (by decide +kernel)
set_option maxRecDepth 100000 in
theorem ws_0 : Cond.selects "BufferedCores" ⟨"BufferedCores", "coreAt", "(I)LBufferedCores$Core;"⟩ ⟨"BufferedCores", "coreAt", "(I)LBufferedCores$Core;"⟩ ∈ zT := zT.sel (i := 0) (by decide +kernel) (by decide +kernel)
set_option maxRecDepth 100000 in
theorem ws_2 : Cond.selects "BufferedCores" ⟨"BufferedCores", "isInUse", "(I)Z"⟩ ⟨"BufferedCores", "isInUse", "(I)Z"⟩ ∈ zT := zT.sel (i := 2) (by decide +kernel) (by decide +kernel)
set_option maxRecDepth 100000 in
theorem ws_3 : Cond.selects "BufferedCores" ⟨"BufferedCores", "execute", "(LBufferedCores$Core;III)I"⟩ ⟨"BufferedCores", "execute", "(LBufferedCores$Core;III)I"⟩ ∈ zT := zT.sel (i := 3) (by decide +kernel) (by decide +kernel)
set_option maxRecDepth 100000 in
theorem ws_4 : Cond.selects "BufferedCores" ⟨"BufferedCores", "executeLoad", "(LBufferedCores$Core;II)I"⟩ ⟨"BufferedCores", "executeLoad", "(LBufferedCores$Core;II)I"⟩ ∈ zT := zT.sel (i := 4) (by decide +kernel) (by decide +kernel)
set_option maxRecDepth 100000 in
theorem ws_5 : Cond.selects "BufferedCores" ⟨"BufferedCores", "executeSwap", "(LBufferedCores$Core;II)I"⟩ ⟨"BufferedCores", "executeSwap", "(LBufferedCores$Core;II)I"⟩ ∈ zT := zT.sel (i := 5) (by decide +kernel) (by decide +kernel)
set_option maxRecDepth 100000 in
theorem ws_6 : Cond.selects "BufferedCores" ⟨"BufferedCores", "isInFlightElsewhere", "(LBufferedCores$Core;I)Z"⟩ ⟨"BufferedCores", "isInFlightElsewhere", "(LBufferedCores$Core;I)Z"⟩ ∈ zT := zT.sel (i := 6) (by decide +kernel) (by decide +kernel)
set_option maxRecDepth 100000 in
theorem ws_7 : Cond.selects "BufferedCores" ⟨"BufferedCores", "makeRoom", "(LBufferedCores$Line;I)V"⟩ ⟨"BufferedCores", "makeRoom", "(LBufferedCores$Line;I)V"⟩ ∈ zT := zT.sel (i := 7) (by decide +kernel) (by decide +kernel)
set_option maxRecDepth 100000 in
theorem ws_8 : Cond.selects "BufferedCores" ⟨"BufferedCores", "writeBack", "(LBufferedCores$Line;)V"⟩ ⟨"BufferedCores", "writeBack", "(LBufferedCores$Line;)V"⟩ ∈ zT := zT.sel (i := 8) (by decide +kernel) (by decide +kernel)
set_option maxRecDepth 100000 in
theorem ws_9 : Cond.selects "BufferedCores" ⟨"BufferedCores", "wordAt", "(I)I"⟩ ⟨"BufferedCores", "wordAt", "(I)I"⟩ ∈ zT := zT.sel (i := 9) (by decide +kernel) (by decide +kernel)
set_option maxRecDepth 100000 in
theorem ws_10 : Cond.selects "BufferedCores" ⟨"BufferedCores", "giveWay", "(LBufferedCores$Line;II)V"⟩ ⟨"BufferedCores", "giveWay", "(LBufferedCores$Line;II)V"⟩ ∈ zT := zT.sel (i := 10) (by decide +kernel) (by decide +kernel)
set_option maxRecDepth 100000 in
theorem ws_11 : Cond.selects "BufferedCores" ⟨"BufferedCores", "isHeldElsewhere", "(LBufferedCores$Core;I)Z"⟩ ⟨"BufferedCores", "isHeldElsewhere", "(LBufferedCores$Core;I)Z"⟩ ∈ zT := zT.sel (i := 11) (by decide +kernel) (by decide +kernel)
set_option maxRecDepth 100000 in
theorem ws_12 : Cond.selects "BufferedCores" ⟨"BufferedCores", "requireEvent", "(I)V"⟩ ⟨"BufferedCores", "requireEvent", "(I)V"⟩ ∈ zT := zT.sel (i := 12) (by decide +kernel) (by decide +kernel)
set_option maxRecDepth 100000 in
theorem ws_13 : Cond.selects "BufferedCoresModel" ⟨"BufferedCoresModel", "core", "(I)Z"⟩ ⟨"BufferedCoresModel", "core", "(I)Z"⟩ ∈ zT := zT.sel (i := 13) (by decide +kernel) (by decide +kernel)
set_option maxRecDepth 100000 in
theorem ws_14 : Cond.selects "BufferedCoresModel" ⟨"BufferedCoresModel", "has", "(II)Z"⟩ ⟨"BufferedCoresModel", "has", "(II)Z"⟩ ∈ zT := zT.sel (i := 14) (by decide +kernel) (by decide +kernel)
set_option maxRecDepth 100000 in
theorem ws_15 : Cond.selects "BufferedCoresModel" ⟨"BufferedCoresModel", "lineOf", "(II)I"⟩ ⟨"BufferedCoresModel", "lineOf", "(II)I"⟩ ∈ zT := zT.sel (i := 15) (by decide +kernel) (by decide +kernel)
set_option maxRecDepth 100000 in
theorem ws_16 : Cond.selects "BufferedCoresModel" ⟨"BufferedCoresModel", "act", "(IIII)I"⟩ ⟨"BufferedCoresModel", "act", "(IIII)I"⟩ ∈ zT := zT.sel (i := 16) (by decide +kernel) (by decide +kernel)
set_option maxRecDepth 100000 in
theorem ws_17 : Cond.selects "BufferedCoresModel" ⟨"BufferedCoresModel", "load", "(III)I"⟩ ⟨"BufferedCoresModel", "load", "(III)I"⟩ ∈ zT := zT.sel (i := 17) (by decide +kernel) (by decide +kernel)
set_option maxRecDepth 100000 in
theorem ws_18 : Cond.selects "BufferedCoresModel" ⟨"BufferedCoresModel", "ask", "(IIZ)V"⟩ ⟨"BufferedCoresModel", "ask", "(IIZ)V"⟩ ∈ zT := zT.sel (i := 18) (by decide +kernel) (by decide +kernel)
set_option maxRecDepth 100000 in
theorem ws_19 : Cond.selects "BufferedCoresModel" ⟨"BufferedCoresModel", "note", "(IIII)V"⟩ ⟨"BufferedCoresModel", "note", "(IIII)V"⟩ ∈ zT := zT.sel (i := 19) (by decide +kernel) (by decide +kernel)
set_option maxRecDepth 100000 in
theorem ws_20 : Cond.selects "BufferedCoresModel" ⟨"BufferedCoresModel", "store", "(III)I"⟩ ⟨"BufferedCoresModel", "store", "(III)I"⟩ ∈ zT := zT.sel (i := 20) (by decide +kernel) (by decide +kernel)
set_option maxRecDepth 100000 in
theorem ws_21 : Cond.selects "BufferedCoresModel" ⟨"BufferedCoresModel", "swap", "(III)I"⟩ ⟨"BufferedCoresModel", "swap", "(III)I"⟩ ∈ zT := zT.sel (i := 21) (by decide +kernel) (by decide +kernel)
set_option maxRecDepth 100000 in
theorem ws_22 : Cond.selects "BufferedCoresModel" ⟨"BufferedCoresModel", "owns", "(II)Z"⟩ ⟨"BufferedCoresModel", "owns", "(II)Z"⟩ ∈ zT := zT.sel (i := 22) (by decide +kernel) (by decide +kernel)
set_option maxRecDepth 100000 in
theorem ws_23 : Cond.selects "BufferedCoresModel" ⟨"BufferedCoresModel", "writeBack", "(I)V"⟩ ⟨"BufferedCoresModel", "writeBack", "(I)V"⟩ ∈ zT := zT.sel (i := 23) (by decide +kernel) (by decide +kernel)
set_option maxRecDepth 100000 in
theorem ws_24 : Cond.selects "BufferedCoresModel" ⟨"BufferedCoresModel", "wordAt", "(I)I"⟩ ⟨"BufferedCoresModel", "wordAt", "(I)I"⟩ ∈ zT := zT.sel (i := 24) (by decide +kernel) (by decide +kernel)
set_option maxRecDepth 100000 in
theorem uws_B : ∀ w ∈ u_ws R_B T_B 3, w ∈ zT := fun w hw => zT.at ((by decide +kernel : ∀ w ∈ u_ws R_B T_B 3, w ∈ lw_tbl) w hw) ((by decide +kernel : ∀ w ∈ u_ws R_B T_B 3, goodWord w = true) w hw)
set_option maxRecDepth 100000 in
theorem uws_Co : ∀ w ∈ u_ws R_Co T_Co 7, w ∈ zT := fun w hw => zT.at ((by decide +kernel : ∀ w ∈ u_ws R_Co T_Co 7, w ∈ lw_tbl) w hw) ((by decide +kernel : ∀ w ∈ u_ws R_Co T_Co 7, goodWord w = true) w hw)
set_option maxRecDepth 100000 in
theorem uws_Lo : ∀ w ∈ u_ws R_Lo T_Lo 3, w ∈ zT := fun w hw => zT.at ((by decide +kernel : ∀ w ∈ u_ws R_Lo T_Lo 3, w ∈ lw_tbl) w hw) ((by decide +kernel : ∀ w ∈ u_ws R_Lo T_Lo 3, goodWord w = true) w hw)
set_option maxRecDepth 100000 in
theorem uws_Pr : ∀ w ∈ u_ws R_Pr T_Pr 4, w ∈ zT := fun w hw => zT.at ((by decide +kernel : ∀ w ∈ u_ws R_Pr T_Pr 4, w ∈ lw_tbl) w hw) ((by decide +kernel : ∀ w ∈ u_ws R_Pr T_Pr 4, goodWord w = true) w hw)
set_option maxRecDepth 100000 in
theorem uws_Rq : ∀ w ∈ u_ws R_Rq T_Rq 4, w ∈ zT := fun w hw => zT.at ((by decide +kernel : ∀ w ∈ u_ws R_Rq T_Rq 4, w ∈ lw_tbl) w hw) ((by decide +kernel : ∀ w ∈ u_ws R_Rq T_Rq 4, goodWord w = true) w hw)
set_option maxRecDepth 100000 in
theorem uws_Sb : ∀ w ∈ u_ws R_Sb T_Sb 3, w ∈ zT := fun w hw => zT.at ((by decide +kernel : ∀ w ∈ u_ws R_Sb T_Sb 3, w ∈ lw_tbl) w hw) ((by decide +kernel : ∀ w ∈ u_ws R_Sb T_Sb 3, goodWord w = true) w hw)
set_option maxRecDepth 100000 in
theorem uws_Li : ∀ w ∈ u_ws R_Li T_Li 3, w ∈ zT := fun w hw => zT.at ((by decide +kernel : ∀ w ∈ u_ws R_Li T_Li 3, w ∈ lw_tbl) w hw) ((by decide +kernel : ∀ w ∈ u_ws R_Li T_Li 3, goodWord w = true) w hw)
set_option maxRecDepth 100000 in
theorem uws_M : ∀ w ∈ u_ws R_M T_M 22, w ∈ zT := fun w hw => zT.at ((by decide +kernel : ∀ w ∈ u_ws R_M T_M 22, w ∈ lw_tbl) w hw) ((by decide +kernel : ∀ w ∈ u_ws R_M T_M 22, goodWord w = true) w hw)

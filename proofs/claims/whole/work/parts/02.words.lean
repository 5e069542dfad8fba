/-! the words of the tables, by their places: those that stay true whatever is resolved, and the others that are needed -/
def gtbl : List Cond := lw_tbl.filter goodWord
def nword : Cond → Bool
  | .castable .. => true
  | .methodLinkNest .. => true
  | .declares .. => true
  | _ => false
def ntbl : List Cond := lw_tbl.filter nword
set_option maxRecDepth 8000 in
theorem zw_0 : (Cond.initialized "LifeboatHouseLaw") ∈ gtbl := List.mem_filter.mpr ⟨List.mem_append_right _ (List.mem_append_left _ (List.mem_of_getElem? (l := tables_1_1) (i := 0) rfl)), rfl⟩
set_option maxRecDepth 8000 in
theorem zw_1 : (Cond.initialized "LifeboatHouse") ∈ gtbl := List.mem_filter.mpr ⟨List.mem_append_right _ (List.mem_append_left _ (List.mem_of_getElem? (l := tables_1_1) (i := 1) rfl)), rfl⟩
set_option maxRecDepth 8000 in
theorem zw_2 : (Cond.initialized "java/util/AbstractCollection") ∈ gtbl := List.mem_filter.mpr ⟨List.mem_append_right _ (List.mem_append_left _ (List.mem_of_getElem? (l := tables_1_1) (i := 2) rfl)), rfl⟩
set_option maxRecDepth 8000 in
theorem zw_3 : (Cond.initialized "java/util/AbstractList") ∈ gtbl := List.mem_filter.mpr ⟨List.mem_append_right _ (List.mem_append_left _ (List.mem_of_getElem? (l := tables_1_1) (i := 3) rfl)), rfl⟩
set_option maxRecDepth 8000 in
theorem zw_4 : (Cond.initialized "java/util/ArrayList") ∈ gtbl := List.mem_filter.mpr ⟨List.mem_append_right _ (List.mem_append_left _ (List.mem_of_getElem? (l := tables_1_1) (i := 4) rfl)), rfl⟩
set_option maxRecDepth 8000 in
theorem zw_5 : (Cond.initialized "LifeboatHouse$Tides") ∈ gtbl := List.mem_filter.mpr ⟨List.mem_append_right _ (List.mem_append_left _ (List.mem_of_getElem? (l := tables_1_1) (i := 5) rfl)), rfl⟩
set_option maxRecDepth 8000 in
theorem zw_6 : (Cond.initialized "java/util/Arrays") ∈ gtbl := List.mem_filter.mpr ⟨List.mem_append_right _ (List.mem_append_left _ (List.mem_of_getElem? (l := tables_1_1) (i := 6) rfl)), rfl⟩
set_option maxRecDepth 8000 in
theorem zw_7 : (Cond.initialized "LifeboatHouse$CrewRows") ∈ gtbl := List.mem_filter.mpr ⟨List.mem_append_right _ (List.mem_append_left _ (List.mem_of_getElem? (l := tables_1_1) (i := 7) rfl)), rfl⟩
set_option maxRecDepth 8000 in
theorem zw_8 : (Cond.initialized "LifeboatHouse$Pair") ∈ gtbl := List.mem_filter.mpr ⟨List.mem_append_right _ (List.mem_append_left _ (List.mem_of_getElem? (l := tables_1_1) (i := 8) rfl)), rfl⟩
set_option maxRecDepth 8000 in
theorem zw_9 : (Cond.initialized "LifeboatHouse$FlankPlan") ∈ gtbl := List.mem_filter.mpr ⟨List.mem_append_right _ (List.mem_append_left _ (List.mem_of_getElem? (l := tables_1_1) (i := 9) rfl)), rfl⟩
set_option maxRecDepth 8000 in
theorem zw_10 : (Cond.initialized "LifeboatHouse$Search") ∈ gtbl := List.mem_filter.mpr ⟨List.mem_append_right _ (List.mem_append_left _ (List.mem_of_getElem? (l := tables_1_1) (i := 10) rfl)), rfl⟩
set_option maxRecDepth 8000 in
theorem zw_11 : (Cond.initialized "LifeboatHouseModel") ∈ gtbl := List.mem_filter.mpr ⟨List.mem_append_right _ (List.mem_append_left _ (List.mem_of_getElem? (l := tables_1_1) (i := 11) rfl)), rfl⟩
set_option maxRecDepth 8000 in
theorem zw_12 : (Cond.initialized "LifeboatHouse$Person") ∈ gtbl := List.mem_filter.mpr ⟨List.mem_append_right _ (List.mem_append_left _ (List.mem_of_getElem? (l := tables_1_1) (i := 12) rfl)), rfl⟩
set_option maxRecDepth 8000 in
theorem zw_13 : (Cond.initialized "jdk/internal/util/ArraysSupport") ∈ gtbl := List.mem_filter.mpr ⟨List.mem_append_right _ (List.mem_append_left _ (List.mem_of_getElem? (l := tables_1_1) (i := 13) rfl)), rfl⟩
set_option maxRecDepth 8000 in
theorem zw_14 : (Cond.initialized "java/lang/Math") ∈ gtbl := List.mem_filter.mpr ⟨List.mem_append_right _ (List.mem_append_left _ (List.mem_of_getElem? (l := tables_1_1) (i := 14) rfl)), rfl⟩
set_option maxRecDepth 8000 in
theorem zw_15 : (Cond.initialized "java/lang/System") ∈ gtbl := List.mem_filter.mpr ⟨List.mem_append_right _ (List.mem_append_left _ (List.mem_of_getElem? (l := tables_1_1) (i := 15) rfl)), rfl⟩
set_option maxRecDepth 8000 in
theorem zw_16 : (Cond.initialized "java/util/Objects") ∈ gtbl := List.mem_filter.mpr ⟨List.mem_append_right _ (List.mem_append_left _ (List.mem_of_getElem? (l := tables_1_1) (i := 16) rfl)), rfl⟩
set_option maxRecDepth 8000 in
theorem zw_17 : (Cond.initialized "jdk/internal/util/Preconditions") ∈ gtbl := List.mem_filter.mpr ⟨List.mem_append_right _ (List.mem_append_left _ (List.mem_of_getElem? (l := tables_1_1) (i := 17) rfl)), rfl⟩
set_option maxRecDepth 8000 in
theorem zw_18 : (Cond.initialized "LifeboatHouse$Boat") ∈ gtbl := List.mem_filter.mpr ⟨List.mem_append_right _ (List.mem_append_left _ (List.mem_of_getElem? (l := tables_1_1) (i := 18) rfl)), rfl⟩
set_option maxRecDepth 8000 in
theorem zw_19 : (Cond.initialized "LifeboatHouse$Call") ∈ gtbl := List.mem_filter.mpr ⟨List.mem_append_right _ (List.mem_append_left _ (List.mem_of_getElem? (l := tables_1_1) (i := 19) rfl)), rfl⟩
set_option maxRecDepth 8000 in
theorem zw_20 : (Cond.initialized "LifeboatHouse$Launch") ∈ gtbl := List.mem_filter.mpr ⟨List.mem_append_right _ (List.mem_append_left _ (List.mem_of_getElem? (l := tables_1_1) (i := 20) rfl)), rfl⟩
set_option maxRecDepth 8000 in
theorem zw_21 : (Cond.classLink "LifeboatHouseLaw" (7 : Nat) "LifeboatHouse") ∈ gtbl := List.mem_filter.mpr ⟨List.mem_append_right _ (List.mem_append_left _ (List.mem_of_getElem? (l := tables_1_1) (i := 21) rfl)), rfl⟩
set_option maxRecDepth 8000 in
theorem zw_22 : (Cond.instantiable "LifeboatHouse" (15 : Nat)) ∈ gtbl := List.mem_filter.mpr ⟨List.mem_append_right _ (List.mem_append_left _ (List.mem_of_getElem? (l := tables_1_1) (i := 22) rfl)), rfl⟩
set_option maxRecDepth 8000 in
theorem zw_23 : (Cond.methodLink "LifeboatHouseLaw" (9 : Nat) ({ cls := "LifeboatHouse", name := "<init>", desc := "()V" } : MethodName)) ∈ gtbl := List.mem_filter.mpr ⟨List.mem_append_right _ (List.mem_append_left _ (List.mem_of_getElem? (l := tables_1_1) (i := 23) rfl)), rfl⟩
set_option maxRecDepth 8000 in
theorem zw_24 : (Cond.instanceMethod ({ cls := "LifeboatHouse", name := "<init>", desc := "()V" } : MethodName)) ∈ gtbl := List.mem_filter.mpr ⟨List.mem_append_right _ (List.mem_append_left _ (List.mem_of_getElem? (l := tables_1_1) (i := 24) rfl)), rfl⟩
set_option maxRecDepth 8000 in
theorem zw_25 : (Cond.code ({ cls := "LifeboatHouse", name := "<init>", desc := "()V" } : MethodName) prog_1_method_1_code (2 : Nat) (Option.none : Option FieldType)) ∈ gtbl := List.mem_filter.mpr ⟨List.mem_append_right _ (List.mem_append_left _ (List.mem_of_getElem? (l := tables_1_1) (i := 25) rfl)), rfl⟩
set_option maxRecDepth 8000 in
theorem zw_26 : (Cond.methodLink "LifeboatHouse" (1 : Nat) ({ cls := "java/lang/Object", name := "<init>", desc := "()V" } : MethodName)) ∈ gtbl := List.mem_filter.mpr ⟨List.mem_append_right _ (List.mem_append_left _ (List.mem_of_getElem? (l := tables_1_1) (i := 26) rfl)), rfl⟩
set_option maxRecDepth 8000 in
theorem zw_27 : (Cond.instanceMethod ({ cls := "java/lang/Object", name := "<init>", desc := "()V" } : MethodName)) ∈ gtbl := List.mem_filter.mpr ⟨List.mem_append_right _ (List.mem_append_left _ (List.mem_of_getElem? (l := tables_1_1) (i := 27) rfl)), rfl⟩
set_option maxRecDepth 8000 in
theorem zw_28 : (Cond.code ({ cls := "java/lang/Object", name := "<init>", desc := "()V" } : MethodName) object_method_1_code (1 : Nat) (Option.none : Option FieldType)) ∈ gtbl := List.mem_filter.mpr ⟨List.mem_append_right _ (List.mem_append_left _ (List.mem_of_getElem? (l := tables_1_1) (i := 28) rfl)), rfl⟩
set_option maxRecDepth 8000 in
theorem zw_29 : (Cond.classLink "LifeboatHouse" (16 : Nat) "java/util/ArrayList") ∈ gtbl := List.mem_filter.mpr ⟨List.mem_append_right _ (List.mem_append_left _ (List.mem_of_getElem? (l := tables_1_1) (i := 29) rfl)), rfl⟩
set_option maxRecDepth 8000 in
theorem zw_30 : (Cond.instantiable "java/util/ArrayList" (3 : Nat)) ∈ gtbl := List.mem_filter.mpr ⟨List.mem_append_right _ (List.mem_append_left _ (List.mem_of_getElem? (l := tables_1_1) (i := 30) rfl)), rfl⟩
set_option maxRecDepth 8000 in
theorem zw_31 : (Cond.methodLink "LifeboatHouse" (18 : Nat) ({ cls := "java/util/ArrayList", name := "<init>", desc := "()V" } : MethodName)) ∈ gtbl := List.mem_filter.mpr ⟨List.mem_append_right _ (List.mem_append_left _ (List.mem_of_getElem? (l := tables_1_1) (i := 31) rfl)), rfl⟩
set_option maxRecDepth 8000 in
theorem zw_32 : (Cond.instanceMethod ({ cls := "java/util/ArrayList", name := "<init>", desc := "()V" } : MethodName)) ∈ gtbl := List.mem_filter.mpr ⟨List.mem_append_right _ (List.mem_append_left _ (List.mem_of_getElem? (l := tables_1_1) (i := 32) rfl)), rfl⟩
set_option maxRecDepth 8000 in
theorem zw_33 : (Cond.code ({ cls := "java/util/ArrayList", name := "<init>", desc := "()V" } : MethodName) prog_20_method_2_code (1 : Nat) (Option.none : Option FieldType)) ∈ gtbl := List.mem_filter.mpr ⟨List.mem_append_right _ (List.mem_append_left _ (List.mem_of_getElem? (l := tables_1_1) (i := 33) rfl)), rfl⟩
set_option maxRecDepth 8000 in
theorem zw_34 : (Cond.methodLink "java/util/ArrayList" (1 : Nat) ({ cls := "java/util/AbstractList", name := "<init>", desc := "()V" } : MethodName)) ∈ gtbl := List.mem_filter.mpr ⟨List.mem_append_right _ (List.mem_append_left _ (List.mem_of_getElem? (l := tables_1_1) (i := 34) rfl)), rfl⟩
set_option maxRecDepth 8000 in
theorem zw_35 : (Cond.instanceMethod ({ cls := "java/util/AbstractList", name := "<init>", desc := "()V" } : MethodName)) ∈ gtbl := List.mem_filter.mpr ⟨List.mem_append_right _ (List.mem_append_left _ (List.mem_of_getElem? (l := tables_1_1) (i := 35) rfl)), rfl⟩
set_option maxRecDepth 8000 in
theorem zw_36 : (Cond.code ({ cls := "java/util/AbstractList", name := "<init>", desc := "()V" } : MethodName) prog_19_method_1_code (1 : Nat) (Option.none : Option FieldType)) ∈ gtbl := List.mem_filter.mpr ⟨List.mem_append_right _ (List.mem_append_left _ (List.mem_of_getElem? (l := tables_1_1) (i := 36) rfl)), rfl⟩
set_option maxRecDepth 8000 in
theorem zw_37 : (Cond.methodLink "java/util/AbstractList" (1 : Nat) ({ cls := "java/util/AbstractCollection", name := "<init>", desc := "()V" } : MethodName)) ∈ gtbl := List.mem_filter.mpr ⟨List.mem_append_right _ (List.mem_append_left _ (List.mem_of_getElem? (l := tables_1_1) (i := 37) rfl)), rfl⟩
set_option maxRecDepth 8000 in
theorem zw_38 : (Cond.instanceMethod ({ cls := "java/util/AbstractCollection", name := "<init>", desc := "()V" } : MethodName)) ∈ gtbl := List.mem_filter.mpr ⟨List.mem_append_right _ (List.mem_append_left _ (List.mem_of_getElem? (l := tables_1_1) (i := 38) rfl)), rfl⟩
set_option maxRecDepth 8000 in
theorem zw_39 : (Cond.code ({ cls := "java/util/AbstractCollection", name := "<init>", desc := "()V" } : MethodName) prog_18_method_1_code (1 : Nat) (Option.none : Option FieldType)) ∈ gtbl := List.mem_filter.mpr ⟨List.mem_append_right _ (List.mem_append_left _ (List.mem_of_getElem? (l := tables_1_1) (i := 39) rfl)), rfl⟩
set_option maxRecDepth 8000 in
theorem zw_40 : (Cond.methodLink "java/util/AbstractCollection" (1 : Nat) ({ cls := "java/lang/Object", name := "<init>", desc := "()V" } : MethodName)) ∈ gtbl := List.mem_filter.mpr ⟨List.mem_append_right _ (List.mem_append_left _ (List.mem_of_getElem? (l := tables_1_1) (i := 40) rfl)), rfl⟩
set_option maxRecDepth 8000 in
theorem zw_41 : (Cond.fieldLink "java/util/ArrayList" (39 : Nat) "java/util/ArrayList" "DEFAULTCAPACITY_EMPTY_ELEMENTDATA" "[Ljava/lang/Object;") ∈ gtbl := List.mem_filter.mpr ⟨List.mem_append_right _ (List.mem_append_left _ (List.mem_of_getElem? (l := tables_1_1) (i := 41) rfl)), rfl⟩
set_option maxRecDepth 8000 in
theorem zw_42 : (Cond.laysStatic "java/util/ArrayList" "DEFAULTCAPACITY_EMPTY_ELEMENTDATA" "[Ljava/lang/Object;") ∈ lw_tbl := List.mem_append_right _ (List.mem_append_left _ (List.mem_of_getElem? (l := tables_1_1) (i := 42) rfl))
set_option maxRecDepth 8000 in
theorem zw_43 : (Cond.fieldLink "java/util/ArrayList" (9 : Nat) "java/util/ArrayList" "elementData" "[Ljava/lang/Object;") ∈ gtbl := List.mem_filter.mpr ⟨List.mem_append_right _ (List.mem_append_left _ (List.mem_of_getElem? (l := tables_1_1) (i := 43) rfl)), rfl⟩
set_option maxRecDepth 8000 in
theorem zw_44 : (Cond.fieldLink "java/util/ArrayList" (48 : Nat) "java/util/ArrayList" "size" "I") ∈ gtbl := List.mem_filter.mpr ⟨List.mem_append_right _ (List.mem_append_left _ (List.mem_of_getElem? (l := tables_1_1) (i := 44) rfl)), rfl⟩
set_option maxRecDepth 8000 in
theorem zw_45 : (Cond.fieldLink "java/util/AbstractList" (7 : Nat) "java/util/AbstractList" "modCount" "I") ∈ gtbl := List.mem_filter.mpr ⟨List.mem_append_right _ (List.mem_append_left _ (List.mem_of_getElem? (l := tables_1_1) (i := 45) rfl)), rfl⟩
set_option maxRecDepth 8000 in
theorem zw_46 : (Cond.fieldLink "java/util/ArrayList" (63 : Nat) "java/util/ArrayList" "modCount" "I") ∈ gtbl := List.mem_filter.mpr ⟨List.mem_append_right _ (List.mem_append_left _ (List.mem_of_getElem? (l := tables_1_1) (i := 46) rfl)), rfl⟩
set_option maxRecDepth 8000 in
theorem zw_47 : (Cond.sameField "java/util/ArrayList" "java/util/AbstractList" "modCount" "I") ∈ gtbl := List.mem_filter.mpr ⟨List.mem_append_right _ (List.mem_append_left _ (List.mem_of_getElem? (l := tables_1_1) (i := 47) rfl)), rfl⟩
set_option maxRecDepth 8000 in
theorem zw_48 : (Cond.lays "java/util/ArrayList" "java/util/ArrayList" "elementData" "[Ljava/lang/Object;") ∈ gtbl := List.mem_filter.mpr ⟨List.mem_append_right _ (List.mem_append_left _ (List.mem_of_getElem? (l := tables_1_1) (i := 48) rfl)), rfl⟩
set_option maxRecDepth 8000 in
theorem zw_49 : (Cond.soleField "java/util/ArrayList" "elementData") ∈ gtbl := List.mem_filter.mpr ⟨List.mem_append_right _ (List.mem_append_left _ (List.mem_of_getElem? (l := tables_1_1) (i := 49) rfl)), rfl⟩
set_option maxRecDepth 8000 in
theorem zw_50 : (Cond.lays "java/util/ArrayList" "java/util/ArrayList" "size" "I") ∈ gtbl := List.mem_filter.mpr ⟨List.mem_append_right _ (List.mem_append_left _ (List.mem_of_getElem? (l := tables_1_1) (i := 50) rfl)), rfl⟩
set_option maxRecDepth 8000 in
theorem zw_51 : (Cond.soleField "java/util/ArrayList" "size") ∈ gtbl := List.mem_filter.mpr ⟨List.mem_append_right _ (List.mem_append_left _ (List.mem_of_getElem? (l := tables_1_1) (i := 51) rfl)), rfl⟩
set_option maxRecDepth 8000 in
theorem zw_52 : (Cond.lays "java/util/ArrayList" "java/util/AbstractList" "modCount" "I") ∈ gtbl := List.mem_filter.mpr ⟨List.mem_append_right _ (List.mem_append_left _ (List.mem_of_getElem? (l := tables_1_1) (i := 52) rfl)), rfl⟩
set_option maxRecDepth 8000 in
theorem zw_53 : (Cond.soleField "java/util/AbstractList" "modCount") ∈ gtbl := List.mem_filter.mpr ⟨List.mem_append_right _ (List.mem_append_left _ (List.mem_of_getElem? (l := tables_1_1) (i := 53) rfl)), rfl⟩
set_option maxRecDepth 8000 in
theorem zw_54 : (Cond.superclass "java/util/ArrayList" "java/util/AbstractList") ∈ gtbl := List.mem_filter.mpr ⟨List.mem_append_right _ (List.mem_append_left _ (List.mem_of_getElem? (l := tables_1_1) (i := 54) rfl)), rfl⟩
set_option maxRecDepth 8000 in
theorem zw_55 : (Cond.arrayClass FieldType.int) ∈ gtbl := List.mem_filter.mpr ⟨List.mem_append_right _ (List.mem_append_left _ (List.mem_of_getElem? (l := tables_1_1) (i := 55) rfl)), rfl⟩
set_option maxRecDepth 8000 in
theorem zw_56 : (Cond.classLink "LifeboatHouse" (32 : Nat) "LifeboatHouse$Tides") ∈ gtbl := List.mem_filter.mpr ⟨List.mem_append_right _ (List.mem_append_left _ (List.mem_of_getElem? (l := tables_1_1) (i := 56) rfl)), rfl⟩
set_option maxRecDepth 8000 in
theorem zw_57 : (Cond.instantiable "LifeboatHouse$Tides" (2 : Nat)) ∈ gtbl := List.mem_filter.mpr ⟨List.mem_append_right _ (List.mem_append_left _ (List.mem_of_getElem? (l := tables_1_1) (i := 57) rfl)), rfl⟩
set_option maxRecDepth 8000 in
theorem zw_58 : (Cond.methodLink "LifeboatHouse" (34 : Nat) ({ cls := "LifeboatHouse$Tides", name := "<init>", desc := "()V" } : MethodName)) ∈ gtbl := List.mem_filter.mpr ⟨List.mem_append_right _ (List.mem_append_left _ (List.mem_of_getElem? (l := tables_1_1) (i := 58) rfl)), rfl⟩
set_option maxRecDepth 8000 in
theorem zw_59 : (Cond.instanceMethod ({ cls := "LifeboatHouse$Tides", name := "<init>", desc := "()V" } : MethodName)) ∈ gtbl := List.mem_filter.mpr ⟨List.mem_append_right _ (List.mem_append_left _ (List.mem_of_getElem? (l := tables_1_1) (i := 59) rfl)), rfl⟩
set_option maxRecDepth 8000 in
theorem zw_60 : (Cond.code ({ cls := "LifeboatHouse$Tides", name := "<init>", desc := "()V" } : MethodName) prog_10_method_1_code (1 : Nat) (Option.none : Option FieldType)) ∈ gtbl := List.mem_filter.mpr ⟨List.mem_append_right _ (List.mem_append_left _ (List.mem_of_getElem? (l := tables_1_1) (i := 60) rfl)), rfl⟩
set_option maxRecDepth 8000 in
theorem zw_61 : (Cond.methodLink "LifeboatHouse$Tides" (1 : Nat) ({ cls := "java/lang/Object", name := "<init>", desc := "()V" } : MethodName)) ∈ gtbl := List.mem_filter.mpr ⟨List.mem_append_right _ (List.mem_append_left _ (List.mem_of_getElem? (l := tables_1_1) (i := 61) rfl)), rfl⟩
set_option maxRecDepth 8000 in
theorem zw_62 : (Cond.methodLink "LifeboatHouse$Tides" (17 : Nat) ({ cls := "java/util/Arrays", name := "fill", desc := "([II)V" } : MethodName)) ∈ gtbl := List.mem_filter.mpr ⟨List.mem_append_right _ (List.mem_append_left _ (List.mem_of_getElem? (l := tables_1_1) (i := 62) rfl)), rfl⟩
set_option maxRecDepth 8000 in
theorem zw_63 : (Cond.static ({ cls := "java/util/Arrays", name := "fill", desc := "([II)V" } : MethodName)) ∈ gtbl := List.mem_filter.mpr ⟨List.mem_append_right _ (List.mem_append_left _ (List.mem_of_getElem? (l := tables_1_1) (i := 63) rfl)), rfl⟩
set_option maxRecDepth 8000 in
theorem zw_64 : (Cond.code ({ cls := "java/util/Arrays", name := "fill", desc := "([II)V" } : MethodName) prog_21_method_103_code (4 : Nat) (Option.none : Option FieldType)) ∈ gtbl := List.mem_filter.mpr ⟨List.mem_append_right _ (List.mem_append_left _ (List.mem_of_getElem? (l := tables_1_1) (i := 64) rfl)), rfl⟩
set_option maxRecDepth 8000 in
theorem zw_65 : (Cond.fieldLink "LifeboatHouse$Tides" (9 : Nat) "LifeboatHouse$Tides" "high" "[I") ∈ gtbl := List.mem_filter.mpr ⟨List.mem_append_right _ (List.mem_append_left _ (List.mem_of_getElem? (l := tables_1_1) (i := 65) rfl)), rfl⟩
set_option maxRecDepth 8000 in
theorem zw_66 : (Cond.fieldLink "LifeboatHouse$Tides" (13 : Nat) "LifeboatHouse$Tides" "leastTold" "I") ∈ gtbl := List.mem_filter.mpr ⟨List.mem_append_right _ (List.mem_append_left _ (List.mem_of_getElem? (l := tables_1_1) (i := 66) rfl)), rfl⟩
set_option maxRecDepth 8000 in
theorem zw_67 : (Cond.laysFinal "LifeboatHouse$Tides" "LifeboatHouse$Tides" "high" "[I") ∈ gtbl := List.mem_filter.mpr ⟨List.mem_append_right _ (List.mem_append_left _ (List.mem_of_getElem? (l := tables_1_1) (i := 67) rfl)), rfl⟩
set_option maxRecDepth 8000 in
theorem zw_68 : (Cond.soleField "LifeboatHouse$Tides" "high") ∈ gtbl := List.mem_filter.mpr ⟨List.mem_append_right _ (List.mem_append_left _ (List.mem_of_getElem? (l := tables_1_1) (i := 68) rfl)), rfl⟩
set_option maxRecDepth 8000 in
theorem zw_69 : (Cond.lays "LifeboatHouse$Tides" "LifeboatHouse$Tides" "leastTold" "I") ∈ gtbl := List.mem_filter.mpr ⟨List.mem_append_right _ (List.mem_append_left _ (List.mem_of_getElem? (l := tables_1_1) (i := 69) rfl)), rfl⟩
set_option maxRecDepth 8000 in
theorem zw_70 : (Cond.soleField "LifeboatHouse$Tides" "leastTold") ∈ gtbl := List.mem_filter.mpr ⟨List.mem_append_right _ (List.mem_append_left _ (List.mem_of_getElem? (l := tables_1_1) (i := 70) rfl)), rfl⟩
set_option maxRecDepth 8000 in
theorem zw_71 : (Cond.superclass "LifeboatHouse$Tides" "java/lang/Object") ∈ gtbl := List.mem_filter.mpr ⟨List.mem_append_right _ (List.mem_append_left _ (List.mem_of_getElem? (l := tables_1_1) (i := 71) rfl)), rfl⟩
set_option maxRecDepth 8000 in
theorem zw_72 : (Cond.classLink "LifeboatHouse" (39 : Nat) "LifeboatHouse$CrewRows") ∈ gtbl := List.mem_filter.mpr ⟨List.mem_append_right _ (List.mem_append_left _ (List.mem_of_getElem? (l := tables_1_1) (i := 72) rfl)), rfl⟩
set_option maxRecDepth 8000 in
theorem zw_73 : (Cond.instantiable "LifeboatHouse$CrewRows" (2 : Nat)) ∈ gtbl := List.mem_filter.mpr ⟨List.mem_append_right _ (List.mem_append_left _ (List.mem_of_getElem? (l := tables_1_1) (i := 73) rfl)), rfl⟩
set_option maxRecDepth 8000 in
theorem zw_74 : (Cond.methodLinkNest "LifeboatHouse" (41 : Nat) ({ cls := "LifeboatHouse$CrewRows", name := "<init>", desc := "()V" } : MethodName) "LifeboatHouse") ∈ ntbl := List.mem_filter.mpr ⟨List.mem_append_right _ (List.mem_append_left _ (List.mem_of_getElem? (l := tables_1_1) (i := 74) rfl)), rfl⟩
set_option maxRecDepth 8000 in
theorem zw_75 : (Cond.instanceMethod ({ cls := "LifeboatHouse$CrewRows", name := "<init>", desc := "()V" } : MethodName)) ∈ gtbl := List.mem_filter.mpr ⟨List.mem_append_right _ (List.mem_append_left _ (List.mem_of_getElem? (l := tables_1_1) (i := 75) rfl)), rfl⟩
set_option maxRecDepth 8000 in
theorem zw_76 : (Cond.code ({ cls := "LifeboatHouse$CrewRows", name := "<init>", desc := "()V" } : MethodName) prog_4_method_1_code (1 : Nat) (Option.none : Option FieldType)) ∈ gtbl := List.mem_filter.mpr ⟨List.mem_append_right _ (List.mem_append_left _ (List.mem_of_getElem? (l := tables_1_1) (i := 76) rfl)), rfl⟩
set_option maxRecDepth 8000 in
theorem zw_77 : (Cond.methodLink "LifeboatHouse$CrewRows" (3 : Nat) ({ cls := "java/lang/Object", name := "<init>", desc := "()V" } : MethodName)) ∈ gtbl := List.mem_filter.mpr ⟨List.mem_append_right _ (List.mem_append_left _ (List.mem_of_getElem? (l := tables_1_1) (i := 77) rfl)), rfl⟩
set_option maxRecDepth 8000 in
theorem zw_78 : (Cond.fieldLink "LifeboatHouse$CrewRows" (11 : Nat) "LifeboatHouse$CrewRows" "parts" "[I") ∈ gtbl := List.mem_filter.mpr ⟨List.mem_append_right _ (List.mem_append_left _ (List.mem_of_getElem? (l := tables_1_1) (i := 78) rfl)), rfl⟩
set_option maxRecDepth 8000 in
theorem zw_79 : (Cond.fieldLink "LifeboatHouse$CrewRows" (15 : Nat) "LifeboatHouse$CrewRows" "top" "I") ∈ gtbl := List.mem_filter.mpr ⟨List.mem_append_right _ (List.mem_append_left _ (List.mem_of_getElem? (l := tables_1_1) (i := 79) rfl)), rfl⟩
set_option maxRecDepth 8000 in
theorem zw_80 : (Cond.laysFinal "LifeboatHouse$CrewRows" "LifeboatHouse$CrewRows" "parts" "[I") ∈ gtbl := List.mem_filter.mpr ⟨List.mem_append_right _ (List.mem_append_left _ (List.mem_of_getElem? (l := tables_1_1) (i := 80) rfl)), rfl⟩
set_option maxRecDepth 8000 in
theorem zw_81 : (Cond.soleField "LifeboatHouse$CrewRows" "parts") ∈ gtbl := List.mem_filter.mpr ⟨List.mem_append_right _ (List.mem_append_left _ (List.mem_of_getElem? (l := tables_1_1) (i := 81) rfl)), rfl⟩
set_option maxRecDepth 8000 in
theorem zw_82 : (Cond.lays "LifeboatHouse$CrewRows" "LifeboatHouse$CrewRows" "top" "I") ∈ gtbl := List.mem_filter.mpr ⟨List.mem_append_right _ (List.mem_append_left _ (List.mem_of_getElem? (l := tables_1_1) (i := 82) rfl)), rfl⟩
set_option maxRecDepth 8000 in
theorem zw_83 : (Cond.soleField "LifeboatHouse$CrewRows" "top") ∈ gtbl := List.mem_filter.mpr ⟨List.mem_append_right _ (List.mem_append_left _ (List.mem_of_getElem? (l := tables_1_1) (i := 83) rfl)), rfl⟩
set_option maxRecDepth 8000 in
theorem zw_84 : (Cond.superclass "LifeboatHouse$CrewRows" "java/lang/Object") ∈ gtbl := List.mem_filter.mpr ⟨List.mem_append_right _ (List.mem_append_left _ (List.mem_of_getElem? (l := tables_1_1) (i := 84) rfl)), rfl⟩
set_option maxRecDepth 8000 in
theorem zw_85 : (Cond.classLink "LifeboatHouse" (46 : Nat) "LifeboatHouse$Pair") ∈ gtbl := List.mem_filter.mpr ⟨List.mem_append_right _ (List.mem_append_left _ (List.mem_of_getElem? (l := tables_1_1) (i := 85) rfl)), rfl⟩
set_option maxRecDepth 8000 in
theorem zw_86 : (Cond.instantiable "LifeboatHouse$Pair" (4 : Nat)) ∈ gtbl := List.mem_filter.mpr ⟨List.mem_append_right _ (List.mem_append_left _ (List.mem_of_getElem? (l := tables_1_1) (i := 86) rfl)), rfl⟩
set_option maxRecDepth 8000 in
theorem zw_87 : (Cond.methodLinkNest "LifeboatHouse" (48 : Nat) ({ cls := "LifeboatHouse$Pair", name := "<init>", desc := "()V" } : MethodName) "LifeboatHouse") ∈ ntbl := List.mem_filter.mpr ⟨List.mem_append_right _ (List.mem_append_left _ (List.mem_of_getElem? (l := tables_1_1) (i := 87) rfl)), rfl⟩
set_option maxRecDepth 8000 in
theorem zw_88 : (Cond.instanceMethod ({ cls := "LifeboatHouse$Pair", name := "<init>", desc := "()V" } : MethodName)) ∈ gtbl := List.mem_filter.mpr ⟨List.mem_append_right _ (List.mem_append_left _ (List.mem_of_getElem? (l := tables_1_1) (i := 88) rfl)), rfl⟩
set_option maxRecDepth 8000 in
theorem zw_89 : (Cond.code ({ cls := "LifeboatHouse$Pair", name := "<init>", desc := "()V" } : MethodName) prog_7_method_1_code (1 : Nat) (Option.none : Option FieldType)) ∈ gtbl := List.mem_filter.mpr ⟨List.mem_append_right _ (List.mem_append_left _ (List.mem_of_getElem? (l := tables_1_1) (i := 89) rfl)), rfl⟩
set_option maxRecDepth 8000 in
theorem zw_90 : (Cond.methodLink "LifeboatHouse$Pair" (3 : Nat) ({ cls := "java/lang/Object", name := "<init>", desc := "()V" } : MethodName)) ∈ gtbl := List.mem_filter.mpr ⟨List.mem_append_right _ (List.mem_append_left _ (List.mem_of_getElem? (l := tables_1_1) (i := 90) rfl)), rfl⟩
set_option maxRecDepth 8000 in
theorem zw_91 : (Cond.fieldLink "LifeboatHouse$Pair" (9 : Nat) "LifeboatHouse$Pair" "later" "I") ∈ gtbl := List.mem_filter.mpr ⟨List.mem_append_right _ (List.mem_append_left _ (List.mem_of_getElem? (l := tables_1_1) (i := 91) rfl)), rfl⟩
set_option maxRecDepth 8000 in
theorem zw_92 : (Cond.fieldLink "LifeboatHouse" (203 : Nat) "LifeboatHouse$Pair" "later" "I") ∈ gtbl := List.mem_filter.mpr ⟨List.mem_append_right _ (List.mem_append_left _ (List.mem_of_getElem? (l := tables_1_1) (i := 92) rfl)), rfl⟩
set_option maxRecDepth 8000 in
theorem zw_93 : (Cond.fieldLink "LifeboatHouse$Pair" (15 : Nat) "LifeboatHouse$Pair" "oneBoat" "I") ∈ gtbl := List.mem_filter.mpr ⟨List.mem_append_right _ (List.mem_append_left _ (List.mem_of_getElem? (l := tables_1_1) (i := 93) rfl)), rfl⟩
set_option maxRecDepth 8000 in
theorem zw_94 : (Cond.fieldLink "LifeboatHouse" (206 : Nat) "LifeboatHouse$Pair" "oneBoat" "I") ∈ gtbl := List.mem_filter.mpr ⟨List.mem_append_right _ (List.mem_append_left _ (List.mem_of_getElem? (l := tables_1_1) (i := 94) rfl)), rfl⟩
set_option maxRecDepth 8000 in
theorem zw_95 : (Cond.fieldLink "LifeboatHouse$Pair" (18 : Nat) "LifeboatHouse$Pair" "otherBoat" "I") ∈ gtbl := List.mem_filter.mpr ⟨List.mem_append_right _ (List.mem_append_left _ (List.mem_of_getElem? (l := tables_1_1) (i := 95) rfl)), rfl⟩
set_option maxRecDepth 8000 in
theorem zw_96 : (Cond.fieldLink "LifeboatHouse" (209 : Nat) "LifeboatHouse$Pair" "otherBoat" "I") ∈ gtbl := List.mem_filter.mpr ⟨List.mem_append_right _ (List.mem_append_left _ (List.mem_of_getElem? (l := tables_1_1) (i := 96) rfl)), rfl⟩
set_option maxRecDepth 8000 in
theorem zw_97 : (Cond.fieldLink "LifeboatHouse$Pair" (21 : Nat) "LifeboatHouse$Pair" "together" "I") ∈ gtbl := List.mem_filter.mpr ⟨List.mem_append_right _ (List.mem_append_left _ (List.mem_of_getElem? (l := tables_1_1) (i := 97) rfl)), rfl⟩
set_option maxRecDepth 8000 in
theorem zw_98 : (Cond.lays "LifeboatHouse$Pair" "LifeboatHouse$Pair" "later" "I") ∈ gtbl := List.mem_filter.mpr ⟨List.mem_append_right _ (List.mem_append_left _ (List.mem_of_getElem? (l := tables_1_1) (i := 98) rfl)), rfl⟩
set_option maxRecDepth 8000 in
theorem zw_99 : (Cond.soleField "LifeboatHouse$Pair" "later") ∈ gtbl := List.mem_filter.mpr ⟨List.mem_append_right _ (List.mem_append_left _ (List.mem_of_getElem? (l := tables_1_1) (i := 99) rfl)), rfl⟩
set_option maxRecDepth 8000 in
theorem zw_100 : (Cond.lays "LifeboatHouse$Pair" "LifeboatHouse$Pair" "oneBoat" "I") ∈ gtbl := List.mem_filter.mpr ⟨List.mem_append_right _ (List.mem_append_left _ (List.mem_of_getElem? (l := tables_1_1) (i := 100) rfl)), rfl⟩
set_option maxRecDepth 8000 in
theorem zw_101 : (Cond.soleField "LifeboatHouse$Pair" "oneBoat") ∈ gtbl := List.mem_filter.mpr ⟨List.mem_append_right _ (List.mem_append_left _ (List.mem_of_getElem? (l := tables_1_1) (i := 101) rfl)), rfl⟩
set_option maxRecDepth 8000 in
theorem zw_102 : (Cond.lays "LifeboatHouse$Pair" "LifeboatHouse$Pair" "otherBoat" "I") ∈ gtbl := List.mem_filter.mpr ⟨List.mem_append_right _ (List.mem_append_left _ (List.mem_of_getElem? (l := tables_1_1) (i := 102) rfl)), rfl⟩
set_option maxRecDepth 8000 in
theorem zw_103 : (Cond.soleField "LifeboatHouse$Pair" "otherBoat") ∈ gtbl := List.mem_filter.mpr ⟨List.mem_append_right _ (List.mem_append_left _ (List.mem_of_getElem? (l := tables_1_1) (i := 103) rfl)), rfl⟩
set_option maxRecDepth 8000 in
theorem zw_104 : (Cond.lays "LifeboatHouse$Pair" "LifeboatHouse$Pair" "together" "I") ∈ gtbl := List.mem_filter.mpr ⟨List.mem_append_right _ (List.mem_append_left _ (List.mem_of_getElem? (l := tables_1_1) (i := 104) rfl)), rfl⟩
set_option maxRecDepth 8000 in
theorem zw_105 : (Cond.soleField "LifeboatHouse$Pair" "together") ∈ gtbl := List.mem_filter.mpr ⟨List.mem_append_right _ (List.mem_append_left _ (List.mem_of_getElem? (l := tables_1_1) (i := 105) rfl)), rfl⟩
set_option maxRecDepth 8000 in
theorem zw_106 : (Cond.superclass "LifeboatHouse$Pair" "java/lang/Object") ∈ gtbl := List.mem_filter.mpr ⟨List.mem_append_right _ (List.mem_append_left _ (List.mem_of_getElem? (l := tables_1_1) (i := 106) rfl)), rfl⟩
set_option maxRecDepth 8000 in
theorem zw_107 : (Cond.classLink "LifeboatHouse" (53 : Nat) "LifeboatHouse$FlankPlan") ∈ gtbl := List.mem_filter.mpr ⟨List.mem_append_right _ (List.mem_append_left _ (List.mem_of_getElem? (l := tables_1_1) (i := 107) rfl)), rfl⟩
set_option maxRecDepth 8000 in
theorem zw_108 : (Cond.instantiable "LifeboatHouse$FlankPlan" (7 : Nat)) ∈ gtbl := List.mem_filter.mpr ⟨List.mem_append_right _ (List.mem_append_left _ (List.mem_of_getElem? (l := tables_1_1) (i := 108) rfl)), rfl⟩
set_option maxRecDepth 8000 in
theorem zw_109 : (Cond.methodLinkNest "LifeboatHouse" (55 : Nat) ({ cls := "LifeboatHouse$FlankPlan", name := "<init>", desc := "()V" } : MethodName) "LifeboatHouse") ∈ ntbl := List.mem_filter.mpr ⟨List.mem_append_right _ (List.mem_append_left _ (List.mem_of_getElem? (l := tables_1_1) (i := 109) rfl)), rfl⟩
set_option maxRecDepth 8000 in
theorem zw_110 : (Cond.instanceMethod ({ cls := "LifeboatHouse$FlankPlan", name := "<init>", desc := "()V" } : MethodName)) ∈ gtbl := List.mem_filter.mpr ⟨List.mem_append_right _ (List.mem_append_left _ (List.mem_of_getElem? (l := tables_1_1) (i := 110) rfl)), rfl⟩
set_option maxRecDepth 8000 in
theorem zw_111 : (Cond.code ({ cls := "LifeboatHouse$FlankPlan", name := "<init>", desc := "()V" } : MethodName) prog_5_method_1_code (1 : Nat) (Option.none : Option FieldType)) ∈ gtbl := List.mem_filter.mpr ⟨List.mem_append_right _ (List.mem_append_left _ (List.mem_of_getElem? (l := tables_1_1) (i := 111) rfl)), rfl⟩
set_option maxRecDepth 8000 in
theorem zw_112 : (Cond.methodLink "LifeboatHouse$FlankPlan" (3 : Nat) ({ cls := "java/lang/Object", name := "<init>", desc := "()V" } : MethodName)) ∈ gtbl := List.mem_filter.mpr ⟨List.mem_append_right _ (List.mem_append_left _ (List.mem_of_getElem? (l := tables_1_1) (i := 112) rfl)), rfl⟩
set_option maxRecDepth 8000 in
theorem zw_113 : (Cond.fieldLink "LifeboatHouse$FlankPlan" (9 : Nat) "LifeboatHouse$FlankPlan" "bestFrom" "[I") ∈ gtbl := List.mem_filter.mpr ⟨List.mem_append_right _ (List.mem_append_left _ (List.mem_of_getElem? (l := tables_1_1) (i := 113) rfl)), rfl⟩
set_option maxRecDepth 8000 in
theorem zw_114 : (Cond.fieldLink "LifeboatHouse" (265 : Nat) "LifeboatHouse$FlankPlan" "bestFrom" "[I") ∈ gtbl := List.mem_filter.mpr ⟨List.mem_append_right _ (List.mem_append_left _ (List.mem_of_getElem? (l := tables_1_1) (i := 114) rfl)), rfl⟩
set_option maxRecDepth 8000 in
theorem zw_115 : (Cond.fieldLink "LifeboatHouse$FlankPlan" (15 : Nat) "LifeboatHouse$FlankPlan" "bestHelped" "I") ∈ gtbl := List.mem_filter.mpr ⟨List.mem_append_right _ (List.mem_append_left _ (List.mem_of_getElem? (l := tables_1_1) (i := 115) rfl)), rfl⟩
set_option maxRecDepth 8000 in
theorem zw_116 : (Cond.fieldLink "LifeboatHouse" (259 : Nat) "LifeboatHouse$FlankPlan" "bestHelped" "I") ∈ gtbl := List.mem_filter.mpr ⟨List.mem_append_right _ (List.mem_append_left _ (List.mem_of_getElem? (l := tables_1_1) (i := 116) rfl)), rfl⟩
set_option maxRecDepth 8000 in
theorem zw_117 : (Cond.fieldLink "LifeboatHouse$FlankPlan" (19 : Nat) "LifeboatHouse$FlankPlan" "bestMiles" "I") ∈ gtbl := List.mem_filter.mpr ⟨List.mem_append_right _ (List.mem_append_left _ (List.mem_of_getElem? (l := tables_1_1) (i := 117) rfl)), rfl⟩
set_option maxRecDepth 8000 in
theorem zw_118 : (Cond.fieldLink "LifeboatHouse" (262 : Nat) "LifeboatHouse$FlankPlan" "bestMiles" "I") ∈ gtbl := List.mem_filter.mpr ⟨List.mem_append_right _ (List.mem_append_left _ (List.mem_of_getElem? (l := tables_1_1) (i := 118) rfl)), rfl⟩
set_option maxRecDepth 8000 in
theorem zw_119 : (Cond.fieldLink "LifeboatHouse$FlankPlan" (22 : Nat) "LifeboatHouse$FlankPlan" "miles" "[I") ∈ gtbl := List.mem_filter.mpr ⟨List.mem_append_right _ (List.mem_append_left _ (List.mem_of_getElem? (l := tables_1_1) (i := 119) rfl)), rfl⟩
set_option maxRecDepth 8000 in
theorem zw_120 : (Cond.fieldLink "LifeboatHouse$FlankPlan" (25 : Nat) "LifeboatHouse$FlankPlan" "spare" "[I") ∈ gtbl := List.mem_filter.mpr ⟨List.mem_append_right _ (List.mem_append_left _ (List.mem_of_getElem? (l := tables_1_1) (i := 120) rfl)), rfl⟩
set_option maxRecDepth 8000 in
theorem zw_121 : (Cond.fieldLink "LifeboatHouse$FlankPlan" (28 : Nat) "LifeboatHouse$FlankPlan" "bare" "[Z") ∈ gtbl := List.mem_filter.mpr ⟨List.mem_append_right _ (List.mem_append_left _ (List.mem_of_getElem? (l := tables_1_1) (i := 121) rfl)), rfl⟩
set_option maxRecDepth 8000 in
theorem zw_122 : (Cond.fieldLink "LifeboatHouse$FlankPlan" (32 : Nat) "LifeboatHouse$FlankPlan" "from" "[I") ∈ gtbl := List.mem_filter.mpr ⟨List.mem_append_right _ (List.mem_append_left _ (List.mem_of_getElem? (l := tables_1_1) (i := 122) rfl)), rfl⟩
set_option maxRecDepth 8000 in
theorem zw_123 : (Cond.laysFinal "LifeboatHouse$FlankPlan" "LifeboatHouse$FlankPlan" "bestFrom" "[I") ∈ gtbl := List.mem_filter.mpr ⟨List.mem_append_right _ (List.mem_append_left _ (List.mem_of_getElem? (l := tables_1_1) (i := 123) rfl)), rfl⟩
set_option maxRecDepth 8000 in
theorem zw_124 : (Cond.soleField "LifeboatHouse$FlankPlan" "bestFrom") ∈ gtbl := List.mem_filter.mpr ⟨List.mem_append_right _ (List.mem_append_left _ (List.mem_of_getElem? (l := tables_1_1) (i := 124) rfl)), rfl⟩
set_option maxRecDepth 8000 in
theorem zw_125 : (Cond.lays "LifeboatHouse$FlankPlan" "LifeboatHouse$FlankPlan" "bestHelped" "I") ∈ gtbl := List.mem_filter.mpr ⟨List.mem_append_right _ (List.mem_append_left _ (List.mem_of_getElem? (l := tables_1_1) (i := 125) rfl)), rfl⟩
set_option maxRecDepth 8000 in
theorem zw_126 : (Cond.soleField "LifeboatHouse$FlankPlan" "bestHelped") ∈ gtbl := List.mem_filter.mpr ⟨List.mem_append_right _ (List.mem_append_left _ (List.mem_of_getElem? (l := tables_1_1) (i := 126) rfl)), rfl⟩
set_option maxRecDepth 8000 in
theorem zw_127 : (Cond.lays "LifeboatHouse$FlankPlan" "LifeboatHouse$FlankPlan" "bestMiles" "I") ∈ gtbl := List.mem_filter.mpr ⟨List.mem_append_right _ (List.mem_append_left _ (List.mem_of_getElem? (l := tables_1_1) (i := 127) rfl)), rfl⟩
set_option maxRecDepth 8000 in
theorem zw_128 : (Cond.soleField "LifeboatHouse$FlankPlan" "bestMiles") ∈ gtbl := List.mem_filter.mpr ⟨List.mem_append_right _ (List.mem_append_left _ (List.mem_of_getElem? (l := tables_1_1) (i := 128) rfl)), rfl⟩
set_option maxRecDepth 8000 in
theorem zw_129 : (Cond.laysFinal "LifeboatHouse$FlankPlan" "LifeboatHouse$FlankPlan" "miles" "[I") ∈ gtbl := List.mem_filter.mpr ⟨List.mem_append_right _ (List.mem_append_left _ (List.mem_of_getElem? (l := tables_1_1) (i := 129) rfl)), rfl⟩
set_option maxRecDepth 8000 in
theorem zw_130 : (Cond.soleField "LifeboatHouse$FlankPlan" "miles") ∈ gtbl := List.mem_filter.mpr ⟨List.mem_append_right _ (List.mem_append_left _ (List.mem_of_getElem? (l := tables_1_1) (i := 130) rfl)), rfl⟩
set_option maxRecDepth 8000 in
theorem zw_131 : (Cond.laysFinal "LifeboatHouse$FlankPlan" "LifeboatHouse$FlankPlan" "spare" "[I") ∈ gtbl := List.mem_filter.mpr ⟨List.mem_append_right _ (List.mem_append_left _ (List.mem_of_getElem? (l := tables_1_1) (i := 131) rfl)), rfl⟩
set_option maxRecDepth 8000 in
theorem zw_132 : (Cond.soleField "LifeboatHouse$FlankPlan" "spare") ∈ gtbl := List.mem_filter.mpr ⟨List.mem_append_right _ (List.mem_append_left _ (List.mem_of_getElem? (l := tables_1_1) (i := 132) rfl)), rfl⟩
set_option maxRecDepth 8000 in
theorem zw_133 : (Cond.laysFinal "LifeboatHouse$FlankPlan" "LifeboatHouse$FlankPlan" "bare" "[Z") ∈ gtbl := List.mem_filter.mpr ⟨List.mem_append_right _ (List.mem_append_left _ (List.mem_of_getElem? (l := tables_1_1) (i := 133) rfl)), rfl⟩
set_option maxRecDepth 8000 in
theorem zw_134 : (Cond.soleField "LifeboatHouse$FlankPlan" "bare") ∈ gtbl := List.mem_filter.mpr ⟨List.mem_append_right _ (List.mem_append_left _ (List.mem_of_getElem? (l := tables_1_1) (i := 134) rfl)), rfl⟩
set_option maxRecDepth 8000 in
theorem zw_135 : (Cond.laysFinal "LifeboatHouse$FlankPlan" "LifeboatHouse$FlankPlan" "from" "[I") ∈ gtbl := List.mem_filter.mpr ⟨List.mem_append_right _ (List.mem_append_left _ (List.mem_of_getElem? (l := tables_1_1) (i := 135) rfl)), rfl⟩
set_option maxRecDepth 8000 in
theorem zw_136 : (Cond.soleField "LifeboatHouse$FlankPlan" "from") ∈ gtbl := List.mem_filter.mpr ⟨List.mem_append_right _ (List.mem_append_left _ (List.mem_of_getElem? (l := tables_1_1) (i := 136) rfl)), rfl⟩
set_option maxRecDepth 8000 in
theorem zw_137 : (Cond.superclass "LifeboatHouse$FlankPlan" "java/lang/Object") ∈ gtbl := List.mem_filter.mpr ⟨List.mem_append_right _ (List.mem_append_left _ (List.mem_of_getElem? (l := tables_1_1) (i := 137) rfl)), rfl⟩
set_option maxRecDepth 8000 in
theorem zw_138 : (Cond.arrayClass FieldType.boolean) ∈ gtbl := List.mem_filter.mpr ⟨List.mem_append_right _ (List.mem_append_left _ (List.mem_of_getElem? (l := tables_1_1) (i := 138) rfl)), rfl⟩
set_option maxRecDepth 8000 in
theorem zw_139 : (Cond.classLink "LifeboatHouse" (60 : Nat) "LifeboatHouse$Search") ∈ gtbl := List.mem_filter.mpr ⟨List.mem_append_right _ (List.mem_append_left _ (List.mem_of_getElem? (l := tables_1_1) (i := 139) rfl)), rfl⟩
set_option maxRecDepth 8000 in
theorem zw_140 : (Cond.instantiable "LifeboatHouse$Search" (4 : Nat)) ∈ gtbl := List.mem_filter.mpr ⟨List.mem_append_right _ (List.mem_append_left _ (List.mem_of_getElem? (l := tables_1_1) (i := 140) rfl)), rfl⟩
set_option maxRecDepth 8000 in
theorem zw_141 : (Cond.methodLinkNest "LifeboatHouse" (62 : Nat) ({ cls := "LifeboatHouse$Search", name := "<init>", desc := "()V" } : MethodName) "LifeboatHouse") ∈ ntbl := List.mem_filter.mpr ⟨List.mem_append_right _ (List.mem_append_left _ (List.mem_of_getElem? (l := tables_1_1) (i := 141) rfl)), rfl⟩
set_option maxRecDepth 8000 in
theorem zw_142 : (Cond.instanceMethod ({ cls := "LifeboatHouse$Search", name := "<init>", desc := "()V" } : MethodName)) ∈ gtbl := List.mem_filter.mpr ⟨List.mem_append_right _ (List.mem_append_left _ (List.mem_of_getElem? (l := tables_1_1) (i := 142) rfl)), rfl⟩
set_option maxRecDepth 8000 in
theorem zw_143 : (Cond.code ({ cls := "LifeboatHouse$Search", name := "<init>", desc := "()V" } : MethodName) prog_9_method_1_code (1 : Nat) (Option.none : Option FieldType)) ∈ gtbl := List.mem_filter.mpr ⟨List.mem_append_right _ (List.mem_append_left _ (List.mem_of_getElem? (l := tables_1_1) (i := 143) rfl)), rfl⟩
set_option maxRecDepth 8000 in
theorem zw_144 : (Cond.methodLink "LifeboatHouse$Search" (3 : Nat) ({ cls := "java/lang/Object", name := "<init>", desc := "()V" } : MethodName)) ∈ gtbl := List.mem_filter.mpr ⟨List.mem_append_right _ (List.mem_append_left _ (List.mem_of_getElem? (l := tables_1_1) (i := 144) rfl)), rfl⟩
set_option maxRecDepth 8000 in
theorem zw_145 : (Cond.fieldLink "LifeboatHouse$Search" (9 : Nat) "LifeboatHouse$Search" "worth" "[I") ∈ gtbl := List.mem_filter.mpr ⟨List.mem_append_right _ (List.mem_append_left _ (List.mem_of_getElem? (l := tables_1_1) (i := 145) rfl)), rfl⟩
set_option maxRecDepth 8000 in
theorem zw_146 : (Cond.fieldLink "LifeboatHouse" (277 : Nat) "LifeboatHouse$Search" "worth" "[I") ∈ gtbl := List.mem_filter.mpr ⟨List.mem_append_right _ (List.mem_append_left _ (List.mem_of_getElem? (l := tables_1_1) (i := 146) rfl)), rfl⟩
set_option maxRecDepth 8000 in
theorem zw_147 : (Cond.fieldLink "LifeboatHouse$Search" (15 : Nat) "LifeboatHouse$Search" "looked" "[I") ∈ gtbl := List.mem_filter.mpr ⟨List.mem_append_right _ (List.mem_append_left _ (List.mem_of_getElem? (l := tables_1_1) (i := 147) rfl)), rfl⟩
set_option maxRecDepth 8000 in
theorem zw_148 : (Cond.fieldLink "LifeboatHouse" (292 : Nat) "LifeboatHouse$Search" "looked" "[I") ∈ gtbl := List.mem_filter.mpr ⟨List.mem_append_right _ (List.mem_append_left _ (List.mem_of_getElem? (l := tables_1_1) (i := 148) rfl)), rfl⟩
set_option maxRecDepth 8000 in
theorem zw_149 : (Cond.fieldLink "LifeboatHouse$Search" (18 : Nat) "LifeboatHouse$Search" "found" "I") ∈ gtbl := List.mem_filter.mpr ⟨List.mem_append_right _ (List.mem_append_left _ (List.mem_of_getElem? (l := tables_1_1) (i := 149) rfl)), rfl⟩
set_option maxRecDepth 8000 in
theorem zw_150 : (Cond.fieldLink "LifeboatHouse" (289 : Nat) "LifeboatHouse$Search" "found" "I") ∈ gtbl := List.mem_filter.mpr ⟨List.mem_append_right _ (List.mem_append_left _ (List.mem_of_getElem? (l := tables_1_1) (i := 150) rfl)), rfl⟩
set_option maxRecDepth 8000 in
theorem zw_151 : (Cond.fieldLink "LifeboatHouse$Search" (22 : Nat) "LifeboatHouse$Search" "left" "[I") ∈ gtbl := List.mem_filter.mpr ⟨List.mem_append_right _ (List.mem_append_left _ (List.mem_of_getElem? (l := tables_1_1) (i := 151) rfl)), rfl⟩
set_option maxRecDepth 8000 in
theorem zw_152 : (Cond.laysFinal "LifeboatHouse$Search" "LifeboatHouse$Search" "worth" "[I") ∈ gtbl := List.mem_filter.mpr ⟨List.mem_append_right _ (List.mem_append_left _ (List.mem_of_getElem? (l := tables_1_1) (i := 152) rfl)), rfl⟩
set_option maxRecDepth 8000 in
theorem zw_153 : (Cond.soleField "LifeboatHouse$Search" "worth") ∈ gtbl := List.mem_filter.mpr ⟨List.mem_append_right _ (List.mem_append_left _ (List.mem_of_getElem? (l := tables_1_1) (i := 153) rfl)), rfl⟩
set_option maxRecDepth 8000 in
theorem zw_154 : (Cond.laysFinal "LifeboatHouse$Search" "LifeboatHouse$Search" "looked" "[I") ∈ gtbl := List.mem_filter.mpr ⟨List.mem_append_right _ (List.mem_append_left _ (List.mem_of_getElem? (l := tables_1_1) (i := 154) rfl)), rfl⟩
set_option maxRecDepth 8000 in
theorem zw_155 : (Cond.soleField "LifeboatHouse$Search" "looked") ∈ gtbl := List.mem_filter.mpr ⟨List.mem_append_right _ (List.mem_append_left _ (List.mem_of_getElem? (l := tables_1_1) (i := 155) rfl)), rfl⟩
set_option maxRecDepth 8000 in
theorem zw_156 : (Cond.lays "LifeboatHouse$Search" "LifeboatHouse$Search" "found" "I") ∈ gtbl := List.mem_filter.mpr ⟨List.mem_append_right _ (List.mem_append_left _ (List.mem_of_getElem? (l := tables_1_1) (i := 156) rfl)), rfl⟩
set_option maxRecDepth 8000 in
theorem zw_157 : (Cond.soleField "LifeboatHouse$Search" "found") ∈ gtbl := List.mem_filter.mpr ⟨List.mem_append_right _ (List.mem_append_left _ (List.mem_of_getElem? (l := tables_1_1) (i := 157) rfl)), rfl⟩
set_option maxRecDepth 8000 in
theorem zw_158 : (Cond.laysFinal "LifeboatHouse$Search" "LifeboatHouse$Search" "left" "[I") ∈ gtbl := List.mem_filter.mpr ⟨List.mem_append_right _ (List.mem_append_left _ (List.mem_of_getElem? (l := tables_1_1) (i := 158) rfl)), rfl⟩
set_option maxRecDepth 8000 in
theorem zw_159 : (Cond.soleField "LifeboatHouse$Search" "left") ∈ gtbl := List.mem_filter.mpr ⟨List.mem_append_right _ (List.mem_append_left _ (List.mem_of_getElem? (l := tables_1_1) (i := 159) rfl)), rfl⟩
set_option maxRecDepth 8000 in
theorem zw_160 : (Cond.superclass "LifeboatHouse$Search" "java/lang/Object") ∈ gtbl := List.mem_filter.mpr ⟨List.mem_append_right _ (List.mem_append_left _ (List.mem_of_getElem? (l := tables_1_1) (i := 160) rfl)), rfl⟩
set_option maxRecDepth 8000 in
theorem zw_161 : (Cond.fieldLink "LifeboatHouse" (9 : Nat) "LifeboatHouse" "miles" "[I") ∈ gtbl := List.mem_filter.mpr ⟨List.mem_append_right _ (List.mem_append_left _ (List.mem_of_getElem? (l := tables_1_1) (i := 161) rfl)), rfl⟩
set_option maxRecDepth 8000 in
theorem zw_162 : (Cond.fieldLink "LifeboatHouse" (13 : Nat) "LifeboatHouse" "needs" "[I") ∈ gtbl := List.mem_filter.mpr ⟨List.mem_append_right _ (List.mem_append_left _ (List.mem_of_getElem? (l := tables_1_1) (i := 162) rfl)), rfl⟩
set_option maxRecDepth 8000 in
theorem zw_163 : (Cond.fieldLink "LifeboatHouse" (19 : Nat) "LifeboatHouse" "people" "Ljava/util/ArrayList;") ∈ gtbl := List.mem_filter.mpr ⟨List.mem_append_right _ (List.mem_append_left _ (List.mem_of_getElem? (l := tables_1_1) (i := 163) rfl)), rfl⟩
set_option maxRecDepth 8000 in
theorem zw_164 : (Cond.fieldLink "LifeboatHouse" (23 : Nat) "LifeboatHouse" "boats" "Ljava/util/ArrayList;") ∈ gtbl := List.mem_filter.mpr ⟨List.mem_append_right _ (List.mem_append_left _ (List.mem_of_getElem? (l := tables_1_1) (i := 164) rfl)), rfl⟩
set_option maxRecDepth 8000 in
theorem zw_165 : (Cond.fieldLink "LifeboatHouse" (26 : Nat) "LifeboatHouse" "calls" "Ljava/util/ArrayList;") ∈ gtbl := List.mem_filter.mpr ⟨List.mem_append_right _ (List.mem_append_left _ (List.mem_of_getElem? (l := tables_1_1) (i := 165) rfl)), rfl⟩
set_option maxRecDepth 8000 in
theorem zw_166 : (Cond.fieldLink "LifeboatHouse" (29 : Nat) "LifeboatHouse" "launches" "Ljava/util/ArrayList;") ∈ gtbl := List.mem_filter.mpr ⟨List.mem_append_right _ (List.mem_append_left _ (List.mem_of_getElem? (l := tables_1_1) (i := 166) rfl)), rfl⟩
set_option maxRecDepth 8000 in
theorem zw_167 : (Cond.fieldLink "LifeboatHouse" (35 : Nat) "LifeboatHouse" "tides" "LLifeboatHouse$Tides;") ∈ gtbl := List.mem_filter.mpr ⟨List.mem_append_right _ (List.mem_append_left _ (List.mem_of_getElem? (l := tables_1_1) (i := 167) rfl)), rfl⟩
set_option maxRecDepth 8000 in
theorem zw_168 : (Cond.fieldLink "LifeboatHouse" (42 : Nat) "LifeboatHouse" "crewRows" "LLifeboatHouse$CrewRows;") ∈ gtbl := List.mem_filter.mpr ⟨List.mem_append_right _ (List.mem_append_left _ (List.mem_of_getElem? (l := tables_1_1) (i := 168) rfl)), rfl⟩
set_option maxRecDepth 8000 in
theorem zw_169 : (Cond.fieldLink "LifeboatHouse" (49 : Nat) "LifeboatHouse" "pair" "LLifeboatHouse$Pair;") ∈ gtbl := List.mem_filter.mpr ⟨List.mem_append_right _ (List.mem_append_left _ (List.mem_of_getElem? (l := tables_1_1) (i := 169) rfl)), rfl⟩
set_option maxRecDepth 8000 in
theorem zw_170 : (Cond.fieldLink "LifeboatHouse" (56 : Nat) "LifeboatHouse" "flankPlan" "LLifeboatHouse$FlankPlan;") ∈ gtbl := List.mem_filter.mpr ⟨List.mem_append_right _ (List.mem_append_left _ (List.mem_of_getElem? (l := tables_1_1) (i := 170) rfl)), rfl⟩
set_option maxRecDepth 8000 in
theorem zw_171 : (Cond.fieldLink "LifeboatHouse" (63 : Nat) "LifeboatHouse" "search" "LLifeboatHouse$Search;") ∈ gtbl := List.mem_filter.mpr ⟨List.mem_append_right _ (List.mem_append_left _ (List.mem_of_getElem? (l := tables_1_1) (i := 171) rfl)), rfl⟩
set_option maxRecDepth 8000 in
theorem zw_172 : (Cond.fieldLink "LifeboatHouse" (67 : Nat) "LifeboatHouse" "refused" "[I") ∈ gtbl := List.mem_filter.mpr ⟨List.mem_append_right _ (List.mem_append_left _ (List.mem_of_getElem? (l := tables_1_1) (i := 172) rfl)), rfl⟩
set_option maxRecDepth 8000 in
theorem zw_173 : (Cond.fieldLink "LifeboatHouse" (70 : Nat) "LifeboatHouse" "minute" "I") ∈ gtbl := List.mem_filter.mpr ⟨List.mem_append_right _ (List.mem_append_left _ (List.mem_of_getElem? (l := tables_1_1) (i := 173) rfl)), rfl⟩
set_option maxRecDepth 8000 in
theorem zw_174 : (Cond.fieldLink "LifeboatHouse" (74 : Nat) "LifeboatHouse" "size" "I") ∈ gtbl := List.mem_filter.mpr ⟨List.mem_append_right _ (List.mem_append_left _ (List.mem_of_getElem? (l := tables_1_1) (i := 174) rfl)), rfl⟩
set_option maxRecDepth 8000 in
theorem zw_175 : (Cond.fieldLink "LifeboatHouse" (77 : Nat) "LifeboatHouse" "gather" "I") ∈ gtbl := List.mem_filter.mpr ⟨List.mem_append_right _ (List.mem_append_left _ (List.mem_of_getElem? (l := tables_1_1) (i := 175) rfl)), rfl⟩
set_option maxRecDepth 8000 in
theorem zw_176 : (Cond.laysFinal "LifeboatHouse" "LifeboatHouse" "miles" "[I") ∈ gtbl := List.mem_filter.mpr ⟨List.mem_append_right _ (List.mem_append_left _ (List.mem_of_getElem? (l := tables_1_1) (i := 176) rfl)), rfl⟩
set_option maxRecDepth 8000 in
theorem zw_177 : (Cond.soleField "LifeboatHouse" "miles") ∈ gtbl := List.mem_filter.mpr ⟨List.mem_append_right _ (List.mem_append_left _ (List.mem_of_getElem? (l := tables_1_1) (i := 177) rfl)), rfl⟩
set_option maxRecDepth 8000 in
theorem zw_178 : (Cond.laysFinal "LifeboatHouse" "LifeboatHouse" "needs" "[I") ∈ gtbl := List.mem_filter.mpr ⟨List.mem_append_right _ (List.mem_append_left _ (List.mem_of_getElem? (l := tables_1_1) (i := 178) rfl)), rfl⟩
set_option maxRecDepth 8000 in
theorem zw_179 : (Cond.soleField "LifeboatHouse" "needs") ∈ gtbl := List.mem_filter.mpr ⟨List.mem_append_right _ (List.mem_append_left _ (List.mem_of_getElem? (l := tables_1_1) (i := 179) rfl)), rfl⟩
set_option maxRecDepth 8000 in
theorem zw_180 : (Cond.laysFinal "LifeboatHouse" "LifeboatHouse" "people" "Ljava/util/ArrayList;") ∈ gtbl := List.mem_filter.mpr ⟨List.mem_append_right _ (List.mem_append_left _ (List.mem_of_getElem? (l := tables_1_1) (i := 180) rfl)), rfl⟩
set_option maxRecDepth 8000 in
theorem zw_181 : (Cond.soleField "LifeboatHouse" "people") ∈ gtbl := List.mem_filter.mpr ⟨List.mem_append_right _ (List.mem_append_left _ (List.mem_of_getElem? (l := tables_1_1) (i := 181) rfl)), rfl⟩
set_option maxRecDepth 8000 in
theorem zw_182 : (Cond.laysFinal "LifeboatHouse" "LifeboatHouse" "boats" "Ljava/util/ArrayList;") ∈ gtbl := List.mem_filter.mpr ⟨List.mem_append_right _ (List.mem_append_left _ (List.mem_of_getElem? (l := tables_1_1) (i := 182) rfl)), rfl⟩
set_option maxRecDepth 8000 in
theorem zw_183 : (Cond.soleField "LifeboatHouse" "boats") ∈ gtbl := List.mem_filter.mpr ⟨List.mem_append_right _ (List.mem_append_left _ (List.mem_of_getElem? (l := tables_1_1) (i := 183) rfl)), rfl⟩
set_option maxRecDepth 8000 in
theorem zw_184 : (Cond.laysFinal "LifeboatHouse" "LifeboatHouse" "calls" "Ljava/util/ArrayList;") ∈ gtbl := List.mem_filter.mpr ⟨List.mem_append_right _ (List.mem_append_left _ (List.mem_of_getElem? (l := tables_1_1) (i := 184) rfl)), rfl⟩
set_option maxRecDepth 8000 in
theorem zw_185 : (Cond.soleField "LifeboatHouse" "calls") ∈ gtbl := List.mem_filter.mpr ⟨List.mem_append_right _ (List.mem_append_left _ (List.mem_of_getElem? (l := tables_1_1) (i := 185) rfl)), rfl⟩
set_option maxRecDepth 8000 in
theorem zw_186 : (Cond.laysFinal "LifeboatHouse" "LifeboatHouse" "launches" "Ljava/util/ArrayList;") ∈ gtbl := List.mem_filter.mpr ⟨List.mem_append_right _ (List.mem_append_left _ (List.mem_of_getElem? (l := tables_1_1) (i := 186) rfl)), rfl⟩
set_option maxRecDepth 8000 in
theorem zw_187 : (Cond.soleField "LifeboatHouse" "launches") ∈ gtbl := List.mem_filter.mpr ⟨List.mem_append_right _ (List.mem_append_left _ (List.mem_of_getElem? (l := tables_1_1) (i := 187) rfl)), rfl⟩
set_option maxRecDepth 8000 in
theorem zw_188 : (Cond.laysFinal "LifeboatHouse" "LifeboatHouse" "tides" "LLifeboatHouse$Tides;") ∈ gtbl := List.mem_filter.mpr ⟨List.mem_append_right _ (List.mem_append_left _ (List.mem_of_getElem? (l := tables_1_1) (i := 188) rfl)), rfl⟩
set_option maxRecDepth 8000 in
theorem zw_189 : (Cond.soleField "LifeboatHouse" "tides") ∈ gtbl := List.mem_filter.mpr ⟨List.mem_append_right _ (List.mem_append_left _ (List.mem_of_getElem? (l := tables_1_1) (i := 189) rfl)), rfl⟩
set_option maxRecDepth 8000 in
theorem zw_190 : (Cond.laysFinal "LifeboatHouse" "LifeboatHouse" "crewRows" "LLifeboatHouse$CrewRows;") ∈ gtbl := List.mem_filter.mpr ⟨List.mem_append_right _ (List.mem_append_left _ (List.mem_of_getElem? (l := tables_1_1) (i := 190) rfl)), rfl⟩
set_option maxRecDepth 8000 in
theorem zw_191 : (Cond.soleField "LifeboatHouse" "crewRows") ∈ gtbl := List.mem_filter.mpr ⟨List.mem_append_right _ (List.mem_append_left _ (List.mem_of_getElem? (l := tables_1_1) (i := 191) rfl)), rfl⟩
set_option maxRecDepth 8000 in
theorem zw_192 : (Cond.laysFinal "LifeboatHouse" "LifeboatHouse" "pair" "LLifeboatHouse$Pair;") ∈ gtbl := List.mem_filter.mpr ⟨List.mem_append_right _ (List.mem_append_left _ (List.mem_of_getElem? (l := tables_1_1) (i := 192) rfl)), rfl⟩
set_option maxRecDepth 8000 in
theorem zw_193 : (Cond.soleField "LifeboatHouse" "pair") ∈ gtbl := List.mem_filter.mpr ⟨List.mem_append_right _ (List.mem_append_left _ (List.mem_of_getElem? (l := tables_1_1) (i := 193) rfl)), rfl⟩
set_option maxRecDepth 8000 in
theorem zw_194 : (Cond.laysFinal "LifeboatHouse" "LifeboatHouse" "flankPlan" "LLifeboatHouse$FlankPlan;") ∈ gtbl := List.mem_filter.mpr ⟨List.mem_append_right _ (List.mem_append_left _ (List.mem_of_getElem? (l := tables_1_1) (i := 194) rfl)), rfl⟩
set_option maxRecDepth 8000 in
theorem zw_195 : (Cond.soleField "LifeboatHouse" "flankPlan") ∈ gtbl := List.mem_filter.mpr ⟨List.mem_append_right _ (List.mem_append_left _ (List.mem_of_getElem? (l := tables_1_1) (i := 195) rfl)), rfl⟩
set_option maxRecDepth 8000 in
theorem zw_196 : (Cond.laysFinal "LifeboatHouse" "LifeboatHouse" "search" "LLifeboatHouse$Search;") ∈ gtbl := List.mem_filter.mpr ⟨List.mem_append_right _ (List.mem_append_left _ (List.mem_of_getElem? (l := tables_1_1) (i := 196) rfl)), rfl⟩
set_option maxRecDepth 8000 in
theorem zw_197 : (Cond.soleField "LifeboatHouse" "search") ∈ gtbl := List.mem_filter.mpr ⟨List.mem_append_right _ (List.mem_append_left _ (List.mem_of_getElem? (l := tables_1_1) (i := 197) rfl)), rfl⟩
set_option maxRecDepth 8000 in
theorem zw_198 : (Cond.laysFinal "LifeboatHouse" "LifeboatHouse" "refused" "[I") ∈ gtbl := List.mem_filter.mpr ⟨List.mem_append_right _ (List.mem_append_left _ (List.mem_of_getElem? (l := tables_1_1) (i := 198) rfl)), rfl⟩
set_option maxRecDepth 8000 in
theorem zw_199 : (Cond.soleField "LifeboatHouse" "refused") ∈ gtbl := List.mem_filter.mpr ⟨List.mem_append_right _ (List.mem_append_left _ (List.mem_of_getElem? (l := tables_1_1) (i := 199) rfl)), rfl⟩
set_option maxRecDepth 8000 in
theorem zw_200 : (Cond.lays "LifeboatHouse" "LifeboatHouse" "minute" "I") ∈ gtbl := List.mem_filter.mpr ⟨List.mem_append_right _ (List.mem_append_left _ (List.mem_of_getElem? (l := tables_1_1) (i := 200) rfl)), rfl⟩
set_option maxRecDepth 8000 in
theorem zw_201 : (Cond.soleField "LifeboatHouse" "minute") ∈ gtbl := List.mem_filter.mpr ⟨List.mem_append_right _ (List.mem_append_left _ (List.mem_of_getElem? (l := tables_1_1) (i := 201) rfl)), rfl⟩
set_option maxRecDepth 8000 in
theorem zw_202 : (Cond.lays "LifeboatHouse" "LifeboatHouse" "size" "I") ∈ gtbl := List.mem_filter.mpr ⟨List.mem_append_right _ (List.mem_append_left _ (List.mem_of_getElem? (l := tables_1_1) (i := 202) rfl)), rfl⟩
set_option maxRecDepth 8000 in
theorem zw_203 : (Cond.soleField "LifeboatHouse" "size") ∈ gtbl := List.mem_filter.mpr ⟨List.mem_append_right _ (List.mem_append_left _ (List.mem_of_getElem? (l := tables_1_1) (i := 203) rfl)), rfl⟩
set_option maxRecDepth 8000 in
theorem zw_204 : (Cond.lays "LifeboatHouse" "LifeboatHouse" "gather" "I") ∈ gtbl := List.mem_filter.mpr ⟨List.mem_append_right _ (List.mem_append_left _ (List.mem_of_getElem? (l := tables_1_1) (i := 204) rfl)), rfl⟩
set_option maxRecDepth 8000 in
theorem zw_205 : (Cond.soleField "LifeboatHouse" "gather") ∈ gtbl := List.mem_filter.mpr ⟨List.mem_append_right _ (List.mem_append_left _ (List.mem_of_getElem? (l := tables_1_1) (i := 205) rfl)), rfl⟩
set_option maxRecDepth 8000 in
theorem zw_206 : (Cond.superclass "LifeboatHouse" "java/lang/Object") ∈ gtbl := List.mem_filter.mpr ⟨List.mem_append_right _ (List.mem_append_left _ (List.mem_of_getElem? (l := tables_1_1) (i := 206) rfl)), rfl⟩
set_option maxRecDepth 8000 in
theorem zw_207 : (Cond.methodLink "LifeboatHouseLaw" (13 : Nat) ({ cls := "LifeboatHouse", name := "station", desc := "(III)I" } : MethodName)) ∈ gtbl := List.mem_filter.mpr ⟨List.mem_append_right _ (List.mem_append_left _ (List.mem_of_getElem? (l := tables_1_1) (i := 207) rfl)), rfl⟩
set_option maxRecDepth 8000 in
theorem zw_208 : (Cond.instanceMethod ({ cls := "LifeboatHouse", name := "station", desc := "(III)I" } : MethodName)) ∈ gtbl := List.mem_filter.mpr ⟨List.mem_append_right _ (List.mem_append_left _ (List.mem_of_getElem? (l := tables_1_1) (i := 208) rfl)), rfl⟩
set_option maxRecDepth 8000 in
theorem zw_209 : (Cond.selects "LifeboatHouse" ({ cls := "LifeboatHouse", name := "station", desc := "(III)I" } : MethodName) ({ cls := "LifeboatHouse", name := "station", desc := "(III)I" } : MethodName)) ∈ gtbl := List.mem_filter.mpr ⟨List.mem_append_right _ (List.mem_append_left _ (List.mem_of_getElem? (l := tables_1_1) (i := 209) rfl)), rfl⟩
set_option maxRecDepth 8000 in
theorem zw_210 : (Cond.code ({ cls := "LifeboatHouse", name := "station", desc := "(III)I" } : MethodName) prog_1_method_2_code (7 : Nat) (Option.some FieldType.int)) ∈ gtbl := List.mem_filter.mpr ⟨List.mem_append_right _ (List.mem_append_left _ (List.mem_of_getElem? (l := tables_1_1) (i := 210) rfl)), rfl⟩
set_option maxRecDepth 8000 in
theorem zw_211 : (Cond.methodLink "LifeboatHouse" (80 : Nat) ({ cls := "LifeboatHouse", name := "isStation", desc := "(I)Z" } : MethodName)) ∈ gtbl := List.mem_filter.mpr ⟨List.mem_append_right _ (List.mem_append_left _ (List.mem_of_getElem? (l := tables_1_1) (i := 211) rfl)), rfl⟩
set_option maxRecDepth 8000 in
theorem zw_212 : (Cond.static ({ cls := "LifeboatHouse", name := "isStation", desc := "(I)Z" } : MethodName)) ∈ gtbl := List.mem_filter.mpr ⟨List.mem_append_right _ (List.mem_append_left _ (List.mem_of_getElem? (l := tables_1_1) (i := 212) rfl)), rfl⟩
set_option maxRecDepth 8000 in
theorem zw_213 : (Cond.code ({ cls := "LifeboatHouse", name := "isStation", desc := "(I)Z" } : MethodName) prog_1_method_49_code (1 : Nat) (Option.some FieldType.boolean)) ∈ gtbl := List.mem_filter.mpr ⟨List.mem_append_right _ (List.mem_append_left _ (List.mem_of_getElem? (l := tables_1_1) (i := 213) rfl)), rfl⟩
set_option maxRecDepth 8000 in
theorem zw_214 : (Cond.methodLink "LifeboatHouse" (84 : Nat) ({ cls := "LifeboatHouse", name := "refuse", desc := "(I)I" } : MethodName)) ∈ gtbl := List.mem_filter.mpr ⟨List.mem_append_right _ (List.mem_append_left _ (List.mem_of_getElem? (l := tables_1_1) (i := 214) rfl)), rfl⟩
set_option maxRecDepth 8000 in
theorem zw_215 : (Cond.privateMethod ({ cls := "LifeboatHouse", name := "refuse", desc := "(I)I" } : MethodName)) ∈ lw_tbl := List.mem_append_right _ (List.mem_append_left _ (List.mem_of_getElem? (l := tables_1_1) (i := 215) rfl))
set_option maxRecDepth 8000 in
theorem zw_216 : (Cond.instanceMethod ({ cls := "LifeboatHouse", name := "refuse", desc := "(I)I" } : MethodName)) ∈ gtbl := List.mem_filter.mpr ⟨List.mem_append_right _ (List.mem_append_left _ (List.mem_of_getElem? (l := tables_1_1) (i := 216) rfl)), rfl⟩
set_option maxRecDepth 8000 in
theorem zw_217 : (Cond.code ({ cls := "LifeboatHouse", name := "refuse", desc := "(I)I" } : MethodName) prog_1_method_47_code (2 : Nat) (Option.some FieldType.int)) ∈ gtbl := List.mem_filter.mpr ⟨List.mem_append_right _ (List.mem_append_left _ (List.mem_of_getElem? (l := tables_1_1) (i := 217) rfl)), rfl⟩
set_option maxRecDepth 8000 in
theorem zw_218 : (Cond.methodLink "LifeboatHouse" (88 : Nat) ({ cls := "LifeboatHouse", name := "outside", desc := "(III)I" } : MethodName)) ∈ gtbl := List.mem_filter.mpr ⟨List.mem_append_right _ (List.mem_append_left _ (List.mem_of_getElem? (l := tables_1_1) (i := 218) rfl)), rfl⟩
set_option maxRecDepth 8000 in
theorem zw_219 : (Cond.static ({ cls := "LifeboatHouse", name := "outside", desc := "(III)I" } : MethodName)) ∈ gtbl := List.mem_filter.mpr ⟨List.mem_append_right _ (List.mem_append_left _ (List.mem_of_getElem? (l := tables_1_1) (i := 219) rfl)), rfl⟩
set_option maxRecDepth 8000 in
theorem zw_220 : (Cond.code ({ cls := "LifeboatHouse", name := "outside", desc := "(III)I" } : MethodName) prog_1_method_48_code (3 : Nat) (Option.some FieldType.int)) ∈ gtbl := List.mem_filter.mpr ⟨List.mem_append_right _ (List.mem_append_left _ (List.mem_of_getElem? (l := tables_1_1) (i := 220) rfl)), rfl⟩
set_option maxRecDepth 8000 in
theorem zw_221 : (Cond.methodLink "LifeboatHouseLaw" (18 : Nat) ({ cls := "LifeboatHouse", name := "person", desc := "(III)I" } : MethodName)) ∈ gtbl := List.mem_filter.mpr ⟨List.mem_append_right _ (List.mem_append_left _ (List.mem_of_getElem? (l := tables_1_1) (i := 221) rfl)), rfl⟩
set_option maxRecDepth 8000 in
theorem zw_222 : (Cond.instanceMethod ({ cls := "LifeboatHouse", name := "person", desc := "(III)I" } : MethodName)) ∈ gtbl := List.mem_filter.mpr ⟨List.mem_append_right _ (List.mem_append_left _ (List.mem_of_getElem? (l := tables_1_1) (i := 222) rfl)), rfl⟩
set_option maxRecDepth 8000 in
theorem zw_223 : (Cond.selects "LifeboatHouse" ({ cls := "LifeboatHouse", name := "person", desc := "(III)I" } : MethodName) ({ cls := "LifeboatHouse", name := "person", desc := "(III)I" } : MethodName)) ∈ gtbl := List.mem_filter.mpr ⟨List.mem_append_right _ (List.mem_append_left _ (List.mem_of_getElem? (l := tables_1_1) (i := 223) rfl)), rfl⟩
set_option maxRecDepth 8000 in
theorem zw_224 : (Cond.code ({ cls := "LifeboatHouse", name := "person", desc := "(III)I" } : MethodName) prog_1_method_3_code (4 : Nat) (Option.some FieldType.int)) ∈ gtbl := List.mem_filter.mpr ⟨List.mem_append_right _ (List.mem_append_left _ (List.mem_of_getElem? (l := tables_1_1) (i := 224) rfl)), rfl⟩
set_option maxRecDepth 8000 in
theorem zw_225 : (Cond.methodLink "LifeboatHouse" (92 : Nat) ({ cls := "java/util/ArrayList", name := "size", desc := "()I" } : MethodName)) ∈ gtbl := List.mem_filter.mpr ⟨List.mem_append_right _ (List.mem_append_left _ (List.mem_of_getElem? (l := tables_1_1) (i := 225) rfl)), rfl⟩
set_option maxRecDepth 8000 in
theorem zw_226 : (Cond.instanceMethod ({ cls := "java/util/ArrayList", name := "size", desc := "()I" } : MethodName)) ∈ gtbl := List.mem_filter.mpr ⟨List.mem_append_right _ (List.mem_append_left _ (List.mem_of_getElem? (l := tables_1_1) (i := 226) rfl)), rfl⟩
set_option maxRecDepth 8000 in
theorem zw_227 : (Cond.selects "java/util/ArrayList" ({ cls := "java/util/ArrayList", name := "size", desc := "()I" } : MethodName) ({ cls := "java/util/ArrayList", name := "size", desc := "()I" } : MethodName)) ∈ gtbl := List.mem_filter.mpr ⟨List.mem_append_right _ (List.mem_append_left _ (List.mem_of_getElem? (l := tables_1_1) (i := 227) rfl)), rfl⟩
set_option maxRecDepth 8000 in
theorem zw_228 : (Cond.code ({ cls := "java/util/ArrayList", name := "size", desc := "()I" } : MethodName) prog_20_method_8_code (1 : Nat) (Option.some FieldType.int)) ∈ gtbl := List.mem_filter.mpr ⟨List.mem_append_right _ (List.mem_append_left _ (List.mem_of_getElem? (l := tables_1_1) (i := 228) rfl)), rfl⟩
set_option maxRecDepth 8000 in
theorem zw_229 : (Cond.classLink "LifeboatHouse" (95 : Nat) "LifeboatHouse$Person") ∈ gtbl := List.mem_filter.mpr ⟨List.mem_append_right _ (List.mem_append_left _ (List.mem_of_getElem? (l := tables_1_1) (i := 229) rfl)), rfl⟩
set_option maxRecDepth 8000 in
theorem zw_230 : (Cond.instantiable "LifeboatHouse$Person" (6 : Nat)) ∈ gtbl := List.mem_filter.mpr ⟨List.mem_append_right _ (List.mem_append_left _ (List.mem_of_getElem? (l := tables_1_1) (i := 230) rfl)), rfl⟩
set_option maxRecDepth 8000 in
theorem zw_231 : (Cond.methodLink "LifeboatHouse" (97 : Nat) ({ cls := "LifeboatHouse$Person", name := "<init>", desc := "(III)V" } : MethodName)) ∈ gtbl := List.mem_filter.mpr ⟨List.mem_append_right _ (List.mem_append_left _ (List.mem_of_getElem? (l := tables_1_1) (i := 231) rfl)), rfl⟩
set_option maxRecDepth 8000 in
theorem zw_232 : (Cond.instanceMethod ({ cls := "LifeboatHouse$Person", name := "<init>", desc := "(III)V" } : MethodName)) ∈ gtbl := List.mem_filter.mpr ⟨List.mem_append_right _ (List.mem_append_left _ (List.mem_of_getElem? (l := tables_1_1) (i := 232) rfl)), rfl⟩
set_option maxRecDepth 8000 in
theorem zw_233 : (Cond.code ({ cls := "LifeboatHouse$Person", name := "<init>", desc := "(III)V" } : MethodName) prog_8_method_1_code (4 : Nat) (Option.none : Option FieldType)) ∈ gtbl := List.mem_filter.mpr ⟨List.mem_append_right _ (List.mem_append_left _ (List.mem_of_getElem? (l := tables_1_1) (i := 233) rfl)), rfl⟩
set_option maxRecDepth 8000 in
theorem zw_234 : (Cond.methodLink "LifeboatHouse$Person" (3 : Nat) ({ cls := "java/lang/Object", name := "<init>", desc := "()V" } : MethodName)) ∈ gtbl := List.mem_filter.mpr ⟨List.mem_append_right _ (List.mem_append_left _ (List.mem_of_getElem? (l := tables_1_1) (i := 234) rfl)), rfl⟩
set_option maxRecDepth 8000 in
theorem zw_235 : (Cond.fieldLink "LifeboatHouse$Person" (22 : Nat) "LifeboatHouse$Person" "station" "I") ∈ gtbl := List.mem_filter.mpr ⟨List.mem_append_right _ (List.mem_append_left _ (List.mem_of_getElem? (l := tables_1_1) (i := 235) rfl)), rfl⟩
set_option maxRecDepth 8000 in
theorem zw_236 : (Cond.fieldLink "LifeboatHouse" (138 : Nat) "LifeboatHouse$Person" "station" "I") ∈ gtbl := List.mem_filter.mpr ⟨List.mem_append_right _ (List.mem_append_left _ (List.mem_of_getElem? (l := tables_1_1) (i := 236) rfl)), rfl⟩
set_option maxRecDepth 8000 in
theorem zw_237 : (Cond.fieldLink "LifeboatHouse$Person" (25 : Nat) "LifeboatHouse$Person" "skills" "I") ∈ gtbl := List.mem_filter.mpr ⟨List.mem_append_right _ (List.mem_append_left _ (List.mem_of_getElem? (l := tables_1_1) (i := 237) rfl)), rfl⟩
set_option maxRecDepth 8000 in
theorem zw_238 : (Cond.fieldLink "LifeboatHouse" (141 : Nat) "LifeboatHouse$Person" "skills" "I") ∈ gtbl := List.mem_filter.mpr ⟨List.mem_append_right _ (List.mem_append_left _ (List.mem_of_getElem? (l := tables_1_1) (i := 238) rfl)), rfl⟩
set_option maxRecDepth 8000 in
theorem zw_239 : (Cond.fieldLink "LifeboatHouse$Person" (9 : Nat) "LifeboatHouse$Person" "paged" "[I") ∈ gtbl := List.mem_filter.mpr ⟨List.mem_append_right _ (List.mem_append_left _ (List.mem_of_getElem? (l := tables_1_1) (i := 239) rfl)), rfl⟩
set_option maxRecDepth 8000 in
theorem zw_240 : (Cond.fieldLink "LifeboatHouse" (114 : Nat) "LifeboatHouse$Person" "paged" "[I") ∈ gtbl := List.mem_filter.mpr ⟨List.mem_append_right _ (List.mem_append_right _ (List.mem_append_left _ (List.mem_of_getElem? (l := tables_1_2) (i := 0) rfl))), rfl⟩
set_option maxRecDepth 8000 in
theorem zw_241 : (Cond.fieldLink "LifeboatHouse$Person" (15 : Nat) "LifeboatHouse$Person" "came" "[I") ∈ gtbl := List.mem_filter.mpr ⟨List.mem_append_right _ (List.mem_append_right _ (List.mem_append_left _ (List.mem_of_getElem? (l := tables_1_2) (i := 1) rfl))), rfl⟩
set_option maxRecDepth 8000 in
theorem zw_242 : (Cond.fieldLink "LifeboatHouse" (117 : Nat) "LifeboatHouse$Person" "came" "[I") ∈ gtbl := List.mem_filter.mpr ⟨List.mem_append_right _ (List.mem_append_right _ (List.mem_append_left _ (List.mem_of_getElem? (l := tables_1_2) (i := 2) rfl))), rfl⟩
set_option maxRecDepth 8000 in
theorem zw_243 : (Cond.fieldLink "LifeboatHouse$Person" (28 : Nat) "LifeboatHouse$Person" "papers" "I") ∈ gtbl := List.mem_filter.mpr ⟨List.mem_append_right _ (List.mem_append_right _ (List.mem_append_left _ (List.mem_of_getElem? (l := tables_1_2) (i := 3) rfl))), rfl⟩
set_option maxRecDepth 8000 in
theorem zw_244 : (Cond.fieldLink "LifeboatHouse" (108 : Nat) "LifeboatHouse$Person" "papers" "I") ∈ gtbl := List.mem_filter.mpr ⟨List.mem_append_right _ (List.mem_append_right _ (List.mem_append_left _ (List.mem_of_getElem? (l := tables_1_2) (i := 4) rfl))), rfl⟩
set_option maxRecDepth 8000 in
theorem zw_245 : (Cond.fieldLink "LifeboatHouse$Person" (18 : Nat) "LifeboatHouse$Person" "restTill" "I") ∈ gtbl := List.mem_filter.mpr ⟨List.mem_append_right _ (List.mem_append_right _ (List.mem_append_left _ (List.mem_of_getElem? (l := tables_1_2) (i := 5) rfl))), rfl⟩
set_option maxRecDepth 8000 in
theorem zw_246 : (Cond.fieldLink "LifeboatHouse" (295 : Nat) "LifeboatHouse$Person" "restTill" "I") ∈ gtbl := List.mem_filter.mpr ⟨List.mem_append_right _ (List.mem_append_right _ (List.mem_append_left _ (List.mem_of_getElem? (l := tables_1_2) (i := 6) rfl))), rfl⟩
set_option maxRecDepth 8000 in
theorem zw_247 : (Cond.laysFinal "LifeboatHouse$Person" "LifeboatHouse$Person" "station" "I") ∈ gtbl := List.mem_filter.mpr ⟨List.mem_append_right _ (List.mem_append_right _ (List.mem_append_left _ (List.mem_of_getElem? (l := tables_1_2) (i := 7) rfl))), rfl⟩
set_option maxRecDepth 8000 in
theorem zw_248 : (Cond.soleField "LifeboatHouse$Person" "station") ∈ gtbl := List.mem_filter.mpr ⟨List.mem_append_right _ (List.mem_append_right _ (List.mem_append_left _ (List.mem_of_getElem? (l := tables_1_2) (i := 8) rfl))), rfl⟩
set_option maxRecDepth 8000 in
theorem zw_249 : (Cond.laysFinal "LifeboatHouse$Person" "LifeboatHouse$Person" "skills" "I") ∈ gtbl := List.mem_filter.mpr ⟨List.mem_append_right _ (List.mem_append_right _ (List.mem_append_left _ (List.mem_of_getElem? (l := tables_1_2) (i := 9) rfl))), rfl⟩
set_option maxRecDepth 8000 in
theorem zw_250 : (Cond.soleField "LifeboatHouse$Person" "skills") ∈ gtbl := List.mem_filter.mpr ⟨List.mem_append_right _ (List.mem_append_right _ (List.mem_append_left _ (List.mem_of_getElem? (l := tables_1_2) (i := 10) rfl))), rfl⟩
set_option maxRecDepth 8000 in
theorem zw_251 : (Cond.laysFinal "LifeboatHouse$Person" "LifeboatHouse$Person" "paged" "[I") ∈ gtbl := List.mem_filter.mpr ⟨List.mem_append_right _ (List.mem_append_right _ (List.mem_append_left _ (List.mem_of_getElem? (l := tables_1_2) (i := 11) rfl))), rfl⟩
set_option maxRecDepth 8000 in
theorem zw_252 : (Cond.soleField "LifeboatHouse$Person" "paged") ∈ gtbl := List.mem_filter.mpr ⟨List.mem_append_right _ (List.mem_append_right _ (List.mem_append_left _ (List.mem_of_getElem? (l := tables_1_2) (i := 12) rfl))), rfl⟩
set_option maxRecDepth 8000 in
theorem zw_253 : (Cond.laysFinal "LifeboatHouse$Person" "LifeboatHouse$Person" "came" "[I") ∈ gtbl := List.mem_filter.mpr ⟨List.mem_append_right _ (List.mem_append_right _ (List.mem_append_left _ (List.mem_of_getElem? (l := tables_1_2) (i := 13) rfl))), rfl⟩
set_option maxRecDepth 8000 in
theorem zw_254 : (Cond.soleField "LifeboatHouse$Person" "came") ∈ gtbl := List.mem_filter.mpr ⟨List.mem_append_right _ (List.mem_append_right _ (List.mem_append_left _ (List.mem_of_getElem? (l := tables_1_2) (i := 14) rfl))), rfl⟩
set_option maxRecDepth 8000 in
theorem zw_255 : (Cond.lays "LifeboatHouse$Person" "LifeboatHouse$Person" "papers" "I") ∈ gtbl := List.mem_filter.mpr ⟨List.mem_append_right _ (List.mem_append_right _ (List.mem_append_left _ (List.mem_of_getElem? (l := tables_1_2) (i := 15) rfl))), rfl⟩
set_option maxRecDepth 8000 in
theorem zw_256 : (Cond.soleField "LifeboatHouse$Person" "papers") ∈ gtbl := List.mem_filter.mpr ⟨List.mem_append_right _ (List.mem_append_right _ (List.mem_append_left _ (List.mem_of_getElem? (l := tables_1_2) (i := 16) rfl))), rfl⟩
set_option maxRecDepth 8000 in
theorem zw_257 : (Cond.lays "LifeboatHouse$Person" "LifeboatHouse$Person" "restTill" "I") ∈ gtbl := List.mem_filter.mpr ⟨List.mem_append_right _ (List.mem_append_right _ (List.mem_append_left _ (List.mem_of_getElem? (l := tables_1_2) (i := 17) rfl))), rfl⟩
set_option maxRecDepth 8000 in
theorem zw_258 : (Cond.soleField "LifeboatHouse$Person" "restTill") ∈ gtbl := List.mem_filter.mpr ⟨List.mem_append_right _ (List.mem_append_right _ (List.mem_append_left _ (List.mem_of_getElem? (l := tables_1_2) (i := 18) rfl))), rfl⟩
set_option maxRecDepth 8000 in
theorem zw_259 : (Cond.superclass "LifeboatHouse$Person" "java/lang/Object") ∈ gtbl := List.mem_filter.mpr ⟨List.mem_append_right _ (List.mem_append_right _ (List.mem_append_left _ (List.mem_of_getElem? (l := tables_1_2) (i := 19) rfl))), rfl⟩
set_option maxRecDepth 8000 in
theorem zw_260 : (Cond.methodLink "LifeboatHouse" (100 : Nat) ({ cls := "java/util/ArrayList", name := "add", desc := "(Ljava/lang/Object;)Z" } : MethodName)) ∈ gtbl := List.mem_filter.mpr ⟨List.mem_append_right _ (List.mem_append_right _ (List.mem_append_left _ (List.mem_of_getElem? (l := tables_1_2) (i := 20) rfl))), rfl⟩
set_option maxRecDepth 8000 in
theorem zw_261 : (Cond.instanceMethod ({ cls := "java/util/ArrayList", name := "add", desc := "(Ljava/lang/Object;)Z" } : MethodName)) ∈ gtbl := List.mem_filter.mpr ⟨List.mem_append_right _ (List.mem_append_right _ (List.mem_append_left _ (List.mem_of_getElem? (l := tables_1_2) (i := 21) rfl))), rfl⟩
set_option maxRecDepth 8000 in
theorem zw_262 : (Cond.selects "java/util/ArrayList" ({ cls := "java/util/ArrayList", name := "add", desc := "(Ljava/lang/Object;)Z" } : MethodName) ({ cls := "java/util/ArrayList", name := "add", desc := "(Ljava/lang/Object;)Z" } : MethodName)) ∈ gtbl := List.mem_filter.mpr ⟨List.mem_append_right _ (List.mem_append_right _ (List.mem_append_left _ (List.mem_of_getElem? (l := tables_1_2) (i := 22) rfl))), rfl⟩
set_option maxRecDepth 8000 in
theorem zw_263 : (Cond.code ({ cls := "java/util/ArrayList", name := "add", desc := "(Ljava/lang/Object;)Z" } : MethodName) prog_20_method_25_code (2 : Nat) (Option.some FieldType.boolean)) ∈ gtbl := List.mem_filter.mpr ⟨List.mem_append_right _ (List.mem_append_right _ (List.mem_append_left _ (List.mem_of_getElem? (l := tables_1_2) (i := 23) rfl))), rfl⟩
set_option maxRecDepth 8000 in
theorem zw_264 : (Cond.methodLink "java/util/ArrayList" (131 : Nat) ({ cls := "java/util/ArrayList", name := "add", desc := "(Ljava/lang/Object;[Ljava/lang/Object;I)V" } : MethodName)) ∈ gtbl := List.mem_filter.mpr ⟨List.mem_append_right _ (List.mem_append_right _ (List.mem_append_left _ (List.mem_of_getElem? (l := tables_1_2) (i := 24) rfl))), rfl⟩
set_option maxRecDepth 8000 in
theorem zw_265 : (Cond.privateMethod ({ cls := "java/util/ArrayList", name := "add", desc := "(Ljava/lang/Object;[Ljava/lang/Object;I)V" } : MethodName)) ∈ lw_tbl := List.mem_append_right _ (List.mem_append_right _ (List.mem_append_left _ (List.mem_of_getElem? (l := tables_1_2) (i := 25) rfl)))
set_option maxRecDepth 8000 in
theorem zw_266 : (Cond.instanceMethod ({ cls := "java/util/ArrayList", name := "add", desc := "(Ljava/lang/Object;[Ljava/lang/Object;I)V" } : MethodName)) ∈ gtbl := List.mem_filter.mpr ⟨List.mem_append_right _ (List.mem_append_right _ (List.mem_append_left _ (List.mem_of_getElem? (l := tables_1_2) (i := 26) rfl))), rfl⟩
set_option maxRecDepth 8000 in
theorem zw_267 : (Cond.code ({ cls := "java/util/ArrayList", name := "add", desc := "(Ljava/lang/Object;[Ljava/lang/Object;I)V" } : MethodName) prog_20_method_24_code (4 : Nat) (Option.none : Option FieldType)) ∈ gtbl := List.mem_filter.mpr ⟨List.mem_append_right _ (List.mem_append_right _ (List.mem_append_left _ (List.mem_of_getElem? (l := tables_1_2) (i := 27) rfl))), rfl⟩
set_option maxRecDepth 8000 in
theorem zw_268 : (Cond.methodLink "java/util/ArrayList" (129 : Nat) ({ cls := "java/util/ArrayList", name := "grow", desc := "()[Ljava/lang/Object;" } : MethodName)) ∈ gtbl := List.mem_filter.mpr ⟨List.mem_append_right _ (List.mem_append_right _ (List.mem_append_left _ (List.mem_of_getElem? (l := tables_1_2) (i := 28) rfl))), rfl⟩
set_option maxRecDepth 8000 in
theorem zw_269 : (Cond.privateMethod ({ cls := "java/util/ArrayList", name := "grow", desc := "()[Ljava/lang/Object;" } : MethodName)) ∈ lw_tbl := List.mem_append_right _ (List.mem_append_right _ (List.mem_append_left _ (List.mem_of_getElem? (l := tables_1_2) (i := 29) rfl)))
set_option maxRecDepth 8000 in
theorem zw_270 : (Cond.instanceMethod ({ cls := "java/util/ArrayList", name := "grow", desc := "()[Ljava/lang/Object;" } : MethodName)) ∈ gtbl := List.mem_filter.mpr ⟨List.mem_append_right _ (List.mem_append_right _ (List.mem_append_left _ (List.mem_of_getElem? (l := tables_1_2) (i := 30) rfl))), rfl⟩
set_option maxRecDepth 8000 in
theorem zw_271 : (Cond.code ({ cls := "java/util/ArrayList", name := "grow", desc := "()[Ljava/lang/Object;" } : MethodName) prog_20_method_7_code (1 : Nat) (Option.some (FieldType.array (FieldType.object "java/lang/Object")))) ∈ gtbl := List.mem_filter.mpr ⟨List.mem_append_right _ (List.mem_append_right _ (List.mem_append_left _ (List.mem_of_getElem? (l := tables_1_2) (i := 31) rfl))), rfl⟩
set_option maxRecDepth 8000 in
theorem zw_272 : (Cond.methodLink "java/util/ArrayList" (69 : Nat) ({ cls := "java/util/ArrayList", name := "grow", desc := "(I)[Ljava/lang/Object;" } : MethodName)) ∈ gtbl := List.mem_filter.mpr ⟨List.mem_append_right _ (List.mem_append_right _ (List.mem_append_left _ (List.mem_of_getElem? (l := tables_1_2) (i := 32) rfl))), rfl⟩
set_option maxRecDepth 8000 in
theorem zw_273 : (Cond.privateMethod ({ cls := "java/util/ArrayList", name := "grow", desc := "(I)[Ljava/lang/Object;" } : MethodName)) ∈ lw_tbl := List.mem_append_right _ (List.mem_append_right _ (List.mem_append_left _ (List.mem_of_getElem? (l := tables_1_2) (i := 33) rfl)))
set_option maxRecDepth 8000 in
theorem zw_274 : (Cond.instanceMethod ({ cls := "java/util/ArrayList", name := "grow", desc := "(I)[Ljava/lang/Object;" } : MethodName)) ∈ gtbl := List.mem_filter.mpr ⟨List.mem_append_right _ (List.mem_append_right _ (List.mem_append_left _ (List.mem_of_getElem? (l := tables_1_2) (i := 34) rfl))), rfl⟩
set_option maxRecDepth 8000 in
theorem zw_275 : (Cond.code ({ cls := "java/util/ArrayList", name := "grow", desc := "(I)[Ljava/lang/Object;" } : MethodName) prog_20_method_6_code (4 : Nat) (Option.some (FieldType.array (FieldType.object "java/lang/Object")))) ∈ gtbl := List.mem_filter.mpr ⟨List.mem_append_right _ (List.mem_append_right _ (List.mem_append_left _ (List.mem_of_getElem? (l := tables_1_2) (i := 35) rfl))), rfl⟩
set_option maxRecDepth 8000 in
theorem zw_276 : (Cond.methodLink "java/util/ArrayList" (73 : Nat) ({ cls := "jdk/internal/util/ArraysSupport", name := "newLength", desc := "(III)I" } : MethodName)) ∈ gtbl := List.mem_filter.mpr ⟨List.mem_append_right _ (List.mem_append_right _ (List.mem_append_left _ (List.mem_of_getElem? (l := tables_1_2) (i := 36) rfl))), rfl⟩
set_option maxRecDepth 8000 in
theorem zw_277 : (Cond.static ({ cls := "jdk/internal/util/ArraysSupport", name := "newLength", desc := "(III)I" } : MethodName)) ∈ gtbl := List.mem_filter.mpr ⟨List.mem_append_right _ (List.mem_append_right _ (List.mem_append_left _ (List.mem_of_getElem? (l := tables_1_2) (i := 37) rfl))), rfl⟩
set_option maxRecDepth 8000 in
theorem zw_278 : (Cond.code ({ cls := "jdk/internal/util/ArraysSupport", name := "newLength", desc := "(III)I" } : MethodName) prog_27_method_27_code (4 : Nat) (Option.some FieldType.int)) ∈ gtbl := List.mem_filter.mpr ⟨List.mem_append_right _ (List.mem_append_right _ (List.mem_append_left _ (List.mem_of_getElem? (l := tables_1_2) (i := 38) rfl))), rfl⟩
set_option maxRecDepth 8000 in
theorem zw_279 : (Cond.methodLink "jdk/internal/util/ArraysSupport" (194 : Nat) ({ cls := "java/lang/Math", name := "max", desc := "(II)I" } : MethodName)) ∈ gtbl := List.mem_filter.mpr ⟨List.mem_append_right _ (List.mem_append_right _ (List.mem_append_left _ (List.mem_of_getElem? (l := tables_1_2) (i := 39) rfl))), rfl⟩
set_option maxRecDepth 8000 in
theorem zw_280 : (Cond.static ({ cls := "java/lang/Math", name := "max", desc := "(II)I" } : MethodName)) ∈ gtbl := List.mem_filter.mpr ⟨List.mem_append_right _ (List.mem_append_right _ (List.mem_append_left _ (List.mem_of_getElem? (l := tables_1_2) (i := 40) rfl))), rfl⟩
set_option maxRecDepth 8000 in
theorem zw_281 : (Cond.code ({ cls := "java/lang/Math", name := "max", desc := "(II)I" } : MethodName) prog_16_method_65_code (2 : Nat) (Option.some FieldType.int)) ∈ gtbl := List.mem_filter.mpr ⟨List.mem_append_right _ (List.mem_append_right _ (List.mem_append_left _ (List.mem_of_getElem? (l := tables_1_2) (i := 41) rfl))), rfl⟩
set_option maxRecDepth 8000 in
theorem zw_282 : (Cond.constant "jdk/internal/util/ArraysSupport" (200 : Nat) (2147483639 : Int32)) ∈ gtbl := List.mem_filter.mpr ⟨List.mem_append_right _ (List.mem_append_right _ (List.mem_append_left _ (List.mem_of_getElem? (l := tables_1_2) (i := 42) rfl))), rfl⟩
set_option maxRecDepth 8000 in
theorem zw_283 : (Cond.methodLink "jdk/internal/util/ArraysSupport" (201 : Nat) ({ cls := "jdk/internal/util/ArraysSupport", name := "hugeLength", desc := "(II)I" } : MethodName)) ∈ gtbl := List.mem_filter.mpr ⟨List.mem_append_right _ (List.mem_append_right _ (List.mem_append_left _ (List.mem_of_getElem? (l := tables_1_2) (i := 43) rfl))), rfl⟩
set_option maxRecDepth 8000 in
theorem zw_284 : (Cond.static ({ cls := "jdk/internal/util/ArraysSupport", name := "hugeLength", desc := "(II)I" } : MethodName)) ∈ gtbl := List.mem_filter.mpr ⟨List.mem_append_right _ (List.mem_append_right _ (List.mem_append_left _ (List.mem_of_getElem? (l := tables_1_2) (i := 44) rfl))), rfl⟩
set_option maxRecDepth 8000 in
theorem zw_285 : (Cond.code ({ cls := "jdk/internal/util/ArraysSupport", name := "hugeLength", desc := "(II)I" } : MethodName) prog_27_method_28_code (3 : Nat) (Option.some FieldType.int)) ∈ gtbl := List.mem_filter.mpr ⟨List.mem_append_right _ (List.mem_append_right _ (List.mem_append_left _ (List.mem_of_getElem? (l := tables_1_2) (i := 45) rfl))), rfl⟩
set_option maxRecDepth 8000 in
theorem zw_286 : (Cond.methodLink "java/util/ArrayList" (66 : Nat) ({ cls := "java/util/Arrays", name := "copyOf", desc := "([Ljava/lang/Object;I)[Ljava/lang/Object;" } : MethodName)) ∈ gtbl := List.mem_filter.mpr ⟨List.mem_append_right _ (List.mem_append_right _ (List.mem_append_left _ (List.mem_of_getElem? (l := tables_1_2) (i := 46) rfl))), rfl⟩
set_option maxRecDepth 8000 in
theorem zw_287 : (Cond.static ({ cls := "java/util/Arrays", name := "copyOf", desc := "([Ljava/lang/Object;I)[Ljava/lang/Object;" } : MethodName)) ∈ gtbl := List.mem_filter.mpr ⟨List.mem_append_right _ (List.mem_append_right _ (List.mem_append_left _ (List.mem_of_getElem? (l := tables_1_2) (i := 47) rfl))), rfl⟩
set_option maxRecDepth 8000 in
theorem zw_288 : (Cond.code ({ cls := "java/util/Arrays", name := "copyOf", desc := "([Ljava/lang/Object;I)[Ljava/lang/Object;" } : MethodName) prog_21_method_119_code (2 : Nat) (Option.some (FieldType.array (FieldType.object "java/lang/Object")))) ∈ gtbl := List.mem_filter.mpr ⟨List.mem_append_right _ (List.mem_append_right _ (List.mem_append_left _ (List.mem_of_getElem? (l := tables_1_2) (i := 48) rfl))), rfl⟩
set_option maxRecDepth 8000 in
theorem zw_289 : (Cond.methodLink "java/util/Arrays" (86 : Nat) ({ cls := "java/lang/Object", name := "getClass", desc := "()Ljava/lang/Class;" } : MethodName)) ∈ gtbl := List.mem_filter.mpr ⟨List.mem_append_right _ (List.mem_append_right _ (List.mem_append_left _ (List.mem_of_getElem? (l := tables_1_2) (i := 49) rfl))), rfl⟩
set_option maxRecDepth 8000 in
theorem zw_290 : (Cond.instanceMethod ({ cls := "java/lang/Object", name := "getClass", desc := "()Ljava/lang/Class;" } : MethodName)) ∈ gtbl := List.mem_filter.mpr ⟨List.mem_append_right _ (List.mem_append_right _ (List.mem_append_left _ (List.mem_of_getElem? (l := tables_1_2) (i := 50) rfl))), rfl⟩
set_option maxRecDepth 8000 in
theorem zw_291 : (Cond.sameMethod "java/lang/Object" "java/lang/Object" "getClass" "()Ljava/lang/Class;") ∈ gtbl := List.mem_filter.mpr ⟨List.mem_append_right _ (List.mem_append_right _ (List.mem_append_left _ (List.mem_of_getElem? (l := tables_1_2) (i := 51) rfl))), rfl⟩
set_option maxRecDepth 8000 in
theorem zw_292 : (Cond.selects "LifeboatHouse" ({ cls := "java/lang/Object", name := "getClass", desc := "()Ljava/lang/Class;" } : MethodName) ({ cls := "java/lang/Object", name := "getClass", desc := "()Ljava/lang/Class;" } : MethodName)) ∈ gtbl := List.mem_filter.mpr ⟨List.mem_append_right _ (List.mem_append_right _ (List.mem_append_left _ (List.mem_of_getElem? (l := tables_1_2) (i := 52) rfl))), rfl⟩
set_option maxRecDepth 8000 in
theorem zw_293 : (Cond.selects "LifeboatHouse$Boat" ({ cls := "java/lang/Object", name := "getClass", desc := "()Ljava/lang/Class;" } : MethodName) ({ cls := "java/lang/Object", name := "getClass", desc := "()Ljava/lang/Class;" } : MethodName)) ∈ gtbl := List.mem_filter.mpr ⟨List.mem_append_right _ (List.mem_append_right _ (List.mem_append_left _ (List.mem_of_getElem? (l := tables_1_2) (i := 53) rfl))), rfl⟩
set_option maxRecDepth 8000 in
theorem zw_294 : (Cond.selects "LifeboatHouse$Call" ({ cls := "java/lang/Object", name := "getClass", desc := "()Ljava/lang/Class;" } : MethodName) ({ cls := "java/lang/Object", name := "getClass", desc := "()Ljava/lang/Class;" } : MethodName)) ∈ gtbl := List.mem_filter.mpr ⟨List.mem_append_right _ (List.mem_append_right _ (List.mem_append_left _ (List.mem_of_getElem? (l := tables_1_2) (i := 54) rfl))), rfl⟩
set_option maxRecDepth 8000 in
theorem zw_295 : (Cond.selects "LifeboatHouse$CrewRows" ({ cls := "java/lang/Object", name := "getClass", desc := "()Ljava/lang/Class;" } : MethodName) ({ cls := "java/lang/Object", name := "getClass", desc := "()Ljava/lang/Class;" } : MethodName)) ∈ gtbl := List.mem_filter.mpr ⟨List.mem_append_right _ (List.mem_append_right _ (List.mem_append_left _ (List.mem_of_getElem? (l := tables_1_2) (i := 55) rfl))), rfl⟩
set_option maxRecDepth 8000 in
theorem zw_296 : (Cond.selects "LifeboatHouse$FlankPlan" ({ cls := "java/lang/Object", name := "getClass", desc := "()Ljava/lang/Class;" } : MethodName) ({ cls := "java/lang/Object", name := "getClass", desc := "()Ljava/lang/Class;" } : MethodName)) ∈ gtbl := List.mem_filter.mpr ⟨List.mem_append_right _ (List.mem_append_right _ (List.mem_append_left _ (List.mem_of_getElem? (l := tables_1_2) (i := 56) rfl))), rfl⟩
set_option maxRecDepth 8000 in
theorem zw_297 : (Cond.selects "LifeboatHouse$Launch" ({ cls := "java/lang/Object", name := "getClass", desc := "()Ljava/lang/Class;" } : MethodName) ({ cls := "java/lang/Object", name := "getClass", desc := "()Ljava/lang/Class;" } : MethodName)) ∈ gtbl := List.mem_filter.mpr ⟨List.mem_append_right _ (List.mem_append_right _ (List.mem_append_left _ (List.mem_of_getElem? (l := tables_1_2) (i := 57) rfl))), rfl⟩
set_option maxRecDepth 8000 in
theorem zw_298 : (Cond.selects "LifeboatHouse$Pair" ({ cls := "java/lang/Object", name := "getClass", desc := "()Ljava/lang/Class;" } : MethodName) ({ cls := "java/lang/Object", name := "getClass", desc := "()Ljava/lang/Class;" } : MethodName)) ∈ gtbl := List.mem_filter.mpr ⟨List.mem_append_right _ (List.mem_append_right _ (List.mem_append_left _ (List.mem_of_getElem? (l := tables_1_2) (i := 58) rfl))), rfl⟩
set_option maxRecDepth 8000 in
theorem zw_299 : (Cond.selects "LifeboatHouse$Person" ({ cls := "java/lang/Object", name := "getClass", desc := "()Ljava/lang/Class;" } : MethodName) ({ cls := "java/lang/Object", name := "getClass", desc := "()Ljava/lang/Class;" } : MethodName)) ∈ gtbl := List.mem_filter.mpr ⟨List.mem_append_right _ (List.mem_append_right _ (List.mem_append_left _ (List.mem_of_getElem? (l := tables_1_2) (i := 59) rfl))), rfl⟩
set_option maxRecDepth 8000 in
theorem zw_300 : (Cond.selects "LifeboatHouse$Search" ({ cls := "java/lang/Object", name := "getClass", desc := "()Ljava/lang/Class;" } : MethodName) ({ cls := "java/lang/Object", name := "getClass", desc := "()Ljava/lang/Class;" } : MethodName)) ∈ gtbl := List.mem_filter.mpr ⟨List.mem_append_right _ (List.mem_append_right _ (List.mem_append_left _ (List.mem_of_getElem? (l := tables_1_2) (i := 60) rfl))), rfl⟩
set_option maxRecDepth 8000 in
theorem zw_301 : (Cond.selects "LifeboatHouse$Tides" ({ cls := "java/lang/Object", name := "getClass", desc := "()Ljava/lang/Class;" } : MethodName) ({ cls := "java/lang/Object", name := "getClass", desc := "()Ljava/lang/Class;" } : MethodName)) ∈ gtbl := List.mem_filter.mpr ⟨List.mem_append_right _ (List.mem_append_right _ (List.mem_append_left _ (List.mem_of_getElem? (l := tables_1_2) (i := 61) rfl))), rfl⟩
set_option maxRecDepth 8000 in
theorem zw_302 : (Cond.selects "LifeboatHouseModel" ({ cls := "java/lang/Object", name := "getClass", desc := "()Ljava/lang/Class;" } : MethodName) ({ cls := "java/lang/Object", name := "getClass", desc := "()Ljava/lang/Class;" } : MethodName)) ∈ gtbl := List.mem_filter.mpr ⟨List.mem_append_right _ (List.mem_append_right _ (List.mem_append_left _ (List.mem_of_getElem? (l := tables_1_2) (i := 62) rfl))), rfl⟩
set_option maxRecDepth 8000 in
theorem zw_303 : (Cond.selects "java/util/ArrayList" ({ cls := "java/lang/Object", name := "getClass", desc := "()Ljava/lang/Class;" } : MethodName) ({ cls := "java/lang/Object", name := "getClass", desc := "()Ljava/lang/Class;" } : MethodName)) ∈ gtbl := List.mem_filter.mpr ⟨List.mem_append_right _ (List.mem_append_right _ (List.mem_append_left _ (List.mem_of_getElem? (l := tables_1_2) (i := 63) rfl))), rfl⟩
set_option maxRecDepth 8000 in
theorem zw_304 : (Cond.native ({ cls := "java/lang/Object", name := "getClass", desc := "()Ljava/lang/Class;" } : MethodName)) ∈ gtbl := List.mem_filter.mpr ⟨List.mem_append_right _ (List.mem_append_right _ (List.mem_append_left _ (List.mem_of_getElem? (l := tables_1_2) (i := 64) rfl))), rfl⟩
set_option maxRecDepth 8000 in
theorem zw_305 : (Cond.methodLink "java/util/Arrays" (300 : Nat) ({ cls := "java/util/Arrays", name := "copyOf", desc := "([Ljava/lang/Object;ILjava/lang/Class;)[Ljava/lang/Object;" } : MethodName)) ∈ gtbl := List.mem_filter.mpr ⟨List.mem_append_right _ (List.mem_append_right _ (List.mem_append_left _ (List.mem_of_getElem? (l := tables_1_2) (i := 65) rfl))), rfl⟩
set_option maxRecDepth 8000 in
theorem zw_306 : (Cond.static ({ cls := "java/util/Arrays", name := "copyOf", desc := "([Ljava/lang/Object;ILjava/lang/Class;)[Ljava/lang/Object;" } : MethodName)) ∈ gtbl := List.mem_filter.mpr ⟨List.mem_append_right _ (List.mem_append_right _ (List.mem_append_left _ (List.mem_of_getElem? (l := tables_1_2) (i := 66) rfl))), rfl⟩
set_option maxRecDepth 8000 in
theorem zw_307 : (Cond.code ({ cls := "java/util/Arrays", name := "copyOf", desc := "([Ljava/lang/Object;ILjava/lang/Class;)[Ljava/lang/Object;" } : MethodName) prog_21_method_120_code (4 : Nat) (Option.some (FieldType.array (FieldType.object "java/lang/Object")))) ∈ gtbl := List.mem_filter.mpr ⟨List.mem_append_right _ (List.mem_append_right _ (List.mem_append_left _ (List.mem_of_getElem? (l := tables_1_2) (i := 67) rfl))), rfl⟩
set_option maxRecDepth 8000 in
theorem zw_308 : (Cond.classLink "java/util/Arrays" (110 : Nat) "[Ljava/lang/Object;") ∈ gtbl := List.mem_filter.mpr ⟨List.mem_append_right _ (List.mem_append_right _ (List.mem_append_left _ (List.mem_of_getElem? (l := tables_1_2) (i := 68) rfl))), rfl⟩
set_option maxRecDepth 8000 in
theorem zw_309 : (Cond.arrayOver (FieldType.object "java/lang/Object")) ∈ lw_tbl := List.mem_append_right _ (List.mem_append_right _ (List.mem_append_left _ (List.mem_of_getElem? (l := tables_1_2) (i := 69) rfl)))
set_option maxRecDepth 8000 in
theorem zw_310 : (Cond.classLink "java/util/Arrays" (2 : Nat) "java/lang/Object") ∈ gtbl := List.mem_filter.mpr ⟨List.mem_append_right _ (List.mem_append_right _ (List.mem_append_left _ (List.mem_of_getElem? (l := tables_1_2) (i := 70) rfl))), rfl⟩
set_option maxRecDepth 8000 in
theorem zw_311 : (Cond.methodLink "java/util/Arrays" (304 : Nat) ({ cls := "java/lang/Math", name := "min", desc := "(II)I" } : MethodName)) ∈ gtbl := List.mem_filter.mpr ⟨List.mem_append_right _ (List.mem_append_right _ (List.mem_append_left _ (List.mem_of_getElem? (l := tables_1_2) (i := 71) rfl))), rfl⟩
set_option maxRecDepth 8000 in
theorem zw_312 : (Cond.static ({ cls := "java/lang/Math", name := "min", desc := "(II)I" } : MethodName)) ∈ gtbl := List.mem_filter.mpr ⟨List.mem_append_right _ (List.mem_append_right _ (List.mem_append_left _ (List.mem_of_getElem? (l := tables_1_2) (i := 72) rfl))), rfl⟩
set_option maxRecDepth 8000 in
theorem zw_313 : (Cond.code ({ cls := "java/lang/Math", name := "min", desc := "(II)I" } : MethodName) prog_16_method_69_code (2 : Nat) (Option.some FieldType.int)) ∈ gtbl := List.mem_filter.mpr ⟨List.mem_append_right _ (List.mem_append_right _ (List.mem_append_left _ (List.mem_of_getElem? (l := tables_1_2) (i := 73) rfl))), rfl⟩
set_option maxRecDepth 8000 in
theorem zw_314 : (Cond.methodLink "java/util/Arrays" (150 : Nat) ({ cls := "java/lang/System", name := "arraycopy", desc := "(Ljava/lang/Object;ILjava/lang/Object;II)V" } : MethodName)) ∈ gtbl := List.mem_filter.mpr ⟨List.mem_append_right _ (List.mem_append_right _ (List.mem_append_left _ (List.mem_of_getElem? (l := tables_1_2) (i := 74) rfl))), rfl⟩
set_option maxRecDepth 8000 in
theorem zw_315 : (Cond.static ({ cls := "java/lang/System", name := "arraycopy", desc := "(Ljava/lang/Object;ILjava/lang/Object;II)V" } : MethodName)) ∈ gtbl := List.mem_filter.mpr ⟨List.mem_append_right _ (List.mem_append_right _ (List.mem_append_left _ (List.mem_of_getElem? (l := tables_1_2) (i := 75) rfl))), rfl⟩
set_option maxRecDepth 8000 in
theorem zw_316 : (Cond.native ({ cls := "java/lang/System", name := "arraycopy", desc := "(Ljava/lang/Object;ILjava/lang/Object;II)V" } : MethodName)) ∈ gtbl := List.mem_filter.mpr ⟨List.mem_append_right _ (List.mem_append_right _ (List.mem_append_left _ (List.mem_of_getElem? (l := tables_1_2) (i := 76) rfl))), rfl⟩
set_option maxRecDepth 8000 in
theorem zw_317 : (Cond.methodLink "java/util/ArrayList" (79 : Nat) ({ cls := "java/lang/Math", name := "max", desc := "(II)I" } : MethodName)) ∈ gtbl := List.mem_filter.mpr ⟨List.mem_append_right _ (List.mem_append_right _ (List.mem_append_left _ (List.mem_of_getElem? (l := tables_1_2) (i := 77) rfl))), rfl⟩
set_option maxRecDepth 8000 in
theorem zw_318 : (Cond.classLink "java/util/ArrayList" (7 : Nat) "java/lang/Object") ∈ gtbl := List.mem_filter.mpr ⟨List.mem_append_right _ (List.mem_append_right _ (List.mem_append_left _ (List.mem_of_getElem? (l := tables_1_2) (i := 78) rfl))), rfl⟩
set_option maxRecDepth 8000 in
theorem zw_319 : (Cond.methodLink "LifeboatHouseLaw" (22 : Nat) ({ cls := "LifeboatHouse", name := "papers", desc := "(II)I" } : MethodName)) ∈ gtbl := List.mem_filter.mpr ⟨List.mem_append_right _ (List.mem_append_right _ (List.mem_append_left _ (List.mem_of_getElem? (l := tables_1_2) (i := 79) rfl))), rfl⟩
set_option maxRecDepth 8000 in
theorem zw_320 : (Cond.instanceMethod ({ cls := "LifeboatHouse", name := "papers", desc := "(II)I" } : MethodName)) ∈ gtbl := List.mem_filter.mpr ⟨List.mem_append_right _ (List.mem_append_right _ (List.mem_append_left _ (List.mem_of_getElem? (l := tables_1_2) (i := 80) rfl))), rfl⟩
set_option maxRecDepth 8000 in
theorem zw_321 : (Cond.selects "LifeboatHouse" ({ cls := "LifeboatHouse", name := "papers", desc := "(II)I" } : MethodName) ({ cls := "LifeboatHouse", name := "papers", desc := "(II)I" } : MethodName)) ∈ gtbl := List.mem_filter.mpr ⟨List.mem_append_right _ (List.mem_append_right _ (List.mem_append_left _ (List.mem_of_getElem? (l := tables_1_2) (i := 81) rfl))), rfl⟩
set_option maxRecDepth 8000 in
theorem zw_322 : (Cond.code ({ cls := "LifeboatHouse", name := "papers", desc := "(II)I" } : MethodName) prog_1_method_4_code (6 : Nat) (Option.some FieldType.int)) ∈ gtbl := List.mem_filter.mpr ⟨List.mem_append_right _ (List.mem_append_right _ (List.mem_append_left _ (List.mem_of_getElem? (l := tables_1_2) (i := 82) rfl))), rfl⟩
set_option maxRecDepth 8000 in
theorem zw_323 : (Cond.methodLink "LifeboatHouse" (104 : Nat) ({ cls := "LifeboatHouse", name := "personAt", desc := "(I)LLifeboatHouse$Person;" } : MethodName)) ∈ gtbl := List.mem_filter.mpr ⟨List.mem_append_right _ (List.mem_append_right _ (List.mem_append_left _ (List.mem_of_getElem? (l := tables_1_2) (i := 83) rfl))), rfl⟩
set_option maxRecDepth 8000 in
theorem zw_324 : (Cond.privateMethod ({ cls := "LifeboatHouse", name := "personAt", desc := "(I)LLifeboatHouse$Person;" } : MethodName)) ∈ lw_tbl := List.mem_append_right _ (List.mem_append_right _ (List.mem_append_left _ (List.mem_of_getElem? (l := tables_1_2) (i := 84) rfl)))
set_option maxRecDepth 8000 in
theorem zw_325 : (Cond.instanceMethod ({ cls := "LifeboatHouse", name := "personAt", desc := "(I)LLifeboatHouse$Person;" } : MethodName)) ∈ gtbl := List.mem_filter.mpr ⟨List.mem_append_right _ (List.mem_append_right _ (List.mem_append_left _ (List.mem_of_getElem? (l := tables_1_2) (i := 85) rfl))), rfl⟩
set_option maxRecDepth 8000 in
theorem zw_326 : (Cond.code ({ cls := "LifeboatHouse", name := "personAt", desc := "(I)LLifeboatHouse$Person;" } : MethodName) prog_1_method_53_code (2 : Nat) (Option.some (FieldType.object "LifeboatHouse$Person"))) ∈ gtbl := List.mem_filter.mpr ⟨List.mem_append_right _ (List.mem_append_right _ (List.mem_append_left _ (List.mem_of_getElem? (l := tables_1_2) (i := 86) rfl))), rfl⟩
set_option maxRecDepth 8000 in
theorem zw_327 : (Cond.methodLink "LifeboatHouse" (134 : Nat) ({ cls := "java/util/ArrayList", name := "get", desc := "(I)Ljava/lang/Object;" } : MethodName)) ∈ gtbl := List.mem_filter.mpr ⟨List.mem_append_right _ (List.mem_append_right _ (List.mem_append_left _ (List.mem_of_getElem? (l := tables_1_2) (i := 87) rfl))), rfl⟩
set_option maxRecDepth 8000 in
theorem zw_328 : (Cond.instanceMethod ({ cls := "java/util/ArrayList", name := "get", desc := "(I)Ljava/lang/Object;" } : MethodName)) ∈ gtbl := List.mem_filter.mpr ⟨List.mem_append_right _ (List.mem_append_right _ (List.mem_append_left _ (List.mem_of_getElem? (l := tables_1_2) (i := 88) rfl))), rfl⟩
set_option maxRecDepth 8000 in
theorem zw_329 : (Cond.selects "java/util/ArrayList" ({ cls := "java/util/ArrayList", name := "get", desc := "(I)Ljava/lang/Object;" } : MethodName) ({ cls := "java/util/ArrayList", name := "get", desc := "(I)Ljava/lang/Object;" } : MethodName)) ∈ gtbl := List.mem_filter.mpr ⟨List.mem_append_right _ (List.mem_append_right _ (List.mem_append_left _ (List.mem_of_getElem? (l := tables_1_2) (i := 89) rfl))), rfl⟩
set_option maxRecDepth 8000 in
theorem zw_330 : (Cond.code ({ cls := "java/util/ArrayList", name := "get", desc := "(I)Ljava/lang/Object;" } : MethodName) prog_20_method_20_code (2 : Nat) (Option.some (FieldType.object "java/lang/Object"))) ∈ gtbl := List.mem_filter.mpr ⟨List.mem_append_right _ (List.mem_append_right _ (List.mem_append_left _ (List.mem_of_getElem? (l := tables_1_2) (i := 90) rfl))), rfl⟩
set_option maxRecDepth 8000 in
theorem zw_331 : (Cond.methodLink "java/util/ArrayList" (118 : Nat) ({ cls := "java/util/Objects", name := "checkIndex", desc := "(II)I" } : MethodName)) ∈ gtbl := List.mem_filter.mpr ⟨List.mem_append_right _ (List.mem_append_right _ (List.mem_append_left _ (List.mem_of_getElem? (l := tables_1_2) (i := 91) rfl))), rfl⟩
set_option maxRecDepth 8000 in
theorem zw_332 : (Cond.static ({ cls := "java/util/Objects", name := "checkIndex", desc := "(II)I" } : MethodName)) ∈ gtbl := List.mem_filter.mpr ⟨List.mem_append_right _ (List.mem_append_right _ (List.mem_append_left _ (List.mem_of_getElem? (l := tables_1_2) (i := 92) rfl))), rfl⟩
set_option maxRecDepth 8000 in
theorem zw_333 : (Cond.code ({ cls := "java/util/Objects", name := "checkIndex", desc := "(II)I" } : MethodName) prog_24_method_17_code (2 : Nat) (Option.some FieldType.int)) ∈ gtbl := List.mem_filter.mpr ⟨List.mem_append_right _ (List.mem_append_right _ (List.mem_append_left _ (List.mem_of_getElem? (l := tables_1_2) (i := 93) rfl))), rfl⟩
set_option maxRecDepth 8000 in
theorem zw_334 : (Cond.methodLink "java/util/Objects" (105 : Nat) ({ cls := "jdk/internal/util/Preconditions", name := "checkIndex", desc := "(IILjava/util/function/BiFunction;)I" } : MethodName)) ∈ gtbl := List.mem_filter.mpr ⟨List.mem_append_right _ (List.mem_append_right _ (List.mem_append_left _ (List.mem_of_getElem? (l := tables_1_2) (i := 94) rfl))), rfl⟩
set_option maxRecDepth 8000 in
theorem zw_335 : (Cond.static ({ cls := "jdk/internal/util/Preconditions", name := "checkIndex", desc := "(IILjava/util/function/BiFunction;)I" } : MethodName)) ∈ gtbl := List.mem_filter.mpr ⟨List.mem_append_right _ (List.mem_append_right _ (List.mem_append_left _ (List.mem_of_getElem? (l := tables_1_2) (i := 95) rfl))), rfl⟩
set_option maxRecDepth 8000 in
theorem zw_336 : (Cond.code ({ cls := "jdk/internal/util/Preconditions", name := "checkIndex", desc := "(IILjava/util/function/BiFunction;)I" } : MethodName) prog_28_method_11_code (3 : Nat) (Option.some FieldType.int)) ∈ gtbl := List.mem_filter.mpr ⟨List.mem_append_right _ (List.mem_append_right _ (List.mem_append_left _ (List.mem_of_getElem? (l := tables_1_2) (i := 96) rfl))), rfl⟩
set_option maxRecDepth 8000 in
theorem zw_337 : (Cond.methodLink "java/util/ArrayList" (123 : Nat) ({ cls := "java/util/ArrayList", name := "elementData", desc := "(I)Ljava/lang/Object;" } : MethodName)) ∈ gtbl := List.mem_filter.mpr ⟨List.mem_append_right _ (List.mem_append_right _ (List.mem_append_left _ (List.mem_of_getElem? (l := tables_1_2) (i := 97) rfl))), rfl⟩
set_option maxRecDepth 8000 in
theorem zw_338 : (Cond.instanceMethod ({ cls := "java/util/ArrayList", name := "elementData", desc := "(I)Ljava/lang/Object;" } : MethodName)) ∈ gtbl := List.mem_filter.mpr ⟨List.mem_append_right _ (List.mem_append_right _ (List.mem_append_left _ (List.mem_of_getElem? (l := tables_1_2) (i := 98) rfl))), rfl⟩
set_option maxRecDepth 8000 in
theorem zw_339 : (Cond.selects "java/util/ArrayList" ({ cls := "java/util/ArrayList", name := "elementData", desc := "(I)Ljava/lang/Object;" } : MethodName) ({ cls := "java/util/ArrayList", name := "elementData", desc := "(I)Ljava/lang/Object;" } : MethodName)) ∈ gtbl := List.mem_filter.mpr ⟨List.mem_append_right _ (List.mem_append_right _ (List.mem_append_left _ (List.mem_of_getElem? (l := tables_1_2) (i := 99) rfl))), rfl⟩
set_option maxRecDepth 8000 in
theorem zw_340 : (Cond.code ({ cls := "java/util/ArrayList", name := "elementData", desc := "(I)Ljava/lang/Object;" } : MethodName) prog_20_method_18_code (2 : Nat) (Option.some (FieldType.object "java/lang/Object"))) ∈ gtbl := List.mem_filter.mpr ⟨List.mem_append_right _ (List.mem_append_right _ (List.mem_append_left _ (List.mem_of_getElem? (l := tables_1_2) (i := 100) rfl))), rfl⟩
set_option maxRecDepth 8000 in
theorem zw_341 : (Cond.methodLink "LifeboatHouseLaw" (27 : Nat) ({ cls := "LifeboatHouse", name := "page", desc := "(IZ)I" } : MethodName)) ∈ gtbl := List.mem_filter.mpr ⟨List.mem_append_right _ (List.mem_append_right _ (List.mem_append_left _ (List.mem_of_getElem? (l := tables_1_2) (i := 101) rfl))), rfl⟩
set_option maxRecDepth 8000 in
theorem zw_342 : (Cond.instanceMethod ({ cls := "LifeboatHouse", name := "page", desc := "(IZ)I" } : MethodName)) ∈ gtbl := List.mem_filter.mpr ⟨List.mem_append_right _ (List.mem_append_right _ (List.mem_append_left _ (List.mem_of_getElem? (l := tables_1_2) (i := 102) rfl))), rfl⟩
set_option maxRecDepth 8000 in
theorem zw_343 : (Cond.selects "LifeboatHouse" ({ cls := "LifeboatHouse", name := "page", desc := "(IZ)I" } : MethodName) ({ cls := "LifeboatHouse", name := "page", desc := "(IZ)I" } : MethodName)) ∈ gtbl := List.mem_filter.mpr ⟨List.mem_append_right _ (List.mem_append_right _ (List.mem_append_left _ (List.mem_of_getElem? (l := tables_1_2) (i := 103) rfl))), rfl⟩
set_option maxRecDepth 8000 in
theorem zw_344 : (Cond.code ({ cls := "LifeboatHouse", name := "page", desc := "(IZ)I" } : MethodName) prog_1_method_5_code (5 : Nat) (Option.some FieldType.int)) ∈ gtbl := List.mem_filter.mpr ⟨List.mem_append_right _ (List.mem_append_right _ (List.mem_append_left _ (List.mem_of_getElem? (l := tables_1_2) (i := 104) rfl))), rfl⟩
set_option maxRecDepth 8000 in
theorem zw_345 : (Cond.methodLink "LifeboatHouse" (111 : Nat) ({ cls := "LifeboatHouse", name := "bandNow", desc := "()I" } : MethodName)) ∈ gtbl := List.mem_filter.mpr ⟨List.mem_append_right _ (List.mem_append_right _ (List.mem_append_left _ (List.mem_of_getElem? (l := tables_1_2) (i := 105) rfl))), rfl⟩
set_option maxRecDepth 8000 in
theorem zw_346 : (Cond.privateMethod ({ cls := "LifeboatHouse", name := "bandNow", desc := "()I" } : MethodName)) ∈ lw_tbl := List.mem_append_right _ (List.mem_append_right _ (List.mem_append_left _ (List.mem_of_getElem? (l := tables_1_2) (i := 106) rfl)))
set_option maxRecDepth 8000 in
theorem zw_347 : (Cond.instanceMethod ({ cls := "LifeboatHouse", name := "bandNow", desc := "()I" } : MethodName)) ∈ gtbl := List.mem_filter.mpr ⟨List.mem_append_right _ (List.mem_append_right _ (List.mem_append_left _ (List.mem_of_getElem? (l := tables_1_2) (i := 107) rfl))), rfl⟩
set_option maxRecDepth 8000 in
theorem zw_348 : (Cond.code ({ cls := "LifeboatHouse", name := "bandNow", desc := "()I" } : MethodName) prog_1_method_15_code (3 : Nat) (Option.some FieldType.int)) ∈ gtbl := List.mem_filter.mpr ⟨List.mem_append_right _ (List.mem_append_right _ (List.mem_append_left _ (List.mem_of_getElem? (l := tables_1_2) (i := 108) rfl))), rfl⟩
set_option maxRecDepth 8000 in
theorem zw_349 : (Cond.methodLink "LifeboatHouseLaw" (32 : Nat) ({ cls := "LifeboatHouse", name := "partOf", desc := "(II)I" } : MethodName)) ∈ gtbl := List.mem_filter.mpr ⟨List.mem_append_right _ (List.mem_append_right _ (List.mem_append_left _ (List.mem_of_getElem? (l := tables_1_2) (i := 109) rfl))), rfl⟩
set_option maxRecDepth 8000 in
theorem zw_350 : (Cond.instanceMethod ({ cls := "LifeboatHouse", name := "partOf", desc := "(II)I" } : MethodName)) ∈ gtbl := List.mem_filter.mpr ⟨List.mem_append_right _ (List.mem_append_right _ (List.mem_append_left _ (List.mem_of_getElem? (l := tables_1_2) (i := 110) rfl))), rfl⟩
set_option maxRecDepth 8000 in
theorem zw_351 : (Cond.selects "LifeboatHouse" ({ cls := "LifeboatHouse", name := "partOf", desc := "(II)I" } : MethodName) ({ cls := "LifeboatHouse", name := "partOf", desc := "(II)I" } : MethodName)) ∈ gtbl := List.mem_filter.mpr ⟨List.mem_append_right _ (List.mem_append_right _ (List.mem_append_left _ (List.mem_of_getElem? (l := tables_1_2) (i := 111) rfl))), rfl⟩
set_option maxRecDepth 8000 in
theorem zw_352 : (Cond.code ({ cls := "LifeboatHouse", name := "partOf", desc := "(II)I" } : MethodName) prog_1_method_6_code (4 : Nat) (Option.some FieldType.int)) ∈ gtbl := List.mem_filter.mpr ⟨List.mem_append_right _ (List.mem_append_right _ (List.mem_append_left _ (List.mem_of_getElem? (l := tables_1_2) (i := 112) rfl))), rfl⟩
set_option maxRecDepth 8000 in
theorem zw_353 : (Cond.methodLink "LifeboatHouse" (120 : Nat) ({ cls := "LifeboatHouse", name := "isBand", desc := "(I)Z" } : MethodName)) ∈ gtbl := List.mem_filter.mpr ⟨List.mem_append_right _ (List.mem_append_right _ (List.mem_append_left _ (List.mem_of_getElem? (l := tables_1_2) (i := 113) rfl))), rfl⟩
set_option maxRecDepth 8000 in
theorem zw_354 : (Cond.static ({ cls := "LifeboatHouse", name := "isBand", desc := "(I)Z" } : MethodName)) ∈ gtbl := List.mem_filter.mpr ⟨List.mem_append_right _ (List.mem_append_right _ (List.mem_append_left _ (List.mem_of_getElem? (l := tables_1_2) (i := 114) rfl))), rfl⟩
set_option maxRecDepth 8000 in
theorem zw_355 : (Cond.code ({ cls := "LifeboatHouse", name := "isBand", desc := "(I)Z" } : MethodName) prog_1_method_50_code (1 : Nat) (Option.some FieldType.boolean)) ∈ gtbl := List.mem_filter.mpr ⟨List.mem_append_right _ (List.mem_append_right _ (List.mem_append_left _ (List.mem_of_getElem? (l := tables_1_2) (i := 115) rfl))), rfl⟩
set_option maxRecDepth 8000 in
theorem zw_356 : (Cond.methodLink "LifeboatHouse" (123 : Nat) ({ cls := "LifeboatHouse$Person", name := "partIn", desc := "(II)I" } : MethodName)) ∈ gtbl := List.mem_filter.mpr ⟨List.mem_append_right _ (List.mem_append_right _ (List.mem_append_left _ (List.mem_of_getElem? (l := tables_1_2) (i := 116) rfl))), rfl⟩
set_option maxRecDepth 8000 in
theorem zw_357 : (Cond.instanceMethod ({ cls := "LifeboatHouse$Person", name := "partIn", desc := "(II)I" } : MethodName)) ∈ gtbl := List.mem_filter.mpr ⟨List.mem_append_right _ (List.mem_append_right _ (List.mem_append_left _ (List.mem_of_getElem? (l := tables_1_2) (i := 117) rfl))), rfl⟩
set_option maxRecDepth 8000 in
theorem zw_358 : (Cond.selects "LifeboatHouse$Person" ({ cls := "LifeboatHouse$Person", name := "partIn", desc := "(II)I" } : MethodName) ({ cls := "LifeboatHouse$Person", name := "partIn", desc := "(II)I" } : MethodName)) ∈ gtbl := List.mem_filter.mpr ⟨List.mem_append_right _ (List.mem_append_right _ (List.mem_append_left _ (List.mem_of_getElem? (l := tables_1_2) (i := 118) rfl))), rfl⟩
set_option maxRecDepth 8000 in
theorem zw_359 : (Cond.code ({ cls := "LifeboatHouse$Person", name := "partIn", desc := "(II)I" } : MethodName) prog_8_method_2_code (5 : Nat) (Option.some FieldType.int)) ∈ gtbl := List.mem_filter.mpr ⟨List.mem_append_right _ (List.mem_append_right _ (List.mem_append_left _ (List.mem_of_getElem? (l := tables_1_2) (i := 119) rfl))), rfl⟩
set_option maxRecDepth 8000 in
theorem zw_360 : (Cond.methodLink "LifeboatHouseLaw" (36 : Nat) ({ cls := "LifeboatHouse", name := "set", desc := "(II)I" } : MethodName)) ∈ gtbl := List.mem_filter.mpr ⟨List.mem_append_right _ (List.mem_append_right _ (List.mem_append_left _ (List.mem_of_getElem? (l := tables_1_2) (i := 120) rfl))), rfl⟩
set_option maxRecDepth 8000 in
theorem zw_361 : (Cond.instanceMethod ({ cls := "LifeboatHouse", name := "set", desc := "(II)I" } : MethodName)) ∈ gtbl := List.mem_filter.mpr ⟨List.mem_append_right _ (List.mem_append_right _ (List.mem_append_left _ (List.mem_of_getElem? (l := tables_1_2) (i := 121) rfl))), rfl⟩
set_option maxRecDepth 8000 in
theorem zw_362 : (Cond.selects "LifeboatHouse" ({ cls := "LifeboatHouse", name := "set", desc := "(II)I" } : MethodName) ({ cls := "LifeboatHouse", name := "set", desc := "(II)I" } : MethodName)) ∈ gtbl := List.mem_filter.mpr ⟨List.mem_append_right _ (List.mem_append_right _ (List.mem_append_left _ (List.mem_of_getElem? (l := tables_1_2) (i := 122) rfl))), rfl⟩
set_option maxRecDepth 8000 in
theorem zw_363 : (Cond.code ({ cls := "LifeboatHouse", name := "set", desc := "(II)I" } : MethodName) prog_1_method_7_code (5 : Nat) (Option.some FieldType.int)) ∈ gtbl := List.mem_filter.mpr ⟨List.mem_append_right _ (List.mem_append_right _ (List.mem_append_left _ (List.mem_of_getElem? (l := tables_1_2) (i := 123) rfl))), rfl⟩
set_option maxRecDepth 8000 in
theorem zw_364 : (Cond.methodLink "LifeboatHouseLaw" (40 : Nat) ({ cls := "LifeboatHouse", name := "chance", desc := "(II)I" } : MethodName)) ∈ gtbl := List.mem_filter.mpr ⟨List.mem_append_right _ (List.mem_append_right _ (List.mem_append_left _ (List.mem_of_getElem? (l := tables_1_2) (i := 124) rfl))), rfl⟩
set_option maxRecDepth 8000 in
theorem zw_365 : (Cond.instanceMethod ({ cls := "LifeboatHouse", name := "chance", desc := "(II)I" } : MethodName)) ∈ gtbl := List.mem_filter.mpr ⟨List.mem_append_right _ (List.mem_append_right _ (List.mem_append_left _ (List.mem_of_getElem? (l := tables_1_2) (i := 125) rfl))), rfl⟩
set_option maxRecDepth 8000 in
theorem zw_366 : (Cond.selects "LifeboatHouse" ({ cls := "LifeboatHouse", name := "chance", desc := "(II)I" } : MethodName) ({ cls := "LifeboatHouse", name := "chance", desc := "(II)I" } : MethodName)) ∈ gtbl := List.mem_filter.mpr ⟨List.mem_append_right _ (List.mem_append_right _ (List.mem_append_left _ (List.mem_of_getElem? (l := tables_1_2) (i := 126) rfl))), rfl⟩
set_option maxRecDepth 8000 in
theorem zw_367 : (Cond.code ({ cls := "LifeboatHouse", name := "chance", desc := "(II)I" } : MethodName) prog_1_method_8_code (3 : Nat) (Option.some FieldType.int)) ∈ gtbl := List.mem_filter.mpr ⟨List.mem_append_right _ (List.mem_append_right _ (List.mem_append_left _ (List.mem_of_getElem? (l := tables_1_2) (i := 127) rfl))), rfl⟩
set_option maxRecDepth 8000 in
theorem zw_368 : (Cond.methodLink "LifeboatHouse" (127 : Nat) ({ cls := "LifeboatHouse", name := "crewChance", desc := "(II)I" } : MethodName)) ∈ gtbl := List.mem_filter.mpr ⟨List.mem_append_right _ (List.mem_append_right _ (List.mem_append_left _ (List.mem_of_getElem? (l := tables_1_2) (i := 128) rfl))), rfl⟩
set_option maxRecDepth 8000 in
theorem zw_369 : (Cond.privateMethod ({ cls := "LifeboatHouse", name := "crewChance", desc := "(II)I" } : MethodName)) ∈ lw_tbl := List.mem_append_right _ (List.mem_append_right _ (List.mem_append_left _ (List.mem_of_getElem? (l := tables_1_2) (i := 129) rfl)))
set_option maxRecDepth 8000 in
theorem zw_370 : (Cond.instanceMethod ({ cls := "LifeboatHouse", name := "crewChance", desc := "(II)I" } : MethodName)) ∈ gtbl := List.mem_filter.mpr ⟨List.mem_append_right _ (List.mem_append_right _ (List.mem_append_left _ (List.mem_of_getElem? (l := tables_1_2) (i := 130) rfl))), rfl⟩
set_option maxRecDepth 8000 in
theorem zw_371 : (Cond.code ({ cls := "LifeboatHouse", name := "crewChance", desc := "(II)I" } : MethodName) prog_1_method_10_code (6 : Nat) (Option.some FieldType.int)) ∈ gtbl := List.mem_filter.mpr ⟨List.mem_append_right _ (List.mem_append_right _ (List.mem_append_left _ (List.mem_of_getElem? (l := tables_1_2) (i := 131) rfl))), rfl⟩
set_option maxRecDepth 8000 in
theorem zw_372 : (Cond.methodLink "LifeboatHouse" (131 : Nat) ({ cls := "LifeboatHouse$CrewRows", name := "clear", desc := "()V" } : MethodName)) ∈ gtbl := List.mem_filter.mpr ⟨List.mem_append_right _ (List.mem_append_right _ (List.mem_append_left _ (List.mem_of_getElem? (l := tables_1_2) (i := 132) rfl))), rfl⟩
set_option maxRecDepth 8000 in
theorem zw_373 : (Cond.instanceMethod ({ cls := "LifeboatHouse$CrewRows", name := "clear", desc := "()V" } : MethodName)) ∈ gtbl := List.mem_filter.mpr ⟨List.mem_append_right _ (List.mem_append_right _ (List.mem_append_left _ (List.mem_of_getElem? (l := tables_1_2) (i := 133) rfl))), rfl⟩
set_option maxRecDepth 8000 in
theorem zw_374 : (Cond.selects "LifeboatHouse$CrewRows" ({ cls := "LifeboatHouse$CrewRows", name := "clear", desc := "()V" } : MethodName) ({ cls := "LifeboatHouse$CrewRows", name := "clear", desc := "()V" } : MethodName)) ∈ gtbl := List.mem_filter.mpr ⟨List.mem_append_right _ (List.mem_append_right _ (List.mem_append_left _ (List.mem_of_getElem? (l := tables_1_2) (i := 134) rfl))), rfl⟩
set_option maxRecDepth 8000 in
theorem zw_375 : (Cond.code ({ cls := "LifeboatHouse$CrewRows", name := "clear", desc := "()V" } : MethodName) prog_4_method_2_code (1 : Nat) (Option.none : Option FieldType)) ∈ gtbl := List.mem_filter.mpr ⟨List.mem_append_right _ (List.mem_append_right _ (List.mem_append_left _ (List.mem_of_getElem? (l := tables_1_2) (i := 135) rfl))), rfl⟩
set_option maxRecDepth 8000 in
theorem zw_376 : (Cond.methodLink "LifeboatHouse$CrewRows" (19 : Nat) ({ cls := "java/util/Arrays", name := "fill", desc := "([II)V" } : MethodName)) ∈ gtbl := List.mem_filter.mpr ⟨List.mem_append_right _ (List.mem_append_right _ (List.mem_append_left _ (List.mem_of_getElem? (l := tables_1_2) (i := 136) rfl))), rfl⟩
set_option maxRecDepth 8000 in
theorem zw_377 : (Cond.constant "LifeboatHouse$CrewRows" (25 : Nat) (1048576 : Int32)) ∈ gtbl := List.mem_filter.mpr ⟨List.mem_append_right _ (List.mem_append_right _ (List.mem_append_left _ (List.mem_of_getElem? (l := tables_1_2) (i := 137) rfl))), rfl⟩
set_option maxRecDepth 8000 in
theorem zw_378 : (Cond.methodLink "LifeboatHouse" (144 : Nat) ({ cls := "LifeboatHouse$CrewRows", name := "mayCome", desc := "(II)V" } : MethodName)) ∈ gtbl := List.mem_filter.mpr ⟨List.mem_append_right _ (List.mem_append_right _ (List.mem_append_left _ (List.mem_of_getElem? (l := tables_1_2) (i := 138) rfl))), rfl⟩
set_option maxRecDepth 8000 in
theorem zw_379 : (Cond.instanceMethod ({ cls := "LifeboatHouse$CrewRows", name := "mayCome", desc := "(II)V" } : MethodName)) ∈ gtbl := List.mem_filter.mpr ⟨List.mem_append_right _ (List.mem_append_right _ (List.mem_append_left _ (List.mem_of_getElem? (l := tables_1_2) (i := 139) rfl))), rfl⟩
set_option maxRecDepth 8000 in
theorem zw_380 : (Cond.selects "LifeboatHouse$CrewRows" ({ cls := "LifeboatHouse$CrewRows", name := "mayCome", desc := "(II)V" } : MethodName) ({ cls := "LifeboatHouse$CrewRows", name := "mayCome", desc := "(II)V" } : MethodName)) ∈ gtbl := List.mem_filter.mpr ⟨List.mem_append_right _ (List.mem_append_right _ (List.mem_append_left _ (List.mem_of_getElem? (l := tables_1_2) (i := 140) rfl))), rfl⟩
set_option maxRecDepth 8000 in
theorem zw_381 : (Cond.code ({ cls := "LifeboatHouse$CrewRows", name := "mayCome", desc := "(II)V" } : MethodName) prog_4_method_3_code (6 : Nat) (Option.none : Option FieldType)) ∈ gtbl := List.mem_filter.mpr ⟨List.mem_append_right _ (List.mem_append_right _ (List.mem_append_left _ (List.mem_of_getElem? (l := tables_1_2) (i := 141) rfl))), rfl⟩
set_option maxRecDepth 8000 in
theorem zw_382 : (Cond.methodLink "LifeboatHouse$CrewRows" (26 : Nat) ({ cls := "LifeboatHouse$CrewRows", name := "rowWith", desc := "(II)I" } : MethodName)) ∈ gtbl := List.mem_filter.mpr ⟨List.mem_append_right _ (List.mem_append_right _ (List.mem_append_left _ (List.mem_of_getElem? (l := tables_1_2) (i := 142) rfl))), rfl⟩
set_option maxRecDepth 8000 in
theorem zw_383 : (Cond.static ({ cls := "LifeboatHouse$CrewRows", name := "rowWith", desc := "(II)I" } : MethodName)) ∈ gtbl := List.mem_filter.mpr ⟨List.mem_append_right _ (List.mem_append_right _ (List.mem_append_left _ (List.mem_of_getElem? (l := tables_1_2) (i := 143) rfl))), rfl⟩
set_option maxRecDepth 8000 in
theorem zw_384 : (Cond.code ({ cls := "LifeboatHouse$CrewRows", name := "rowWith", desc := "(II)I" } : MethodName) prog_4_method_5_code (3 : Nat) (Option.some FieldType.int)) ∈ gtbl := List.mem_filter.mpr ⟨List.mem_append_right _ (List.mem_append_right _ (List.mem_append_left _ (List.mem_of_getElem? (l := tables_1_2) (i := 144) rfl))), rfl⟩
set_option maxRecDepth 8000 in
theorem zw_385 : (Cond.methodLink "LifeboatHouse$CrewRows" (34 : Nat) ({ cls := "LifeboatHouse$CrewRows", name := "stepUp", desc := "(III)I" } : MethodName)) ∈ gtbl := List.mem_filter.mpr ⟨List.mem_append_right _ (List.mem_append_right _ (List.mem_append_left _ (List.mem_of_getElem? (l := tables_1_2) (i := 145) rfl))), rfl⟩
set_option maxRecDepth 8000 in
theorem zw_386 : (Cond.static ({ cls := "LifeboatHouse$CrewRows", name := "stepUp", desc := "(III)I" } : MethodName)) ∈ gtbl := List.mem_filter.mpr ⟨List.mem_append_right _ (List.mem_append_right _ (List.mem_append_left _ (List.mem_of_getElem? (l := tables_1_2) (i := 146) rfl))), rfl⟩
set_option maxRecDepth 8000 in
theorem zw_387 : (Cond.code ({ cls := "LifeboatHouse$CrewRows", name := "stepUp", desc := "(III)I" } : MethodName) prog_4_method_6_code (3 : Nat) (Option.some FieldType.int)) ∈ gtbl := List.mem_filter.mpr ⟨List.mem_append_right _ (List.mem_append_right _ (List.mem_append_left _ (List.mem_of_getElem? (l := tables_1_2) (i := 147) rfl))), rfl⟩
set_option maxRecDepth 8000 in
theorem zw_388 : (Cond.methodLink "LifeboatHouse" (148 : Nat) ({ cls := "LifeboatHouse$CrewRows", name := "standing", desc := "(I)I" } : MethodName)) ∈ gtbl := List.mem_filter.mpr ⟨List.mem_append_right _ (List.mem_append_right _ (List.mem_append_left _ (List.mem_of_getElem? (l := tables_1_2) (i := 148) rfl))), rfl⟩
set_option maxRecDepth 8000 in
theorem zw_389 : (Cond.instanceMethod ({ cls := "LifeboatHouse$CrewRows", name := "standing", desc := "(I)I" } : MethodName)) ∈ gtbl := List.mem_filter.mpr ⟨List.mem_append_right _ (List.mem_append_right _ (List.mem_append_left _ (List.mem_of_getElem? (l := tables_1_2) (i := 149) rfl))), rfl⟩
set_option maxRecDepth 8000 in
theorem zw_390 : (Cond.selects "LifeboatHouse$CrewRows" ({ cls := "LifeboatHouse$CrewRows", name := "standing", desc := "(I)I" } : MethodName) ({ cls := "LifeboatHouse$CrewRows", name := "standing", desc := "(I)I" } : MethodName)) ∈ gtbl := List.mem_filter.mpr ⟨List.mem_append_right _ (List.mem_append_right _ (List.mem_append_left _ (List.mem_of_getElem? (l := tables_1_2) (i := 150) rfl))), rfl⟩
set_option maxRecDepth 8000 in
theorem zw_391 : (Cond.code ({ cls := "LifeboatHouse$CrewRows", name := "standing", desc := "(I)I" } : MethodName) prog_4_method_4_code (4 : Nat) (Option.some FieldType.int)) ∈ gtbl := List.mem_filter.mpr ⟨List.mem_append_right _ (List.mem_append_right _ (List.mem_append_left _ (List.mem_of_getElem? (l := tables_1_2) (i := 151) rfl))), rfl⟩
set_option maxRecDepth 8000 in
theorem zw_392 : (Cond.methodLink "LifeboatHouse$CrewRows" (30 : Nat) ({ cls := "LifeboatHouse$CrewRows", name := "stands", desc := "(II)Z" } : MethodName)) ∈ gtbl := List.mem_filter.mpr ⟨List.mem_append_right _ (List.mem_append_right _ (List.mem_append_left _ (List.mem_of_getElem? (l := tables_1_2) (i := 152) rfl))), rfl⟩
set_option maxRecDepth 8000 in
theorem zw_393 : (Cond.static ({ cls := "LifeboatHouse$CrewRows", name := "stands", desc := "(II)Z" } : MethodName)) ∈ gtbl := List.mem_filter.mpr ⟨List.mem_append_right _ (List.mem_append_right _ (List.mem_append_left _ (List.mem_of_getElem? (l := tables_1_2) (i := 153) rfl))), rfl⟩
set_option maxRecDepth 8000 in
theorem zw_394 : (Cond.code ({ cls := "LifeboatHouse$CrewRows", name := "stands", desc := "(II)Z" } : MethodName) prog_4_method_7_code (9 : Nat) (Option.some FieldType.boolean)) ∈ gtbl := List.mem_filter.mpr ⟨List.mem_append_right _ (List.mem_append_right _ (List.mem_append_left _ (List.mem_of_getElem? (l := tables_1_2) (i := 154) rfl))), rfl⟩
set_option maxRecDepth 8000 in
theorem zw_395 : (Cond.methodLink "LifeboatHouseLaw" (44 : Nat) ({ cls := "LifeboatHouse", name := "weak", desc := "(II)I" } : MethodName)) ∈ gtbl := List.mem_filter.mpr ⟨List.mem_append_right _ (List.mem_append_right _ (List.mem_append_left _ (List.mem_of_getElem? (l := tables_1_2) (i := 155) rfl))), rfl⟩
set_option maxRecDepth 8000 in
theorem zw_396 : (Cond.instanceMethod ({ cls := "LifeboatHouse", name := "weak", desc := "(II)I" } : MethodName)) ∈ gtbl := List.mem_filter.mpr ⟨List.mem_append_right _ (List.mem_append_right _ (List.mem_append_left _ (List.mem_of_getElem? (l := tables_1_2) (i := 156) rfl))), rfl⟩
set_option maxRecDepth 8000 in
theorem zw_397 : (Cond.selects "LifeboatHouse" ({ cls := "LifeboatHouse", name := "weak", desc := "(II)I" } : MethodName) ({ cls := "LifeboatHouse", name := "weak", desc := "(II)I" } : MethodName)) ∈ gtbl := List.mem_filter.mpr ⟨List.mem_append_right _ (List.mem_append_right _ (List.mem_append_left _ (List.mem_of_getElem? (l := tables_1_2) (i := 157) rfl))), rfl⟩
set_option maxRecDepth 8000 in
theorem zw_398 : (Cond.code ({ cls := "LifeboatHouse", name := "weak", desc := "(II)I" } : MethodName) prog_1_method_9_code (7 : Nat) (Option.some FieldType.int)) ∈ gtbl := List.mem_filter.mpr ⟨List.mem_append_right _ (List.mem_append_right _ (List.mem_append_left _ (List.mem_of_getElem? (l := tables_1_2) (i := 158) rfl))), rfl⟩
set_option maxRecDepth 8000 in
theorem zw_399 : (Cond.constant "LifeboatHouse" (130 : Nat) (1048576 : Int32)) ∈ gtbl := List.mem_filter.mpr ⟨List.mem_append_right _ (List.mem_append_right _ (List.mem_append_left _ (List.mem_of_getElem? (l := tables_1_2) (i := 159) rfl))), rfl⟩
set_option maxRecDepth 8000 in
theorem zw_400 : (Cond.methodLink "LifeboatHouseLaw" (48 : Nat) ({ cls := "LifeboatHouse", name := "tide", desc := "(II)I" } : MethodName)) ∈ gtbl := List.mem_filter.mpr ⟨List.mem_append_right _ (List.mem_append_right _ (List.mem_append_left _ (List.mem_of_getElem? (l := tables_1_2) (i := 160) rfl))), rfl⟩
set_option maxRecDepth 8000 in
theorem zw_401 : (Cond.instanceMethod ({ cls := "LifeboatHouse", name := "tide", desc := "(II)I" } : MethodName)) ∈ gtbl := List.mem_filter.mpr ⟨List.mem_append_right _ (List.mem_append_right _ (List.mem_append_left _ (List.mem_of_getElem? (l := tables_1_2) (i := 161) rfl))), rfl⟩
set_option maxRecDepth 8000 in
theorem zw_402 : (Cond.selects "LifeboatHouse" ({ cls := "LifeboatHouse", name := "tide", desc := "(II)I" } : MethodName) ({ cls := "LifeboatHouse", name := "tide", desc := "(II)I" } : MethodName)) ∈ gtbl := List.mem_filter.mpr ⟨List.mem_append_right _ (List.mem_append_right _ (List.mem_append_left _ (List.mem_of_getElem? (l := tables_1_2) (i := 162) rfl))), rfl⟩
set_option maxRecDepth 8000 in
theorem zw_403 : (Cond.code ({ cls := "LifeboatHouse", name := "tide", desc := "(II)I" } : MethodName) prog_1_method_11_code (4 : Nat) (Option.some FieldType.int)) ∈ gtbl := List.mem_filter.mpr ⟨List.mem_append_right _ (List.mem_append_right _ (List.mem_append_left _ (List.mem_of_getElem? (l := tables_1_2) (i := 163) rfl))), rfl⟩
set_option maxRecDepth 8000 in
theorem zw_404 : (Cond.methodLink "LifeboatHouse" (151 : Nat) ({ cls := "LifeboatHouse$Tides", name := "tell", desc := "(II)V" } : MethodName)) ∈ gtbl := List.mem_filter.mpr ⟨List.mem_append_right _ (List.mem_append_right _ (List.mem_append_left _ (List.mem_of_getElem? (l := tables_1_2) (i := 164) rfl))), rfl⟩
set_option maxRecDepth 8000 in
theorem zw_405 : (Cond.instanceMethod ({ cls := "LifeboatHouse$Tides", name := "tell", desc := "(II)V" } : MethodName)) ∈ gtbl := List.mem_filter.mpr ⟨List.mem_append_right _ (List.mem_append_right _ (List.mem_append_left _ (List.mem_of_getElem? (l := tables_1_2) (i := 165) rfl))), rfl⟩
set_option maxRecDepth 8000 in
theorem zw_406 : (Cond.selects "LifeboatHouse$Tides" ({ cls := "LifeboatHouse$Tides", name := "tell", desc := "(II)V" } : MethodName) ({ cls := "LifeboatHouse$Tides", name := "tell", desc := "(II)V" } : MethodName)) ∈ gtbl := List.mem_filter.mpr ⟨List.mem_append_right _ (List.mem_append_right _ (List.mem_append_left _ (List.mem_of_getElem? (l := tables_1_2) (i := 166) rfl))), rfl⟩
set_option maxRecDepth 8000 in
theorem zw_407 : (Cond.code ({ cls := "LifeboatHouse$Tides", name := "tell", desc := "(II)V" } : MethodName) prog_10_method_2_code (5 : Nat) (Option.none : Option FieldType)) ∈ gtbl := List.mem_filter.mpr ⟨List.mem_append_right _ (List.mem_append_right _ (List.mem_append_left _ (List.mem_of_getElem? (l := tables_1_2) (i := 167) rfl))), rfl⟩
set_option maxRecDepth 8000 in
theorem zw_408 : (Cond.methodLink "LifeboatHouseLaw" (52 : Nat) ({ cls := "LifeboatHouse", name := "slip", desc := "(II)I" } : MethodName)) ∈ gtbl := List.mem_filter.mpr ⟨List.mem_append_right _ (List.mem_append_right _ (List.mem_append_left _ (List.mem_of_getElem? (l := tables_1_2) (i := 168) rfl))), rfl⟩
set_option maxRecDepth 8000 in
theorem zw_409 : (Cond.instanceMethod ({ cls := "LifeboatHouse", name := "slip", desc := "(II)I" } : MethodName)) ∈ gtbl := List.mem_filter.mpr ⟨List.mem_append_right _ (List.mem_append_right _ (List.mem_append_left _ (List.mem_of_getElem? (l := tables_1_2) (i := 169) rfl))), rfl⟩
set_option maxRecDepth 8000 in
theorem zw_410 : (Cond.selects "LifeboatHouse" ({ cls := "LifeboatHouse", name := "slip", desc := "(II)I" } : MethodName) ({ cls := "LifeboatHouse", name := "slip", desc := "(II)I" } : MethodName)) ∈ gtbl := List.mem_filter.mpr ⟨List.mem_append_right _ (List.mem_append_right _ (List.mem_append_left _ (List.mem_of_getElem? (l := tables_1_2) (i := 170) rfl))), rfl⟩
set_option maxRecDepth 8000 in
theorem zw_411 : (Cond.code ({ cls := "LifeboatHouse", name := "slip", desc := "(II)I" } : MethodName) prog_1_method_12_code (4 : Nat) (Option.some FieldType.int)) ∈ gtbl := List.mem_filter.mpr ⟨List.mem_append_right _ (List.mem_append_right _ (List.mem_append_left _ (List.mem_of_getElem? (l := tables_1_2) (i := 171) rfl))), rfl⟩
set_option maxRecDepth 8000 in
theorem zw_412 : (Cond.methodLink "LifeboatHouse" (154 : Nat) ({ cls := "LifeboatHouse", name := "isOpen", desc := "(II)Z" } : MethodName)) ∈ gtbl := List.mem_filter.mpr ⟨List.mem_append_right _ (List.mem_append_right _ (List.mem_append_left _ (List.mem_of_getElem? (l := tables_1_2) (i := 172) rfl))), rfl⟩
set_option maxRecDepth 8000 in
theorem zw_413 : (Cond.privateMethod ({ cls := "LifeboatHouse", name := "isOpen", desc := "(II)Z" } : MethodName)) ∈ lw_tbl := List.mem_append_right _ (List.mem_append_right _ (List.mem_append_left _ (List.mem_of_getElem? (l := tables_1_2) (i := 173) rfl)))
set_option maxRecDepth 8000 in
theorem zw_414 : (Cond.instanceMethod ({ cls := "LifeboatHouse", name := "isOpen", desc := "(II)Z" } : MethodName)) ∈ gtbl := List.mem_filter.mpr ⟨List.mem_append_right _ (List.mem_append_right _ (List.mem_append_left _ (List.mem_of_getElem? (l := tables_1_2) (i := 174) rfl))), rfl⟩
set_option maxRecDepth 8000 in
theorem zw_415 : (Cond.code ({ cls := "LifeboatHouse", name := "isOpen", desc := "(II)Z" } : MethodName) prog_1_method_14_code (3 : Nat) (Option.some FieldType.boolean)) ∈ gtbl := List.mem_filter.mpr ⟨List.mem_append_right _ (List.mem_append_right _ (List.mem_append_left _ (List.mem_of_getElem? (l := tables_1_2) (i := 175) rfl))), rfl⟩
set_option maxRecDepth 8000 in
theorem zw_416 : (Cond.methodLink "LifeboatHouse" (159 : Nat) ({ cls := "LifeboatHouse$Tides", name := "feet", desc := "(I)I" } : MethodName)) ∈ gtbl := List.mem_filter.mpr ⟨List.mem_append_right _ (List.mem_append_right _ (List.mem_append_left _ (List.mem_of_getElem? (l := tables_1_2) (i := 176) rfl))), rfl⟩
set_option maxRecDepth 8000 in
theorem zw_417 : (Cond.instanceMethod ({ cls := "LifeboatHouse$Tides", name := "feet", desc := "(I)I" } : MethodName)) ∈ gtbl := List.mem_filter.mpr ⟨List.mem_append_right _ (List.mem_append_right _ (List.mem_append_left _ (List.mem_of_getElem? (l := tables_1_2) (i := 177) rfl))), rfl⟩
set_option maxRecDepth 8000 in
theorem zw_418 : (Cond.selects "LifeboatHouse$Tides" ({ cls := "LifeboatHouse$Tides", name := "feet", desc := "(I)I" } : MethodName) ({ cls := "LifeboatHouse$Tides", name := "feet", desc := "(I)I" } : MethodName)) ∈ gtbl := List.mem_filter.mpr ⟨List.mem_append_right _ (List.mem_append_right _ (List.mem_append_left _ (List.mem_of_getElem? (l := tables_1_2) (i := 178) rfl))), rfl⟩
set_option maxRecDepth 8000 in
theorem zw_419 : (Cond.code ({ cls := "LifeboatHouse$Tides", name := "feet", desc := "(I)I" } : MethodName) prog_10_method_3_code (3 : Nat) (Option.some FieldType.int)) ∈ gtbl := List.mem_filter.mpr ⟨List.mem_append_right _ (List.mem_append_right _ (List.mem_append_left _ (List.mem_of_getElem? (l := tables_1_2) (i := 179) rfl))), rfl⟩
set_option maxRecDepth 8000 in
theorem zw_420 : (Cond.methodLink "LifeboatHouse$Tides" (23 : Nat) ({ cls := "java/lang/Math", name := "floorMod", desc := "(II)I" } : MethodName)) ∈ gtbl := List.mem_filter.mpr ⟨List.mem_append_right _ (List.mem_append_right _ (List.mem_append_left _ (List.mem_of_getElem? (l := tables_1_2) (i := 180) rfl))), rfl⟩
set_option maxRecDepth 8000 in
theorem zw_421 : (Cond.static ({ cls := "java/lang/Math", name := "floorMod", desc := "(II)I" } : MethodName)) ∈ gtbl := List.mem_filter.mpr ⟨List.mem_append_right _ (List.mem_append_right _ (List.mem_append_left _ (List.mem_of_getElem? (l := tables_1_2) (i := 181) rfl))), rfl⟩
set_option maxRecDepth 8000 in
theorem zw_422 : (Cond.code ({ cls := "java/lang/Math", name := "floorMod", desc := "(II)I" } : MethodName) prog_16_method_50_code (3 : Nat) (Option.some FieldType.int)) ∈ gtbl := List.mem_filter.mpr ⟨List.mem_append_right _ (List.mem_append_right _ (List.mem_append_left _ (List.mem_of_getElem? (l := tables_1_2) (i := 182) rfl))), rfl⟩
set_option maxRecDepth 8000 in
theorem zw_423 : (Cond.methodLink "LifeboatHouseLaw" (56 : Nat) ({ cls := "LifeboatHouse", name := "minutes", desc := "(I)I" } : MethodName)) ∈ gtbl := List.mem_filter.mpr ⟨List.mem_append_right _ (List.mem_append_right _ (List.mem_append_left _ (List.mem_of_getElem? (l := tables_1_2) (i := 183) rfl))), rfl⟩
set_option maxRecDepth 8000 in
theorem zw_424 : (Cond.instanceMethod ({ cls := "LifeboatHouse", name := "minutes", desc := "(I)I" } : MethodName)) ∈ gtbl := List.mem_filter.mpr ⟨List.mem_append_right _ (List.mem_append_right _ (List.mem_append_left _ (List.mem_of_getElem? (l := tables_1_2) (i := 184) rfl))), rfl⟩
set_option maxRecDepth 8000 in
theorem zw_425 : (Cond.selects "LifeboatHouse" ({ cls := "LifeboatHouse", name := "minutes", desc := "(I)I" } : MethodName) ({ cls := "LifeboatHouse", name := "minutes", desc := "(I)I" } : MethodName)) ∈ gtbl := List.mem_filter.mpr ⟨List.mem_append_right _ (List.mem_append_right _ (List.mem_append_left _ (List.mem_of_getElem? (l := tables_1_2) (i := 185) rfl))), rfl⟩
set_option maxRecDepth 8000 in
theorem zw_426 : (Cond.code ({ cls := "LifeboatHouse", name := "minutes", desc := "(I)I" } : MethodName) prog_1_method_13_code (2 : Nat) (Option.some FieldType.int)) ∈ gtbl := List.mem_filter.mpr ⟨List.mem_append_right _ (List.mem_append_right _ (List.mem_append_left _ (List.mem_of_getElem? (l := tables_1_2) (i := 186) rfl))), rfl⟩
set_option maxRecDepth 8000 in
theorem zw_427 : (Cond.constant "LifeboatHouse" (158 : Nat) (200000 : Int32)) ∈ gtbl := List.mem_filter.mpr ⟨List.mem_append_right _ (List.mem_append_right _ (List.mem_append_left _ (List.mem_of_getElem? (l := tables_1_2) (i := 187) rfl))), rfl⟩
set_option maxRecDepth 8000 in
theorem zw_428 : (Cond.methodLink "LifeboatHouseLaw" (61 : Nat) ({ cls := "LifeboatHouse", name := "boat", desc := "(II)I" } : MethodName)) ∈ gtbl := List.mem_filter.mpr ⟨List.mem_append_right _ (List.mem_append_right _ (List.mem_append_left _ (List.mem_of_getElem? (l := tables_1_2) (i := 188) rfl))), rfl⟩
set_option maxRecDepth 8000 in
theorem zw_429 : (Cond.instanceMethod ({ cls := "LifeboatHouse", name := "boat", desc := "(II)I" } : MethodName)) ∈ gtbl := List.mem_filter.mpr ⟨List.mem_append_right _ (List.mem_append_right _ (List.mem_append_left _ (List.mem_of_getElem? (l := tables_1_2) (i := 189) rfl))), rfl⟩
set_option maxRecDepth 8000 in
theorem zw_430 : (Cond.selects "LifeboatHouse" ({ cls := "LifeboatHouse", name := "boat", desc := "(II)I" } : MethodName) ({ cls := "LifeboatHouse", name := "boat", desc := "(II)I" } : MethodName)) ∈ gtbl := List.mem_filter.mpr ⟨List.mem_append_right _ (List.mem_append_right _ (List.mem_append_left _ (List.mem_of_getElem? (l := tables_1_2) (i := 190) rfl))), rfl⟩
set_option maxRecDepth 8000 in
theorem zw_431 : (Cond.code ({ cls := "LifeboatHouse", name := "boat", desc := "(II)I" } : MethodName) prog_1_method_16_code (3 : Nat) (Option.some FieldType.int)) ∈ gtbl := List.mem_filter.mpr ⟨List.mem_append_right _ (List.mem_append_right _ (List.mem_append_left _ (List.mem_of_getElem? (l := tables_1_2) (i := 191) rfl))), rfl⟩
set_option maxRecDepth 8000 in
theorem zw_432 : (Cond.classLink "LifeboatHouse" (162 : Nat) "LifeboatHouse$Boat") ∈ gtbl := List.mem_filter.mpr ⟨List.mem_append_right _ (List.mem_append_right _ (List.mem_append_left _ (List.mem_of_getElem? (l := tables_1_2) (i := 192) rfl))), rfl⟩
set_option maxRecDepth 8000 in
theorem zw_433 : (Cond.instantiable "LifeboatHouse$Boat" (4 : Nat)) ∈ gtbl := List.mem_filter.mpr ⟨List.mem_append_right _ (List.mem_append_right _ (List.mem_append_left _ (List.mem_of_getElem? (l := tables_1_2) (i := 193) rfl))), rfl⟩
set_option maxRecDepth 8000 in
theorem zw_434 : (Cond.methodLink "LifeboatHouse" (164 : Nat) ({ cls := "LifeboatHouse$Boat", name := "<init>", desc := "(II)V" } : MethodName)) ∈ gtbl := List.mem_filter.mpr ⟨List.mem_append_right _ (List.mem_append_right _ (List.mem_append_left _ (List.mem_of_getElem? (l := tables_1_2) (i := 194) rfl))), rfl⟩
set_option maxRecDepth 8000 in
theorem zw_435 : (Cond.instanceMethod ({ cls := "LifeboatHouse$Boat", name := "<init>", desc := "(II)V" } : MethodName)) ∈ gtbl := List.mem_filter.mpr ⟨List.mem_append_right _ (List.mem_append_right _ (List.mem_append_left _ (List.mem_of_getElem? (l := tables_1_2) (i := 195) rfl))), rfl⟩
set_option maxRecDepth 8000 in
theorem zw_436 : (Cond.code ({ cls := "LifeboatHouse$Boat", name := "<init>", desc := "(II)V" } : MethodName) prog_2_method_1_code (3 : Nat) (Option.none : Option FieldType)) ∈ gtbl := List.mem_filter.mpr ⟨List.mem_append_right _ (List.mem_append_right _ (List.mem_append_left _ (List.mem_of_getElem? (l := tables_1_2) (i := 196) rfl))), rfl⟩
set_option maxRecDepth 8000 in
theorem zw_437 : (Cond.methodLink "LifeboatHouse$Boat" (3 : Nat) ({ cls := "java/lang/Object", name := "<init>", desc := "()V" } : MethodName)) ∈ gtbl := List.mem_filter.mpr ⟨List.mem_append_right _ (List.mem_append_right _ (List.mem_append_left _ (List.mem_of_getElem? (l := tables_1_2) (i := 197) rfl))), rfl⟩
set_option maxRecDepth 8000 in
theorem zw_438 : (Cond.fieldLink "LifeboatHouse$Boat" (22 : Nat) "LifeboatHouse$Boat" "fuel" "I") ∈ gtbl := List.mem_filter.mpr ⟨List.mem_append_right _ (List.mem_append_right _ (List.mem_append_left _ (List.mem_of_getElem? (l := tables_1_2) (i := 198) rfl))), rfl⟩
set_option maxRecDepth 8000 in
theorem zw_439 : (Cond.fieldLink "LifeboatHouse" (245 : Nat) "LifeboatHouse$Boat" "fuel" "I") ∈ gtbl := List.mem_filter.mpr ⟨List.mem_append_right _ (List.mem_append_right _ (List.mem_append_left _ (List.mem_of_getElem? (l := tables_1_2) (i := 199) rfl))), rfl⟩
set_option maxRecDepth 8000 in
theorem zw_440 : (Cond.fieldLink "LifeboatHouse$Boat" (9 : Nat) "LifeboatHouse$Boat" "speeds" "[I") ∈ gtbl := List.mem_filter.mpr ⟨List.mem_append_right _ (List.mem_append_right _ (List.mem_append_left _ (List.mem_of_getElem? (l := tables_1_2) (i := 200) rfl))), rfl⟩
set_option maxRecDepth 8000 in
theorem zw_441 : (Cond.fieldLink "LifeboatHouse" (173 : Nat) "LifeboatHouse$Boat" "speeds" "[I") ∈ gtbl := List.mem_filter.mpr ⟨List.mem_append_right _ (List.mem_append_right _ (List.mem_append_left _ (List.mem_of_getElem? (l := tables_1_2) (i := 201) rfl))), rfl⟩
set_option maxRecDepth 8000 in
theorem zw_442 : (Cond.fieldLink "LifeboatHouse$Boat" (19 : Nat) "LifeboatHouse$Boat" "station" "I") ∈ gtbl := List.mem_filter.mpr ⟨List.mem_append_right _ (List.mem_append_right _ (List.mem_append_left _ (List.mem_of_getElem? (l := tables_1_2) (i := 202) rfl))), rfl⟩
set_option maxRecDepth 8000 in
theorem zw_443 : (Cond.fieldLink "LifeboatHouse" (179 : Nat) "LifeboatHouse$Boat" "station" "I") ∈ gtbl := List.mem_filter.mpr ⟨List.mem_append_right _ (List.mem_append_right _ (List.mem_append_left _ (List.mem_of_getElem? (l := tables_1_2) (i := 203) rfl))), rfl⟩
set_option maxRecDepth 8000 in
theorem zw_444 : (Cond.fieldLink "LifeboatHouse$Boat" (15 : Nat) "LifeboatHouse$Boat" "awayTill" "I") ∈ gtbl := List.mem_filter.mpr ⟨List.mem_append_right _ (List.mem_append_right _ (List.mem_append_left _ (List.mem_of_getElem? (l := tables_1_2) (i := 204) rfl))), rfl⟩
set_option maxRecDepth 8000 in
theorem zw_445 : (Cond.fieldLink "LifeboatHouse" (231 : Nat) "LifeboatHouse$Boat" "awayTill" "I") ∈ gtbl := List.mem_filter.mpr ⟨List.mem_append_right _ (List.mem_append_right _ (List.mem_append_left _ (List.mem_of_getElem? (l := tables_1_2) (i := 205) rfl))), rfl⟩
set_option maxRecDepth 8000 in
theorem zw_446 : (Cond.laysFinal "LifeboatHouse$Boat" "LifeboatHouse$Boat" "fuel" "I") ∈ gtbl := List.mem_filter.mpr ⟨List.mem_append_right _ (List.mem_append_right _ (List.mem_append_left _ (List.mem_of_getElem? (l := tables_1_2) (i := 206) rfl))), rfl⟩
set_option maxRecDepth 8000 in
theorem zw_447 : (Cond.soleField "LifeboatHouse$Boat" "fuel") ∈ gtbl := List.mem_filter.mpr ⟨List.mem_append_right _ (List.mem_append_right _ (List.mem_append_left _ (List.mem_of_getElem? (l := tables_1_2) (i := 207) rfl))), rfl⟩
set_option maxRecDepth 8000 in
theorem zw_448 : (Cond.laysFinal "LifeboatHouse$Boat" "LifeboatHouse$Boat" "speeds" "[I") ∈ gtbl := List.mem_filter.mpr ⟨List.mem_append_right _ (List.mem_append_right _ (List.mem_append_left _ (List.mem_of_getElem? (l := tables_1_2) (i := 208) rfl))), rfl⟩
set_option maxRecDepth 8000 in
theorem zw_449 : (Cond.soleField "LifeboatHouse$Boat" "speeds") ∈ gtbl := List.mem_filter.mpr ⟨List.mem_append_right _ (List.mem_append_right _ (List.mem_append_left _ (List.mem_of_getElem? (l := tables_1_2) (i := 209) rfl))), rfl⟩
set_option maxRecDepth 8000 in
theorem zw_450 : (Cond.lays "LifeboatHouse$Boat" "LifeboatHouse$Boat" "station" "I") ∈ gtbl := List.mem_filter.mpr ⟨List.mem_append_right _ (List.mem_append_right _ (List.mem_append_left _ (List.mem_of_getElem? (l := tables_1_2) (i := 210) rfl))), rfl⟩
set_option maxRecDepth 8000 in
theorem zw_451 : (Cond.soleField "LifeboatHouse$Boat" "station") ∈ gtbl := List.mem_filter.mpr ⟨List.mem_append_right _ (List.mem_append_right _ (List.mem_append_left _ (List.mem_of_getElem? (l := tables_1_2) (i := 211) rfl))), rfl⟩
set_option maxRecDepth 8000 in
theorem zw_452 : (Cond.lays "LifeboatHouse$Boat" "LifeboatHouse$Boat" "awayTill" "I") ∈ gtbl := List.mem_filter.mpr ⟨List.mem_append_right _ (List.mem_append_right _ (List.mem_append_left _ (List.mem_of_getElem? (l := tables_1_2) (i := 212) rfl))), rfl⟩
set_option maxRecDepth 8000 in
theorem zw_453 : (Cond.soleField "LifeboatHouse$Boat" "awayTill") ∈ gtbl := List.mem_filter.mpr ⟨List.mem_append_right _ (List.mem_append_right _ (List.mem_append_left _ (List.mem_of_getElem? (l := tables_1_2) (i := 213) rfl))), rfl⟩
set_option maxRecDepth 8000 in
theorem zw_454 : (Cond.superclass "LifeboatHouse$Boat" "java/lang/Object") ∈ gtbl := List.mem_filter.mpr ⟨List.mem_append_right _ (List.mem_append_right _ (List.mem_append_left _ (List.mem_of_getElem? (l := tables_1_2) (i := 214) rfl))), rfl⟩
set_option maxRecDepth 8000 in
theorem zw_455 : (Cond.methodLink "LifeboatHouseLaw" (65 : Nat) ({ cls := "LifeboatHouse", name := "speed", desc := "(III)I" } : MethodName)) ∈ gtbl := List.mem_filter.mpr ⟨List.mem_append_right _ (List.mem_append_right _ (List.mem_append_left _ (List.mem_of_getElem? (l := tables_1_2) (i := 215) rfl))), rfl⟩
set_option maxRecDepth 8000 in
theorem zw_456 : (Cond.instanceMethod ({ cls := "LifeboatHouse", name := "speed", desc := "(III)I" } : MethodName)) ∈ gtbl := List.mem_filter.mpr ⟨List.mem_append_right _ (List.mem_append_right _ (List.mem_append_left _ (List.mem_of_getElem? (l := tables_1_2) (i := 216) rfl))), rfl⟩
set_option maxRecDepth 8000 in
theorem zw_457 : (Cond.selects "LifeboatHouse" ({ cls := "LifeboatHouse", name := "speed", desc := "(III)I" } : MethodName) ({ cls := "LifeboatHouse", name := "speed", desc := "(III)I" } : MethodName)) ∈ gtbl := List.mem_filter.mpr ⟨List.mem_append_right _ (List.mem_append_right _ (List.mem_append_left _ (List.mem_of_getElem? (l := tables_1_2) (i := 217) rfl))), rfl⟩
set_option maxRecDepth 8000 in
theorem zw_458 : (Cond.code ({ cls := "LifeboatHouse", name := "speed", desc := "(III)I" } : MethodName) prog_1_method_17_code (7 : Nat) (Option.some FieldType.int)) ∈ gtbl := List.mem_filter.mpr ⟨List.mem_append_right _ (List.mem_append_right _ (List.mem_append_left _ (List.mem_of_getElem? (l := tables_1_2) (i := 218) rfl))), rfl⟩
set_option maxRecDepth 8000 in
theorem zw_459 : (Cond.methodLink "LifeboatHouse" (166 : Nat) ({ cls := "LifeboatHouse", name := "boatAt", desc := "(I)LLifeboatHouse$Boat;" } : MethodName)) ∈ gtbl := List.mem_filter.mpr ⟨List.mem_append_right _ (List.mem_append_right _ (List.mem_append_left _ (List.mem_of_getElem? (l := tables_1_2) (i := 219) rfl))), rfl⟩
set_option maxRecDepth 8000 in
theorem zw_460 : (Cond.privateMethod ({ cls := "LifeboatHouse", name := "boatAt", desc := "(I)LLifeboatHouse$Boat;" } : MethodName)) ∈ lw_tbl := List.mem_append_right _ (List.mem_append_right _ (List.mem_append_left _ (List.mem_of_getElem? (l := tables_1_2) (i := 220) rfl)))
set_option maxRecDepth 8000 in
theorem zw_461 : (Cond.instanceMethod ({ cls := "LifeboatHouse", name := "boatAt", desc := "(I)LLifeboatHouse$Boat;" } : MethodName)) ∈ gtbl := List.mem_filter.mpr ⟨List.mem_append_right _ (List.mem_append_right _ (List.mem_append_left _ (List.mem_of_getElem? (l := tables_1_2) (i := 221) rfl))), rfl⟩
set_option maxRecDepth 8000 in
theorem zw_462 : (Cond.code ({ cls := "LifeboatHouse", name := "boatAt", desc := "(I)LLifeboatHouse$Boat;" } : MethodName) prog_1_method_54_code (2 : Nat) (Option.some (FieldType.object "LifeboatHouse$Boat"))) ∈ gtbl := List.mem_filter.mpr ⟨List.mem_append_right _ (List.mem_append_right _ (List.mem_append_left _ (List.mem_of_getElem? (l := tables_1_2) (i := 222) rfl))), rfl⟩
set_option maxRecDepth 8000 in
theorem zw_463 : (Cond.methodLink "LifeboatHouse" (170 : Nat) ({ cls := "LifeboatHouse", name := "isSea", desc := "(I)Z" } : MethodName)) ∈ gtbl := List.mem_filter.mpr ⟨List.mem_append_right _ (List.mem_append_right _ (List.mem_append_left _ (List.mem_of_getElem? (l := tables_1_2) (i := 223) rfl))), rfl⟩
set_option maxRecDepth 8000 in
theorem zw_464 : (Cond.static ({ cls := "LifeboatHouse", name := "isSea", desc := "(I)Z" } : MethodName)) ∈ gtbl := List.mem_filter.mpr ⟨List.mem_append_right _ (List.mem_append_right _ (List.mem_append_left _ (List.mem_of_getElem? (l := tables_1_2) (i := 224) rfl))), rfl⟩
set_option maxRecDepth 8000 in
theorem zw_465 : (Cond.code ({ cls := "LifeboatHouse", name := "isSea", desc := "(I)Z" } : MethodName) prog_1_method_51_code (1 : Nat) (Option.some FieldType.boolean)) ∈ gtbl := List.mem_filter.mpr ⟨List.mem_append_right _ (List.mem_append_right _ (List.mem_append_left _ (List.mem_of_getElem? (l := tables_1_2) (i := 225) rfl))), rfl⟩
set_option maxRecDepth 8000 in
theorem zw_466 : (Cond.methodLink "LifeboatHouseLaw" (69 : Nat) ({ cls := "LifeboatHouse", name := "move", desc := "(II)I" } : MethodName)) ∈ gtbl := List.mem_filter.mpr ⟨List.mem_append_right _ (List.mem_append_right _ (List.mem_append_left _ (List.mem_of_getElem? (l := tables_1_2) (i := 226) rfl))), rfl⟩
set_option maxRecDepth 8000 in
theorem zw_467 : (Cond.instanceMethod ({ cls := "LifeboatHouse", name := "move", desc := "(II)I" } : MethodName)) ∈ gtbl := List.mem_filter.mpr ⟨List.mem_append_right _ (List.mem_append_right _ (List.mem_append_left _ (List.mem_of_getElem? (l := tables_1_2) (i := 227) rfl))), rfl⟩
set_option maxRecDepth 8000 in
theorem zw_468 : (Cond.selects "LifeboatHouse" ({ cls := "LifeboatHouse", name := "move", desc := "(II)I" } : MethodName) ({ cls := "LifeboatHouse", name := "move", desc := "(II)I" } : MethodName)) ∈ gtbl := List.mem_filter.mpr ⟨List.mem_append_right _ (List.mem_append_right _ (List.mem_append_left _ (List.mem_of_getElem? (l := tables_1_2) (i := 228) rfl))), rfl⟩
set_option maxRecDepth 8000 in
theorem zw_469 : (Cond.code ({ cls := "LifeboatHouse", name := "move", desc := "(II)I" } : MethodName) prog_1_method_18_code (5 : Nat) (Option.some FieldType.int)) ∈ gtbl := List.mem_filter.mpr ⟨List.mem_append_right _ (List.mem_append_right _ (List.mem_append_left _ (List.mem_of_getElem? (l := tables_1_2) (i := 229) rfl))), rfl⟩
set_option maxRecDepth 8000 in
theorem zw_470 : (Cond.methodLink "LifeboatHouse" (176 : Nat) ({ cls := "LifeboatHouse$Boat", name := "isAway", desc := "(I)Z" } : MethodName)) ∈ gtbl := List.mem_filter.mpr ⟨List.mem_append_right _ (List.mem_append_right _ (List.mem_append_left _ (List.mem_of_getElem? (l := tables_1_2) (i := 230) rfl))), rfl⟩
set_option maxRecDepth 8000 in
theorem zw_471 : (Cond.instanceMethod ({ cls := "LifeboatHouse$Boat", name := "isAway", desc := "(I)Z" } : MethodName)) ∈ gtbl := List.mem_filter.mpr ⟨List.mem_append_right _ (List.mem_append_right _ (List.mem_append_left _ (List.mem_of_getElem? (l := tables_1_2) (i := 231) rfl))), rfl⟩
set_option maxRecDepth 8000 in
theorem zw_472 : (Cond.selects "LifeboatHouse$Boat" ({ cls := "LifeboatHouse$Boat", name := "isAway", desc := "(I)Z" } : MethodName) ({ cls := "LifeboatHouse$Boat", name := "isAway", desc := "(I)Z" } : MethodName)) ∈ gtbl := List.mem_filter.mpr ⟨List.mem_append_right _ (List.mem_append_right _ (List.mem_append_left _ (List.mem_of_getElem? (l := tables_1_2) (i := 232) rfl))), rfl⟩
set_option maxRecDepth 8000 in
theorem zw_473 : (Cond.code ({ cls := "LifeboatHouse$Boat", name := "isAway", desc := "(I)Z" } : MethodName) prog_2_method_2_code (2 : Nat) (Option.some FieldType.boolean)) ∈ gtbl := List.mem_filter.mpr ⟨List.mem_append_right _ (List.mem_append_right _ (List.mem_append_left _ (List.mem_of_getElem? (l := tables_1_2) (i := 233) rfl))), rfl⟩
set_option maxRecDepth 8000 in
theorem zw_474 : (Cond.methodLink "LifeboatHouseLaw" (73 : Nat) ({ cls := "LifeboatHouse", name := "call", desc := "(III)I" } : MethodName)) ∈ gtbl := List.mem_filter.mpr ⟨List.mem_append_right _ (List.mem_append_right _ (List.mem_append_left _ (List.mem_of_getElem? (l := tables_1_2) (i := 234) rfl))), rfl⟩
set_option maxRecDepth 8000 in
theorem zw_475 : (Cond.instanceMethod ({ cls := "LifeboatHouse", name := "call", desc := "(III)I" } : MethodName)) ∈ gtbl := List.mem_filter.mpr ⟨List.mem_append_right _ (List.mem_append_right _ (List.mem_append_left _ (List.mem_of_getElem? (l := tables_1_2) (i := 235) rfl))), rfl⟩
set_option maxRecDepth 8000 in
theorem zw_476 : (Cond.selects "LifeboatHouse" ({ cls := "LifeboatHouse", name := "call", desc := "(III)I" } : MethodName) ({ cls := "LifeboatHouse", name := "call", desc := "(III)I" } : MethodName)) ∈ gtbl := List.mem_filter.mpr ⟨List.mem_append_right _ (List.mem_append_right _ (List.mem_append_left _ (List.mem_of_getElem? (l := tables_1_2) (i := 236) rfl))), rfl⟩
set_option maxRecDepth 8000 in
theorem zw_477 : (Cond.code ({ cls := "LifeboatHouse", name := "call", desc := "(III)I" } : MethodName) prog_1_method_19_code (4 : Nat) (Option.some FieldType.int)) ∈ gtbl := List.mem_filter.mpr ⟨List.mem_append_right _ (List.mem_append_right _ (List.mem_append_left _ (List.mem_of_getElem? (l := tables_1_2) (i := 237) rfl))), rfl⟩
set_option maxRecDepth 8000 in
theorem zw_478 : (Cond.classLink "LifeboatHouse" (180 : Nat) "LifeboatHouse$Call") ∈ gtbl := List.mem_filter.mpr ⟨List.mem_append_right _ (List.mem_append_right _ (List.mem_append_left _ (List.mem_of_getElem? (l := tables_1_2) (i := 238) rfl))), rfl⟩
set_option maxRecDepth 8000 in
theorem zw_479 : (Cond.instantiable "LifeboatHouse$Call" (3 : Nat)) ∈ gtbl := List.mem_filter.mpr ⟨List.mem_append_right _ (List.mem_append_right _ (List.mem_append_left _ (List.mem_of_getElem? (l := tables_1_2) (i := 239) rfl))), rfl⟩
set_option maxRecDepth 8000 in
theorem zw_480 : (Cond.methodLink "LifeboatHouse" (182 : Nat) ({ cls := "LifeboatHouse$Call", name := "<init>", desc := "(III)V" } : MethodName)) ∈ gtbl := List.mem_filter.mpr ⟨List.mem_append_right _ (List.mem_append_right _ (List.mem_append_right _ (List.mem_append_left _ (List.mem_of_getElem? (l := tables_1_3) (i := 0) rfl)))), rfl⟩
set_option maxRecDepth 8000 in
theorem zw_481 : (Cond.instanceMethod ({ cls := "LifeboatHouse$Call", name := "<init>", desc := "(III)V" } : MethodName)) ∈ gtbl := List.mem_filter.mpr ⟨List.mem_append_right _ (List.mem_append_right _ (List.mem_append_right _ (List.mem_append_left _ (List.mem_of_getElem? (l := tables_1_3) (i := 1) rfl)))), rfl⟩
set_option maxRecDepth 8000 in
theorem zw_482 : (Cond.code ({ cls := "LifeboatHouse$Call", name := "<init>", desc := "(III)V" } : MethodName) prog_3_method_1_code (4 : Nat) (Option.none : Option FieldType)) ∈ gtbl := List.mem_filter.mpr ⟨List.mem_append_right _ (List.mem_append_right _ (List.mem_append_right _ (List.mem_append_left _ (List.mem_of_getElem? (l := tables_1_3) (i := 2) rfl)))), rfl⟩
set_option maxRecDepth 8000 in
theorem zw_483 : (Cond.methodLink "LifeboatHouse$Call" (1 : Nat) ({ cls := "java/lang/Object", name := "<init>", desc := "()V" } : MethodName)) ∈ gtbl := List.mem_filter.mpr ⟨List.mem_append_right _ (List.mem_append_right _ (List.mem_append_right _ (List.mem_append_left _ (List.mem_of_getElem? (l := tables_1_3) (i := 3) rfl)))), rfl⟩
set_option maxRecDepth 8000 in
theorem zw_484 : (Cond.fieldLink "LifeboatHouse$Call" (7 : Nat) "LifeboatHouse$Call" "miles" "I") ∈ gtbl := List.mem_filter.mpr ⟨List.mem_append_right _ (List.mem_append_right _ (List.mem_append_right _ (List.mem_append_left _ (List.mem_of_getElem? (l := tables_1_3) (i := 4) rfl)))), rfl⟩
set_option maxRecDepth 8000 in
theorem zw_485 : (Cond.fieldLink "LifeboatHouse" (237 : Nat) "LifeboatHouse$Call" "miles" "I") ∈ gtbl := List.mem_filter.mpr ⟨List.mem_append_right _ (List.mem_append_right _ (List.mem_append_right _ (List.mem_append_left _ (List.mem_of_getElem? (l := tables_1_3) (i := 5) rfl)))), rfl⟩
set_option maxRecDepth 8000 in
theorem zw_486 : (Cond.fieldLink "LifeboatHouse$Call" (13 : Nat) "LifeboatHouse$Call" "out" "I") ∈ gtbl := List.mem_filter.mpr ⟨List.mem_append_right _ (List.mem_append_right _ (List.mem_append_right _ (List.mem_append_left _ (List.mem_of_getElem? (l := tables_1_3) (i := 6) rfl)))), rfl⟩
set_option maxRecDepth 8000 in
theorem zw_487 : (Cond.fieldLink "LifeboatHouse" (242 : Nat) "LifeboatHouse$Call" "out" "I") ∈ gtbl := List.mem_filter.mpr ⟨List.mem_append_right _ (List.mem_append_right _ (List.mem_append_right _ (List.mem_append_left _ (List.mem_of_getElem? (l := tables_1_3) (i := 7) rfl)))), rfl⟩
set_option maxRecDepth 8000 in
theorem zw_488 : (Cond.fieldLink "LifeboatHouse$Call" (16 : Nat) "LifeboatHouse$Call" "sea" "I") ∈ gtbl := List.mem_filter.mpr ⟨List.mem_append_right _ (List.mem_append_right _ (List.mem_append_right _ (List.mem_append_left _ (List.mem_of_getElem? (l := tables_1_3) (i := 8) rfl)))), rfl⟩
set_option maxRecDepth 8000 in
theorem zw_489 : (Cond.fieldLink "LifeboatHouse" (212 : Nat) "LifeboatHouse$Call" "sea" "I") ∈ gtbl := List.mem_filter.mpr ⟨List.mem_append_right _ (List.mem_append_right _ (List.mem_append_right _ (List.mem_append_left _ (List.mem_of_getElem? (l := tables_1_3) (i := 9) rfl)))), rfl⟩
set_option maxRecDepth 8000 in
theorem zw_490 : (Cond.laysFinal "LifeboatHouse$Call" "LifeboatHouse$Call" "miles" "I") ∈ gtbl := List.mem_filter.mpr ⟨List.mem_append_right _ (List.mem_append_right _ (List.mem_append_right _ (List.mem_append_left _ (List.mem_of_getElem? (l := tables_1_3) (i := 10) rfl)))), rfl⟩
set_option maxRecDepth 8000 in
theorem zw_491 : (Cond.soleField "LifeboatHouse$Call" "miles") ∈ gtbl := List.mem_filter.mpr ⟨List.mem_append_right _ (List.mem_append_right _ (List.mem_append_right _ (List.mem_append_left _ (List.mem_of_getElem? (l := tables_1_3) (i := 11) rfl)))), rfl⟩
set_option maxRecDepth 8000 in
theorem zw_492 : (Cond.laysFinal "LifeboatHouse$Call" "LifeboatHouse$Call" "out" "I") ∈ gtbl := List.mem_filter.mpr ⟨List.mem_append_right _ (List.mem_append_right _ (List.mem_append_right _ (List.mem_append_left _ (List.mem_of_getElem? (l := tables_1_3) (i := 12) rfl)))), rfl⟩
set_option maxRecDepth 8000 in
theorem zw_493 : (Cond.soleField "LifeboatHouse$Call" "out") ∈ gtbl := List.mem_filter.mpr ⟨List.mem_append_right _ (List.mem_append_right _ (List.mem_append_right _ (List.mem_append_left _ (List.mem_of_getElem? (l := tables_1_3) (i := 13) rfl)))), rfl⟩
set_option maxRecDepth 8000 in
theorem zw_494 : (Cond.laysFinal "LifeboatHouse$Call" "LifeboatHouse$Call" "sea" "I") ∈ gtbl := List.mem_filter.mpr ⟨List.mem_append_right _ (List.mem_append_right _ (List.mem_append_right _ (List.mem_append_left _ (List.mem_of_getElem? (l := tables_1_3) (i := 14) rfl)))), rfl⟩
set_option maxRecDepth 8000 in
theorem zw_495 : (Cond.soleField "LifeboatHouse$Call" "sea") ∈ gtbl := List.mem_filter.mpr ⟨List.mem_append_right _ (List.mem_append_right _ (List.mem_append_right _ (List.mem_append_left _ (List.mem_of_getElem? (l := tables_1_3) (i := 15) rfl)))), rfl⟩
set_option maxRecDepth 8000 in
theorem zw_496 : (Cond.superclass "LifeboatHouse$Call" "java/lang/Object") ∈ gtbl := List.mem_filter.mpr ⟨List.mem_append_right _ (List.mem_append_right _ (List.mem_append_right _ (List.mem_append_left _ (List.mem_of_getElem? (l := tables_1_3) (i := 16) rfl)))), rfl⟩
set_option maxRecDepth 8000 in
theorem zw_497 : (Cond.methodLink "LifeboatHouseLaw" (77 : Nat) ({ cls := "LifeboatHouse", name := "reach", desc := "(III)I" } : MethodName)) ∈ gtbl := List.mem_filter.mpr ⟨List.mem_append_right _ (List.mem_append_right _ (List.mem_append_right _ (List.mem_append_left _ (List.mem_of_getElem? (l := tables_1_3) (i := 17) rfl)))), rfl⟩
set_option maxRecDepth 8000 in
theorem zw_498 : (Cond.instanceMethod ({ cls := "LifeboatHouse", name := "reach", desc := "(III)I" } : MethodName)) ∈ gtbl := List.mem_filter.mpr ⟨List.mem_append_right _ (List.mem_append_right _ (List.mem_append_right _ (List.mem_append_left _ (List.mem_of_getElem? (l := tables_1_3) (i := 18) rfl)))), rfl⟩
set_option maxRecDepth 8000 in
theorem zw_499 : (Cond.selects "LifeboatHouse" ({ cls := "LifeboatHouse", name := "reach", desc := "(III)I" } : MethodName) ({ cls := "LifeboatHouse", name := "reach", desc := "(III)I" } : MethodName)) ∈ gtbl := List.mem_filter.mpr ⟨List.mem_append_right _ (List.mem_append_right _ (List.mem_append_right _ (List.mem_append_left _ (List.mem_of_getElem? (l := tables_1_3) (i := 19) rfl)))), rfl⟩
set_option maxRecDepth 8000 in
theorem zw_500 : (Cond.code ({ cls := "LifeboatHouse", name := "reach", desc := "(III)I" } : MethodName) prog_1_method_20_code (6 : Nat) (Option.some FieldType.int)) ∈ gtbl := List.mem_filter.mpr ⟨List.mem_append_right _ (List.mem_append_right _ (List.mem_append_right _ (List.mem_append_left _ (List.mem_of_getElem? (l := tables_1_3) (i := 20) rfl)))), rfl⟩
set_option maxRecDepth 8000 in
theorem zw_501 : (Cond.methodLink "LifeboatHouse" (183 : Nat) ({ cls := "LifeboatHouse", name := "callAt", desc := "(I)LLifeboatHouse$Call;" } : MethodName)) ∈ gtbl := List.mem_filter.mpr ⟨List.mem_append_right _ (List.mem_append_right _ (List.mem_append_right _ (List.mem_append_left _ (List.mem_of_getElem? (l := tables_1_3) (i := 21) rfl)))), rfl⟩
set_option maxRecDepth 8000 in
theorem zw_502 : (Cond.privateMethod ({ cls := "LifeboatHouse", name := "callAt", desc := "(I)LLifeboatHouse$Call;" } : MethodName)) ∈ lw_tbl := List.mem_append_right _ (List.mem_append_right _ (List.mem_append_right _ (List.mem_append_left _ (List.mem_of_getElem? (l := tables_1_3) (i := 22) rfl))))
set_option maxRecDepth 8000 in
theorem zw_503 : (Cond.instanceMethod ({ cls := "LifeboatHouse", name := "callAt", desc := "(I)LLifeboatHouse$Call;" } : MethodName)) ∈ gtbl := List.mem_filter.mpr ⟨List.mem_append_right _ (List.mem_append_right _ (List.mem_append_right _ (List.mem_append_left _ (List.mem_of_getElem? (l := tables_1_3) (i := 23) rfl)))), rfl⟩
set_option maxRecDepth 8000 in
theorem zw_504 : (Cond.code ({ cls := "LifeboatHouse", name := "callAt", desc := "(I)LLifeboatHouse$Call;" } : MethodName) prog_1_method_55_code (2 : Nat) (Option.some (FieldType.object "LifeboatHouse$Call"))) ∈ gtbl := List.mem_filter.mpr ⟨List.mem_append_right _ (List.mem_append_right _ (List.mem_append_right _ (List.mem_append_left _ (List.mem_of_getElem? (l := tables_1_3) (i := 24) rfl)))), rfl⟩
set_option maxRecDepth 8000 in
theorem zw_505 : (Cond.methodLink "LifeboatHouse" (187 : Nat) ({ cls := "LifeboatHouse", name := "canGo", desc := "(LLifeboatHouse$Boat;LLifeboatHouse$Call;)Z" } : MethodName)) ∈ gtbl := List.mem_filter.mpr ⟨List.mem_append_right _ (List.mem_append_right _ (List.mem_append_right _ (List.mem_append_left _ (List.mem_of_getElem? (l := tables_1_3) (i := 25) rfl)))), rfl⟩
set_option maxRecDepth 8000 in
theorem zw_506 : (Cond.privateMethod ({ cls := "LifeboatHouse", name := "canGo", desc := "(LLifeboatHouse$Boat;LLifeboatHouse$Call;)Z" } : MethodName)) ∈ lw_tbl := List.mem_append_right _ (List.mem_append_right _ (List.mem_append_right _ (List.mem_append_left _ (List.mem_of_getElem? (l := tables_1_3) (i := 26) rfl))))
set_option maxRecDepth 8000 in
theorem zw_507 : (Cond.instanceMethod ({ cls := "LifeboatHouse", name := "canGo", desc := "(LLifeboatHouse$Boat;LLifeboatHouse$Call;)Z" } : MethodName)) ∈ gtbl := List.mem_filter.mpr ⟨List.mem_append_right _ (List.mem_append_right _ (List.mem_append_right _ (List.mem_append_left _ (List.mem_of_getElem? (l := tables_1_3) (i := 27) rfl)))), rfl⟩
set_option maxRecDepth 8000 in
theorem zw_508 : (Cond.code ({ cls := "LifeboatHouse", name := "canGo", desc := "(LLifeboatHouse$Boat;LLifeboatHouse$Call;)Z" } : MethodName) prog_1_method_26_code (4 : Nat) (Option.some FieldType.boolean)) ∈ gtbl := List.mem_filter.mpr ⟨List.mem_append_right _ (List.mem_append_right _ (List.mem_append_right _ (List.mem_append_left _ (List.mem_of_getElem? (l := tables_1_3) (i := 28) rfl)))), rfl⟩
set_option maxRecDepth 8000 in
theorem zw_509 : (Cond.methodLink "LifeboatHouse" (220 : Nat) ({ cls := "LifeboatHouse", name := "wayOf", desc := "(LLifeboatHouse$Boat;LLifeboatHouse$Call;)I" } : MethodName)) ∈ gtbl := List.mem_filter.mpr ⟨List.mem_append_right _ (List.mem_append_right _ (List.mem_append_right _ (List.mem_append_left _ (List.mem_of_getElem? (l := tables_1_3) (i := 29) rfl)))), rfl⟩
set_option maxRecDepth 8000 in
theorem zw_510 : (Cond.privateMethod ({ cls := "LifeboatHouse", name := "wayOf", desc := "(LLifeboatHouse$Boat;LLifeboatHouse$Call;)I" } : MethodName)) ∈ lw_tbl := List.mem_append_right _ (List.mem_append_right _ (List.mem_append_right _ (List.mem_append_left _ (List.mem_of_getElem? (l := tables_1_3) (i := 30) rfl))))
set_option maxRecDepth 8000 in
theorem zw_511 : (Cond.instanceMethod ({ cls := "LifeboatHouse", name := "wayOf", desc := "(LLifeboatHouse$Boat;LLifeboatHouse$Call;)I" } : MethodName)) ∈ gtbl := List.mem_filter.mpr ⟨List.mem_append_right _ (List.mem_append_right _ (List.mem_append_right _ (List.mem_append_left _ (List.mem_of_getElem? (l := tables_1_3) (i := 31) rfl)))), rfl⟩
set_option maxRecDepth 8000 in
theorem zw_512 : (Cond.code ({ cls := "LifeboatHouse", name := "wayOf", desc := "(LLifeboatHouse$Boat;LLifeboatHouse$Call;)I" } : MethodName) prog_1_method_25_code (3 : Nat) (Option.some FieldType.int)) ∈ gtbl := List.mem_filter.mpr ⟨List.mem_append_right _ (List.mem_append_right _ (List.mem_append_right _ (List.mem_append_left _ (List.mem_of_getElem? (l := tables_1_3) (i := 32) rfl)))), rfl⟩
set_option maxRecDepth 8000 in
theorem zw_513 : (Cond.methodLink "LifeboatHouse" (239 : Nat) ({ cls := "java/lang/Math", name := "abs", desc := "(I)I" } : MethodName)) ∈ gtbl := List.mem_filter.mpr ⟨List.mem_append_right _ (List.mem_append_right _ (List.mem_append_right _ (List.mem_append_left _ (List.mem_of_getElem? (l := tables_1_3) (i := 33) rfl)))), rfl⟩
set_option maxRecDepth 8000 in
theorem zw_514 : (Cond.static ({ cls := "java/lang/Math", name := "abs", desc := "(I)I" } : MethodName)) ∈ gtbl := List.mem_filter.mpr ⟨List.mem_append_right _ (List.mem_append_right _ (List.mem_append_right _ (List.mem_append_left _ (List.mem_of_getElem? (l := tables_1_3) (i := 34) rfl)))), rfl⟩
set_option maxRecDepth 8000 in
theorem zw_515 : (Cond.code ({ cls := "java/lang/Math", name := "abs", desc := "(I)I" } : MethodName) prog_16_method_59_code (1 : Nat) (Option.some FieldType.int)) ∈ gtbl := List.mem_filter.mpr ⟨List.mem_append_right _ (List.mem_append_right _ (List.mem_append_right _ (List.mem_append_left _ (List.mem_of_getElem? (l := tables_1_3) (i := 35) rfl)))), rfl⟩
set_option maxRecDepth 8000 in
theorem zw_516 : (Cond.methodLink "LifeboatHouse" (223 : Nat) ({ cls := "LifeboatHouse", name := "cutUp", desc := "(II)I" } : MethodName)) ∈ gtbl := List.mem_filter.mpr ⟨List.mem_append_right _ (List.mem_append_right _ (List.mem_append_right _ (List.mem_append_left _ (List.mem_of_getElem? (l := tables_1_3) (i := 36) rfl)))), rfl⟩
set_option maxRecDepth 8000 in
theorem zw_517 : (Cond.static ({ cls := "LifeboatHouse", name := "cutUp", desc := "(II)I" } : MethodName)) ∈ gtbl := List.mem_filter.mpr ⟨List.mem_append_right _ (List.mem_append_right _ (List.mem_append_right _ (List.mem_append_left _ (List.mem_of_getElem? (l := tables_1_3) (i := 37) rfl)))), rfl⟩
set_option maxRecDepth 8000 in
theorem zw_518 : (Cond.code ({ cls := "LifeboatHouse", name := "cutUp", desc := "(II)I" } : MethodName) prog_1_method_56_code (2 : Nat) (Option.some FieldType.int)) ∈ gtbl := List.mem_filter.mpr ⟨List.mem_append_right _ (List.mem_append_right _ (List.mem_append_right _ (List.mem_append_left _ (List.mem_of_getElem? (l := tables_1_3) (i := 38) rfl)))), rfl⟩
set_option maxRecDepth 8000 in
theorem zw_519 : (Cond.methodLink "LifeboatHouse" (191 : Nat) ({ cls := "LifeboatHouse", name := "launchMinute", desc := "(LLifeboatHouse$Boat;)I" } : MethodName)) ∈ gtbl := List.mem_filter.mpr ⟨List.mem_append_right _ (List.mem_append_right _ (List.mem_append_right _ (List.mem_append_left _ (List.mem_of_getElem? (l := tables_1_3) (i := 39) rfl)))), rfl⟩
set_option maxRecDepth 8000 in
theorem zw_520 : (Cond.privateMethod ({ cls := "LifeboatHouse", name := "launchMinute", desc := "(LLifeboatHouse$Boat;)I" } : MethodName)) ∈ lw_tbl := List.mem_append_right _ (List.mem_append_right _ (List.mem_append_right _ (List.mem_append_left _ (List.mem_of_getElem? (l := tables_1_3) (i := 40) rfl))))
set_option maxRecDepth 8000 in
theorem zw_521 : (Cond.instanceMethod ({ cls := "LifeboatHouse", name := "launchMinute", desc := "(LLifeboatHouse$Boat;)I" } : MethodName)) ∈ gtbl := List.mem_filter.mpr ⟨List.mem_append_right _ (List.mem_append_right _ (List.mem_append_right _ (List.mem_append_left _ (List.mem_of_getElem? (l := tables_1_3) (i := 41) rfl)))), rfl⟩
set_option maxRecDepth 8000 in
theorem zw_522 : (Cond.code ({ cls := "LifeboatHouse", name := "launchMinute", desc := "(LLifeboatHouse$Boat;)I" } : MethodName) prog_1_method_27_code (5 : Nat) (Option.some FieldType.int)) ∈ gtbl := List.mem_filter.mpr ⟨List.mem_append_right _ (List.mem_append_right _ (List.mem_append_right _ (List.mem_append_left _ (List.mem_of_getElem? (l := tables_1_3) (i := 42) rfl)))), rfl⟩
set_option maxRecDepth 8000 in
theorem zw_523 : (Cond.methodLink "LifeboatHouse" (215 : Nat) ({ cls := "java/lang/Math", name := "max", desc := "(II)I" } : MethodName)) ∈ gtbl := List.mem_filter.mpr ⟨List.mem_append_right _ (List.mem_append_right _ (List.mem_append_right _ (List.mem_append_left _ (List.mem_of_getElem? (l := tables_1_3) (i := 43) rfl)))), rfl⟩
set_option maxRecDepth 8000 in
theorem zw_524 : (Cond.methodLink "LifeboatHouse" (195 : Nat) ({ cls := "LifeboatHouse", name := "reachedMinute", desc := "(LLifeboatHouse$Boat;LLifeboatHouse$Call;)I" } : MethodName)) ∈ gtbl := List.mem_filter.mpr ⟨List.mem_append_right _ (List.mem_append_right _ (List.mem_append_right _ (List.mem_append_left _ (List.mem_of_getElem? (l := tables_1_3) (i := 44) rfl)))), rfl⟩
set_option maxRecDepth 8000 in
theorem zw_525 : (Cond.privateMethod ({ cls := "LifeboatHouse", name := "reachedMinute", desc := "(LLifeboatHouse$Boat;LLifeboatHouse$Call;)I" } : MethodName)) ∈ lw_tbl := List.mem_append_right _ (List.mem_append_right _ (List.mem_append_right _ (List.mem_append_left _ (List.mem_of_getElem? (l := tables_1_3) (i := 45) rfl))))
set_option maxRecDepth 8000 in
theorem zw_526 : (Cond.instanceMethod ({ cls := "LifeboatHouse", name := "reachedMinute", desc := "(LLifeboatHouse$Boat;LLifeboatHouse$Call;)I" } : MethodName)) ∈ gtbl := List.mem_filter.mpr ⟨List.mem_append_right _ (List.mem_append_right _ (List.mem_append_right _ (List.mem_append_left _ (List.mem_of_getElem? (l := tables_1_3) (i := 46) rfl)))), rfl⟩
set_option maxRecDepth 8000 in
theorem zw_527 : (Cond.code ({ cls := "LifeboatHouse", name := "reachedMinute", desc := "(LLifeboatHouse$Boat;LLifeboatHouse$Call;)I" } : MethodName) prog_1_method_28_code (4 : Nat) (Option.some FieldType.int)) ∈ gtbl := List.mem_filter.mpr ⟨List.mem_append_right _ (List.mem_append_right _ (List.mem_append_right _ (List.mem_append_left _ (List.mem_of_getElem? (l := tables_1_3) (i := 47) rfl)))), rfl⟩
set_option maxRecDepth 8000 in
theorem zw_528 : (Cond.methodLink "LifeboatHouseLaw" (81 : Nat) ({ cls := "LifeboatHouse", name := "first", desc := "(I)I" } : MethodName)) ∈ gtbl := List.mem_filter.mpr ⟨List.mem_append_right _ (List.mem_append_right _ (List.mem_append_right _ (List.mem_append_left _ (List.mem_of_getElem? (l := tables_1_3) (i := 48) rfl)))), rfl⟩
set_option maxRecDepth 8000 in
theorem zw_529 : (Cond.instanceMethod ({ cls := "LifeboatHouse", name := "first", desc := "(I)I" } : MethodName)) ∈ gtbl := List.mem_filter.mpr ⟨List.mem_append_right _ (List.mem_append_right _ (List.mem_append_right _ (List.mem_append_left _ (List.mem_of_getElem? (l := tables_1_3) (i := 49) rfl)))), rfl⟩
set_option maxRecDepth 8000 in
theorem zw_530 : (Cond.selects "LifeboatHouse" ({ cls := "LifeboatHouse", name := "first", desc := "(I)I" } : MethodName) ({ cls := "LifeboatHouse", name := "first", desc := "(I)I" } : MethodName)) ∈ gtbl := List.mem_filter.mpr ⟨List.mem_append_right _ (List.mem_append_right _ (List.mem_append_right _ (List.mem_append_left _ (List.mem_of_getElem? (l := tables_1_3) (i := 50) rfl)))), rfl⟩
set_option maxRecDepth 8000 in
theorem zw_531 : (Cond.code ({ cls := "LifeboatHouse", name := "first", desc := "(I)I" } : MethodName) prog_1_method_21_code (7 : Nat) (Option.some FieldType.int)) ∈ gtbl := List.mem_filter.mpr ⟨List.mem_append_right _ (List.mem_append_right _ (List.mem_append_right _ (List.mem_append_left _ (List.mem_of_getElem? (l := tables_1_3) (i := 51) rfl)))), rfl⟩
set_option maxRecDepth 8000 in
theorem zw_532 : (Cond.methodLink "LifeboatHouseLaw" (85 : Nat) ({ cls := "LifeboatHouse", name := "two", desc := "(III)I" } : MethodName)) ∈ gtbl := List.mem_filter.mpr ⟨List.mem_append_right _ (List.mem_append_right _ (List.mem_append_right _ (List.mem_append_left _ (List.mem_of_getElem? (l := tables_1_3) (i := 52) rfl)))), rfl⟩
set_option maxRecDepth 8000 in
theorem zw_533 : (Cond.instanceMethod ({ cls := "LifeboatHouse", name := "two", desc := "(III)I" } : MethodName)) ∈ gtbl := List.mem_filter.mpr ⟨List.mem_append_right _ (List.mem_append_right _ (List.mem_append_right _ (List.mem_append_left _ (List.mem_of_getElem? (l := tables_1_3) (i := 53) rfl)))), rfl⟩
set_option maxRecDepth 8000 in
theorem zw_534 : (Cond.selects "LifeboatHouse" ({ cls := "LifeboatHouse", name := "two", desc := "(III)I" } : MethodName) ({ cls := "LifeboatHouse", name := "two", desc := "(III)I" } : MethodName)) ∈ gtbl := List.mem_filter.mpr ⟨List.mem_append_right _ (List.mem_append_right _ (List.mem_append_right _ (List.mem_append_left _ (List.mem_of_getElem? (l := tables_1_3) (i := 54) rfl)))), rfl⟩
set_option maxRecDepth 8000 in
theorem zw_535 : (Cond.code ({ cls := "LifeboatHouse", name := "two", desc := "(III)I" } : MethodName) prog_1_method_22_code (6 : Nat) (Option.some FieldType.int)) ∈ gtbl := List.mem_filter.mpr ⟨List.mem_append_right _ (List.mem_append_right _ (List.mem_append_right _ (List.mem_append_left _ (List.mem_of_getElem? (l := tables_1_3) (i := 55) rfl)))), rfl⟩
set_option maxRecDepth 8000 in
theorem zw_536 : (Cond.methodLink "LifeboatHouse" (199 : Nat) ({ cls := "LifeboatHouse", name := "pairBoats", desc := "(LLifeboatHouse$Call;LLifeboatHouse$Call;)V" } : MethodName)) ∈ gtbl := List.mem_filter.mpr ⟨List.mem_append_right _ (List.mem_append_right _ (List.mem_append_right _ (List.mem_append_left _ (List.mem_of_getElem? (l := tables_1_3) (i := 56) rfl)))), rfl⟩
set_option maxRecDepth 8000 in
theorem zw_537 : (Cond.privateMethod ({ cls := "LifeboatHouse", name := "pairBoats", desc := "(LLifeboatHouse$Call;LLifeboatHouse$Call;)V" } : MethodName)) ∈ lw_tbl := List.mem_append_right _ (List.mem_append_right _ (List.mem_append_right _ (List.mem_append_left _ (List.mem_of_getElem? (l := tables_1_3) (i := 57) rfl))))
set_option maxRecDepth 8000 in
theorem zw_538 : (Cond.instanceMethod ({ cls := "LifeboatHouse", name := "pairBoats", desc := "(LLifeboatHouse$Call;LLifeboatHouse$Call;)V" } : MethodName)) ∈ gtbl := List.mem_filter.mpr ⟨List.mem_append_right _ (List.mem_append_right _ (List.mem_append_right _ (List.mem_append_left _ (List.mem_of_getElem? (l := tables_1_3) (i := 58) rfl)))), rfl⟩
set_option maxRecDepth 8000 in
theorem zw_539 : (Cond.code ({ cls := "LifeboatHouse", name := "pairBoats", desc := "(LLifeboatHouse$Call;LLifeboatHouse$Call;)V" } : MethodName) prog_1_method_29_code (7 : Nat) (Option.none : Option FieldType)) ∈ gtbl := List.mem_filter.mpr ⟨List.mem_append_right _ (List.mem_append_right _ (List.mem_append_right _ (List.mem_append_left _ (List.mem_of_getElem? (l := tables_1_3) (i := 59) rfl)))), rfl⟩
set_option maxRecDepth 8000 in
theorem zw_540 : (Cond.methodLink "LifeboatHouse" (248 : Nat) ({ cls := "LifeboatHouse$Pair", name := "clear", desc := "()V" } : MethodName)) ∈ gtbl := List.mem_filter.mpr ⟨List.mem_append_right _ (List.mem_append_right _ (List.mem_append_right _ (List.mem_append_left _ (List.mem_of_getElem? (l := tables_1_3) (i := 60) rfl)))), rfl⟩
set_option maxRecDepth 8000 in
theorem zw_541 : (Cond.instanceMethod ({ cls := "LifeboatHouse$Pair", name := "clear", desc := "()V" } : MethodName)) ∈ gtbl := List.mem_filter.mpr ⟨List.mem_append_right _ (List.mem_append_right _ (List.mem_append_right _ (List.mem_append_left _ (List.mem_of_getElem? (l := tables_1_3) (i := 61) rfl)))), rfl⟩
set_option maxRecDepth 8000 in
theorem zw_542 : (Cond.selects "LifeboatHouse$Pair" ({ cls := "LifeboatHouse$Pair", name := "clear", desc := "()V" } : MethodName) ({ cls := "LifeboatHouse$Pair", name := "clear", desc := "()V" } : MethodName)) ∈ gtbl := List.mem_filter.mpr ⟨List.mem_append_right _ (List.mem_append_right _ (List.mem_append_right _ (List.mem_append_left _ (List.mem_of_getElem? (l := tables_1_3) (i := 62) rfl)))), rfl⟩
set_option maxRecDepth 8000 in
theorem zw_543 : (Cond.code ({ cls := "LifeboatHouse$Pair", name := "clear", desc := "()V" } : MethodName) prog_7_method_2_code (1 : Nat) (Option.none : Option FieldType)) ∈ gtbl := List.mem_filter.mpr ⟨List.mem_append_right _ (List.mem_append_right _ (List.mem_append_right _ (List.mem_append_left _ (List.mem_of_getElem? (l := tables_1_3) (i := 63) rfl)))), rfl⟩
set_option maxRecDepth 8000 in
theorem zw_544 : (Cond.methodLink "LifeboatHouse" (249 : Nat) ({ cls := "LifeboatHouse$Pair", name := "offer", desc := "(IIII)V" } : MethodName)) ∈ gtbl := List.mem_filter.mpr ⟨List.mem_append_right _ (List.mem_append_right _ (List.mem_append_right _ (List.mem_append_left _ (List.mem_of_getElem? (l := tables_1_3) (i := 64) rfl)))), rfl⟩
set_option maxRecDepth 8000 in
theorem zw_545 : (Cond.instanceMethod ({ cls := "LifeboatHouse$Pair", name := "offer", desc := "(IIII)V" } : MethodName)) ∈ gtbl := List.mem_filter.mpr ⟨List.mem_append_right _ (List.mem_append_right _ (List.mem_append_right _ (List.mem_append_left _ (List.mem_of_getElem? (l := tables_1_3) (i := 65) rfl)))), rfl⟩
set_option maxRecDepth 8000 in
theorem zw_546 : (Cond.selects "LifeboatHouse$Pair" ({ cls := "LifeboatHouse$Pair", name := "offer", desc := "(IIII)V" } : MethodName) ({ cls := "LifeboatHouse$Pair", name := "offer", desc := "(IIII)V" } : MethodName)) ∈ gtbl := List.mem_filter.mpr ⟨List.mem_append_right _ (List.mem_append_right _ (List.mem_append_right _ (List.mem_append_left _ (List.mem_of_getElem? (l := tables_1_3) (i := 66) rfl)))), rfl⟩
set_option maxRecDepth 8000 in
theorem zw_547 : (Cond.code ({ cls := "LifeboatHouse$Pair", name := "offer", desc := "(IIII)V" } : MethodName) prog_7_method_3_code (8 : Nat) (Option.none : Option FieldType)) ∈ gtbl := List.mem_filter.mpr ⟨List.mem_append_right _ (List.mem_append_right _ (List.mem_append_right _ (List.mem_append_left _ (List.mem_of_getElem? (l := tables_1_3) (i := 67) rfl)))), rfl⟩
set_option maxRecDepth 8000 in
theorem zw_548 : (Cond.methodLink "LifeboatHouse$Pair" (24 : Nat) ({ cls := "java/lang/Math", name := "max", desc := "(II)I" } : MethodName)) ∈ gtbl := List.mem_filter.mpr ⟨List.mem_append_right _ (List.mem_append_right _ (List.mem_append_right _ (List.mem_append_left _ (List.mem_of_getElem? (l := tables_1_3) (i := 68) rfl)))), rfl⟩
set_option maxRecDepth 8000 in
theorem zw_549 : (Cond.methodLink "LifeboatHouseLaw" (89 : Nat) ({ cls := "LifeboatHouse", name := "send", desc := "(IIIZ)I" } : MethodName)) ∈ gtbl := List.mem_filter.mpr ⟨List.mem_append_right _ (List.mem_append_right _ (List.mem_append_right _ (List.mem_append_left _ (List.mem_of_getElem? (l := tables_1_3) (i := 69) rfl)))), rfl⟩
set_option maxRecDepth 8000 in
theorem zw_550 : (Cond.instanceMethod ({ cls := "LifeboatHouse", name := "send", desc := "(IIIZ)I" } : MethodName)) ∈ gtbl := List.mem_filter.mpr ⟨List.mem_append_right _ (List.mem_append_right _ (List.mem_append_right _ (List.mem_append_left _ (List.mem_of_getElem? (l := tables_1_3) (i := 70) rfl)))), rfl⟩
set_option maxRecDepth 8000 in
theorem zw_551 : (Cond.selects "LifeboatHouse" ({ cls := "LifeboatHouse", name := "send", desc := "(IIIZ)I" } : MethodName) ({ cls := "LifeboatHouse", name := "send", desc := "(IIIZ)I" } : MethodName)) ∈ gtbl := List.mem_filter.mpr ⟨List.mem_append_right _ (List.mem_append_right _ (List.mem_append_right _ (List.mem_append_left _ (List.mem_of_getElem? (l := tables_1_3) (i := 71) rfl)))), rfl⟩
set_option maxRecDepth 8000 in
theorem zw_552 : (Cond.code ({ cls := "LifeboatHouse", name := "send", desc := "(IIIZ)I" } : MethodName) prog_1_method_23_code (10 : Nat) (Option.some FieldType.int)) ∈ gtbl := List.mem_filter.mpr ⟨List.mem_append_right _ (List.mem_append_right _ (List.mem_append_right _ (List.mem_append_left _ (List.mem_of_getElem? (l := tables_1_3) (i := 72) rfl)))), rfl⟩
set_option maxRecDepth 8000 in
theorem zw_553 : (Cond.classLink "LifeboatHouse" (226 : Nat) "LifeboatHouse$Launch") ∈ gtbl := List.mem_filter.mpr ⟨List.mem_append_right _ (List.mem_append_right _ (List.mem_append_right _ (List.mem_append_left _ (List.mem_of_getElem? (l := tables_1_3) (i := 73) rfl)))), rfl⟩
set_option maxRecDepth 8000 in
theorem zw_554 : (Cond.instantiable "LifeboatHouse$Launch" (5 : Nat)) ∈ gtbl := List.mem_filter.mpr ⟨List.mem_append_right _ (List.mem_append_right _ (List.mem_append_right _ (List.mem_append_left _ (List.mem_of_getElem? (l := tables_1_3) (i := 74) rfl)))), rfl⟩
set_option maxRecDepth 8000 in
theorem zw_555 : (Cond.methodLink "LifeboatHouse" (228 : Nat) ({ cls := "LifeboatHouse$Launch", name := "<init>", desc := "(IIIII)V" } : MethodName)) ∈ gtbl := List.mem_filter.mpr ⟨List.mem_append_right _ (List.mem_append_right _ (List.mem_append_right _ (List.mem_append_left _ (List.mem_of_getElem? (l := tables_1_3) (i := 75) rfl)))), rfl⟩
set_option maxRecDepth 8000 in
theorem zw_556 : (Cond.instanceMethod ({ cls := "LifeboatHouse$Launch", name := "<init>", desc := "(IIIII)V" } : MethodName)) ∈ gtbl := List.mem_filter.mpr ⟨List.mem_append_right _ (List.mem_append_right _ (List.mem_append_right _ (List.mem_append_left _ (List.mem_of_getElem? (l := tables_1_3) (i := 76) rfl)))), rfl⟩
set_option maxRecDepth 8000 in
theorem zw_557 : (Cond.code ({ cls := "LifeboatHouse$Launch", name := "<init>", desc := "(IIIII)V" } : MethodName) prog_6_method_1_code (6 : Nat) (Option.none : Option FieldType)) ∈ gtbl := List.mem_filter.mpr ⟨List.mem_append_right _ (List.mem_append_right _ (List.mem_append_right _ (List.mem_append_left _ (List.mem_of_getElem? (l := tables_1_3) (i := 77) rfl)))), rfl⟩
set_option maxRecDepth 8000 in
theorem zw_558 : (Cond.methodLink "LifeboatHouse$Launch" (1 : Nat) ({ cls := "java/lang/Object", name := "<init>", desc := "()V" } : MethodName)) ∈ gtbl := List.mem_filter.mpr ⟨List.mem_append_right _ (List.mem_append_right _ (List.mem_append_right _ (List.mem_append_left _ (List.mem_of_getElem? (l := tables_1_3) (i := 78) rfl)))), rfl⟩
set_option maxRecDepth 8000 in
theorem zw_559 : (Cond.fieldLink "LifeboatHouse$Launch" (7 : Nat) "LifeboatHouse$Launch" "boat" "I") ∈ gtbl := List.mem_filter.mpr ⟨List.mem_append_right _ (List.mem_append_right _ (List.mem_append_right _ (List.mem_append_left _ (List.mem_of_getElem? (l := tables_1_3) (i := 79) rfl)))), rfl⟩
set_option maxRecDepth 8000 in
theorem zw_560 : (Cond.fieldLink "LifeboatHouse$Launch" (13 : Nat) "LifeboatHouse$Launch" "call" "I") ∈ gtbl := List.mem_filter.mpr ⟨List.mem_append_right _ (List.mem_append_right _ (List.mem_append_right _ (List.mem_append_left _ (List.mem_of_getElem? (l := tables_1_3) (i := 80) rfl)))), rfl⟩
set_option maxRecDepth 8000 in
theorem zw_561 : (Cond.fieldLink "LifeboatHouse$Launch" (16 : Nat) "LifeboatHouse$Launch" "launched" "I") ∈ gtbl := List.mem_filter.mpr ⟨List.mem_append_right _ (List.mem_append_right _ (List.mem_append_right _ (List.mem_append_left _ (List.mem_of_getElem? (l := tables_1_3) (i := 81) rfl)))), rfl⟩
set_option maxRecDepth 8000 in
theorem zw_562 : (Cond.fieldLink "LifeboatHouse$Launch" (19 : Nat) "LifeboatHouse$Launch" "reached" "I") ∈ gtbl := List.mem_filter.mpr ⟨List.mem_append_right _ (List.mem_append_right _ (List.mem_append_right _ (List.mem_append_left _ (List.mem_of_getElem? (l := tables_1_3) (i := 82) rfl)))), rfl⟩
set_option maxRecDepth 8000 in
theorem zw_563 : (Cond.fieldLink "LifeboatHouse$Launch" (22 : Nat) "LifeboatHouse$Launch" "home" "I") ∈ gtbl := List.mem_filter.mpr ⟨List.mem_append_right _ (List.mem_append_right _ (List.mem_append_right _ (List.mem_append_left _ (List.mem_of_getElem? (l := tables_1_3) (i := 83) rfl)))), rfl⟩
set_option maxRecDepth 8000 in
theorem zw_564 : (Cond.laysFinal "LifeboatHouse$Launch" "LifeboatHouse$Launch" "boat" "I") ∈ gtbl := List.mem_filter.mpr ⟨List.mem_append_right _ (List.mem_append_right _ (List.mem_append_right _ (List.mem_append_left _ (List.mem_of_getElem? (l := tables_1_3) (i := 84) rfl)))), rfl⟩
set_option maxRecDepth 8000 in
theorem zw_565 : (Cond.soleField "LifeboatHouse$Launch" "boat") ∈ gtbl := List.mem_filter.mpr ⟨List.mem_append_right _ (List.mem_append_right _ (List.mem_append_right _ (List.mem_append_left _ (List.mem_of_getElem? (l := tables_1_3) (i := 85) rfl)))), rfl⟩
set_option maxRecDepth 8000 in
theorem zw_566 : (Cond.laysFinal "LifeboatHouse$Launch" "LifeboatHouse$Launch" "call" "I") ∈ gtbl := List.mem_filter.mpr ⟨List.mem_append_right _ (List.mem_append_right _ (List.mem_append_right _ (List.mem_append_left _ (List.mem_of_getElem? (l := tables_1_3) (i := 86) rfl)))), rfl⟩
set_option maxRecDepth 8000 in
theorem zw_567 : (Cond.soleField "LifeboatHouse$Launch" "call") ∈ gtbl := List.mem_filter.mpr ⟨List.mem_append_right _ (List.mem_append_right _ (List.mem_append_right _ (List.mem_append_left _ (List.mem_of_getElem? (l := tables_1_3) (i := 87) rfl)))), rfl⟩
set_option maxRecDepth 8000 in
theorem zw_568 : (Cond.laysFinal "LifeboatHouse$Launch" "LifeboatHouse$Launch" "launched" "I") ∈ gtbl := List.mem_filter.mpr ⟨List.mem_append_right _ (List.mem_append_right _ (List.mem_append_right _ (List.mem_append_left _ (List.mem_of_getElem? (l := tables_1_3) (i := 88) rfl)))), rfl⟩
set_option maxRecDepth 8000 in
theorem zw_569 : (Cond.soleField "LifeboatHouse$Launch" "launched") ∈ gtbl := List.mem_filter.mpr ⟨List.mem_append_right _ (List.mem_append_right _ (List.mem_append_right _ (List.mem_append_left _ (List.mem_of_getElem? (l := tables_1_3) (i := 89) rfl)))), rfl⟩
set_option maxRecDepth 8000 in
theorem zw_570 : (Cond.laysFinal "LifeboatHouse$Launch" "LifeboatHouse$Launch" "reached" "I") ∈ gtbl := List.mem_filter.mpr ⟨List.mem_append_right _ (List.mem_append_right _ (List.mem_append_right _ (List.mem_append_left _ (List.mem_of_getElem? (l := tables_1_3) (i := 90) rfl)))), rfl⟩
set_option maxRecDepth 8000 in
theorem zw_571 : (Cond.soleField "LifeboatHouse$Launch" "reached") ∈ gtbl := List.mem_filter.mpr ⟨List.mem_append_right _ (List.mem_append_right _ (List.mem_append_right _ (List.mem_append_left _ (List.mem_of_getElem? (l := tables_1_3) (i := 91) rfl)))), rfl⟩
set_option maxRecDepth 8000 in
theorem zw_572 : (Cond.laysFinal "LifeboatHouse$Launch" "LifeboatHouse$Launch" "home" "I") ∈ gtbl := List.mem_filter.mpr ⟨List.mem_append_right _ (List.mem_append_right _ (List.mem_append_right _ (List.mem_append_left _ (List.mem_of_getElem? (l := tables_1_3) (i := 92) rfl)))), rfl⟩
set_option maxRecDepth 8000 in
theorem zw_573 : (Cond.soleField "LifeboatHouse$Launch" "home") ∈ gtbl := List.mem_filter.mpr ⟨List.mem_append_right _ (List.mem_append_right _ (List.mem_append_right _ (List.mem_append_left _ (List.mem_of_getElem? (l := tables_1_3) (i := 93) rfl)))), rfl⟩
set_option maxRecDepth 8000 in
theorem zw_574 : (Cond.superclass "LifeboatHouse$Launch" "java/lang/Object") ∈ gtbl := List.mem_filter.mpr ⟨List.mem_append_right _ (List.mem_append_right _ (List.mem_append_right _ (List.mem_append_left _ (List.mem_of_getElem? (l := tables_1_3) (i := 94) rfl)))), rfl⟩
set_option maxRecDepth 8000 in
theorem zw_575 : (Cond.methodLink "LifeboatHouseLaw" (94 : Nat) ({ cls := "LifeboatHouse", name := "log", desc := "(II)I" } : MethodName)) ∈ gtbl := List.mem_filter.mpr ⟨List.mem_append_right _ (List.mem_append_right _ (List.mem_append_right _ (List.mem_append_left _ (List.mem_of_getElem? (l := tables_1_3) (i := 95) rfl)))), rfl⟩
set_option maxRecDepth 8000 in
theorem zw_576 : (Cond.instanceMethod ({ cls := "LifeboatHouse", name := "log", desc := "(II)I" } : MethodName)) ∈ gtbl := List.mem_filter.mpr ⟨List.mem_append_right _ (List.mem_append_right _ (List.mem_append_right _ (List.mem_append_left _ (List.mem_of_getElem? (l := tables_1_3) (i := 96) rfl)))), rfl⟩
set_option maxRecDepth 8000 in
theorem zw_577 : (Cond.selects "LifeboatHouse" ({ cls := "LifeboatHouse", name := "log", desc := "(II)I" } : MethodName) ({ cls := "LifeboatHouse", name := "log", desc := "(II)I" } : MethodName)) ∈ gtbl := List.mem_filter.mpr ⟨List.mem_append_right _ (List.mem_append_right _ (List.mem_append_right _ (List.mem_append_left _ (List.mem_of_getElem? (l := tables_1_3) (i := 97) rfl)))), rfl⟩
set_option maxRecDepth 8000 in
theorem zw_578 : (Cond.code ({ cls := "LifeboatHouse", name := "log", desc := "(II)I" } : MethodName) prog_1_method_24_code (3 : Nat) (Option.some FieldType.int)) ∈ gtbl := List.mem_filter.mpr ⟨List.mem_append_right _ (List.mem_append_right _ (List.mem_append_right _ (List.mem_append_left _ (List.mem_of_getElem? (l := tables_1_3) (i := 98) rfl)))), rfl⟩
set_option maxRecDepth 8000 in
theorem zw_579 : (Cond.methodLink "LifeboatHouse" (234 : Nat) ({ cls := "LifeboatHouse$Launch", name := "told", desc := "(I)I" } : MethodName)) ∈ gtbl := List.mem_filter.mpr ⟨List.mem_append_right _ (List.mem_append_right _ (List.mem_append_right _ (List.mem_append_left _ (List.mem_of_getElem? (l := tables_1_3) (i := 99) rfl)))), rfl⟩
set_option maxRecDepth 8000 in
theorem zw_580 : (Cond.instanceMethod ({ cls := "LifeboatHouse$Launch", name := "told", desc := "(I)I" } : MethodName)) ∈ gtbl := List.mem_filter.mpr ⟨List.mem_append_right _ (List.mem_append_right _ (List.mem_append_right _ (List.mem_append_left _ (List.mem_of_getElem? (l := tables_1_3) (i := 100) rfl)))), rfl⟩
set_option maxRecDepth 8000 in
theorem zw_581 : (Cond.selects "LifeboatHouse$Launch" ({ cls := "LifeboatHouse$Launch", name := "told", desc := "(I)I" } : MethodName) ({ cls := "LifeboatHouse$Launch", name := "told", desc := "(I)I" } : MethodName)) ∈ gtbl := List.mem_filter.mpr ⟨List.mem_append_right _ (List.mem_append_right _ (List.mem_append_right _ (List.mem_append_left _ (List.mem_of_getElem? (l := tables_1_3) (i := 101) rfl)))), rfl⟩
set_option maxRecDepth 8000 in
theorem zw_582 : (Cond.code ({ cls := "LifeboatHouse$Launch", name := "told", desc := "(I)I" } : MethodName) prog_6_method_2_code (2 : Nat) (Option.some FieldType.int)) ∈ gtbl := List.mem_filter.mpr ⟨List.mem_append_right _ (List.mem_append_right _ (List.mem_append_right _ (List.mem_append_left _ (List.mem_of_getElem? (l := tables_1_3) (i := 102) rfl)))), rfl⟩
set_option maxRecDepth 8000 in
theorem zw_583 : (Cond.methodLink "LifeboatHouseLaw" (98 : Nat) ({ cls := "LifeboatHouse", name := "covered", desc := "(I)I" } : MethodName)) ∈ gtbl := List.mem_filter.mpr ⟨List.mem_append_right _ (List.mem_append_right _ (List.mem_append_right _ (List.mem_append_left _ (List.mem_of_getElem? (l := tables_1_3) (i := 103) rfl)))), rfl⟩
set_option maxRecDepth 8000 in
theorem zw_584 : (Cond.instanceMethod ({ cls := "LifeboatHouse", name := "covered", desc := "(I)I" } : MethodName)) ∈ gtbl := List.mem_filter.mpr ⟨List.mem_append_right _ (List.mem_append_right _ (List.mem_append_right _ (List.mem_append_left _ (List.mem_of_getElem? (l := tables_1_3) (i := 104) rfl)))), rfl⟩
set_option maxRecDepth 8000 in
theorem zw_585 : (Cond.selects "LifeboatHouse" ({ cls := "LifeboatHouse", name := "covered", desc := "(I)I" } : MethodName) ({ cls := "LifeboatHouse", name := "covered", desc := "(I)I" } : MethodName)) ∈ gtbl := List.mem_filter.mpr ⟨List.mem_append_right _ (List.mem_append_right _ (List.mem_append_right _ (List.mem_append_left _ (List.mem_of_getElem? (l := tables_1_3) (i := 105) rfl)))), rfl⟩
set_option maxRecDepth 8000 in
theorem zw_586 : (Cond.code ({ cls := "LifeboatHouse", name := "covered", desc := "(I)I" } : MethodName) prog_1_method_30_code (2 : Nat) (Option.some FieldType.int)) ∈ gtbl := List.mem_filter.mpr ⟨List.mem_append_right _ (List.mem_append_right _ (List.mem_append_right _ (List.mem_append_left _ (List.mem_of_getElem? (l := tables_1_3) (i := 106) rfl)))), rfl⟩
set_option maxRecDepth 8000 in
theorem zw_587 : (Cond.methodLink "LifeboatHouse" (253 : Nat) ({ cls := "LifeboatHouse", name := "boatsReadyAt", desc := "(I)I" } : MethodName)) ∈ gtbl := List.mem_filter.mpr ⟨List.mem_append_right _ (List.mem_append_right _ (List.mem_append_right _ (List.mem_append_left _ (List.mem_of_getElem? (l := tables_1_3) (i := 107) rfl)))), rfl⟩
set_option maxRecDepth 8000 in
theorem zw_588 : (Cond.privateMethod ({ cls := "LifeboatHouse", name := "boatsReadyAt", desc := "(I)I" } : MethodName)) ∈ lw_tbl := List.mem_append_right _ (List.mem_append_right _ (List.mem_append_right _ (List.mem_append_left _ (List.mem_of_getElem? (l := tables_1_3) (i := 108) rfl))))
set_option maxRecDepth 8000 in
theorem zw_589 : (Cond.instanceMethod ({ cls := "LifeboatHouse", name := "boatsReadyAt", desc := "(I)I" } : MethodName)) ∈ gtbl := List.mem_filter.mpr ⟨List.mem_append_right _ (List.mem_append_right _ (List.mem_append_right _ (List.mem_append_left _ (List.mem_of_getElem? (l := tables_1_3) (i := 109) rfl)))), rfl⟩
set_option maxRecDepth 8000 in
theorem zw_590 : (Cond.code ({ cls := "LifeboatHouse", name := "boatsReadyAt", desc := "(I)I" } : MethodName) prog_1_method_34_code (5 : Nat) (Option.some FieldType.int)) ∈ gtbl := List.mem_filter.mpr ⟨List.mem_append_right _ (List.mem_append_right _ (List.mem_append_right _ (List.mem_append_left _ (List.mem_of_getElem? (l := tables_1_3) (i := 110) rfl)))), rfl⟩
set_option maxRecDepth 8000 in
theorem zw_591 : (Cond.methodLink "LifeboatHouseLaw" (102 : Nat) ({ cls := "LifeboatHouse", name := "flanks", desc := "(I)I" } : MethodName)) ∈ gtbl := List.mem_filter.mpr ⟨List.mem_append_right _ (List.mem_append_right _ (List.mem_append_right _ (List.mem_append_left _ (List.mem_of_getElem? (l := tables_1_3) (i := 111) rfl)))), rfl⟩
set_option maxRecDepth 8000 in
theorem zw_592 : (Cond.instanceMethod ({ cls := "LifeboatHouse", name := "flanks", desc := "(I)I" } : MethodName)) ∈ gtbl := List.mem_filter.mpr ⟨List.mem_append_right _ (List.mem_append_right _ (List.mem_append_right _ (List.mem_append_left _ (List.mem_of_getElem? (l := tables_1_3) (i := 112) rfl)))), rfl⟩
set_option maxRecDepth 8000 in
theorem zw_593 : (Cond.selects "LifeboatHouse" ({ cls := "LifeboatHouse", name := "flanks", desc := "(I)I" } : MethodName) ({ cls := "LifeboatHouse", name := "flanks", desc := "(I)I" } : MethodName)) ∈ gtbl := List.mem_filter.mpr ⟨List.mem_append_right _ (List.mem_append_right _ (List.mem_append_right _ (List.mem_append_left _ (List.mem_of_getElem? (l := tables_1_3) (i := 113) rfl)))), rfl⟩
set_option maxRecDepth 8000 in
theorem zw_594 : (Cond.code ({ cls := "LifeboatHouse", name := "flanks", desc := "(I)I" } : MethodName) prog_1_method_31_code (2 : Nat) (Option.some FieldType.int)) ∈ gtbl := List.mem_filter.mpr ⟨List.mem_append_right _ (List.mem_append_right _ (List.mem_append_right _ (List.mem_append_left _ (List.mem_of_getElem? (l := tables_1_3) (i := 114) rfl)))), rfl⟩
set_option maxRecDepth 8000 in
theorem zw_595 : (Cond.methodLink "LifeboatHouse" (256 : Nat) ({ cls := "LifeboatHouse", name := "planFlanks", desc := "()V" } : MethodName)) ∈ gtbl := List.mem_filter.mpr ⟨List.mem_append_right _ (List.mem_append_right _ (List.mem_append_right _ (List.mem_append_left _ (List.mem_of_getElem? (l := tables_1_3) (i := 115) rfl)))), rfl⟩
set_option maxRecDepth 8000 in
theorem zw_596 : (Cond.privateMethod ({ cls := "LifeboatHouse", name := "planFlanks", desc := "()V" } : MethodName)) ∈ lw_tbl := List.mem_append_right _ (List.mem_append_right _ (List.mem_append_right _ (List.mem_append_left _ (List.mem_of_getElem? (l := tables_1_3) (i := 116) rfl))))
set_option maxRecDepth 8000 in
theorem zw_597 : (Cond.instanceMethod ({ cls := "LifeboatHouse", name := "planFlanks", desc := "()V" } : MethodName)) ∈ gtbl := List.mem_filter.mpr ⟨List.mem_append_right _ (List.mem_append_right _ (List.mem_append_right _ (List.mem_append_left _ (List.mem_of_getElem? (l := tables_1_3) (i := 117) rfl)))), rfl⟩
set_option maxRecDepth 8000 in
theorem zw_598 : (Cond.code ({ cls := "LifeboatHouse", name := "planFlanks", desc := "()V" } : MethodName) prog_1_method_33_code (2 : Nat) (Option.none : Option FieldType)) ∈ gtbl := List.mem_filter.mpr ⟨List.mem_append_right _ (List.mem_append_right _ (List.mem_append_right _ (List.mem_append_left _ (List.mem_of_getElem? (l := tables_1_3) (i := 118) rfl)))), rfl⟩
set_option maxRecDepth 8000 in
theorem zw_599 : (Cond.methodLink "LifeboatHouse" (268 : Nat) ({ cls := "LifeboatHouse$FlankPlan", name := "tellReady", desc := "(III)V" } : MethodName)) ∈ gtbl := List.mem_filter.mpr ⟨List.mem_append_right _ (List.mem_append_right _ (List.mem_append_right _ (List.mem_append_left _ (List.mem_of_getElem? (l := tables_1_3) (i := 119) rfl)))), rfl⟩
set_option maxRecDepth 8000 in
theorem zw_600 : (Cond.instanceMethod ({ cls := "LifeboatHouse$FlankPlan", name := "tellReady", desc := "(III)V" } : MethodName)) ∈ gtbl := List.mem_filter.mpr ⟨List.mem_append_right _ (List.mem_append_right _ (List.mem_append_right _ (List.mem_append_left _ (List.mem_of_getElem? (l := tables_1_3) (i := 120) rfl)))), rfl⟩
set_option maxRecDepth 8000 in
theorem zw_601 : (Cond.selects "LifeboatHouse$FlankPlan" ({ cls := "LifeboatHouse$FlankPlan", name := "tellReady", desc := "(III)V" } : MethodName) ({ cls := "LifeboatHouse$FlankPlan", name := "tellReady", desc := "(III)V" } : MethodName)) ∈ gtbl := List.mem_filter.mpr ⟨List.mem_append_right _ (List.mem_append_right _ (List.mem_append_right _ (List.mem_append_left _ (List.mem_of_getElem? (l := tables_1_3) (i := 121) rfl)))), rfl⟩
set_option maxRecDepth 8000 in
theorem zw_602 : (Cond.code ({ cls := "LifeboatHouse$FlankPlan", name := "tellReady", desc := "(III)V" } : MethodName) prog_5_method_2_code (4 : Nat) (Option.none : Option FieldType)) ∈ gtbl := List.mem_filter.mpr ⟨List.mem_append_right _ (List.mem_append_right _ (List.mem_append_right _ (List.mem_append_left _ (List.mem_of_getElem? (l := tables_1_3) (i := 122) rfl)))), rfl⟩
set_option maxRecDepth 8000 in
theorem zw_603 : (Cond.methodLink "LifeboatHouse$FlankPlan" (35 : Nat) ({ cls := "java/lang/Math", name := "max", desc := "(II)I" } : MethodName)) ∈ gtbl := List.mem_filter.mpr ⟨List.mem_append_right _ (List.mem_append_right _ (List.mem_append_right _ (List.mem_append_left _ (List.mem_of_getElem? (l := tables_1_3) (i := 123) rfl)))), rfl⟩
set_option maxRecDepth 8000 in
theorem zw_604 : (Cond.methodLink "LifeboatHouse" (271 : Nat) ({ cls := "LifeboatHouse$FlankPlan", name := "find", desc := "()V" } : MethodName)) ∈ gtbl := List.mem_filter.mpr ⟨List.mem_append_right _ (List.mem_append_right _ (List.mem_append_right _ (List.mem_append_left _ (List.mem_of_getElem? (l := tables_1_3) (i := 124) rfl)))), rfl⟩
set_option maxRecDepth 8000 in
theorem zw_605 : (Cond.instanceMethod ({ cls := "LifeboatHouse$FlankPlan", name := "find", desc := "()V" } : MethodName)) ∈ gtbl := List.mem_filter.mpr ⟨List.mem_append_right _ (List.mem_append_right _ (List.mem_append_right _ (List.mem_append_left _ (List.mem_of_getElem? (l := tables_1_3) (i := 125) rfl)))), rfl⟩
set_option maxRecDepth 8000 in
theorem zw_606 : (Cond.selects "LifeboatHouse$FlankPlan" ({ cls := "LifeboatHouse$FlankPlan", name := "find", desc := "()V" } : MethodName) ({ cls := "LifeboatHouse$FlankPlan", name := "find", desc := "()V" } : MethodName)) ∈ gtbl := List.mem_filter.mpr ⟨List.mem_append_right _ (List.mem_append_right _ (List.mem_append_right _ (List.mem_append_left _ (List.mem_of_getElem? (l := tables_1_3) (i := 126) rfl)))), rfl⟩
set_option maxRecDepth 8000 in
theorem zw_607 : (Cond.code ({ cls := "LifeboatHouse$FlankPlan", name := "find", desc := "()V" } : MethodName) prog_5_method_3_code (1 : Nat) (Option.none : Option FieldType)) ∈ gtbl := List.mem_filter.mpr ⟨List.mem_append_right _ (List.mem_append_right _ (List.mem_append_right _ (List.mem_append_left _ (List.mem_of_getElem? (l := tables_1_3) (i := 127) rfl)))), rfl⟩
set_option maxRecDepth 8000 in
theorem zw_608 : (Cond.methodLink "LifeboatHouse$FlankPlan" (41 : Nat) ({ cls := "LifeboatHouse$FlankPlan", name := "tryFrom", desc := "(LLifeboatHouse$FlankPlan;III)V" } : MethodName)) ∈ gtbl := List.mem_filter.mpr ⟨List.mem_append_right _ (List.mem_append_right _ (List.mem_append_right _ (List.mem_append_left _ (List.mem_of_getElem? (l := tables_1_3) (i := 128) rfl)))), rfl⟩
set_option maxRecDepth 8000 in
theorem zw_609 : (Cond.static ({ cls := "LifeboatHouse$FlankPlan", name := "tryFrom", desc := "(LLifeboatHouse$FlankPlan;III)V" } : MethodName)) ∈ gtbl := List.mem_filter.mpr ⟨List.mem_append_right _ (List.mem_append_right _ (List.mem_append_right _ (List.mem_append_left _ (List.mem_of_getElem? (l := tables_1_3) (i := 129) rfl)))), rfl⟩
set_option maxRecDepth 8000 in
theorem zw_610 : (Cond.code ({ cls := "LifeboatHouse$FlankPlan", name := "tryFrom", desc := "(LLifeboatHouse$FlankPlan;III)V" } : MethodName) prog_5_method_4_code (6 : Nat) (Option.none : Option FieldType)) ∈ gtbl := List.mem_filter.mpr ⟨List.mem_append_right _ (List.mem_append_right _ (List.mem_append_right _ (List.mem_append_left _ (List.mem_of_getElem? (l := tables_1_3) (i := 130) rfl)))), rfl⟩
set_option maxRecDepth 8000 in
theorem zw_611 : (Cond.methodLink "LifeboatHouse$FlankPlan" (45 : Nat) ({ cls := "LifeboatHouse$FlankPlan", name := "keepIfBetter", desc := "(II)V" } : MethodName)) ∈ gtbl := List.mem_filter.mpr ⟨List.mem_append_right _ (List.mem_append_right _ (List.mem_append_right _ (List.mem_append_left _ (List.mem_of_getElem? (l := tables_1_3) (i := 131) rfl)))), rfl⟩
set_option maxRecDepth 8000 in
theorem zw_612 : (Cond.privateMethod ({ cls := "LifeboatHouse$FlankPlan", name := "keepIfBetter", desc := "(II)V" } : MethodName)) ∈ lw_tbl := List.mem_append_right _ (List.mem_append_right _ (List.mem_append_right _ (List.mem_append_left _ (List.mem_of_getElem? (l := tables_1_3) (i := 132) rfl))))
set_option maxRecDepth 8000 in
theorem zw_613 : (Cond.instanceMethod ({ cls := "LifeboatHouse$FlankPlan", name := "keepIfBetter", desc := "(II)V" } : MethodName)) ∈ gtbl := List.mem_filter.mpr ⟨List.mem_append_right _ (List.mem_append_right _ (List.mem_append_right _ (List.mem_append_left _ (List.mem_of_getElem? (l := tables_1_3) (i := 133) rfl)))), rfl⟩
set_option maxRecDepth 8000 in
theorem zw_614 : (Cond.code ({ cls := "LifeboatHouse$FlankPlan", name := "keepIfBetter", desc := "(II)V" } : MethodName) prog_5_method_5_code (3 : Nat) (Option.none : Option FieldType)) ∈ gtbl := List.mem_filter.mpr ⟨List.mem_append_right _ (List.mem_append_right _ (List.mem_append_right _ (List.mem_append_left _ (List.mem_of_getElem? (l := tables_1_3) (i := 134) rfl)))), rfl⟩
set_option maxRecDepth 8000 in
theorem zw_615 : (Cond.methodLink "LifeboatHouse$FlankPlan" (53 : Nat) ({ cls := "java/lang/System", name := "arraycopy", desc := "(Ljava/lang/Object;ILjava/lang/Object;II)V" } : MethodName)) ∈ gtbl := List.mem_filter.mpr ⟨List.mem_append_right _ (List.mem_append_right _ (List.mem_append_right _ (List.mem_append_left _ (List.mem_of_getElem? (l := tables_1_3) (i := 135) rfl)))), rfl⟩
set_option maxRecDepth 8000 in
theorem zw_616 : (Cond.methodLink "LifeboatHouse$FlankPlan" (49 : Nat) ({ cls := "java/lang/Math", name := "abs", desc := "(I)I" } : MethodName)) ∈ gtbl := List.mem_filter.mpr ⟨List.mem_append_right _ (List.mem_append_right _ (List.mem_append_right _ (List.mem_append_left _ (List.mem_of_getElem? (l := tables_1_3) (i := 136) rfl)))), rfl⟩
set_option maxRecDepth 8000 in
theorem zw_617 : (Cond.methodLink "LifeboatHouseLaw" (106 : Nat) ({ cls := "LifeboatHouse", name := "flank", desc := "(I)I" } : MethodName)) ∈ gtbl := List.mem_filter.mpr ⟨List.mem_append_right _ (List.mem_append_right _ (List.mem_append_right _ (List.mem_append_left _ (List.mem_of_getElem? (l := tables_1_3) (i := 137) rfl)))), rfl⟩
set_option maxRecDepth 8000 in
theorem zw_618 : (Cond.instanceMethod ({ cls := "LifeboatHouse", name := "flank", desc := "(I)I" } : MethodName)) ∈ gtbl := List.mem_filter.mpr ⟨List.mem_append_right _ (List.mem_append_right _ (List.mem_append_right _ (List.mem_append_left _ (List.mem_of_getElem? (l := tables_1_3) (i := 138) rfl)))), rfl⟩
set_option maxRecDepth 8000 in
theorem zw_619 : (Cond.selects "LifeboatHouse" ({ cls := "LifeboatHouse", name := "flank", desc := "(I)I" } : MethodName) ({ cls := "LifeboatHouse", name := "flank", desc := "(I)I" } : MethodName)) ∈ gtbl := List.mem_filter.mpr ⟨List.mem_append_right _ (List.mem_append_right _ (List.mem_append_right _ (List.mem_append_left _ (List.mem_of_getElem? (l := tables_1_3) (i := 139) rfl)))), rfl⟩
set_option maxRecDepth 8000 in
theorem zw_620 : (Cond.code ({ cls := "LifeboatHouse", name := "flank", desc := "(I)I" } : MethodName) prog_1_method_32_code (2 : Nat) (Option.some FieldType.int)) ∈ gtbl := List.mem_filter.mpr ⟨List.mem_append_right _ (List.mem_append_right _ (List.mem_append_right _ (List.mem_append_left _ (List.mem_of_getElem? (l := tables_1_3) (i := 140) rfl)))), rfl⟩
set_option maxRecDepth 8000 in
theorem zw_621 : (Cond.methodLink "LifeboatHouseLaw" (110 : Nat) ({ cls := "LifeboatHouse", name := "box", desc := "(II)I" } : MethodName)) ∈ gtbl := List.mem_filter.mpr ⟨List.mem_append_right _ (List.mem_append_right _ (List.mem_append_right _ (List.mem_append_left _ (List.mem_of_getElem? (l := tables_1_3) (i := 141) rfl)))), rfl⟩
set_option maxRecDepth 8000 in
theorem zw_622 : (Cond.instanceMethod ({ cls := "LifeboatHouse", name := "box", desc := "(II)I" } : MethodName)) ∈ gtbl := List.mem_filter.mpr ⟨List.mem_append_right _ (List.mem_append_right _ (List.mem_append_right _ (List.mem_append_left _ (List.mem_of_getElem? (l := tables_1_3) (i := 142) rfl)))), rfl⟩
set_option maxRecDepth 8000 in
theorem zw_623 : (Cond.selects "LifeboatHouse" ({ cls := "LifeboatHouse", name := "box", desc := "(II)I" } : MethodName) ({ cls := "LifeboatHouse", name := "box", desc := "(II)I" } : MethodName)) ∈ gtbl := List.mem_filter.mpr ⟨List.mem_append_right _ (List.mem_append_right _ (List.mem_append_right _ (List.mem_append_left _ (List.mem_of_getElem? (l := tables_1_3) (i := 143) rfl)))), rfl⟩
set_option maxRecDepth 8000 in
theorem zw_624 : (Cond.code ({ cls := "LifeboatHouse", name := "box", desc := "(II)I" } : MethodName) prog_1_method_35_code (5 : Nat) (Option.some FieldType.int)) ∈ gtbl := List.mem_filter.mpr ⟨List.mem_append_right _ (List.mem_append_right _ (List.mem_append_right _ (List.mem_append_left _ (List.mem_of_getElem? (l := tables_1_3) (i := 144) rfl)))), rfl⟩
set_option maxRecDepth 8000 in
theorem zw_625 : (Cond.methodLink "LifeboatHouse" (274 : Nat) ({ cls := "LifeboatHouse", name := "isBox", desc := "(I)Z" } : MethodName)) ∈ gtbl := List.mem_filter.mpr ⟨List.mem_append_right _ (List.mem_append_right _ (List.mem_append_right _ (List.mem_append_left _ (List.mem_of_getElem? (l := tables_1_3) (i := 145) rfl)))), rfl⟩
set_option maxRecDepth 8000 in
theorem zw_626 : (Cond.static ({ cls := "LifeboatHouse", name := "isBox", desc := "(I)Z" } : MethodName)) ∈ gtbl := List.mem_filter.mpr ⟨List.mem_append_right _ (List.mem_append_right _ (List.mem_append_right _ (List.mem_append_left _ (List.mem_of_getElem? (l := tables_1_3) (i := 146) rfl)))), rfl⟩
set_option maxRecDepth 8000 in
theorem zw_627 : (Cond.code ({ cls := "LifeboatHouse", name := "isBox", desc := "(I)Z" } : MethodName) prog_1_method_52_code (1 : Nat) (Option.some FieldType.boolean)) ∈ gtbl := List.mem_filter.mpr ⟨List.mem_append_right _ (List.mem_append_right _ (List.mem_append_right _ (List.mem_append_left _ (List.mem_of_getElem? (l := tables_1_3) (i := 147) rfl)))), rfl⟩
set_option maxRecDepth 8000 in
theorem zw_628 : (Cond.methodLink "LifeboatHouseLaw" (114 : Nat) ({ cls := "LifeboatHouse", name := "look", desc := "(II)I" } : MethodName)) ∈ gtbl := List.mem_filter.mpr ⟨List.mem_append_right _ (List.mem_append_right _ (List.mem_append_right _ (List.mem_append_left _ (List.mem_of_getElem? (l := tables_1_3) (i := 148) rfl)))), rfl⟩
set_option maxRecDepth 8000 in
theorem zw_629 : (Cond.instanceMethod ({ cls := "LifeboatHouse", name := "look", desc := "(II)I" } : MethodName)) ∈ gtbl := List.mem_filter.mpr ⟨List.mem_append_right _ (List.mem_append_right _ (List.mem_append_right _ (List.mem_append_left _ (List.mem_of_getElem? (l := tables_1_3) (i := 149) rfl)))), rfl⟩
set_option maxRecDepth 8000 in
theorem zw_630 : (Cond.selects "LifeboatHouse" ({ cls := "LifeboatHouse", name := "look", desc := "(II)I" } : MethodName) ({ cls := "LifeboatHouse", name := "look", desc := "(II)I" } : MethodName)) ∈ gtbl := List.mem_filter.mpr ⟨List.mem_append_right _ (List.mem_append_right _ (List.mem_append_right _ (List.mem_append_left _ (List.mem_of_getElem? (l := tables_1_3) (i := 150) rfl)))), rfl⟩
set_option maxRecDepth 8000 in
theorem zw_631 : (Cond.code ({ cls := "LifeboatHouse", name := "look", desc := "(II)I" } : MethodName) prog_1_method_36_code (4 : Nat) (Option.some FieldType.int)) ∈ gtbl := List.mem_filter.mpr ⟨List.mem_append_right _ (List.mem_append_right _ (List.mem_append_right _ (List.mem_append_left _ (List.mem_of_getElem? (l := tables_1_3) (i := 151) rfl)))), rfl⟩
set_option maxRecDepth 8000 in
theorem zw_632 : (Cond.methodLink "LifeboatHouse" (280 : Nat) ({ cls := "LifeboatHouse$Search", name := "leftOf", desc := "(II)I" } : MethodName)) ∈ gtbl := List.mem_filter.mpr ⟨List.mem_append_right _ (List.mem_append_right _ (List.mem_append_right _ (List.mem_append_left _ (List.mem_of_getElem? (l := tables_1_3) (i := 152) rfl)))), rfl⟩
set_option maxRecDepth 8000 in
theorem zw_633 : (Cond.static ({ cls := "LifeboatHouse$Search", name := "leftOf", desc := "(II)I" } : MethodName)) ∈ gtbl := List.mem_filter.mpr ⟨List.mem_append_right _ (List.mem_append_right _ (List.mem_append_right _ (List.mem_append_left _ (List.mem_of_getElem? (l := tables_1_3) (i := 153) rfl)))), rfl⟩
set_option maxRecDepth 8000 in
theorem zw_634 : (Cond.code ({ cls := "LifeboatHouse$Search", name := "leftOf", desc := "(II)I" } : MethodName) prog_9_method_2_code (2 : Nat) (Option.some FieldType.int)) ∈ gtbl := List.mem_filter.mpr ⟨List.mem_append_right _ (List.mem_append_right _ (List.mem_append_right _ (List.mem_append_left _ (List.mem_of_getElem? (l := tables_1_3) (i := 154) rfl)))), rfl⟩
set_option maxRecDepth 8000 in
theorem zw_635 : (Cond.methodLink "LifeboatHouseLaw" (118 : Nat) ({ cls := "LifeboatHouse", name := "looks", desc := "(II)I" } : MethodName)) ∈ gtbl := List.mem_filter.mpr ⟨List.mem_append_right _ (List.mem_append_right _ (List.mem_append_right _ (List.mem_append_left _ (List.mem_of_getElem? (l := tables_1_3) (i := 155) rfl)))), rfl⟩
set_option maxRecDepth 8000 in
theorem zw_636 : (Cond.instanceMethod ({ cls := "LifeboatHouse", name := "looks", desc := "(II)I" } : MethodName)) ∈ gtbl := List.mem_filter.mpr ⟨List.mem_append_right _ (List.mem_append_right _ (List.mem_append_right _ (List.mem_append_left _ (List.mem_of_getElem? (l := tables_1_3) (i := 156) rfl)))), rfl⟩
set_option maxRecDepth 8000 in
theorem zw_637 : (Cond.selects "LifeboatHouse" ({ cls := "LifeboatHouse", name := "looks", desc := "(II)I" } : MethodName) ({ cls := "LifeboatHouse", name := "looks", desc := "(II)I" } : MethodName)) ∈ gtbl := List.mem_filter.mpr ⟨List.mem_append_right _ (List.mem_append_right _ (List.mem_append_right _ (List.mem_append_left _ (List.mem_of_getElem? (l := tables_1_3) (i := 157) rfl)))), rfl⟩
set_option maxRecDepth 8000 in
theorem zw_638 : (Cond.code ({ cls := "LifeboatHouse", name := "looks", desc := "(II)I" } : MethodName) prog_1_method_37_code (4 : Nat) (Option.some FieldType.int)) ∈ gtbl := List.mem_filter.mpr ⟨List.mem_append_right _ (List.mem_append_right _ (List.mem_append_right _ (List.mem_append_left _ (List.mem_of_getElem? (l := tables_1_3) (i := 158) rfl)))), rfl⟩
set_option maxRecDepth 8000 in
theorem zw_639 : (Cond.methodLink "LifeboatHouse" (283 : Nat) ({ cls := "LifeboatHouse", name := "wrongLooks", desc := "(II)I" } : MethodName)) ∈ gtbl := List.mem_filter.mpr ⟨List.mem_append_right _ (List.mem_append_right _ (List.mem_append_right _ (List.mem_append_left _ (List.mem_of_getElem? (l := tables_1_3) (i := 159) rfl)))), rfl⟩
set_option maxRecDepth 8000 in
theorem zw_640 : (Cond.static ({ cls := "LifeboatHouse", name := "wrongLooks", desc := "(II)I" } : MethodName)) ∈ gtbl := List.mem_filter.mpr ⟨List.mem_append_right _ (List.mem_append_right _ (List.mem_append_right _ (List.mem_append_left _ (List.mem_of_getElem? (l := tables_1_3) (i := 160) rfl)))), rfl⟩
set_option maxRecDepth 8000 in
theorem zw_641 : (Cond.code ({ cls := "LifeboatHouse", name := "wrongLooks", desc := "(II)I" } : MethodName) prog_1_method_39_code (2 : Nat) (Option.some FieldType.int)) ∈ gtbl := List.mem_filter.mpr ⟨List.mem_append_right _ (List.mem_append_right _ (List.mem_append_right _ (List.mem_append_left _ (List.mem_of_getElem? (l := tables_1_3) (i := 161) rfl)))), rfl⟩
set_option maxRecDepth 8000 in
theorem zw_642 : (Cond.methodLink "LifeboatHouse" (286 : Nat) ({ cls := "LifeboatHouse$Search", name := "plan", desc := "(II)V" } : MethodName)) ∈ gtbl := List.mem_filter.mpr ⟨List.mem_append_right _ (List.mem_append_right _ (List.mem_append_right _ (List.mem_append_left _ (List.mem_of_getElem? (l := tables_1_3) (i := 162) rfl)))), rfl⟩
set_option maxRecDepth 8000 in
theorem zw_643 : (Cond.instanceMethod ({ cls := "LifeboatHouse$Search", name := "plan", desc := "(II)V" } : MethodName)) ∈ gtbl := List.mem_filter.mpr ⟨List.mem_append_right _ (List.mem_append_right _ (List.mem_append_right _ (List.mem_append_left _ (List.mem_of_getElem? (l := tables_1_3) (i := 163) rfl)))), rfl⟩
set_option maxRecDepth 8000 in
theorem zw_644 : (Cond.selects "LifeboatHouse$Search" ({ cls := "LifeboatHouse$Search", name := "plan", desc := "(II)V" } : MethodName) ({ cls := "LifeboatHouse$Search", name := "plan", desc := "(II)V" } : MethodName)) ∈ gtbl := List.mem_filter.mpr ⟨List.mem_append_right _ (List.mem_append_right _ (List.mem_append_right _ (List.mem_append_left _ (List.mem_of_getElem? (l := tables_1_3) (i := 164) rfl)))), rfl⟩
set_option maxRecDepth 8000 in
theorem zw_645 : (Cond.code ({ cls := "LifeboatHouse$Search", name := "plan", desc := "(II)V" } : MethodName) prog_9_method_3_code (5 : Nat) (Option.none : Option FieldType)) ∈ gtbl := List.mem_filter.mpr ⟨List.mem_append_right _ (List.mem_append_right _ (List.mem_append_right _ (List.mem_append_left _ (List.mem_of_getElem? (l := tables_1_3) (i := 165) rfl)))), rfl⟩
set_option maxRecDepth 8000 in
theorem zw_646 : (Cond.methodLink "LifeboatHouse$Search" (25 : Nat) ({ cls := "java/lang/System", name := "arraycopy", desc := "(Ljava/lang/Object;ILjava/lang/Object;II)V" } : MethodName)) ∈ gtbl := List.mem_filter.mpr ⟨List.mem_append_right _ (List.mem_append_right _ (List.mem_append_right _ (List.mem_append_left _ (List.mem_of_getElem? (l := tables_1_3) (i := 166) rfl)))), rfl⟩
set_option maxRecDepth 8000 in
theorem zw_647 : (Cond.methodLink "LifeboatHouse$Search" (31 : Nat) ({ cls := "LifeboatHouse$Search", name := "richest", desc := "(I)I" } : MethodName)) ∈ gtbl := List.mem_filter.mpr ⟨List.mem_append_right _ (List.mem_append_right _ (List.mem_append_right _ (List.mem_append_left _ (List.mem_of_getElem? (l := tables_1_3) (i := 167) rfl)))), rfl⟩
set_option maxRecDepth 8000 in
theorem zw_648 : (Cond.privateMethod ({ cls := "LifeboatHouse$Search", name := "richest", desc := "(I)I" } : MethodName)) ∈ lw_tbl := List.mem_append_right _ (List.mem_append_right _ (List.mem_append_right _ (List.mem_append_left _ (List.mem_of_getElem? (l := tables_1_3) (i := 168) rfl))))
set_option maxRecDepth 8000 in
theorem zw_649 : (Cond.instanceMethod ({ cls := "LifeboatHouse$Search", name := "richest", desc := "(I)I" } : MethodName)) ∈ gtbl := List.mem_filter.mpr ⟨List.mem_append_right _ (List.mem_append_right _ (List.mem_append_right _ (List.mem_append_left _ (List.mem_of_getElem? (l := tables_1_3) (i := 169) rfl)))), rfl⟩
set_option maxRecDepth 8000 in
theorem zw_650 : (Cond.code ({ cls := "LifeboatHouse$Search", name := "richest", desc := "(I)I" } : MethodName) prog_9_method_4_code (4 : Nat) (Option.some FieldType.int)) ∈ gtbl := List.mem_filter.mpr ⟨List.mem_append_right _ (List.mem_append_right _ (List.mem_append_right _ (List.mem_append_left _ (List.mem_of_getElem? (l := tables_1_3) (i := 170) rfl)))), rfl⟩
set_option maxRecDepth 8000 in
theorem zw_651 : (Cond.methodLink "LifeboatHouse$Search" (35 : Nat) ({ cls := "LifeboatHouse$Search", name := "foundOf", desc := "(II)I" } : MethodName)) ∈ gtbl := List.mem_filter.mpr ⟨List.mem_append_right _ (List.mem_append_right _ (List.mem_append_right _ (List.mem_append_left _ (List.mem_of_getElem? (l := tables_1_3) (i := 171) rfl)))), rfl⟩
set_option maxRecDepth 8000 in
theorem zw_652 : (Cond.static ({ cls := "LifeboatHouse$Search", name := "foundOf", desc := "(II)I" } : MethodName)) ∈ gtbl := List.mem_filter.mpr ⟨List.mem_append_right _ (List.mem_append_right _ (List.mem_append_right _ (List.mem_append_left _ (List.mem_of_getElem? (l := tables_1_3) (i := 172) rfl)))), rfl⟩
set_option maxRecDepth 8000 in
theorem zw_653 : (Cond.code ({ cls := "LifeboatHouse$Search", name := "foundOf", desc := "(II)I" } : MethodName) prog_9_method_5_code (2 : Nat) (Option.some FieldType.int)) ∈ gtbl := List.mem_filter.mpr ⟨List.mem_append_right _ (List.mem_append_right _ (List.mem_append_right _ (List.mem_append_left _ (List.mem_of_getElem? (l := tables_1_3) (i := 173) rfl)))), rfl⟩
set_option maxRecDepth 8000 in
theorem zw_654 : (Cond.methodLink "LifeboatHouse$Search" (39 : Nat) ({ cls := "LifeboatHouse$Search", name := "leftOf", desc := "(II)I" } : MethodName)) ∈ gtbl := List.mem_filter.mpr ⟨List.mem_append_right _ (List.mem_append_right _ (List.mem_append_right _ (List.mem_append_left _ (List.mem_of_getElem? (l := tables_1_3) (i := 174) rfl)))), rfl⟩
set_option maxRecDepth 8000 in
theorem zw_655 : (Cond.methodLink "LifeboatHouseLaw" (122 : Nat) ({ cls := "LifeboatHouse", name := "lookAt", desc := "(III)I" } : MethodName)) ∈ gtbl := List.mem_filter.mpr ⟨List.mem_append_right _ (List.mem_append_right _ (List.mem_append_right _ (List.mem_append_left _ (List.mem_of_getElem? (l := tables_1_3) (i := 175) rfl)))), rfl⟩
set_option maxRecDepth 8000 in
theorem zw_656 : (Cond.instanceMethod ({ cls := "LifeboatHouse", name := "lookAt", desc := "(III)I" } : MethodName)) ∈ gtbl := List.mem_filter.mpr ⟨List.mem_append_right _ (List.mem_append_right _ (List.mem_append_right _ (List.mem_append_left _ (List.mem_of_getElem? (l := tables_1_3) (i := 176) rfl)))), rfl⟩
set_option maxRecDepth 8000 in
theorem zw_657 : (Cond.selects "LifeboatHouse" ({ cls := "LifeboatHouse", name := "lookAt", desc := "(III)I" } : MethodName) ({ cls := "LifeboatHouse", name := "lookAt", desc := "(III)I" } : MethodName)) ∈ gtbl := List.mem_filter.mpr ⟨List.mem_append_right _ (List.mem_append_right _ (List.mem_append_right _ (List.mem_append_left _ (List.mem_of_getElem? (l := tables_1_3) (i := 177) rfl)))), rfl⟩
set_option maxRecDepth 8000 in
theorem zw_658 : (Cond.code ({ cls := "LifeboatHouse", name := "lookAt", desc := "(III)I" } : MethodName) prog_1_method_38_code (5 : Nat) (Option.some FieldType.int)) ∈ gtbl := List.mem_filter.mpr ⟨List.mem_append_right _ (List.mem_append_right _ (List.mem_append_right _ (List.mem_append_left _ (List.mem_of_getElem? (l := tables_1_3) (i := 178) rfl)))), rfl⟩
set_option maxRecDepth 8000 in
theorem zw_659 : (Cond.methodLink "LifeboatHouseLaw" (126 : Nat) ({ cls := "LifeboatHouse", name := "rest", desc := "(II)I" } : MethodName)) ∈ gtbl := List.mem_filter.mpr ⟨List.mem_append_right _ (List.mem_append_right _ (List.mem_append_right _ (List.mem_append_left _ (List.mem_of_getElem? (l := tables_1_3) (i := 179) rfl)))), rfl⟩
set_option maxRecDepth 8000 in
theorem zw_660 : (Cond.instanceMethod ({ cls := "LifeboatHouse", name := "rest", desc := "(II)I" } : MethodName)) ∈ gtbl := List.mem_filter.mpr ⟨List.mem_append_right _ (List.mem_append_right _ (List.mem_append_right _ (List.mem_append_left _ (List.mem_of_getElem? (l := tables_1_3) (i := 180) rfl)))), rfl⟩
set_option maxRecDepth 8000 in
theorem zw_661 : (Cond.selects "LifeboatHouse" ({ cls := "LifeboatHouse", name := "rest", desc := "(II)I" } : MethodName) ({ cls := "LifeboatHouse", name := "rest", desc := "(II)I" } : MethodName)) ∈ gtbl := List.mem_filter.mpr ⟨List.mem_append_right _ (List.mem_append_right _ (List.mem_append_right _ (List.mem_append_left _ (List.mem_of_getElem? (l := tables_1_3) (i := 181) rfl)))), rfl⟩
set_option maxRecDepth 8000 in
theorem zw_662 : (Cond.code ({ cls := "LifeboatHouse", name := "rest", desc := "(II)I" } : MethodName) prog_1_method_40_code (6 : Nat) (Option.some FieldType.int)) ∈ gtbl := List.mem_filter.mpr ⟨List.mem_append_right _ (List.mem_append_right _ (List.mem_append_right _ (List.mem_append_left _ (List.mem_of_getElem? (l := tables_1_3) (i := 182) rfl)))), rfl⟩
set_option maxRecDepth 8000 in
theorem zw_663 : (Cond.methodLink "LifeboatHouseLaw" (130 : Nat) ({ cls := "LifeboatHouse", name := "turn", desc := "(II)I" } : MethodName)) ∈ gtbl := List.mem_filter.mpr ⟨List.mem_append_right _ (List.mem_append_right _ (List.mem_append_right _ (List.mem_append_left _ (List.mem_of_getElem? (l := tables_1_3) (i := 183) rfl)))), rfl⟩
set_option maxRecDepth 8000 in
theorem zw_664 : (Cond.instanceMethod ({ cls := "LifeboatHouse", name := "turn", desc := "(II)I" } : MethodName)) ∈ gtbl := List.mem_filter.mpr ⟨List.mem_append_right _ (List.mem_append_right _ (List.mem_append_right _ (List.mem_append_left _ (List.mem_of_getElem? (l := tables_1_3) (i := 184) rfl)))), rfl⟩
set_option maxRecDepth 8000 in
theorem zw_665 : (Cond.selects "LifeboatHouse" ({ cls := "LifeboatHouse", name := "turn", desc := "(II)I" } : MethodName) ({ cls := "LifeboatHouse", name := "turn", desc := "(II)I" } : MethodName)) ∈ gtbl := List.mem_filter.mpr ⟨List.mem_append_right _ (List.mem_append_right _ (List.mem_append_right _ (List.mem_append_left _ (List.mem_of_getElem? (l := tables_1_3) (i := 185) rfl)))), rfl⟩
set_option maxRecDepth 8000 in
theorem zw_666 : (Cond.code ({ cls := "LifeboatHouse", name := "turn", desc := "(II)I" } : MethodName) prog_1_method_41_code (4 : Nat) (Option.some FieldType.int)) ∈ gtbl := List.mem_filter.mpr ⟨List.mem_append_right _ (List.mem_append_right _ (List.mem_append_right _ (List.mem_append_left _ (List.mem_of_getElem? (l := tables_1_3) (i := 186) rfl)))), rfl⟩
set_option maxRecDepth 8000 in
theorem zw_667 : (Cond.methodLink "LifeboatHouse" (298 : Nat) ({ cls := "LifeboatHouse", name := "placeInTurn", desc := "(I)I" } : MethodName)) ∈ gtbl := List.mem_filter.mpr ⟨List.mem_append_right _ (List.mem_append_right _ (List.mem_append_right _ (List.mem_append_left _ (List.mem_of_getElem? (l := tables_1_3) (i := 187) rfl)))), rfl⟩
set_option maxRecDepth 8000 in
theorem zw_668 : (Cond.privateMethod ({ cls := "LifeboatHouse", name := "placeInTurn", desc := "(I)I" } : MethodName)) ∈ lw_tbl := List.mem_append_right _ (List.mem_append_right _ (List.mem_append_right _ (List.mem_append_left _ (List.mem_of_getElem? (l := tables_1_3) (i := 188) rfl))))
set_option maxRecDepth 8000 in
theorem zw_669 : (Cond.instanceMethod ({ cls := "LifeboatHouse", name := "placeInTurn", desc := "(I)I" } : MethodName)) ∈ gtbl := List.mem_filter.mpr ⟨List.mem_append_right _ (List.mem_append_right _ (List.mem_append_right _ (List.mem_append_left _ (List.mem_of_getElem? (l := tables_1_3) (i := 189) rfl)))), rfl⟩
set_option maxRecDepth 8000 in
theorem zw_670 : (Cond.code ({ cls := "LifeboatHouse", name := "placeInTurn", desc := "(I)I" } : MethodName) prog_1_method_42_code (6 : Nat) (Option.some FieldType.int)) ∈ gtbl := List.mem_filter.mpr ⟨List.mem_append_right _ (List.mem_append_right _ (List.mem_append_right _ (List.mem_append_left _ (List.mem_of_getElem? (l := tables_1_3) (i := 190) rfl)))), rfl⟩
set_option maxRecDepth 8000 in
theorem zw_671 : (Cond.methodLink "LifeboatHouseLaw" (134 : Nat) ({ cls := "LifeboatHouse", name := "personOf", desc := "(II)I" } : MethodName)) ∈ gtbl := List.mem_filter.mpr ⟨List.mem_append_right _ (List.mem_append_right _ (List.mem_append_right _ (List.mem_append_left _ (List.mem_of_getElem? (l := tables_1_3) (i := 191) rfl)))), rfl⟩
set_option maxRecDepth 8000 in
theorem zw_672 : (Cond.instanceMethod ({ cls := "LifeboatHouse", name := "personOf", desc := "(II)I" } : MethodName)) ∈ gtbl := List.mem_filter.mpr ⟨List.mem_append_right _ (List.mem_append_right _ (List.mem_append_right _ (List.mem_append_left _ (List.mem_of_getElem? (l := tables_1_3) (i := 192) rfl)))), rfl⟩
set_option maxRecDepth 8000 in
theorem zw_673 : (Cond.selects "LifeboatHouse" ({ cls := "LifeboatHouse", name := "personOf", desc := "(II)I" } : MethodName) ({ cls := "LifeboatHouse", name := "personOf", desc := "(II)I" } : MethodName)) ∈ gtbl := List.mem_filter.mpr ⟨List.mem_append_right _ (List.mem_append_right _ (List.mem_append_right _ (List.mem_append_left _ (List.mem_of_getElem? (l := tables_1_3) (i := 193) rfl)))), rfl⟩
set_option maxRecDepth 8000 in
theorem zw_674 : (Cond.code ({ cls := "LifeboatHouse", name := "personOf", desc := "(II)I" } : MethodName) prog_1_method_43_code (4 : Nat) (Option.some FieldType.int)) ∈ gtbl := List.mem_filter.mpr ⟨List.mem_append_right _ (List.mem_append_right _ (List.mem_append_right _ (List.mem_append_left _ (List.mem_of_getElem? (l := tables_1_3) (i := 194) rfl)))), rfl⟩
set_option maxRecDepth 8000 in
theorem zw_675 : (Cond.methodLink "LifeboatHouseLaw" (138 : Nat) ({ cls := "LifeboatHouse", name := "count", desc := "(I)I" } : MethodName)) ∈ gtbl := List.mem_filter.mpr ⟨List.mem_append_right _ (List.mem_append_right _ (List.mem_append_right _ (List.mem_append_left _ (List.mem_of_getElem? (l := tables_1_3) (i := 195) rfl)))), rfl⟩
set_option maxRecDepth 8000 in
theorem zw_676 : (Cond.instanceMethod ({ cls := "LifeboatHouse", name := "count", desc := "(I)I" } : MethodName)) ∈ gtbl := List.mem_filter.mpr ⟨List.mem_append_right _ (List.mem_append_right _ (List.mem_append_right _ (List.mem_append_left _ (List.mem_of_getElem? (l := tables_1_3) (i := 196) rfl)))), rfl⟩
set_option maxRecDepth 8000 in
theorem zw_677 : (Cond.selects "LifeboatHouse" ({ cls := "LifeboatHouse", name := "count", desc := "(I)I" } : MethodName) ({ cls := "LifeboatHouse", name := "count", desc := "(I)I" } : MethodName)) ∈ gtbl := List.mem_filter.mpr ⟨List.mem_append_right _ (List.mem_append_right _ (List.mem_append_right _ (List.mem_append_left _ (List.mem_of_getElem? (l := tables_1_3) (i := 197) rfl)))), rfl⟩
set_option maxRecDepth 8000 in
theorem zw_678 : (Cond.code ({ cls := "LifeboatHouse", name := "count", desc := "(I)I" } : MethodName) prog_1_method_44_code (2 : Nat) (Option.some FieldType.int)) ∈ gtbl := List.mem_filter.mpr ⟨List.mem_append_right _ (List.mem_append_right _ (List.mem_append_right _ (List.mem_append_left _ (List.mem_of_getElem? (l := tables_1_3) (i := 198) rfl)))), rfl⟩
set_option maxRecDepth 8000 in
theorem zw_679 : (Cond.methodLink "LifeboatHouse" (301 : Nat) ({ cls := "LifeboatHouse", name := "boatsAway", desc := "()I" } : MethodName)) ∈ gtbl := List.mem_filter.mpr ⟨List.mem_append_right _ (List.mem_append_right _ (List.mem_append_right _ (List.mem_append_left _ (List.mem_of_getElem? (l := tables_1_3) (i := 199) rfl)))), rfl⟩
set_option maxRecDepth 8000 in
theorem zw_680 : (Cond.privateMethod ({ cls := "LifeboatHouse", name := "boatsAway", desc := "()I" } : MethodName)) ∈ lw_tbl := List.mem_append_right _ (List.mem_append_right _ (List.mem_append_right _ (List.mem_append_left _ (List.mem_of_getElem? (l := tables_1_3) (i := 200) rfl))))
set_option maxRecDepth 8000 in
theorem zw_681 : (Cond.instanceMethod ({ cls := "LifeboatHouse", name := "boatsAway", desc := "()I" } : MethodName)) ∈ gtbl := List.mem_filter.mpr ⟨List.mem_append_right _ (List.mem_append_right _ (List.mem_append_right _ (List.mem_append_left _ (List.mem_of_getElem? (l := tables_1_3) (i := 201) rfl)))), rfl⟩
set_option maxRecDepth 8000 in
theorem zw_682 : (Cond.code ({ cls := "LifeboatHouse", name := "boatsAway", desc := "()I" } : MethodName) prog_1_method_45_code (3 : Nat) (Option.some FieldType.int)) ∈ gtbl := List.mem_filter.mpr ⟨List.mem_append_right _ (List.mem_append_right _ (List.mem_append_right _ (List.mem_append_left _ (List.mem_of_getElem? (l := tables_1_3) (i := 202) rfl)))), rfl⟩
set_option maxRecDepth 8000 in
theorem zw_683 : (Cond.methodLink "LifeboatHouse" (304 : Nat) ({ cls := "LifeboatHouse", name := "stationsCovered", desc := "()I" } : MethodName)) ∈ gtbl := List.mem_filter.mpr ⟨List.mem_append_right _ (List.mem_append_right _ (List.mem_append_right _ (List.mem_append_left _ (List.mem_of_getElem? (l := tables_1_3) (i := 203) rfl)))), rfl⟩
set_option maxRecDepth 8000 in
theorem zw_684 : (Cond.privateMethod ({ cls := "LifeboatHouse", name := "stationsCovered", desc := "()I" } : MethodName)) ∈ lw_tbl := List.mem_append_right _ (List.mem_append_right _ (List.mem_append_right _ (List.mem_append_left _ (List.mem_of_getElem? (l := tables_1_3) (i := 204) rfl))))
set_option maxRecDepth 8000 in
theorem zw_685 : (Cond.instanceMethod ({ cls := "LifeboatHouse", name := "stationsCovered", desc := "()I" } : MethodName)) ∈ gtbl := List.mem_filter.mpr ⟨List.mem_append_right _ (List.mem_append_right _ (List.mem_append_right _ (List.mem_append_left _ (List.mem_of_getElem? (l := tables_1_3) (i := 205) rfl)))), rfl⟩
set_option maxRecDepth 8000 in
theorem zw_686 : (Cond.code ({ cls := "LifeboatHouse", name := "stationsCovered", desc := "()I" } : MethodName) prog_1_method_46_code (3 : Nat) (Option.some FieldType.int)) ∈ gtbl := List.mem_filter.mpr ⟨List.mem_append_right _ (List.mem_append_right _ (List.mem_append_right _ (List.mem_append_left _ (List.mem_of_getElem? (l := tables_1_3) (i := 206) rfl)))), rfl⟩
set_option maxRecDepth 8000 in
theorem zw_687 : (Cond.classLink "LifeboatHouseLaw" (10 : Nat) "LifeboatHouseModel") ∈ gtbl := List.mem_filter.mpr ⟨List.mem_append_right _ (List.mem_append_right _ (List.mem_append_right _ (List.mem_append_left _ (List.mem_of_getElem? (l := tables_1_3) (i := 207) rfl)))), rfl⟩
set_option maxRecDepth 8000 in
theorem zw_688 : (Cond.instantiable "LifeboatHouseModel" (40 : Nat)) ∈ gtbl := List.mem_filter.mpr ⟨List.mem_append_right _ (List.mem_append_right _ (List.mem_append_right _ (List.mem_append_left _ (List.mem_of_getElem? (l := tables_1_3) (i := 208) rfl)))), rfl⟩
set_option maxRecDepth 8000 in
theorem zw_689 : (Cond.methodLink "LifeboatHouseLaw" (12 : Nat) ({ cls := "LifeboatHouseModel", name := "<init>", desc := "()V" } : MethodName)) ∈ gtbl := List.mem_filter.mpr ⟨List.mem_append_right _ (List.mem_append_right _ (List.mem_append_right _ (List.mem_append_left _ (List.mem_of_getElem? (l := tables_1_3) (i := 209) rfl)))), rfl⟩
set_option maxRecDepth 8000 in
theorem zw_690 : (Cond.instanceMethod ({ cls := "LifeboatHouseModel", name := "<init>", desc := "()V" } : MethodName)) ∈ gtbl := List.mem_filter.mpr ⟨List.mem_append_right _ (List.mem_append_right _ (List.mem_append_right _ (List.mem_append_left _ (List.mem_of_getElem? (l := tables_1_3) (i := 210) rfl)))), rfl⟩
set_option maxRecDepth 8000 in
theorem zw_691 : (Cond.code ({ cls := "LifeboatHouseModel", name := "<init>", desc := "()V" } : MethodName) prog_12_method_1_code (2 : Nat) (Option.none : Option FieldType)) ∈ gtbl := List.mem_filter.mpr ⟨List.mem_append_right _ (List.mem_append_right _ (List.mem_append_right _ (List.mem_append_left _ (List.mem_of_getElem? (l := tables_1_3) (i := 211) rfl)))), rfl⟩
set_option maxRecDepth 8000 in
theorem zw_692 : (Cond.methodLink "LifeboatHouseModel" (1 : Nat) ({ cls := "java/lang/Object", name := "<init>", desc := "()V" } : MethodName)) ∈ gtbl := List.mem_filter.mpr ⟨List.mem_append_right _ (List.mem_append_right _ (List.mem_append_right _ (List.mem_append_left _ (List.mem_of_getElem? (l := tables_1_3) (i := 212) rfl)))), rfl⟩
set_option maxRecDepth 8000 in
theorem zw_693 : (Cond.fieldLink "LifeboatHouseModel" (119 : Nat) "LifeboatHouseModel" "minute" "I") ∈ gtbl := List.mem_filter.mpr ⟨List.mem_append_right _ (List.mem_append_right _ (List.mem_append_right _ (List.mem_append_left _ (List.mem_of_getElem? (l := tables_1_3) (i := 213) rfl)))), rfl⟩
set_option maxRecDepth 8000 in
theorem zw_694 : (Cond.fieldLink "LifeboatHouseModel" (110 : Nat) "LifeboatHouseModel" "people" "I") ∈ gtbl := List.mem_filter.mpr ⟨List.mem_append_right _ (List.mem_append_right _ (List.mem_append_right _ (List.mem_append_left _ (List.mem_of_getElem? (l := tables_1_3) (i := 214) rfl)))), rfl⟩
set_option maxRecDepth 8000 in
theorem zw_695 : (Cond.fieldLink "LifeboatHouseModel" (113 : Nat) "LifeboatHouseModel" "boats" "I") ∈ gtbl := List.mem_filter.mpr ⟨List.mem_append_right _ (List.mem_append_right _ (List.mem_append_right _ (List.mem_append_left _ (List.mem_of_getElem? (l := tables_1_3) (i := 215) rfl)))), rfl⟩
set_option maxRecDepth 8000 in
theorem zw_696 : (Cond.fieldLink "LifeboatHouseModel" (116 : Nat) "LifeboatHouseModel" "calls" "I") ∈ gtbl := List.mem_filter.mpr ⟨List.mem_append_right _ (List.mem_append_right _ (List.mem_append_right _ (List.mem_append_left _ (List.mem_of_getElem? (l := tables_1_3) (i := 216) rfl)))), rfl⟩
set_option maxRecDepth 8000 in
theorem zw_697 : (Cond.fieldLink "LifeboatHouseModel" (201 : Nat) "LifeboatHouseModel" "logs" "I") ∈ gtbl := List.mem_filter.mpr ⟨List.mem_append_right _ (List.mem_append_right _ (List.mem_append_right _ (List.mem_append_left _ (List.mem_of_getElem? (l := tables_1_3) (i := 217) rfl)))), rfl⟩
set_option maxRecDepth 8000 in
theorem zw_698 : (Cond.fieldLink "LifeboatHouseModel" (7 : Nat) "LifeboatHouseModel" "crew" "I") ∈ gtbl := List.mem_filter.mpr ⟨List.mem_append_right _ (List.mem_append_right _ (List.mem_append_right _ (List.mem_append_left _ (List.mem_of_getElem? (l := tables_1_3) (i := 218) rfl)))), rfl⟩
set_option maxRecDepth 8000 in
theorem zw_699 : (Cond.fieldLink "LifeboatHouseModel" (13 : Nat) "LifeboatHouseModel" "gather" "I") ∈ gtbl := List.mem_filter.mpr ⟨List.mem_append_right _ (List.mem_append_right _ (List.mem_append_right _ (List.mem_append_left _ (List.mem_of_getElem? (l := tables_1_3) (i := 219) rfl)))), rfl⟩
set_option maxRecDepth 8000 in
theorem zw_700 : (Cond.fieldLink "LifeboatHouseModel" (16 : Nat) "LifeboatHouseModel" "miles" "[I") ∈ gtbl := List.mem_filter.mpr ⟨List.mem_append_right _ (List.mem_append_right _ (List.mem_append_right _ (List.mem_append_left _ (List.mem_of_getElem? (l := tables_1_3) (i := 220) rfl)))), rfl⟩
set_option maxRecDepth 8000 in
theorem zw_701 : (Cond.fieldLink "LifeboatHouseModel" (20 : Nat) "LifeboatHouseModel" "needs" "[I") ∈ gtbl := List.mem_filter.mpr ⟨List.mem_append_right _ (List.mem_append_right _ (List.mem_append_right _ (List.mem_append_left _ (List.mem_of_getElem? (l := tables_1_3) (i := 221) rfl)))), rfl⟩
set_option maxRecDepth 8000 in
theorem zw_702 : (Cond.fieldLink "LifeboatHouseModel" (23 : Nat) "LifeboatHouseModel" "home" "[I") ∈ gtbl := List.mem_filter.mpr ⟨List.mem_append_right _ (List.mem_append_right _ (List.mem_append_right _ (List.mem_append_left _ (List.mem_of_getElem? (l := tables_1_3) (i := 222) rfl)))), rfl⟩
set_option maxRecDepth 8000 in
theorem zw_703 : (Cond.fieldLink "LifeboatHouseModel" (26 : Nat) "LifeboatHouseModel" "skills" "[I") ∈ gtbl := List.mem_filter.mpr ⟨List.mem_append_right _ (List.mem_append_right _ (List.mem_append_right _ (List.mem_append_left _ (List.mem_of_getElem? (l := tables_1_3) (i := 223) rfl)))), rfl⟩
set_option maxRecDepth 8000 in
theorem zw_704 : (Cond.fieldLink "LifeboatHouseModel" (29 : Nat) "LifeboatHouseModel" "papers" "[I") ∈ gtbl := List.mem_filter.mpr ⟨List.mem_append_right _ (List.mem_append_right _ (List.mem_append_right _ (List.mem_append_left _ (List.mem_of_getElem? (l := tables_1_3) (i := 224) rfl)))), rfl⟩
set_option maxRecDepth 8000 in
theorem zw_705 : (Cond.fieldLink "LifeboatHouseModel" (32 : Nat) "LifeboatHouseModel" "rests" "[I") ∈ gtbl := List.mem_filter.mpr ⟨List.mem_append_right _ (List.mem_append_right _ (List.mem_append_right _ (List.mem_append_left _ (List.mem_of_getElem? (l := tables_1_3) (i := 225) rfl)))), rfl⟩
set_option maxRecDepth 8000 in
theorem zw_706 : (Cond.fieldLink "LifeboatHouseModel" (35 : Nat) "LifeboatHouseModel" "paged" "[I") ∈ gtbl := List.mem_filter.mpr ⟨List.mem_append_right _ (List.mem_append_right _ (List.mem_append_right _ (List.mem_append_left _ (List.mem_of_getElem? (l := tables_1_3) (i := 226) rfl)))), rfl⟩
set_option maxRecDepth 8000 in
theorem zw_707 : (Cond.fieldLink "LifeboatHouseModel" (38 : Nat) "LifeboatHouseModel" "came" "[I") ∈ gtbl := List.mem_filter.mpr ⟨List.mem_append_right _ (List.mem_append_right _ (List.mem_append_right _ (List.mem_append_left _ (List.mem_of_getElem? (l := tables_1_3) (i := 227) rfl)))), rfl⟩
set_option maxRecDepth 8000 in
theorem zw_708 : (Cond.fieldLink "LifeboatHouseModel" (41 : Nat) "LifeboatHouseModel" "high" "[I") ∈ gtbl := List.mem_filter.mpr ⟨List.mem_append_right _ (List.mem_append_right _ (List.mem_append_right _ (List.mem_append_left _ (List.mem_of_getElem? (l := tables_1_3) (i := 228) rfl)))), rfl⟩
set_option maxRecDepth 8000 in
theorem zw_709 : (Cond.fieldLink "LifeboatHouseModel" (44 : Nat) "LifeboatHouseModel" "at" "[I") ∈ gtbl := List.mem_filter.mpr ⟨List.mem_append_right _ (List.mem_append_right _ (List.mem_append_right _ (List.mem_append_left _ (List.mem_of_getElem? (l := tables_1_3) (i := 229) rfl)))), rfl⟩
set_option maxRecDepth 8000 in
theorem zw_710 : (Cond.fieldLink "LifeboatHouseModel" (47 : Nat) "LifeboatHouseModel" "fuel" "[I") ∈ gtbl := List.mem_filter.mpr ⟨List.mem_append_right _ (List.mem_append_right _ (List.mem_append_right _ (List.mem_append_left _ (List.mem_of_getElem? (l := tables_1_3) (i := 230) rfl)))), rfl⟩
set_option maxRecDepth 8000 in
theorem zw_711 : (Cond.fieldLink "LifeboatHouseModel" (50 : Nat) "LifeboatHouseModel" "away" "[I") ∈ gtbl := List.mem_filter.mpr ⟨List.mem_append_right _ (List.mem_append_right _ (List.mem_append_right _ (List.mem_append_left _ (List.mem_of_getElem? (l := tables_1_3) (i := 231) rfl)))), rfl⟩
set_option maxRecDepth 8000 in
theorem zw_712 : (Cond.fieldLink "LifeboatHouseModel" (53 : Nat) "LifeboatHouseModel" "speeds" "[I") ∈ gtbl := List.mem_filter.mpr ⟨List.mem_append_right _ (List.mem_append_right _ (List.mem_append_right _ (List.mem_append_left _ (List.mem_of_getElem? (l := tables_1_3) (i := 232) rfl)))), rfl⟩
set_option maxRecDepth 8000 in
theorem zw_713 : (Cond.fieldLink "LifeboatHouseModel" (56 : Nat) "LifeboatHouseModel" "callMiles" "[I") ∈ gtbl := List.mem_filter.mpr ⟨List.mem_append_right _ (List.mem_append_right _ (List.mem_append_right _ (List.mem_append_left _ (List.mem_of_getElem? (l := tables_1_3) (i := 233) rfl)))), rfl⟩
set_option maxRecDepth 8000 in
theorem zw_714 : (Cond.fieldLink "LifeboatHouseModel" (59 : Nat) "LifeboatHouseModel" "callOut" "[I") ∈ gtbl := List.mem_filter.mpr ⟨List.mem_append_right _ (List.mem_append_right _ (List.mem_append_right _ (List.mem_append_left _ (List.mem_of_getElem? (l := tables_1_3) (i := 234) rfl)))), rfl⟩
set_option maxRecDepth 8000 in
theorem zw_715 : (Cond.fieldLink "LifeboatHouseModel" (62 : Nat) "LifeboatHouseModel" "callSea" "[I") ∈ gtbl := List.mem_filter.mpr ⟨List.mem_append_right _ (List.mem_append_right _ (List.mem_append_right _ (List.mem_append_left _ (List.mem_of_getElem? (l := tables_1_3) (i := 235) rfl)))), rfl⟩
set_option maxRecDepth 8000 in
theorem zw_716 : (Cond.fieldLink "LifeboatHouseModel" (65 : Nat) "LifeboatHouseModel" "logBoat" "[I") ∈ gtbl := List.mem_filter.mpr ⟨List.mem_append_right _ (List.mem_append_right _ (List.mem_append_right _ (List.mem_append_left _ (List.mem_of_getElem? (l := tables_1_3) (i := 236) rfl)))), rfl⟩
set_option maxRecDepth 8000 in
theorem zw_717 : (Cond.fieldLink "LifeboatHouseModel" (68 : Nat) "LifeboatHouseModel" "logCall" "[I") ∈ gtbl := List.mem_filter.mpr ⟨List.mem_append_right _ (List.mem_append_right _ (List.mem_append_right _ (List.mem_append_left _ (List.mem_of_getElem? (l := tables_1_3) (i := 237) rfl)))), rfl⟩
set_option maxRecDepth 8000 in
theorem zw_718 : (Cond.fieldLink "LifeboatHouseModel" (71 : Nat) "LifeboatHouseModel" "logLaunch" "[I") ∈ gtbl := List.mem_filter.mpr ⟨List.mem_append_right _ (List.mem_append_right _ (List.mem_append_right _ (List.mem_append_left _ (List.mem_of_getElem? (l := tables_1_3) (i := 238) rfl)))), rfl⟩
set_option maxRecDepth 8000 in
theorem zw_719 : (Cond.fieldLink "LifeboatHouseModel" (74 : Nat) "LifeboatHouseModel" "logReached" "[I") ∈ gtbl := List.mem_filter.mpr ⟨List.mem_append_right _ (List.mem_append_right _ (List.mem_append_right _ (List.mem_append_left _ (List.mem_of_getElem? (l := tables_1_3) (i := 239) rfl)))), rfl⟩
set_option maxRecDepth 8000 in
theorem zw_720 : (Cond.fieldLink "LifeboatHouseModel" (77 : Nat) "LifeboatHouseModel" "logHome" "[I") ∈ gtbl := List.mem_filter.mpr ⟨List.mem_append_right _ (List.mem_append_right _ (List.mem_append_right _ (List.mem_append_right _ (List.mem_append_left _ (List.mem_of_getElem? (l := tables_1_4) (i := 0) rfl))))), rfl⟩
set_option maxRecDepth 8000 in
theorem zw_721 : (Cond.fieldLink "LifeboatHouseModel" (80 : Nat) "LifeboatHouseModel" "worth" "[I") ∈ gtbl := List.mem_filter.mpr ⟨List.mem_append_right _ (List.mem_append_right _ (List.mem_append_right _ (List.mem_append_right _ (List.mem_append_left _ (List.mem_of_getElem? (l := tables_1_4) (i := 1) rfl))))), rfl⟩
set_option maxRecDepth 8000 in
theorem zw_722 : (Cond.fieldLink "LifeboatHouseModel" (83 : Nat) "LifeboatHouseModel" "tried" "[I") ∈ gtbl := List.mem_filter.mpr ⟨List.mem_append_right _ (List.mem_append_right _ (List.mem_append_right _ (List.mem_append_right _ (List.mem_append_left _ (List.mem_of_getElem? (l := tables_1_4) (i := 2) rfl))))), rfl⟩
set_option maxRecDepth 8000 in
theorem zw_723 : (Cond.fieldLink "LifeboatHouseModel" (86 : Nat) "LifeboatHouseModel" "looked" "[I") ∈ gtbl := List.mem_filter.mpr ⟨List.mem_append_right _ (List.mem_append_right _ (List.mem_append_right _ (List.mem_append_right _ (List.mem_append_left _ (List.mem_of_getElem? (l := tables_1_4) (i := 3) rfl))))), rfl⟩
set_option maxRecDepth 8000 in
theorem zw_724 : (Cond.fieldLink "LifeboatHouseModel" (89 : Nat) "LifeboatHouseModel" "refused" "[I") ∈ gtbl := List.mem_filter.mpr ⟨List.mem_append_right _ (List.mem_append_right _ (List.mem_append_right _ (List.mem_append_right _ (List.mem_append_left _ (List.mem_of_getElem? (l := tables_1_4) (i := 4) rfl))))), rfl⟩
set_option maxRecDepth 8000 in
theorem zw_725 : (Cond.fieldLink "LifeboatHouseModel" (92 : Nat) "LifeboatHouseModel" "ways" "[I") ∈ gtbl := List.mem_filter.mpr ⟨List.mem_append_right _ (List.mem_append_right _ (List.mem_append_right _ (List.mem_append_right _ (List.mem_append_left _ (List.mem_of_getElem? (l := tables_1_4) (i := 5) rfl))))), rfl⟩
set_option maxRecDepth 8000 in
theorem zw_726 : (Cond.fieldLink "LifeboatHouseModel" (95 : Nat) "LifeboatHouseModel" "next" "[I") ∈ gtbl := List.mem_filter.mpr ⟨List.mem_append_right _ (List.mem_append_right _ (List.mem_append_right _ (List.mem_append_right _ (List.mem_append_left _ (List.mem_of_getElem? (l := tables_1_4) (i := 6) rfl))))), rfl⟩
set_option maxRecDepth 8000 in
theorem zw_727 : (Cond.fieldLink "LifeboatHouseModel" (98 : Nat) "LifeboatHouseModel" "bare" "[I") ∈ gtbl := List.mem_filter.mpr ⟨List.mem_append_right _ (List.mem_append_right _ (List.mem_append_right _ (List.mem_append_right _ (List.mem_append_left _ (List.mem_of_getElem? (l := tables_1_4) (i := 7) rfl))))), rfl⟩
set_option maxRecDepth 8000 in
theorem zw_728 : (Cond.fieldLink "LifeboatHouseModel" (101 : Nat) "LifeboatHouseModel" "free" "[I") ∈ gtbl := List.mem_filter.mpr ⟨List.mem_append_right _ (List.mem_append_right _ (List.mem_append_right _ (List.mem_append_right _ (List.mem_append_left _ (List.mem_of_getElem? (l := tables_1_4) (i := 8) rfl))))), rfl⟩
set_option maxRecDepth 8000 in
theorem zw_729 : (Cond.fieldLink "LifeboatHouseModel" (104 : Nat) "LifeboatHouseModel" "choice" "[I") ∈ gtbl := List.mem_filter.mpr ⟨List.mem_append_right _ (List.mem_append_right _ (List.mem_append_right _ (List.mem_append_right _ (List.mem_append_left _ (List.mem_of_getElem? (l := tables_1_4) (i := 9) rfl))))), rfl⟩
set_option maxRecDepth 8000 in
theorem zw_730 : (Cond.fieldLink "LifeboatHouseModel" (107 : Nat) "LifeboatHouseModel" "best" "[I") ∈ gtbl := List.mem_filter.mpr ⟨List.mem_append_right _ (List.mem_append_right _ (List.mem_append_right _ (List.mem_append_right _ (List.mem_append_left _ (List.mem_of_getElem? (l := tables_1_4) (i := 10) rfl))))), rfl⟩
set_option maxRecDepth 8000 in
theorem zw_731 : (Cond.fieldLink "LifeboatHouseModel" (207 : Nat) "LifeboatHouseModel" "helped" "I") ∈ gtbl := List.mem_filter.mpr ⟨List.mem_append_right _ (List.mem_append_right _ (List.mem_append_right _ (List.mem_append_right _ (List.mem_append_left _ (List.mem_of_getElem? (l := tables_1_4) (i := 11) rfl))))), rfl⟩
set_option maxRecDepth 8000 in
theorem zw_732 : (Cond.fieldLink "LifeboatHouseModel" (210 : Nat) "LifeboatHouseModel" "helpMiles" "I") ∈ gtbl := List.mem_filter.mpr ⟨List.mem_append_right _ (List.mem_append_right _ (List.mem_append_right _ (List.mem_append_right _ (List.mem_append_left _ (List.mem_of_getElem? (l := tables_1_4) (i := 12) rfl))))), rfl⟩
set_option maxRecDepth 8000 in
theorem zw_733 : (Cond.lays "LifeboatHouseModel" "LifeboatHouseModel" "minute" "I") ∈ gtbl := List.mem_filter.mpr ⟨List.mem_append_right _ (List.mem_append_right _ (List.mem_append_right _ (List.mem_append_right _ (List.mem_append_left _ (List.mem_of_getElem? (l := tables_1_4) (i := 13) rfl))))), rfl⟩
set_option maxRecDepth 8000 in
theorem zw_734 : (Cond.soleField "LifeboatHouseModel" "minute") ∈ gtbl := List.mem_filter.mpr ⟨List.mem_append_right _ (List.mem_append_right _ (List.mem_append_right _ (List.mem_append_right _ (List.mem_append_left _ (List.mem_of_getElem? (l := tables_1_4) (i := 14) rfl))))), rfl⟩
set_option maxRecDepth 8000 in
theorem zw_735 : (Cond.lays "LifeboatHouseModel" "LifeboatHouseModel" "people" "I") ∈ gtbl := List.mem_filter.mpr ⟨List.mem_append_right _ (List.mem_append_right _ (List.mem_append_right _ (List.mem_append_right _ (List.mem_append_left _ (List.mem_of_getElem? (l := tables_1_4) (i := 15) rfl))))), rfl⟩
set_option maxRecDepth 8000 in
theorem zw_736 : (Cond.soleField "LifeboatHouseModel" "people") ∈ gtbl := List.mem_filter.mpr ⟨List.mem_append_right _ (List.mem_append_right _ (List.mem_append_right _ (List.mem_append_right _ (List.mem_append_left _ (List.mem_of_getElem? (l := tables_1_4) (i := 16) rfl))))), rfl⟩
set_option maxRecDepth 8000 in
theorem zw_737 : (Cond.lays "LifeboatHouseModel" "LifeboatHouseModel" "boats" "I") ∈ gtbl := List.mem_filter.mpr ⟨List.mem_append_right _ (List.mem_append_right _ (List.mem_append_right _ (List.mem_append_right _ (List.mem_append_left _ (List.mem_of_getElem? (l := tables_1_4) (i := 17) rfl))))), rfl⟩
set_option maxRecDepth 8000 in
theorem zw_738 : (Cond.soleField "LifeboatHouseModel" "boats") ∈ gtbl := List.mem_filter.mpr ⟨List.mem_append_right _ (List.mem_append_right _ (List.mem_append_right _ (List.mem_append_right _ (List.mem_append_left _ (List.mem_of_getElem? (l := tables_1_4) (i := 18) rfl))))), rfl⟩
set_option maxRecDepth 8000 in
theorem zw_739 : (Cond.lays "LifeboatHouseModel" "LifeboatHouseModel" "calls" "I") ∈ gtbl := List.mem_filter.mpr ⟨List.mem_append_right _ (List.mem_append_right _ (List.mem_append_right _ (List.mem_append_right _ (List.mem_append_left _ (List.mem_of_getElem? (l := tables_1_4) (i := 19) rfl))))), rfl⟩
set_option maxRecDepth 8000 in
theorem zw_740 : (Cond.soleField "LifeboatHouseModel" "calls") ∈ gtbl := List.mem_filter.mpr ⟨List.mem_append_right _ (List.mem_append_right _ (List.mem_append_right _ (List.mem_append_right _ (List.mem_append_left _ (List.mem_of_getElem? (l := tables_1_4) (i := 20) rfl))))), rfl⟩
set_option maxRecDepth 8000 in
theorem zw_741 : (Cond.lays "LifeboatHouseModel" "LifeboatHouseModel" "logs" "I") ∈ gtbl := List.mem_filter.mpr ⟨List.mem_append_right _ (List.mem_append_right _ (List.mem_append_right _ (List.mem_append_right _ (List.mem_append_left _ (List.mem_of_getElem? (l := tables_1_4) (i := 21) rfl))))), rfl⟩
set_option maxRecDepth 8000 in
theorem zw_742 : (Cond.soleField "LifeboatHouseModel" "logs") ∈ gtbl := List.mem_filter.mpr ⟨List.mem_append_right _ (List.mem_append_right _ (List.mem_append_right _ (List.mem_append_right _ (List.mem_append_left _ (List.mem_of_getElem? (l := tables_1_4) (i := 22) rfl))))), rfl⟩
set_option maxRecDepth 8000 in
theorem zw_743 : (Cond.lays "LifeboatHouseModel" "LifeboatHouseModel" "crew" "I") ∈ gtbl := List.mem_filter.mpr ⟨List.mem_append_right _ (List.mem_append_right _ (List.mem_append_right _ (List.mem_append_right _ (List.mem_append_left _ (List.mem_of_getElem? (l := tables_1_4) (i := 23) rfl))))), rfl⟩
set_option maxRecDepth 8000 in
theorem zw_744 : (Cond.soleField "LifeboatHouseModel" "crew") ∈ gtbl := List.mem_filter.mpr ⟨List.mem_append_right _ (List.mem_append_right _ (List.mem_append_right _ (List.mem_append_right _ (List.mem_append_left _ (List.mem_of_getElem? (l := tables_1_4) (i := 24) rfl))))), rfl⟩
set_option maxRecDepth 8000 in
theorem zw_745 : (Cond.lays "LifeboatHouseModel" "LifeboatHouseModel" "gather" "I") ∈ gtbl := List.mem_filter.mpr ⟨List.mem_append_right _ (List.mem_append_right _ (List.mem_append_right _ (List.mem_append_right _ (List.mem_append_left _ (List.mem_of_getElem? (l := tables_1_4) (i := 25) rfl))))), rfl⟩
set_option maxRecDepth 8000 in
theorem zw_746 : (Cond.soleField "LifeboatHouseModel" "gather") ∈ gtbl := List.mem_filter.mpr ⟨List.mem_append_right _ (List.mem_append_right _ (List.mem_append_right _ (List.mem_append_right _ (List.mem_append_left _ (List.mem_of_getElem? (l := tables_1_4) (i := 26) rfl))))), rfl⟩
set_option maxRecDepth 8000 in
theorem zw_747 : (Cond.laysFinal "LifeboatHouseModel" "LifeboatHouseModel" "miles" "[I") ∈ gtbl := List.mem_filter.mpr ⟨List.mem_append_right _ (List.mem_append_right _ (List.mem_append_right _ (List.mem_append_right _ (List.mem_append_left _ (List.mem_of_getElem? (l := tables_1_4) (i := 27) rfl))))), rfl⟩
set_option maxRecDepth 8000 in
theorem zw_748 : (Cond.soleField "LifeboatHouseModel" "miles") ∈ gtbl := List.mem_filter.mpr ⟨List.mem_append_right _ (List.mem_append_right _ (List.mem_append_right _ (List.mem_append_right _ (List.mem_append_left _ (List.mem_of_getElem? (l := tables_1_4) (i := 28) rfl))))), rfl⟩
set_option maxRecDepth 8000 in
theorem zw_749 : (Cond.laysFinal "LifeboatHouseModel" "LifeboatHouseModel" "needs" "[I") ∈ gtbl := List.mem_filter.mpr ⟨List.mem_append_right _ (List.mem_append_right _ (List.mem_append_right _ (List.mem_append_right _ (List.mem_append_left _ (List.mem_of_getElem? (l := tables_1_4) (i := 29) rfl))))), rfl⟩
set_option maxRecDepth 8000 in
theorem zw_750 : (Cond.soleField "LifeboatHouseModel" "needs") ∈ gtbl := List.mem_filter.mpr ⟨List.mem_append_right _ (List.mem_append_right _ (List.mem_append_right _ (List.mem_append_right _ (List.mem_append_left _ (List.mem_of_getElem? (l := tables_1_4) (i := 30) rfl))))), rfl⟩
set_option maxRecDepth 8000 in
theorem zw_751 : (Cond.laysFinal "LifeboatHouseModel" "LifeboatHouseModel" "home" "[I") ∈ gtbl := List.mem_filter.mpr ⟨List.mem_append_right _ (List.mem_append_right _ (List.mem_append_right _ (List.mem_append_right _ (List.mem_append_left _ (List.mem_of_getElem? (l := tables_1_4) (i := 31) rfl))))), rfl⟩
set_option maxRecDepth 8000 in
theorem zw_752 : (Cond.soleField "LifeboatHouseModel" "home") ∈ gtbl := List.mem_filter.mpr ⟨List.mem_append_right _ (List.mem_append_right _ (List.mem_append_right _ (List.mem_append_right _ (List.mem_append_left _ (List.mem_of_getElem? (l := tables_1_4) (i := 32) rfl))))), rfl⟩
set_option maxRecDepth 8000 in
theorem zw_753 : (Cond.laysFinal "LifeboatHouseModel" "LifeboatHouseModel" "skills" "[I") ∈ gtbl := List.mem_filter.mpr ⟨List.mem_append_right _ (List.mem_append_right _ (List.mem_append_right _ (List.mem_append_right _ (List.mem_append_left _ (List.mem_of_getElem? (l := tables_1_4) (i := 33) rfl))))), rfl⟩
set_option maxRecDepth 8000 in
theorem zw_754 : (Cond.soleField "LifeboatHouseModel" "skills") ∈ gtbl := List.mem_filter.mpr ⟨List.mem_append_right _ (List.mem_append_right _ (List.mem_append_right _ (List.mem_append_right _ (List.mem_append_left _ (List.mem_of_getElem? (l := tables_1_4) (i := 34) rfl))))), rfl⟩
set_option maxRecDepth 8000 in
theorem zw_755 : (Cond.laysFinal "LifeboatHouseModel" "LifeboatHouseModel" "papers" "[I") ∈ gtbl := List.mem_filter.mpr ⟨List.mem_append_right _ (List.mem_append_right _ (List.mem_append_right _ (List.mem_append_right _ (List.mem_append_left _ (List.mem_of_getElem? (l := tables_1_4) (i := 35) rfl))))), rfl⟩
set_option maxRecDepth 8000 in
theorem zw_756 : (Cond.soleField "LifeboatHouseModel" "papers") ∈ gtbl := List.mem_filter.mpr ⟨List.mem_append_right _ (List.mem_append_right _ (List.mem_append_right _ (List.mem_append_right _ (List.mem_append_left _ (List.mem_of_getElem? (l := tables_1_4) (i := 36) rfl))))), rfl⟩
set_option maxRecDepth 8000 in
theorem zw_757 : (Cond.laysFinal "LifeboatHouseModel" "LifeboatHouseModel" "rests" "[I") ∈ gtbl := List.mem_filter.mpr ⟨List.mem_append_right _ (List.mem_append_right _ (List.mem_append_right _ (List.mem_append_right _ (List.mem_append_left _ (List.mem_of_getElem? (l := tables_1_4) (i := 37) rfl))))), rfl⟩
set_option maxRecDepth 8000 in
theorem zw_758 : (Cond.soleField "LifeboatHouseModel" "rests") ∈ gtbl := List.mem_filter.mpr ⟨List.mem_append_right _ (List.mem_append_right _ (List.mem_append_right _ (List.mem_append_right _ (List.mem_append_left _ (List.mem_of_getElem? (l := tables_1_4) (i := 38) rfl))))), rfl⟩
set_option maxRecDepth 8000 in
theorem zw_759 : (Cond.laysFinal "LifeboatHouseModel" "LifeboatHouseModel" "paged" "[I") ∈ gtbl := List.mem_filter.mpr ⟨List.mem_append_right _ (List.mem_append_right _ (List.mem_append_right _ (List.mem_append_right _ (List.mem_append_left _ (List.mem_of_getElem? (l := tables_1_4) (i := 39) rfl))))), rfl⟩
set_option maxRecDepth 8000 in
theorem zw_760 : (Cond.soleField "LifeboatHouseModel" "paged") ∈ gtbl := List.mem_filter.mpr ⟨List.mem_append_right _ (List.mem_append_right _ (List.mem_append_right _ (List.mem_append_right _ (List.mem_append_left _ (List.mem_of_getElem? (l := tables_1_4) (i := 40) rfl))))), rfl⟩
set_option maxRecDepth 8000 in
theorem zw_761 : (Cond.laysFinal "LifeboatHouseModel" "LifeboatHouseModel" "came" "[I") ∈ gtbl := List.mem_filter.mpr ⟨List.mem_append_right _ (List.mem_append_right _ (List.mem_append_right _ (List.mem_append_right _ (List.mem_append_left _ (List.mem_of_getElem? (l := tables_1_4) (i := 41) rfl))))), rfl⟩
set_option maxRecDepth 8000 in
theorem zw_762 : (Cond.soleField "LifeboatHouseModel" "came") ∈ gtbl := List.mem_filter.mpr ⟨List.mem_append_right _ (List.mem_append_right _ (List.mem_append_right _ (List.mem_append_right _ (List.mem_append_left _ (List.mem_of_getElem? (l := tables_1_4) (i := 42) rfl))))), rfl⟩
set_option maxRecDepth 8000 in
theorem zw_763 : (Cond.laysFinal "LifeboatHouseModel" "LifeboatHouseModel" "high" "[I") ∈ gtbl := List.mem_filter.mpr ⟨List.mem_append_right _ (List.mem_append_right _ (List.mem_append_right _ (List.mem_append_right _ (List.mem_append_left _ (List.mem_of_getElem? (l := tables_1_4) (i := 43) rfl))))), rfl⟩
set_option maxRecDepth 8000 in
theorem zw_764 : (Cond.soleField "LifeboatHouseModel" "high") ∈ gtbl := List.mem_filter.mpr ⟨List.mem_append_right _ (List.mem_append_right _ (List.mem_append_right _ (List.mem_append_right _ (List.mem_append_left _ (List.mem_of_getElem? (l := tables_1_4) (i := 44) rfl))))), rfl⟩
set_option maxRecDepth 8000 in
theorem zw_765 : (Cond.laysFinal "LifeboatHouseModel" "LifeboatHouseModel" "at" "[I") ∈ gtbl := List.mem_filter.mpr ⟨List.mem_append_right _ (List.mem_append_right _ (List.mem_append_right _ (List.mem_append_right _ (List.mem_append_left _ (List.mem_of_getElem? (l := tables_1_4) (i := 45) rfl))))), rfl⟩
set_option maxRecDepth 8000 in
theorem zw_766 : (Cond.soleField "LifeboatHouseModel" "at") ∈ gtbl := List.mem_filter.mpr ⟨List.mem_append_right _ (List.mem_append_right _ (List.mem_append_right _ (List.mem_append_right _ (List.mem_append_left _ (List.mem_of_getElem? (l := tables_1_4) (i := 46) rfl))))), rfl⟩
set_option maxRecDepth 8000 in
theorem zw_767 : (Cond.laysFinal "LifeboatHouseModel" "LifeboatHouseModel" "fuel" "[I") ∈ gtbl := List.mem_filter.mpr ⟨List.mem_append_right _ (List.mem_append_right _ (List.mem_append_right _ (List.mem_append_right _ (List.mem_append_left _ (List.mem_of_getElem? (l := tables_1_4) (i := 47) rfl))))), rfl⟩
set_option maxRecDepth 8000 in
theorem zw_768 : (Cond.soleField "LifeboatHouseModel" "fuel") ∈ gtbl := List.mem_filter.mpr ⟨List.mem_append_right _ (List.mem_append_right _ (List.mem_append_right _ (List.mem_append_right _ (List.mem_append_left _ (List.mem_of_getElem? (l := tables_1_4) (i := 48) rfl))))), rfl⟩
set_option maxRecDepth 8000 in
theorem zw_769 : (Cond.laysFinal "LifeboatHouseModel" "LifeboatHouseModel" "away" "[I") ∈ gtbl := List.mem_filter.mpr ⟨List.mem_append_right _ (List.mem_append_right _ (List.mem_append_right _ (List.mem_append_right _ (List.mem_append_left _ (List.mem_of_getElem? (l := tables_1_4) (i := 49) rfl))))), rfl⟩
set_option maxRecDepth 8000 in
theorem zw_770 : (Cond.soleField "LifeboatHouseModel" "away") ∈ gtbl := List.mem_filter.mpr ⟨List.mem_append_right _ (List.mem_append_right _ (List.mem_append_right _ (List.mem_append_right _ (List.mem_append_left _ (List.mem_of_getElem? (l := tables_1_4) (i := 50) rfl))))), rfl⟩
set_option maxRecDepth 8000 in
theorem zw_771 : (Cond.laysFinal "LifeboatHouseModel" "LifeboatHouseModel" "speeds" "[I") ∈ gtbl := List.mem_filter.mpr ⟨List.mem_append_right _ (List.mem_append_right _ (List.mem_append_right _ (List.mem_append_right _ (List.mem_append_left _ (List.mem_of_getElem? (l := tables_1_4) (i := 51) rfl))))), rfl⟩
set_option maxRecDepth 8000 in
theorem zw_772 : (Cond.soleField "LifeboatHouseModel" "speeds") ∈ gtbl := List.mem_filter.mpr ⟨List.mem_append_right _ (List.mem_append_right _ (List.mem_append_right _ (List.mem_append_right _ (List.mem_append_left _ (List.mem_of_getElem? (l := tables_1_4) (i := 52) rfl))))), rfl⟩
set_option maxRecDepth 8000 in
theorem zw_773 : (Cond.laysFinal "LifeboatHouseModel" "LifeboatHouseModel" "callMiles" "[I") ∈ gtbl := List.mem_filter.mpr ⟨List.mem_append_right _ (List.mem_append_right _ (List.mem_append_right _ (List.mem_append_right _ (List.mem_append_left _ (List.mem_of_getElem? (l := tables_1_4) (i := 53) rfl))))), rfl⟩
set_option maxRecDepth 8000 in
theorem zw_774 : (Cond.soleField "LifeboatHouseModel" "callMiles") ∈ gtbl := List.mem_filter.mpr ⟨List.mem_append_right _ (List.mem_append_right _ (List.mem_append_right _ (List.mem_append_right _ (List.mem_append_left _ (List.mem_of_getElem? (l := tables_1_4) (i := 54) rfl))))), rfl⟩
set_option maxRecDepth 8000 in
theorem zw_775 : (Cond.laysFinal "LifeboatHouseModel" "LifeboatHouseModel" "callOut" "[I") ∈ gtbl := List.mem_filter.mpr ⟨List.mem_append_right _ (List.mem_append_right _ (List.mem_append_right _ (List.mem_append_right _ (List.mem_append_left _ (List.mem_of_getElem? (l := tables_1_4) (i := 55) rfl))))), rfl⟩
set_option maxRecDepth 8000 in
theorem zw_776 : (Cond.soleField "LifeboatHouseModel" "callOut") ∈ gtbl := List.mem_filter.mpr ⟨List.mem_append_right _ (List.mem_append_right _ (List.mem_append_right _ (List.mem_append_right _ (List.mem_append_left _ (List.mem_of_getElem? (l := tables_1_4) (i := 56) rfl))))), rfl⟩
set_option maxRecDepth 8000 in
theorem zw_777 : (Cond.laysFinal "LifeboatHouseModel" "LifeboatHouseModel" "callSea" "[I") ∈ gtbl := List.mem_filter.mpr ⟨List.mem_append_right _ (List.mem_append_right _ (List.mem_append_right _ (List.mem_append_right _ (List.mem_append_left _ (List.mem_of_getElem? (l := tables_1_4) (i := 57) rfl))))), rfl⟩
set_option maxRecDepth 8000 in
theorem zw_778 : (Cond.soleField "LifeboatHouseModel" "callSea") ∈ gtbl := List.mem_filter.mpr ⟨List.mem_append_right _ (List.mem_append_right _ (List.mem_append_right _ (List.mem_append_right _ (List.mem_append_left _ (List.mem_of_getElem? (l := tables_1_4) (i := 58) rfl))))), rfl⟩
set_option maxRecDepth 8000 in
theorem zw_779 : (Cond.laysFinal "LifeboatHouseModel" "LifeboatHouseModel" "logBoat" "[I") ∈ gtbl := List.mem_filter.mpr ⟨List.mem_append_right _ (List.mem_append_right _ (List.mem_append_right _ (List.mem_append_right _ (List.mem_append_left _ (List.mem_of_getElem? (l := tables_1_4) (i := 59) rfl))))), rfl⟩
set_option maxRecDepth 8000 in
theorem zw_780 : (Cond.soleField "LifeboatHouseModel" "logBoat") ∈ gtbl := List.mem_filter.mpr ⟨List.mem_append_right _ (List.mem_append_right _ (List.mem_append_right _ (List.mem_append_right _ (List.mem_append_left _ (List.mem_of_getElem? (l := tables_1_4) (i := 60) rfl))))), rfl⟩
set_option maxRecDepth 8000 in
theorem zw_781 : (Cond.laysFinal "LifeboatHouseModel" "LifeboatHouseModel" "logCall" "[I") ∈ gtbl := List.mem_filter.mpr ⟨List.mem_append_right _ (List.mem_append_right _ (List.mem_append_right _ (List.mem_append_right _ (List.mem_append_left _ (List.mem_of_getElem? (l := tables_1_4) (i := 61) rfl))))), rfl⟩
set_option maxRecDepth 8000 in
theorem zw_782 : (Cond.soleField "LifeboatHouseModel" "logCall") ∈ gtbl := List.mem_filter.mpr ⟨List.mem_append_right _ (List.mem_append_right _ (List.mem_append_right _ (List.mem_append_right _ (List.mem_append_left _ (List.mem_of_getElem? (l := tables_1_4) (i := 62) rfl))))), rfl⟩
set_option maxRecDepth 8000 in
theorem zw_783 : (Cond.laysFinal "LifeboatHouseModel" "LifeboatHouseModel" "logLaunch" "[I") ∈ gtbl := List.mem_filter.mpr ⟨List.mem_append_right _ (List.mem_append_right _ (List.mem_append_right _ (List.mem_append_right _ (List.mem_append_left _ (List.mem_of_getElem? (l := tables_1_4) (i := 63) rfl))))), rfl⟩
set_option maxRecDepth 8000 in
theorem zw_784 : (Cond.soleField "LifeboatHouseModel" "logLaunch") ∈ gtbl := List.mem_filter.mpr ⟨List.mem_append_right _ (List.mem_append_right _ (List.mem_append_right _ (List.mem_append_right _ (List.mem_append_left _ (List.mem_of_getElem? (l := tables_1_4) (i := 64) rfl))))), rfl⟩
set_option maxRecDepth 8000 in
theorem zw_785 : (Cond.laysFinal "LifeboatHouseModel" "LifeboatHouseModel" "logReached" "[I") ∈ gtbl := List.mem_filter.mpr ⟨List.mem_append_right _ (List.mem_append_right _ (List.mem_append_right _ (List.mem_append_right _ (List.mem_append_left _ (List.mem_of_getElem? (l := tables_1_4) (i := 65) rfl))))), rfl⟩
set_option maxRecDepth 8000 in
theorem zw_786 : (Cond.soleField "LifeboatHouseModel" "logReached") ∈ gtbl := List.mem_filter.mpr ⟨List.mem_append_right _ (List.mem_append_right _ (List.mem_append_right _ (List.mem_append_right _ (List.mem_append_left _ (List.mem_of_getElem? (l := tables_1_4) (i := 66) rfl))))), rfl⟩
set_option maxRecDepth 8000 in
theorem zw_787 : (Cond.laysFinal "LifeboatHouseModel" "LifeboatHouseModel" "logHome" "[I") ∈ gtbl := List.mem_filter.mpr ⟨List.mem_append_right _ (List.mem_append_right _ (List.mem_append_right _ (List.mem_append_right _ (List.mem_append_left _ (List.mem_of_getElem? (l := tables_1_4) (i := 67) rfl))))), rfl⟩
set_option maxRecDepth 8000 in
theorem zw_788 : (Cond.soleField "LifeboatHouseModel" "logHome") ∈ gtbl := List.mem_filter.mpr ⟨List.mem_append_right _ (List.mem_append_right _ (List.mem_append_right _ (List.mem_append_right _ (List.mem_append_left _ (List.mem_of_getElem? (l := tables_1_4) (i := 68) rfl))))), rfl⟩
set_option maxRecDepth 8000 in
theorem zw_789 : (Cond.laysFinal "LifeboatHouseModel" "LifeboatHouseModel" "worth" "[I") ∈ gtbl := List.mem_filter.mpr ⟨List.mem_append_right _ (List.mem_append_right _ (List.mem_append_right _ (List.mem_append_right _ (List.mem_append_left _ (List.mem_of_getElem? (l := tables_1_4) (i := 69) rfl))))), rfl⟩
set_option maxRecDepth 8000 in
theorem zw_790 : (Cond.soleField "LifeboatHouseModel" "worth") ∈ gtbl := List.mem_filter.mpr ⟨List.mem_append_right _ (List.mem_append_right _ (List.mem_append_right _ (List.mem_append_right _ (List.mem_append_left _ (List.mem_of_getElem? (l := tables_1_4) (i := 70) rfl))))), rfl⟩
set_option maxRecDepth 8000 in
theorem zw_791 : (Cond.laysFinal "LifeboatHouseModel" "LifeboatHouseModel" "tried" "[I") ∈ gtbl := List.mem_filter.mpr ⟨List.mem_append_right _ (List.mem_append_right _ (List.mem_append_right _ (List.mem_append_right _ (List.mem_append_left _ (List.mem_of_getElem? (l := tables_1_4) (i := 71) rfl))))), rfl⟩
set_option maxRecDepth 8000 in
theorem zw_792 : (Cond.soleField "LifeboatHouseModel" "tried") ∈ gtbl := List.mem_filter.mpr ⟨List.mem_append_right _ (List.mem_append_right _ (List.mem_append_right _ (List.mem_append_right _ (List.mem_append_left _ (List.mem_of_getElem? (l := tables_1_4) (i := 72) rfl))))), rfl⟩
set_option maxRecDepth 8000 in
theorem zw_793 : (Cond.laysFinal "LifeboatHouseModel" "LifeboatHouseModel" "looked" "[I") ∈ gtbl := List.mem_filter.mpr ⟨List.mem_append_right _ (List.mem_append_right _ (List.mem_append_right _ (List.mem_append_right _ (List.mem_append_left _ (List.mem_of_getElem? (l := tables_1_4) (i := 73) rfl))))), rfl⟩
set_option maxRecDepth 8000 in
theorem zw_794 : (Cond.soleField "LifeboatHouseModel" "looked") ∈ gtbl := List.mem_filter.mpr ⟨List.mem_append_right _ (List.mem_append_right _ (List.mem_append_right _ (List.mem_append_right _ (List.mem_append_left _ (List.mem_of_getElem? (l := tables_1_4) (i := 74) rfl))))), rfl⟩
set_option maxRecDepth 8000 in
theorem zw_795 : (Cond.laysFinal "LifeboatHouseModel" "LifeboatHouseModel" "refused" "[I") ∈ gtbl := List.mem_filter.mpr ⟨List.mem_append_right _ (List.mem_append_right _ (List.mem_append_right _ (List.mem_append_right _ (List.mem_append_left _ (List.mem_of_getElem? (l := tables_1_4) (i := 75) rfl))))), rfl⟩
set_option maxRecDepth 8000 in
theorem zw_796 : (Cond.soleField "LifeboatHouseModel" "refused") ∈ gtbl := List.mem_filter.mpr ⟨List.mem_append_right _ (List.mem_append_right _ (List.mem_append_right _ (List.mem_append_right _ (List.mem_append_left _ (List.mem_of_getElem? (l := tables_1_4) (i := 76) rfl))))), rfl⟩
set_option maxRecDepth 8000 in
theorem zw_797 : (Cond.laysFinal "LifeboatHouseModel" "LifeboatHouseModel" "ways" "[I") ∈ gtbl := List.mem_filter.mpr ⟨List.mem_append_right _ (List.mem_append_right _ (List.mem_append_right _ (List.mem_append_right _ (List.mem_append_left _ (List.mem_of_getElem? (l := tables_1_4) (i := 77) rfl))))), rfl⟩
set_option maxRecDepth 8000 in
theorem zw_798 : (Cond.soleField "LifeboatHouseModel" "ways") ∈ gtbl := List.mem_filter.mpr ⟨List.mem_append_right _ (List.mem_append_right _ (List.mem_append_right _ (List.mem_append_right _ (List.mem_append_left _ (List.mem_of_getElem? (l := tables_1_4) (i := 78) rfl))))), rfl⟩
set_option maxRecDepth 8000 in
theorem zw_799 : (Cond.laysFinal "LifeboatHouseModel" "LifeboatHouseModel" "next" "[I") ∈ gtbl := List.mem_filter.mpr ⟨List.mem_append_right _ (List.mem_append_right _ (List.mem_append_right _ (List.mem_append_right _ (List.mem_append_left _ (List.mem_of_getElem? (l := tables_1_4) (i := 79) rfl))))), rfl⟩
set_option maxRecDepth 8000 in
theorem zw_800 : (Cond.soleField "LifeboatHouseModel" "next") ∈ gtbl := List.mem_filter.mpr ⟨List.mem_append_right _ (List.mem_append_right _ (List.mem_append_right _ (List.mem_append_right _ (List.mem_append_left _ (List.mem_of_getElem? (l := tables_1_4) (i := 80) rfl))))), rfl⟩
set_option maxRecDepth 8000 in
theorem zw_801 : (Cond.laysFinal "LifeboatHouseModel" "LifeboatHouseModel" "bare" "[I") ∈ gtbl := List.mem_filter.mpr ⟨List.mem_append_right _ (List.mem_append_right _ (List.mem_append_right _ (List.mem_append_right _ (List.mem_append_left _ (List.mem_of_getElem? (l := tables_1_4) (i := 81) rfl))))), rfl⟩
set_option maxRecDepth 8000 in
theorem zw_802 : (Cond.soleField "LifeboatHouseModel" "bare") ∈ gtbl := List.mem_filter.mpr ⟨List.mem_append_right _ (List.mem_append_right _ (List.mem_append_right _ (List.mem_append_right _ (List.mem_append_left _ (List.mem_of_getElem? (l := tables_1_4) (i := 82) rfl))))), rfl⟩
set_option maxRecDepth 8000 in
theorem zw_803 : (Cond.laysFinal "LifeboatHouseModel" "LifeboatHouseModel" "free" "[I") ∈ gtbl := List.mem_filter.mpr ⟨List.mem_append_right _ (List.mem_append_right _ (List.mem_append_right _ (List.mem_append_right _ (List.mem_append_left _ (List.mem_of_getElem? (l := tables_1_4) (i := 83) rfl))))), rfl⟩
set_option maxRecDepth 8000 in
theorem zw_804 : (Cond.soleField "LifeboatHouseModel" "free") ∈ gtbl := List.mem_filter.mpr ⟨List.mem_append_right _ (List.mem_append_right _ (List.mem_append_right _ (List.mem_append_right _ (List.mem_append_left _ (List.mem_of_getElem? (l := tables_1_4) (i := 84) rfl))))), rfl⟩
set_option maxRecDepth 8000 in
theorem zw_805 : (Cond.laysFinal "LifeboatHouseModel" "LifeboatHouseModel" "choice" "[I") ∈ gtbl := List.mem_filter.mpr ⟨List.mem_append_right _ (List.mem_append_right _ (List.mem_append_right _ (List.mem_append_right _ (List.mem_append_left _ (List.mem_of_getElem? (l := tables_1_4) (i := 85) rfl))))), rfl⟩
set_option maxRecDepth 8000 in
theorem zw_806 : (Cond.soleField "LifeboatHouseModel" "choice") ∈ gtbl := List.mem_filter.mpr ⟨List.mem_append_right _ (List.mem_append_right _ (List.mem_append_right _ (List.mem_append_right _ (List.mem_append_left _ (List.mem_of_getElem? (l := tables_1_4) (i := 86) rfl))))), rfl⟩
set_option maxRecDepth 8000 in
theorem zw_807 : (Cond.laysFinal "LifeboatHouseModel" "LifeboatHouseModel" "best" "[I") ∈ gtbl := List.mem_filter.mpr ⟨List.mem_append_right _ (List.mem_append_right _ (List.mem_append_right _ (List.mem_append_right _ (List.mem_append_left _ (List.mem_of_getElem? (l := tables_1_4) (i := 87) rfl))))), rfl⟩
set_option maxRecDepth 8000 in
theorem zw_808 : (Cond.soleField "LifeboatHouseModel" "best") ∈ gtbl := List.mem_filter.mpr ⟨List.mem_append_right _ (List.mem_append_right _ (List.mem_append_right _ (List.mem_append_right _ (List.mem_append_left _ (List.mem_of_getElem? (l := tables_1_4) (i := 88) rfl))))), rfl⟩
set_option maxRecDepth 8000 in
theorem zw_809 : (Cond.lays "LifeboatHouseModel" "LifeboatHouseModel" "helped" "I") ∈ gtbl := List.mem_filter.mpr ⟨List.mem_append_right _ (List.mem_append_right _ (List.mem_append_right _ (List.mem_append_right _ (List.mem_append_left _ (List.mem_of_getElem? (l := tables_1_4) (i := 89) rfl))))), rfl⟩
set_option maxRecDepth 8000 in
theorem zw_810 : (Cond.soleField "LifeboatHouseModel" "helped") ∈ gtbl := List.mem_filter.mpr ⟨List.mem_append_right _ (List.mem_append_right _ (List.mem_append_right _ (List.mem_append_right _ (List.mem_append_left _ (List.mem_of_getElem? (l := tables_1_4) (i := 90) rfl))))), rfl⟩
set_option maxRecDepth 8000 in
theorem zw_811 : (Cond.lays "LifeboatHouseModel" "LifeboatHouseModel" "helpMiles" "I") ∈ gtbl := List.mem_filter.mpr ⟨List.mem_append_right _ (List.mem_append_right _ (List.mem_append_right _ (List.mem_append_right _ (List.mem_append_left _ (List.mem_of_getElem? (l := tables_1_4) (i := 91) rfl))))), rfl⟩
set_option maxRecDepth 8000 in
theorem zw_812 : (Cond.soleField "LifeboatHouseModel" "helpMiles") ∈ gtbl := List.mem_filter.mpr ⟨List.mem_append_right _ (List.mem_append_right _ (List.mem_append_right _ (List.mem_append_right _ (List.mem_append_left _ (List.mem_of_getElem? (l := tables_1_4) (i := 92) rfl))))), rfl⟩
set_option maxRecDepth 8000 in
theorem zw_813 : (Cond.superclass "LifeboatHouseModel" "java/lang/Object") ∈ gtbl := List.mem_filter.mpr ⟨List.mem_append_right _ (List.mem_append_right _ (List.mem_append_right _ (List.mem_append_right _ (List.mem_append_left _ (List.mem_of_getElem? (l := tables_1_4) (i := 93) rfl))))), rfl⟩
set_option maxRecDepth 8000 in
theorem zw_814 : (Cond.methodLink "LifeboatHouseLaw" (17 : Nat) ({ cls := "LifeboatHouseModel", name := "station", desc := "(III)I" } : MethodName)) ∈ gtbl := List.mem_filter.mpr ⟨List.mem_append_right _ (List.mem_append_right _ (List.mem_append_right _ (List.mem_append_right _ (List.mem_append_left _ (List.mem_of_getElem? (l := tables_1_4) (i := 94) rfl))))), rfl⟩
set_option maxRecDepth 8000 in
theorem zw_815 : (Cond.instanceMethod ({ cls := "LifeboatHouseModel", name := "station", desc := "(III)I" } : MethodName)) ∈ gtbl := List.mem_filter.mpr ⟨List.mem_append_right _ (List.mem_append_right _ (List.mem_append_right _ (List.mem_append_right _ (List.mem_append_left _ (List.mem_of_getElem? (l := tables_1_4) (i := 95) rfl))))), rfl⟩
set_option maxRecDepth 8000 in
theorem zw_816 : (Cond.selects "LifeboatHouseModel" ({ cls := "LifeboatHouseModel", name := "station", desc := "(III)I" } : MethodName) ({ cls := "LifeboatHouseModel", name := "station", desc := "(III)I" } : MethodName)) ∈ gtbl := List.mem_filter.mpr ⟨List.mem_append_right _ (List.mem_append_right _ (List.mem_append_right _ (List.mem_append_right _ (List.mem_append_left _ (List.mem_of_getElem? (l := tables_1_4) (i := 96) rfl))))), rfl⟩
set_option maxRecDepth 8000 in
theorem zw_817 : (Cond.code ({ cls := "LifeboatHouseModel", name := "station", desc := "(III)I" } : MethodName) prog_12_method_11_code (5 : Nat) (Option.some FieldType.int)) ∈ gtbl := List.mem_filter.mpr ⟨List.mem_append_right _ (List.mem_append_right _ (List.mem_append_right _ (List.mem_append_right _ (List.mem_append_left _ (List.mem_of_getElem? (l := tables_1_4) (i := 97) rfl))))), rfl⟩
set_option maxRecDepth 8000 in
theorem zw_818 : (Cond.methodLink "LifeboatHouseModel" (129 : Nat) ({ cls := "LifeboatHouseModel", name := "isStation", desc := "(I)Z" } : MethodName)) ∈ gtbl := List.mem_filter.mpr ⟨List.mem_append_right _ (List.mem_append_right _ (List.mem_append_right _ (List.mem_append_right _ (List.mem_append_left _ (List.mem_of_getElem? (l := tables_1_4) (i := 98) rfl))))), rfl⟩
set_option maxRecDepth 8000 in
theorem zw_819 : (Cond.static ({ cls := "LifeboatHouseModel", name := "isStation", desc := "(I)Z" } : MethodName)) ∈ gtbl := List.mem_filter.mpr ⟨List.mem_append_right _ (List.mem_append_right _ (List.mem_append_right _ (List.mem_append_right _ (List.mem_append_left _ (List.mem_of_getElem? (l := tables_1_4) (i := 99) rfl))))), rfl⟩
set_option maxRecDepth 8000 in
theorem zw_820 : (Cond.code ({ cls := "LifeboatHouseModel", name := "isStation", desc := "(I)Z" } : MethodName) prog_12_method_3_code (1 : Nat) (Option.some FieldType.boolean)) ∈ gtbl := List.mem_filter.mpr ⟨List.mem_append_right _ (List.mem_append_right _ (List.mem_append_right _ (List.mem_append_right _ (List.mem_append_left _ (List.mem_of_getElem? (l := tables_1_4) (i := 100) rfl))))), rfl⟩
set_option maxRecDepth 8000 in
theorem zw_821 : (Cond.methodLink "LifeboatHouseModel" (133 : Nat) ({ cls := "LifeboatHouseModel", name := "no", desc := "(I)I" } : MethodName)) ∈ gtbl := List.mem_filter.mpr ⟨List.mem_append_right _ (List.mem_append_right _ (List.mem_append_right _ (List.mem_append_right _ (List.mem_append_left _ (List.mem_of_getElem? (l := tables_1_4) (i := 101) rfl))))), rfl⟩
set_option maxRecDepth 8000 in
theorem zw_822 : (Cond.privateMethod ({ cls := "LifeboatHouseModel", name := "no", desc := "(I)I" } : MethodName)) ∈ lw_tbl := List.mem_append_right _ (List.mem_append_right _ (List.mem_append_right _ (List.mem_append_right _ (List.mem_append_left _ (List.mem_of_getElem? (l := tables_1_4) (i := 102) rfl)))))
set_option maxRecDepth 8000 in
theorem zw_823 : (Cond.instanceMethod ({ cls := "LifeboatHouseModel", name := "no", desc := "(I)I" } : MethodName)) ∈ gtbl := List.mem_filter.mpr ⟨List.mem_append_right _ (List.mem_append_right _ (List.mem_append_right _ (List.mem_append_right _ (List.mem_append_left _ (List.mem_of_getElem? (l := tables_1_4) (i := 103) rfl))))), rfl⟩
set_option maxRecDepth 8000 in
theorem zw_824 : (Cond.code ({ cls := "LifeboatHouseModel", name := "no", desc := "(I)I" } : MethodName) prog_12_method_2_code (2 : Nat) (Option.some FieldType.int)) ∈ gtbl := List.mem_filter.mpr ⟨List.mem_append_right _ (List.mem_append_right _ (List.mem_append_right _ (List.mem_append_right _ (List.mem_append_left _ (List.mem_of_getElem? (l := tables_1_4) (i := 104) rfl))))), rfl⟩
set_option maxRecDepth 8000 in
theorem zw_825 : (Cond.methodLink "LifeboatHouseLaw" (21 : Nat) ({ cls := "LifeboatHouseModel", name := "person", desc := "(III)I" } : MethodName)) ∈ gtbl := List.mem_filter.mpr ⟨List.mem_append_right _ (List.mem_append_right _ (List.mem_append_right _ (List.mem_append_right _ (List.mem_append_left _ (List.mem_of_getElem? (l := tables_1_4) (i := 105) rfl))))), rfl⟩
set_option maxRecDepth 8000 in
theorem zw_826 : (Cond.instanceMethod ({ cls := "LifeboatHouseModel", name := "person", desc := "(III)I" } : MethodName)) ∈ gtbl := List.mem_filter.mpr ⟨List.mem_append_right _ (List.mem_append_right _ (List.mem_append_right _ (List.mem_append_right _ (List.mem_append_left _ (List.mem_of_getElem? (l := tables_1_4) (i := 106) rfl))))), rfl⟩
set_option maxRecDepth 8000 in
theorem zw_827 : (Cond.selects "LifeboatHouseModel" ({ cls := "LifeboatHouseModel", name := "person", desc := "(III)I" } : MethodName) ({ cls := "LifeboatHouseModel", name := "person", desc := "(III)I" } : MethodName)) ∈ gtbl := List.mem_filter.mpr ⟨List.mem_append_right _ (List.mem_append_right _ (List.mem_append_right _ (List.mem_append_right _ (List.mem_append_left _ (List.mem_of_getElem? (l := tables_1_4) (i := 107) rfl))))), rfl⟩
set_option maxRecDepth 8000 in
theorem zw_828 : (Cond.code ({ cls := "LifeboatHouseModel", name := "person", desc := "(III)I" } : MethodName) prog_12_method_12_code (4 : Nat) (Option.some FieldType.int)) ∈ gtbl := List.mem_filter.mpr ⟨List.mem_append_right _ (List.mem_append_right _ (List.mem_append_right _ (List.mem_append_right _ (List.mem_append_left _ (List.mem_of_getElem? (l := tables_1_4) (i := 108) rfl))))), rfl⟩
set_option maxRecDepth 8000 in
theorem zw_829 : (Cond.methodLink "LifeboatHouseLaw" (26 : Nat) ({ cls := "LifeboatHouseModel", name := "papers", desc := "(II)I" } : MethodName)) ∈ gtbl := List.mem_filter.mpr ⟨List.mem_append_right _ (List.mem_append_right _ (List.mem_append_right _ (List.mem_append_right _ (List.mem_append_left _ (List.mem_of_getElem? (l := tables_1_4) (i := 109) rfl))))), rfl⟩
set_option maxRecDepth 8000 in
theorem zw_830 : (Cond.instanceMethod ({ cls := "LifeboatHouseModel", name := "papers", desc := "(II)I" } : MethodName)) ∈ gtbl := List.mem_filter.mpr ⟨List.mem_append_right _ (List.mem_append_right _ (List.mem_append_right _ (List.mem_append_right _ (List.mem_append_left _ (List.mem_of_getElem? (l := tables_1_4) (i := 110) rfl))))), rfl⟩
set_option maxRecDepth 8000 in
theorem zw_831 : (Cond.selects "LifeboatHouseModel" ({ cls := "LifeboatHouseModel", name := "papers", desc := "(II)I" } : MethodName) ({ cls := "LifeboatHouseModel", name := "papers", desc := "(II)I" } : MethodName)) ∈ gtbl := List.mem_filter.mpr ⟨List.mem_append_right _ (List.mem_append_right _ (List.mem_append_right _ (List.mem_append_right _ (List.mem_append_left _ (List.mem_of_getElem? (l := tables_1_4) (i := 111) rfl))))), rfl⟩
set_option maxRecDepth 8000 in
theorem zw_832 : (Cond.code ({ cls := "LifeboatHouseModel", name := "papers", desc := "(II)I" } : MethodName) prog_12_method_13_code (4 : Nat) (Option.some FieldType.int)) ∈ gtbl := List.mem_filter.mpr ⟨List.mem_append_right _ (List.mem_append_right _ (List.mem_append_right _ (List.mem_append_right _ (List.mem_append_left _ (List.mem_of_getElem? (l := tables_1_4) (i := 112) rfl))))), rfl⟩
set_option maxRecDepth 8000 in
theorem zw_833 : (Cond.methodLink "LifeboatHouseModel" (137 : Nat) ({ cls := "LifeboatHouseModel", name := "isPerson", desc := "(I)Z" } : MethodName)) ∈ gtbl := List.mem_filter.mpr ⟨List.mem_append_right _ (List.mem_append_right _ (List.mem_append_right _ (List.mem_append_right _ (List.mem_append_left _ (List.mem_of_getElem? (l := tables_1_4) (i := 113) rfl))))), rfl⟩
set_option maxRecDepth 8000 in
theorem zw_834 : (Cond.privateMethod ({ cls := "LifeboatHouseModel", name := "isPerson", desc := "(I)Z" } : MethodName)) ∈ lw_tbl := List.mem_append_right _ (List.mem_append_right _ (List.mem_append_right _ (List.mem_append_right _ (List.mem_append_left _ (List.mem_of_getElem? (l := tables_1_4) (i := 114) rfl)))))
set_option maxRecDepth 8000 in
theorem zw_835 : (Cond.instanceMethod ({ cls := "LifeboatHouseModel", name := "isPerson", desc := "(I)Z" } : MethodName)) ∈ gtbl := List.mem_filter.mpr ⟨List.mem_append_right _ (List.mem_append_right _ (List.mem_append_right _ (List.mem_append_right _ (List.mem_append_left _ (List.mem_of_getElem? (l := tables_1_4) (i := 115) rfl))))), rfl⟩
set_option maxRecDepth 8000 in
theorem zw_836 : (Cond.code ({ cls := "LifeboatHouseModel", name := "isPerson", desc := "(I)Z" } : MethodName) prog_12_method_4_code (2 : Nat) (Option.some FieldType.boolean)) ∈ gtbl := List.mem_filter.mpr ⟨List.mem_append_right _ (List.mem_append_right _ (List.mem_append_right _ (List.mem_append_right _ (List.mem_append_left _ (List.mem_of_getElem? (l := tables_1_4) (i := 116) rfl))))), rfl⟩
set_option maxRecDepth 8000 in
theorem zw_837 : (Cond.methodLink "LifeboatHouseLaw" (31 : Nat) ({ cls := "LifeboatHouseModel", name := "page", desc := "(IZ)I" } : MethodName)) ∈ gtbl := List.mem_filter.mpr ⟨List.mem_append_right _ (List.mem_append_right _ (List.mem_append_right _ (List.mem_append_right _ (List.mem_append_left _ (List.mem_of_getElem? (l := tables_1_4) (i := 117) rfl))))), rfl⟩
set_option maxRecDepth 8000 in
theorem zw_838 : (Cond.instanceMethod ({ cls := "LifeboatHouseModel", name := "page", desc := "(IZ)I" } : MethodName)) ∈ gtbl := List.mem_filter.mpr ⟨List.mem_append_right _ (List.mem_append_right _ (List.mem_append_right _ (List.mem_append_right _ (List.mem_append_left _ (List.mem_of_getElem? (l := tables_1_4) (i := 118) rfl))))), rfl⟩
set_option maxRecDepth 8000 in
theorem zw_839 : (Cond.selects "LifeboatHouseModel" ({ cls := "LifeboatHouseModel", name := "page", desc := "(IZ)I" } : MethodName) ({ cls := "LifeboatHouseModel", name := "page", desc := "(IZ)I" } : MethodName)) ∈ gtbl := List.mem_filter.mpr ⟨List.mem_append_right _ (List.mem_append_right _ (List.mem_append_right _ (List.mem_append_right _ (List.mem_append_left _ (List.mem_of_getElem? (l := tables_1_4) (i := 119) rfl))))), rfl⟩
set_option maxRecDepth 8000 in
theorem zw_840 : (Cond.code ({ cls := "LifeboatHouseModel", name := "page", desc := "(IZ)I" } : MethodName) prog_12_method_14_code (4 : Nat) (Option.some FieldType.int)) ∈ gtbl := List.mem_filter.mpr ⟨List.mem_append_right _ (List.mem_append_right _ (List.mem_append_right _ (List.mem_append_right _ (List.mem_append_left _ (List.mem_of_getElem? (l := tables_1_4) (i := 120) rfl))))), rfl⟩
set_option maxRecDepth 8000 in
theorem zw_841 : (Cond.methodLink "LifeboatHouseModel" (140 : Nat) ({ cls := "LifeboatHouseModel", name := "band", desc := "()I" } : MethodName)) ∈ gtbl := List.mem_filter.mpr ⟨List.mem_append_right _ (List.mem_append_right _ (List.mem_append_right _ (List.mem_append_right _ (List.mem_append_left _ (List.mem_of_getElem? (l := tables_1_4) (i := 121) rfl))))), rfl⟩
set_option maxRecDepth 8000 in
theorem zw_842 : (Cond.privateMethod ({ cls := "LifeboatHouseModel", name := "band", desc := "()I" } : MethodName)) ∈ lw_tbl := List.mem_append_right _ (List.mem_append_right _ (List.mem_append_right _ (List.mem_append_right _ (List.mem_append_left _ (List.mem_of_getElem? (l := tables_1_4) (i := 122) rfl)))))
set_option maxRecDepth 8000 in
theorem zw_843 : (Cond.instanceMethod ({ cls := "LifeboatHouseModel", name := "band", desc := "()I" } : MethodName)) ∈ gtbl := List.mem_filter.mpr ⟨List.mem_append_right _ (List.mem_append_right _ (List.mem_append_right _ (List.mem_append_right _ (List.mem_append_left _ (List.mem_of_getElem? (l := tables_1_4) (i := 123) rfl))))), rfl⟩
set_option maxRecDepth 8000 in
theorem zw_844 : (Cond.code ({ cls := "LifeboatHouseModel", name := "band", desc := "()I" } : MethodName) prog_12_method_10_code (1 : Nat) (Option.some FieldType.int)) ∈ gtbl := List.mem_filter.mpr ⟨List.mem_append_right _ (List.mem_append_right _ (List.mem_append_right _ (List.mem_append_right _ (List.mem_append_left _ (List.mem_of_getElem? (l := tables_1_4) (i := 124) rfl))))), rfl⟩
set_option maxRecDepth 8000 in
theorem zw_845 : (Cond.methodLink "LifeboatHouseModel" (122 : Nat) ({ cls := "LifeboatHouseModel", name := "hour", desc := "()I" } : MethodName)) ∈ gtbl := List.mem_filter.mpr ⟨List.mem_append_right _ (List.mem_append_right _ (List.mem_append_right _ (List.mem_append_right _ (List.mem_append_left _ (List.mem_of_getElem? (l := tables_1_4) (i := 125) rfl))))), rfl⟩
set_option maxRecDepth 8000 in
theorem zw_846 : (Cond.privateMethod ({ cls := "LifeboatHouseModel", name := "hour", desc := "()I" } : MethodName)) ∈ lw_tbl := List.mem_append_right _ (List.mem_append_right _ (List.mem_append_right _ (List.mem_append_right _ (List.mem_append_left _ (List.mem_of_getElem? (l := tables_1_4) (i := 126) rfl)))))
set_option maxRecDepth 8000 in
theorem zw_847 : (Cond.instanceMethod ({ cls := "LifeboatHouseModel", name := "hour", desc := "()I" } : MethodName)) ∈ gtbl := List.mem_filter.mpr ⟨List.mem_append_right _ (List.mem_append_right _ (List.mem_append_right _ (List.mem_append_right _ (List.mem_append_left _ (List.mem_of_getElem? (l := tables_1_4) (i := 127) rfl))))), rfl⟩
set_option maxRecDepth 8000 in
theorem zw_848 : (Cond.code ({ cls := "LifeboatHouseModel", name := "hour", desc := "()I" } : MethodName) prog_12_method_8_code (1 : Nat) (Option.some FieldType.int)) ∈ gtbl := List.mem_filter.mpr ⟨List.mem_append_right _ (List.mem_append_right _ (List.mem_append_right _ (List.mem_append_right _ (List.mem_append_left _ (List.mem_of_getElem? (l := tables_1_4) (i := 128) rfl))))), rfl⟩
set_option maxRecDepth 8000 in
theorem zw_849 : (Cond.methodLink "LifeboatHouseModel" (126 : Nat) ({ cls := "LifeboatHouseModel", name := "day", desc := "()I" } : MethodName)) ∈ gtbl := List.mem_filter.mpr ⟨List.mem_append_right _ (List.mem_append_right _ (List.mem_append_right _ (List.mem_append_right _ (List.mem_append_left _ (List.mem_of_getElem? (l := tables_1_4) (i := 129) rfl))))), rfl⟩
set_option maxRecDepth 8000 in
theorem zw_850 : (Cond.privateMethod ({ cls := "LifeboatHouseModel", name := "day", desc := "()I" } : MethodName)) ∈ lw_tbl := List.mem_append_right _ (List.mem_append_right _ (List.mem_append_right _ (List.mem_append_right _ (List.mem_append_left _ (List.mem_of_getElem? (l := tables_1_4) (i := 130) rfl)))))
set_option maxRecDepth 8000 in
theorem zw_851 : (Cond.instanceMethod ({ cls := "LifeboatHouseModel", name := "day", desc := "()I" } : MethodName)) ∈ gtbl := List.mem_filter.mpr ⟨List.mem_append_right _ (List.mem_append_right _ (List.mem_append_right _ (List.mem_append_right _ (List.mem_append_left _ (List.mem_of_getElem? (l := tables_1_4) (i := 131) rfl))))), rfl⟩
set_option maxRecDepth 8000 in
theorem zw_852 : (Cond.code ({ cls := "LifeboatHouseModel", name := "day", desc := "()I" } : MethodName) prog_12_method_9_code (1 : Nat) (Option.some FieldType.int)) ∈ gtbl := List.mem_filter.mpr ⟨List.mem_append_right _ (List.mem_append_right _ (List.mem_append_right _ (List.mem_append_right _ (List.mem_append_left _ (List.mem_of_getElem? (l := tables_1_4) (i := 132) rfl))))), rfl⟩
set_option maxRecDepth 8000 in
theorem zw_853 : (Cond.methodLink "LifeboatHouseLaw" (35 : Nat) ({ cls := "LifeboatHouseModel", name := "partOf", desc := "(II)I" } : MethodName)) ∈ gtbl := List.mem_filter.mpr ⟨List.mem_append_right _ (List.mem_append_right _ (List.mem_append_right _ (List.mem_append_right _ (List.mem_append_left _ (List.mem_of_getElem? (l := tables_1_4) (i := 133) rfl))))), rfl⟩
set_option maxRecDepth 8000 in
theorem zw_854 : (Cond.instanceMethod ({ cls := "LifeboatHouseModel", name := "partOf", desc := "(II)I" } : MethodName)) ∈ gtbl := List.mem_filter.mpr ⟨List.mem_append_right _ (List.mem_append_right _ (List.mem_append_right _ (List.mem_append_right _ (List.mem_append_left _ (List.mem_of_getElem? (l := tables_1_4) (i := 134) rfl))))), rfl⟩
set_option maxRecDepth 8000 in
theorem zw_855 : (Cond.selects "LifeboatHouseModel" ({ cls := "LifeboatHouseModel", name := "partOf", desc := "(II)I" } : MethodName) ({ cls := "LifeboatHouseModel", name := "partOf", desc := "(II)I" } : MethodName)) ∈ gtbl := List.mem_filter.mpr ⟨List.mem_append_right _ (List.mem_append_right _ (List.mem_append_right _ (List.mem_append_right _ (List.mem_append_left _ (List.mem_of_getElem? (l := tables_1_4) (i := 135) rfl))))), rfl⟩
set_option maxRecDepth 8000 in
theorem zw_856 : (Cond.code ({ cls := "LifeboatHouseModel", name := "partOf", desc := "(II)I" } : MethodName) prog_12_method_16_code (3 : Nat) (Option.some FieldType.int)) ∈ gtbl := List.mem_filter.mpr ⟨List.mem_append_right _ (List.mem_append_right _ (List.mem_append_right _ (List.mem_append_right _ (List.mem_append_left _ (List.mem_of_getElem? (l := tables_1_4) (i := 136) rfl))))), rfl⟩
set_option maxRecDepth 8000 in
theorem zw_857 : (Cond.methodLink "LifeboatHouseModel" (143 : Nat) ({ cls := "LifeboatHouseModel", name := "isBand", desc := "(I)Z" } : MethodName)) ∈ gtbl := List.mem_filter.mpr ⟨List.mem_append_right _ (List.mem_append_right _ (List.mem_append_right _ (List.mem_append_right _ (List.mem_append_left _ (List.mem_of_getElem? (l := tables_1_4) (i := 137) rfl))))), rfl⟩
set_option maxRecDepth 8000 in
theorem zw_858 : (Cond.static ({ cls := "LifeboatHouseModel", name := "isBand", desc := "(I)Z" } : MethodName)) ∈ gtbl := List.mem_filter.mpr ⟨List.mem_append_right _ (List.mem_append_right _ (List.mem_append_right _ (List.mem_append_right _ (List.mem_append_left _ (List.mem_of_getElem? (l := tables_1_4) (i := 138) rfl))))), rfl⟩
set_option maxRecDepth 8000 in
theorem zw_859 : (Cond.code ({ cls := "LifeboatHouseModel", name := "isBand", desc := "(I)Z" } : MethodName) prog_12_method_5_code (1 : Nat) (Option.some FieldType.boolean)) ∈ gtbl := List.mem_filter.mpr ⟨List.mem_append_right _ (List.mem_append_right _ (List.mem_append_right _ (List.mem_append_right _ (List.mem_append_left _ (List.mem_of_getElem? (l := tables_1_4) (i := 139) rfl))))), rfl⟩
set_option maxRecDepth 8000 in
theorem zw_860 : (Cond.methodLink "LifeboatHouseModel" (146 : Nat) ({ cls := "LifeboatHouseModel", name := "part", desc := "(II)I" } : MethodName)) ∈ gtbl := List.mem_filter.mpr ⟨List.mem_append_right _ (List.mem_append_right _ (List.mem_append_right _ (List.mem_append_right _ (List.mem_append_left _ (List.mem_of_getElem? (l := tables_1_4) (i := 140) rfl))))), rfl⟩
set_option maxRecDepth 8000 in
theorem zw_861 : (Cond.privateMethod ({ cls := "LifeboatHouseModel", name := "part", desc := "(II)I" } : MethodName)) ∈ lw_tbl := List.mem_append_right _ (List.mem_append_right _ (List.mem_append_right _ (List.mem_append_right _ (List.mem_append_left _ (List.mem_of_getElem? (l := tables_1_4) (i := 141) rfl)))))
set_option maxRecDepth 8000 in
theorem zw_862 : (Cond.instanceMethod ({ cls := "LifeboatHouseModel", name := "part", desc := "(II)I" } : MethodName)) ∈ gtbl := List.mem_filter.mpr ⟨List.mem_append_right _ (List.mem_append_right _ (List.mem_append_right _ (List.mem_append_right _ (List.mem_append_left _ (List.mem_of_getElem? (l := tables_1_4) (i := 142) rfl))))), rfl⟩
set_option maxRecDepth 8000 in
theorem zw_863 : (Cond.code ({ cls := "LifeboatHouseModel", name := "part", desc := "(II)I" } : MethodName) prog_12_method_15_code (3 : Nat) (Option.some FieldType.int)) ∈ gtbl := List.mem_filter.mpr ⟨List.mem_append_right _ (List.mem_append_right _ (List.mem_append_right _ (List.mem_append_right _ (List.mem_append_left _ (List.mem_of_getElem? (l := tables_1_4) (i := 143) rfl))))), rfl⟩
set_option maxRecDepth 8000 in
theorem zw_864 : (Cond.methodLink "LifeboatHouseLaw" (39 : Nat) ({ cls := "LifeboatHouseModel", name := "set", desc := "(II)I" } : MethodName)) ∈ gtbl := List.mem_filter.mpr ⟨List.mem_append_right _ (List.mem_append_right _ (List.mem_append_right _ (List.mem_append_right _ (List.mem_append_left _ (List.mem_of_getElem? (l := tables_1_4) (i := 144) rfl))))), rfl⟩
set_option maxRecDepth 8000 in
theorem zw_865 : (Cond.instanceMethod ({ cls := "LifeboatHouseModel", name := "set", desc := "(II)I" } : MethodName)) ∈ gtbl := List.mem_filter.mpr ⟨List.mem_append_right _ (List.mem_append_right _ (List.mem_append_right _ (List.mem_append_right _ (List.mem_append_left _ (List.mem_of_getElem? (l := tables_1_4) (i := 145) rfl))))), rfl⟩
set_option maxRecDepth 8000 in
theorem zw_866 : (Cond.selects "LifeboatHouseModel" ({ cls := "LifeboatHouseModel", name := "set", desc := "(II)I" } : MethodName) ({ cls := "LifeboatHouseModel", name := "set", desc := "(II)I" } : MethodName)) ∈ gtbl := List.mem_filter.mpr ⟨List.mem_append_right _ (List.mem_append_right _ (List.mem_append_right _ (List.mem_append_right _ (List.mem_append_left _ (List.mem_of_getElem? (l := tables_1_4) (i := 146) rfl))))), rfl⟩
set_option maxRecDepth 8000 in
theorem zw_867 : (Cond.code ({ cls := "LifeboatHouseModel", name := "set", desc := "(II)I" } : MethodName) prog_12_method_17_code (4 : Nat) (Option.some FieldType.int)) ∈ gtbl := List.mem_filter.mpr ⟨List.mem_append_right _ (List.mem_append_right _ (List.mem_append_right _ (List.mem_append_right _ (List.mem_append_left _ (List.mem_of_getElem? (l := tables_1_4) (i := 147) rfl))))), rfl⟩
set_option maxRecDepth 8000 in
theorem zw_868 : (Cond.methodLink "LifeboatHouseLaw" (43 : Nat) ({ cls := "LifeboatHouseModel", name := "chance", desc := "(II)I" } : MethodName)) ∈ gtbl := List.mem_filter.mpr ⟨List.mem_append_right _ (List.mem_append_right _ (List.mem_append_right _ (List.mem_append_right _ (List.mem_append_left _ (List.mem_of_getElem? (l := tables_1_4) (i := 148) rfl))))), rfl⟩
set_option maxRecDepth 8000 in
theorem zw_869 : (Cond.instanceMethod ({ cls := "LifeboatHouseModel", name := "chance", desc := "(II)I" } : MethodName)) ∈ gtbl := List.mem_filter.mpr ⟨List.mem_append_right _ (List.mem_append_right _ (List.mem_append_right _ (List.mem_append_right _ (List.mem_append_left _ (List.mem_of_getElem? (l := tables_1_4) (i := 149) rfl))))), rfl⟩
set_option maxRecDepth 8000 in
theorem zw_870 : (Cond.selects "LifeboatHouseModel" ({ cls := "LifeboatHouseModel", name := "chance", desc := "(II)I" } : MethodName) ({ cls := "LifeboatHouseModel", name := "chance", desc := "(II)I" } : MethodName)) ∈ gtbl := List.mem_filter.mpr ⟨List.mem_append_right _ (List.mem_append_right _ (List.mem_append_right _ (List.mem_append_right _ (List.mem_append_left _ (List.mem_of_getElem? (l := tables_1_4) (i := 150) rfl))))), rfl⟩
set_option maxRecDepth 8000 in
theorem zw_871 : (Cond.code ({ cls := "LifeboatHouseModel", name := "chance", desc := "(II)I" } : MethodName) prog_12_method_22_code (3 : Nat) (Option.some FieldType.int)) ∈ gtbl := List.mem_filter.mpr ⟨List.mem_append_right _ (List.mem_append_right _ (List.mem_append_right _ (List.mem_append_right _ (List.mem_append_left _ (List.mem_of_getElem? (l := tables_1_4) (i := 151) rfl))))), rfl⟩
set_option maxRecDepth 8000 in
theorem zw_872 : (Cond.methodLink "LifeboatHouseModel" (160 : Nat) ({ cls := "LifeboatHouseModel", name := "chanceOf", desc := "(II)I" } : MethodName)) ∈ gtbl := List.mem_filter.mpr ⟨List.mem_append_right _ (List.mem_append_right _ (List.mem_append_right _ (List.mem_append_right _ (List.mem_append_left _ (List.mem_of_getElem? (l := tables_1_4) (i := 152) rfl))))), rfl⟩
set_option maxRecDepth 8000 in
theorem zw_873 : (Cond.privateMethod ({ cls := "LifeboatHouseModel", name := "chanceOf", desc := "(II)I" } : MethodName)) ∈ lw_tbl := List.mem_append_right _ (List.mem_append_right _ (List.mem_append_right _ (List.mem_append_right _ (List.mem_append_left _ (List.mem_of_getElem? (l := tables_1_4) (i := 153) rfl)))))
set_option maxRecDepth 8000 in
theorem zw_874 : (Cond.instanceMethod ({ cls := "LifeboatHouseModel", name := "chanceOf", desc := "(II)I" } : MethodName)) ∈ gtbl := List.mem_filter.mpr ⟨List.mem_append_right _ (List.mem_append_right _ (List.mem_append_right _ (List.mem_append_right _ (List.mem_append_left _ (List.mem_of_getElem? (l := tables_1_4) (i := 154) rfl))))), rfl⟩
set_option maxRecDepth 8000 in
theorem zw_875 : (Cond.code ({ cls := "LifeboatHouseModel", name := "chanceOf", desc := "(II)I" } : MethodName) prog_12_method_21_code (7 : Nat) (Option.some FieldType.int)) ∈ gtbl := List.mem_filter.mpr ⟨List.mem_append_right _ (List.mem_append_right _ (List.mem_append_right _ (List.mem_append_right _ (List.mem_append_left _ (List.mem_of_getElem? (l := tables_1_4) (i := 155) rfl))))), rfl⟩
set_option maxRecDepth 8000 in
theorem zw_876 : (Cond.constant "LifeboatHouseModel" (153 : Nat) (1048576 : Int32)) ∈ gtbl := List.mem_filter.mpr ⟨List.mem_append_right _ (List.mem_append_right _ (List.mem_append_right _ (List.mem_append_right _ (List.mem_append_left _ (List.mem_of_getElem? (l := tables_1_4) (i := 156) rfl))))), rfl⟩
set_option maxRecDepth 8000 in
theorem zw_877 : (Cond.methodLink "LifeboatHouseModel" (154 : Nat) ({ cls := "LifeboatHouseModel", name := "comes", desc := "(II)I" } : MethodName)) ∈ gtbl := List.mem_filter.mpr ⟨List.mem_append_right _ (List.mem_append_right _ (List.mem_append_right _ (List.mem_append_right _ (List.mem_append_left _ (List.mem_of_getElem? (l := tables_1_4) (i := 157) rfl))))), rfl⟩
set_option maxRecDepth 8000 in
theorem zw_878 : (Cond.static ({ cls := "LifeboatHouseModel", name := "comes", desc := "(II)I" } : MethodName)) ∈ gtbl := List.mem_filter.mpr ⟨List.mem_append_right _ (List.mem_append_right _ (List.mem_append_right _ (List.mem_append_right _ (List.mem_append_left _ (List.mem_of_getElem? (l := tables_1_4) (i := 158) rfl))))), rfl⟩
set_option maxRecDepth 8000 in
theorem zw_879 : (Cond.code ({ cls := "LifeboatHouseModel", name := "comes", desc := "(II)I" } : MethodName) prog_12_method_19_code (7 : Nat) (Option.some FieldType.int)) ∈ gtbl := List.mem_filter.mpr ⟨List.mem_append_right _ (List.mem_append_right _ (List.mem_append_right _ (List.mem_append_right _ (List.mem_append_left _ (List.mem_of_getElem? (l := tables_1_4) (i := 159) rfl))))), rfl⟩
set_option maxRecDepth 8000 in
theorem zw_880 : (Cond.methodLink "LifeboatHouseModel" (150 : Nat) ({ cls := "LifeboatHouseModel", name := "more", desc := "(II)I" } : MethodName)) ∈ gtbl := List.mem_filter.mpr ⟨List.mem_append_right _ (List.mem_append_right _ (List.mem_append_right _ (List.mem_append_right _ (List.mem_append_left _ (List.mem_of_getElem? (l := tables_1_4) (i := 160) rfl))))), rfl⟩
set_option maxRecDepth 8000 in
theorem zw_881 : (Cond.static ({ cls := "LifeboatHouseModel", name := "more", desc := "(II)I" } : MethodName)) ∈ gtbl := List.mem_filter.mpr ⟨List.mem_append_right _ (List.mem_append_right _ (List.mem_append_right _ (List.mem_append_right _ (List.mem_append_left _ (List.mem_of_getElem? (l := tables_1_4) (i := 161) rfl))))), rfl⟩
set_option maxRecDepth 8000 in
theorem zw_882 : (Cond.code ({ cls := "LifeboatHouseModel", name := "more", desc := "(II)I" } : MethodName) prog_12_method_18_code (2 : Nat) (Option.some FieldType.int)) ∈ gtbl := List.mem_filter.mpr ⟨List.mem_append_right _ (List.mem_append_right _ (List.mem_append_right _ (List.mem_append_right _ (List.mem_append_left _ (List.mem_of_getElem? (l := tables_1_4) (i := 162) rfl))))), rfl⟩
set_option maxRecDepth 8000 in
theorem zw_883 : (Cond.methodLink "LifeboatHouseModel" (157 : Nat) ({ cls := "LifeboatHouseModel", name := "stands", desc := "(I)Z" } : MethodName)) ∈ gtbl := List.mem_filter.mpr ⟨List.mem_append_right _ (List.mem_append_right _ (List.mem_append_right _ (List.mem_append_right _ (List.mem_append_left _ (List.mem_of_getElem? (l := tables_1_4) (i := 163) rfl))))), rfl⟩
set_option maxRecDepth 8000 in
theorem zw_884 : (Cond.privateMethod ({ cls := "LifeboatHouseModel", name := "stands", desc := "(I)Z" } : MethodName)) ∈ lw_tbl := List.mem_append_right _ (List.mem_append_right _ (List.mem_append_right _ (List.mem_append_right _ (List.mem_append_left _ (List.mem_of_getElem? (l := tables_1_4) (i := 164) rfl)))))
set_option maxRecDepth 8000 in
theorem zw_885 : (Cond.instanceMethod ({ cls := "LifeboatHouseModel", name := "stands", desc := "(I)Z" } : MethodName)) ∈ gtbl := List.mem_filter.mpr ⟨List.mem_append_right _ (List.mem_append_right _ (List.mem_append_right _ (List.mem_append_right _ (List.mem_append_left _ (List.mem_of_getElem? (l := tables_1_4) (i := 165) rfl))))), rfl⟩
set_option maxRecDepth 8000 in
theorem zw_886 : (Cond.code ({ cls := "LifeboatHouseModel", name := "stands", desc := "(I)Z" } : MethodName) prog_12_method_20_code (8 : Nat) (Option.some FieldType.boolean)) ∈ gtbl := List.mem_filter.mpr ⟨List.mem_append_right _ (List.mem_append_right _ (List.mem_append_right _ (List.mem_append_right _ (List.mem_append_left _ (List.mem_of_getElem? (l := tables_1_4) (i := 166) rfl))))), rfl⟩
set_option maxRecDepth 8000 in
theorem zw_887 : (Cond.methodLink "LifeboatHouseLaw" (47 : Nat) ({ cls := "LifeboatHouseModel", name := "weak", desc := "(II)I" } : MethodName)) ∈ gtbl := List.mem_filter.mpr ⟨List.mem_append_right _ (List.mem_append_right _ (List.mem_append_right _ (List.mem_append_right _ (List.mem_append_left _ (List.mem_of_getElem? (l := tables_1_4) (i := 167) rfl))))), rfl⟩
set_option maxRecDepth 8000 in
theorem zw_888 : (Cond.instanceMethod ({ cls := "LifeboatHouseModel", name := "weak", desc := "(II)I" } : MethodName)) ∈ gtbl := List.mem_filter.mpr ⟨List.mem_append_right _ (List.mem_append_right _ (List.mem_append_right _ (List.mem_append_right _ (List.mem_append_left _ (List.mem_of_getElem? (l := tables_1_4) (i := 168) rfl))))), rfl⟩
set_option maxRecDepth 8000 in
theorem zw_889 : (Cond.selects "LifeboatHouseModel" ({ cls := "LifeboatHouseModel", name := "weak", desc := "(II)I" } : MethodName) ({ cls := "LifeboatHouseModel", name := "weak", desc := "(II)I" } : MethodName)) ∈ gtbl := List.mem_filter.mpr ⟨List.mem_append_right _ (List.mem_append_right _ (List.mem_append_right _ (List.mem_append_right _ (List.mem_append_left _ (List.mem_of_getElem? (l := tables_1_4) (i := 169) rfl))))), rfl⟩
set_option maxRecDepth 8000 in
theorem zw_890 : (Cond.code ({ cls := "LifeboatHouseModel", name := "weak", desc := "(II)I" } : MethodName) prog_12_method_23_code (5 : Nat) (Option.some FieldType.int)) ∈ gtbl := List.mem_filter.mpr ⟨List.mem_append_right _ (List.mem_append_right _ (List.mem_append_right _ (List.mem_append_right _ (List.mem_append_left _ (List.mem_of_getElem? (l := tables_1_4) (i := 170) rfl))))), rfl⟩
set_option maxRecDepth 8000 in
theorem zw_891 : (Cond.methodLink "LifeboatHouseLaw" (51 : Nat) ({ cls := "LifeboatHouseModel", name := "tide", desc := "(II)I" } : MethodName)) ∈ gtbl := List.mem_filter.mpr ⟨List.mem_append_right _ (List.mem_append_right _ (List.mem_append_right _ (List.mem_append_right _ (List.mem_append_left _ (List.mem_of_getElem? (l := tables_1_4) (i := 171) rfl))))), rfl⟩
set_option maxRecDepth 8000 in
theorem zw_892 : (Cond.instanceMethod ({ cls := "LifeboatHouseModel", name := "tide", desc := "(II)I" } : MethodName)) ∈ gtbl := List.mem_filter.mpr ⟨List.mem_append_right _ (List.mem_append_right _ (List.mem_append_right _ (List.mem_append_right _ (List.mem_append_left _ (List.mem_of_getElem? (l := tables_1_4) (i := 172) rfl))))), rfl⟩
set_option maxRecDepth 8000 in
theorem zw_893 : (Cond.selects "LifeboatHouseModel" ({ cls := "LifeboatHouseModel", name := "tide", desc := "(II)I" } : MethodName) ({ cls := "LifeboatHouseModel", name := "tide", desc := "(II)I" } : MethodName)) ∈ gtbl := List.mem_filter.mpr ⟨List.mem_append_right _ (List.mem_append_right _ (List.mem_append_right _ (List.mem_append_right _ (List.mem_append_left _ (List.mem_of_getElem? (l := tables_1_4) (i := 173) rfl))))), rfl⟩
set_option maxRecDepth 8000 in
theorem zw_894 : (Cond.code ({ cls := "LifeboatHouseModel", name := "tide", desc := "(II)I" } : MethodName) prog_12_method_24_code (3 : Nat) (Option.some FieldType.int)) ∈ gtbl := List.mem_filter.mpr ⟨List.mem_append_right _ (List.mem_append_right _ (List.mem_append_right _ (List.mem_append_right _ (List.mem_append_left _ (List.mem_of_getElem? (l := tables_1_4) (i := 174) rfl))))), rfl⟩
set_option maxRecDepth 8000 in
theorem zw_895 : (Cond.methodLink "LifeboatHouseLaw" (55 : Nat) ({ cls := "LifeboatHouseModel", name := "slip", desc := "(II)I" } : MethodName)) ∈ gtbl := List.mem_filter.mpr ⟨List.mem_append_right _ (List.mem_append_right _ (List.mem_append_right _ (List.mem_append_right _ (List.mem_append_left _ (List.mem_of_getElem? (l := tables_1_4) (i := 175) rfl))))), rfl⟩
set_option maxRecDepth 8000 in
theorem zw_896 : (Cond.instanceMethod ({ cls := "LifeboatHouseModel", name := "slip", desc := "(II)I" } : MethodName)) ∈ gtbl := List.mem_filter.mpr ⟨List.mem_append_right _ (List.mem_append_right _ (List.mem_append_right _ (List.mem_append_right _ (List.mem_append_left _ (List.mem_of_getElem? (l := tables_1_4) (i := 176) rfl))))), rfl⟩
set_option maxRecDepth 8000 in
theorem zw_897 : (Cond.selects "LifeboatHouseModel" ({ cls := "LifeboatHouseModel", name := "slip", desc := "(II)I" } : MethodName) ({ cls := "LifeboatHouseModel", name := "slip", desc := "(II)I" } : MethodName)) ∈ gtbl := List.mem_filter.mpr ⟨List.mem_append_right _ (List.mem_append_right _ (List.mem_append_right _ (List.mem_append_right _ (List.mem_append_left _ (List.mem_of_getElem? (l := tables_1_4) (i := 177) rfl))))), rfl⟩
set_option maxRecDepth 8000 in
theorem zw_898 : (Cond.code ({ cls := "LifeboatHouseModel", name := "slip", desc := "(II)I" } : MethodName) prog_12_method_27_code (3 : Nat) (Option.some FieldType.int)) ∈ gtbl := List.mem_filter.mpr ⟨List.mem_append_right _ (List.mem_append_right _ (List.mem_append_right _ (List.mem_append_right _ (List.mem_append_left _ (List.mem_of_getElem? (l := tables_1_4) (i := 178) rfl))))), rfl⟩
set_option maxRecDepth 8000 in
theorem zw_899 : (Cond.methodLink "LifeboatHouseModel" (166 : Nat) ({ cls := "LifeboatHouseModel", name := "isOpen", desc := "(II)Z" } : MethodName)) ∈ gtbl := List.mem_filter.mpr ⟨List.mem_append_right _ (List.mem_append_right _ (List.mem_append_right _ (List.mem_append_right _ (List.mem_append_left _ (List.mem_of_getElem? (l := tables_1_4) (i := 179) rfl))))), rfl⟩
set_option maxRecDepth 8000 in
theorem zw_900 : (Cond.privateMethod ({ cls := "LifeboatHouseModel", name := "isOpen", desc := "(II)Z" } : MethodName)) ∈ lw_tbl := List.mem_append_right _ (List.mem_append_right _ (List.mem_append_right _ (List.mem_append_right _ (List.mem_append_left _ (List.mem_of_getElem? (l := tables_1_4) (i := 180) rfl)))))
set_option maxRecDepth 8000 in
theorem zw_901 : (Cond.instanceMethod ({ cls := "LifeboatHouseModel", name := "isOpen", desc := "(II)Z" } : MethodName)) ∈ gtbl := List.mem_filter.mpr ⟨List.mem_append_right _ (List.mem_append_right _ (List.mem_append_right _ (List.mem_append_right _ (List.mem_append_left _ (List.mem_of_getElem? (l := tables_1_4) (i := 181) rfl))))), rfl⟩
set_option maxRecDepth 8000 in
theorem zw_902 : (Cond.code ({ cls := "LifeboatHouseModel", name := "isOpen", desc := "(II)Z" } : MethodName) prog_12_method_26_code (3 : Nat) (Option.some FieldType.boolean)) ∈ gtbl := List.mem_filter.mpr ⟨List.mem_append_right _ (List.mem_append_right _ (List.mem_append_right _ (List.mem_append_right _ (List.mem_append_left _ (List.mem_of_getElem? (l := tables_1_4) (i := 182) rfl))))), rfl⟩
set_option maxRecDepth 8000 in
theorem zw_903 : (Cond.methodLink "LifeboatHouseModel" (163 : Nat) ({ cls := "LifeboatHouseModel", name := "highOf", desc := "(I)I" } : MethodName)) ∈ gtbl := List.mem_filter.mpr ⟨List.mem_append_right _ (List.mem_append_right _ (List.mem_append_right _ (List.mem_append_right _ (List.mem_append_left _ (List.mem_of_getElem? (l := tables_1_4) (i := 183) rfl))))), rfl⟩
set_option maxRecDepth 8000 in
theorem zw_904 : (Cond.privateMethod ({ cls := "LifeboatHouseModel", name := "highOf", desc := "(I)I" } : MethodName)) ∈ lw_tbl := List.mem_append_right _ (List.mem_append_right _ (List.mem_append_right _ (List.mem_append_right _ (List.mem_append_left _ (List.mem_of_getElem? (l := tables_1_4) (i := 184) rfl)))))
set_option maxRecDepth 8000 in
theorem zw_905 : (Cond.instanceMethod ({ cls := "LifeboatHouseModel", name := "highOf", desc := "(I)I" } : MethodName)) ∈ gtbl := List.mem_filter.mpr ⟨List.mem_append_right _ (List.mem_append_right _ (List.mem_append_right _ (List.mem_append_right _ (List.mem_append_left _ (List.mem_of_getElem? (l := tables_1_4) (i := 185) rfl))))), rfl⟩
set_option maxRecDepth 8000 in
theorem zw_906 : (Cond.code ({ cls := "LifeboatHouseModel", name := "highOf", desc := "(I)I" } : MethodName) prog_12_method_25_code (5 : Nat) (Option.some FieldType.int)) ∈ gtbl := List.mem_filter.mpr ⟨List.mem_append_right _ (List.mem_append_right _ (List.mem_append_right _ (List.mem_append_right _ (List.mem_append_left _ (List.mem_of_getElem? (l := tables_1_4) (i := 186) rfl))))), rfl⟩
set_option maxRecDepth 8000 in
theorem zw_907 : (Cond.methodLink "LifeboatHouseLaw" (60 : Nat) ({ cls := "LifeboatHouseModel", name := "minutes", desc := "(I)I" } : MethodName)) ∈ gtbl := List.mem_filter.mpr ⟨List.mem_append_right _ (List.mem_append_right _ (List.mem_append_right _ (List.mem_append_right _ (List.mem_append_left _ (List.mem_of_getElem? (l := tables_1_4) (i := 187) rfl))))), rfl⟩
set_option maxRecDepth 8000 in
theorem zw_908 : (Cond.instanceMethod ({ cls := "LifeboatHouseModel", name := "minutes", desc := "(I)I" } : MethodName)) ∈ gtbl := List.mem_filter.mpr ⟨List.mem_append_right _ (List.mem_append_right _ (List.mem_append_right _ (List.mem_append_right _ (List.mem_append_left _ (List.mem_of_getElem? (l := tables_1_4) (i := 188) rfl))))), rfl⟩
set_option maxRecDepth 8000 in
theorem zw_909 : (Cond.selects "LifeboatHouseModel" ({ cls := "LifeboatHouseModel", name := "minutes", desc := "(I)I" } : MethodName) ({ cls := "LifeboatHouseModel", name := "minutes", desc := "(I)I" } : MethodName)) ∈ gtbl := List.mem_filter.mpr ⟨List.mem_append_right _ (List.mem_append_right _ (List.mem_append_right _ (List.mem_append_right _ (List.mem_append_left _ (List.mem_of_getElem? (l := tables_1_4) (i := 189) rfl))))), rfl⟩
set_option maxRecDepth 8000 in
theorem zw_910 : (Cond.code ({ cls := "LifeboatHouseModel", name := "minutes", desc := "(I)I" } : MethodName) prog_12_method_28_code (2 : Nat) (Option.some FieldType.int)) ∈ gtbl := List.mem_filter.mpr ⟨List.mem_append_right _ (List.mem_append_right _ (List.mem_append_right _ (List.mem_append_right _ (List.mem_append_left _ (List.mem_of_getElem? (l := tables_1_4) (i := 190) rfl))))), rfl⟩
set_option maxRecDepth 8000 in
theorem zw_911 : (Cond.constant "LifeboatHouseModel" (170 : Nat) (200000 : Int32)) ∈ gtbl := List.mem_filter.mpr ⟨List.mem_append_right _ (List.mem_append_right _ (List.mem_append_right _ (List.mem_append_right _ (List.mem_append_left _ (List.mem_of_getElem? (l := tables_1_4) (i := 191) rfl))))), rfl⟩
set_option maxRecDepth 8000 in
theorem zw_912 : (Cond.methodLink "LifeboatHouseLaw" (64 : Nat) ({ cls := "LifeboatHouseModel", name := "boat", desc := "(II)I" } : MethodName)) ∈ gtbl := List.mem_filter.mpr ⟨List.mem_append_right _ (List.mem_append_right _ (List.mem_append_right _ (List.mem_append_right _ (List.mem_append_left _ (List.mem_of_getElem? (l := tables_1_4) (i := 192) rfl))))), rfl⟩
set_option maxRecDepth 8000 in
theorem zw_913 : (Cond.instanceMethod ({ cls := "LifeboatHouseModel", name := "boat", desc := "(II)I" } : MethodName)) ∈ gtbl := List.mem_filter.mpr ⟨List.mem_append_right _ (List.mem_append_right _ (List.mem_append_right _ (List.mem_append_right _ (List.mem_append_left _ (List.mem_of_getElem? (l := tables_1_4) (i := 193) rfl))))), rfl⟩
set_option maxRecDepth 8000 in
theorem zw_914 : (Cond.selects "LifeboatHouseModel" ({ cls := "LifeboatHouseModel", name := "boat", desc := "(II)I" } : MethodName) ({ cls := "LifeboatHouseModel", name := "boat", desc := "(II)I" } : MethodName)) ∈ gtbl := List.mem_filter.mpr ⟨List.mem_append_right _ (List.mem_append_right _ (List.mem_append_right _ (List.mem_append_right _ (List.mem_append_left _ (List.mem_of_getElem? (l := tables_1_4) (i := 194) rfl))))), rfl⟩
set_option maxRecDepth 8000 in
theorem zw_915 : (Cond.code ({ cls := "LifeboatHouseModel", name := "boat", desc := "(II)I" } : MethodName) prog_12_method_29_code (3 : Nat) (Option.some FieldType.int)) ∈ gtbl := List.mem_filter.mpr ⟨List.mem_append_right _ (List.mem_append_right _ (List.mem_append_right _ (List.mem_append_right _ (List.mem_append_left _ (List.mem_of_getElem? (l := tables_1_4) (i := 195) rfl))))), rfl⟩
set_option maxRecDepth 8000 in
theorem zw_916 : (Cond.methodLink "LifeboatHouseLaw" (68 : Nat) ({ cls := "LifeboatHouseModel", name := "speed", desc := "(III)I" } : MethodName)) ∈ gtbl := List.mem_filter.mpr ⟨List.mem_append_right _ (List.mem_append_right _ (List.mem_append_right _ (List.mem_append_right _ (List.mem_append_left _ (List.mem_of_getElem? (l := tables_1_4) (i := 196) rfl))))), rfl⟩
set_option maxRecDepth 8000 in
theorem zw_917 : (Cond.instanceMethod ({ cls := "LifeboatHouseModel", name := "speed", desc := "(III)I" } : MethodName)) ∈ gtbl := List.mem_filter.mpr ⟨List.mem_append_right _ (List.mem_append_right _ (List.mem_append_right _ (List.mem_append_right _ (List.mem_append_left _ (List.mem_of_getElem? (l := tables_1_4) (i := 197) rfl))))), rfl⟩
set_option maxRecDepth 8000 in
theorem zw_918 : (Cond.selects "LifeboatHouseModel" ({ cls := "LifeboatHouseModel", name := "speed", desc := "(III)I" } : MethodName) ({ cls := "LifeboatHouseModel", name := "speed", desc := "(III)I" } : MethodName)) ∈ gtbl := List.mem_filter.mpr ⟨List.mem_append_right _ (List.mem_append_right _ (List.mem_append_right _ (List.mem_append_right _ (List.mem_append_left _ (List.mem_of_getElem? (l := tables_1_4) (i := 198) rfl))))), rfl⟩
set_option maxRecDepth 8000 in
theorem zw_919 : (Cond.code ({ cls := "LifeboatHouseModel", name := "speed", desc := "(III)I" } : MethodName) prog_12_method_30_code (5 : Nat) (Option.some FieldType.int)) ∈ gtbl := List.mem_filter.mpr ⟨List.mem_append_right _ (List.mem_append_right _ (List.mem_append_right _ (List.mem_append_right _ (List.mem_append_left _ (List.mem_of_getElem? (l := tables_1_4) (i := 199) rfl))))), rfl⟩
set_option maxRecDepth 8000 in
theorem zw_920 : (Cond.methodLink "LifeboatHouseModel" (171 : Nat) ({ cls := "LifeboatHouseModel", name := "isBoat", desc := "(I)Z" } : MethodName)) ∈ gtbl := List.mem_filter.mpr ⟨List.mem_append_right _ (List.mem_append_right _ (List.mem_append_right _ (List.mem_append_right _ (List.mem_append_left _ (List.mem_of_getElem? (l := tables_1_4) (i := 200) rfl))))), rfl⟩
set_option maxRecDepth 8000 in
theorem zw_921 : (Cond.privateMethod ({ cls := "LifeboatHouseModel", name := "isBoat", desc := "(I)Z" } : MethodName)) ∈ lw_tbl := List.mem_append_right _ (List.mem_append_right _ (List.mem_append_right _ (List.mem_append_right _ (List.mem_append_left _ (List.mem_of_getElem? (l := tables_1_4) (i := 201) rfl)))))
set_option maxRecDepth 8000 in
theorem zw_922 : (Cond.instanceMethod ({ cls := "LifeboatHouseModel", name := "isBoat", desc := "(I)Z" } : MethodName)) ∈ gtbl := List.mem_filter.mpr ⟨List.mem_append_right _ (List.mem_append_right _ (List.mem_append_right _ (List.mem_append_right _ (List.mem_append_left _ (List.mem_of_getElem? (l := tables_1_4) (i := 202) rfl))))), rfl⟩
set_option maxRecDepth 8000 in
theorem zw_923 : (Cond.code ({ cls := "LifeboatHouseModel", name := "isBoat", desc := "(I)Z" } : MethodName) prog_12_method_6_code (2 : Nat) (Option.some FieldType.boolean)) ∈ gtbl := List.mem_filter.mpr ⟨List.mem_append_right _ (List.mem_append_right _ (List.mem_append_right _ (List.mem_append_right _ (List.mem_append_left _ (List.mem_of_getElem? (l := tables_1_4) (i := 203) rfl))))), rfl⟩
set_option maxRecDepth 8000 in
theorem zw_924 : (Cond.methodLink "LifeboatHouseLaw" (72 : Nat) ({ cls := "LifeboatHouseModel", name := "move", desc := "(II)I" } : MethodName)) ∈ gtbl := List.mem_filter.mpr ⟨List.mem_append_right _ (List.mem_append_right _ (List.mem_append_right _ (List.mem_append_right _ (List.mem_append_left _ (List.mem_of_getElem? (l := tables_1_4) (i := 204) rfl))))), rfl⟩
set_option maxRecDepth 8000 in
theorem zw_925 : (Cond.instanceMethod ({ cls := "LifeboatHouseModel", name := "move", desc := "(II)I" } : MethodName)) ∈ gtbl := List.mem_filter.mpr ⟨List.mem_append_right _ (List.mem_append_right _ (List.mem_append_right _ (List.mem_append_right _ (List.mem_append_left _ (List.mem_of_getElem? (l := tables_1_4) (i := 205) rfl))))), rfl⟩
set_option maxRecDepth 8000 in
theorem zw_926 : (Cond.selects "LifeboatHouseModel" ({ cls := "LifeboatHouseModel", name := "move", desc := "(II)I" } : MethodName) ({ cls := "LifeboatHouseModel", name := "move", desc := "(II)I" } : MethodName)) ∈ gtbl := List.mem_filter.mpr ⟨List.mem_append_right _ (List.mem_append_right _ (List.mem_append_right _ (List.mem_append_right _ (List.mem_append_left _ (List.mem_of_getElem? (l := tables_1_4) (i := 206) rfl))))), rfl⟩
set_option maxRecDepth 8000 in
theorem zw_927 : (Cond.code ({ cls := "LifeboatHouseModel", name := "move", desc := "(II)I" } : MethodName) prog_12_method_32_code (4 : Nat) (Option.some FieldType.int)) ∈ gtbl := List.mem_filter.mpr ⟨List.mem_append_right _ (List.mem_append_right _ (List.mem_append_right _ (List.mem_append_right _ (List.mem_append_left _ (List.mem_of_getElem? (l := tables_1_4) (i := 207) rfl))))), rfl⟩
set_option maxRecDepth 8000 in
theorem zw_928 : (Cond.methodLink "LifeboatHouseModel" (174 : Nat) ({ cls := "LifeboatHouseModel", name := "isAway", desc := "(I)Z" } : MethodName)) ∈ gtbl := List.mem_filter.mpr ⟨List.mem_append_right _ (List.mem_append_right _ (List.mem_append_right _ (List.mem_append_right _ (List.mem_append_left _ (List.mem_of_getElem? (l := tables_1_4) (i := 208) rfl))))), rfl⟩
set_option maxRecDepth 8000 in
theorem zw_929 : (Cond.privateMethod ({ cls := "LifeboatHouseModel", name := "isAway", desc := "(I)Z" } : MethodName)) ∈ lw_tbl := List.mem_append_right _ (List.mem_append_right _ (List.mem_append_right _ (List.mem_append_right _ (List.mem_append_left _ (List.mem_of_getElem? (l := tables_1_4) (i := 209) rfl)))))
set_option maxRecDepth 8000 in
theorem zw_930 : (Cond.instanceMethod ({ cls := "LifeboatHouseModel", name := "isAway", desc := "(I)Z" } : MethodName)) ∈ gtbl := List.mem_filter.mpr ⟨List.mem_append_right _ (List.mem_append_right _ (List.mem_append_right _ (List.mem_append_right _ (List.mem_append_left _ (List.mem_of_getElem? (l := tables_1_4) (i := 210) rfl))))), rfl⟩
set_option maxRecDepth 8000 in
theorem zw_931 : (Cond.code ({ cls := "LifeboatHouseModel", name := "isAway", desc := "(I)Z" } : MethodName) prog_12_method_31_code (2 : Nat) (Option.some FieldType.boolean)) ∈ gtbl := List.mem_filter.mpr ⟨List.mem_append_right _ (List.mem_append_right _ (List.mem_append_right _ (List.mem_append_right _ (List.mem_append_left _ (List.mem_of_getElem? (l := tables_1_4) (i := 211) rfl))))), rfl⟩
set_option maxRecDepth 8000 in
theorem zw_932 : (Cond.methodLink "LifeboatHouseLaw" (76 : Nat) ({ cls := "LifeboatHouseModel", name := "call", desc := "(III)I" } : MethodName)) ∈ gtbl := List.mem_filter.mpr ⟨List.mem_append_right _ (List.mem_append_right _ (List.mem_append_right _ (List.mem_append_right _ (List.mem_append_left _ (List.mem_of_getElem? (l := tables_1_4) (i := 212) rfl))))), rfl⟩
set_option maxRecDepth 8000 in
theorem zw_933 : (Cond.instanceMethod ({ cls := "LifeboatHouseModel", name := "call", desc := "(III)I" } : MethodName)) ∈ gtbl := List.mem_filter.mpr ⟨List.mem_append_right _ (List.mem_append_right _ (List.mem_append_right _ (List.mem_append_right _ (List.mem_append_left _ (List.mem_of_getElem? (l := tables_1_4) (i := 213) rfl))))), rfl⟩
set_option maxRecDepth 8000 in
theorem zw_934 : (Cond.selects "LifeboatHouseModel" ({ cls := "LifeboatHouseModel", name := "call", desc := "(III)I" } : MethodName) ({ cls := "LifeboatHouseModel", name := "call", desc := "(III)I" } : MethodName)) ∈ gtbl := List.mem_filter.mpr ⟨List.mem_append_right _ (List.mem_append_right _ (List.mem_append_right _ (List.mem_append_right _ (List.mem_append_left _ (List.mem_of_getElem? (l := tables_1_4) (i := 214) rfl))))), rfl⟩
set_option maxRecDepth 8000 in
theorem zw_935 : (Cond.code ({ cls := "LifeboatHouseModel", name := "call", desc := "(III)I" } : MethodName) prog_12_method_33_code (4 : Nat) (Option.some FieldType.int)) ∈ gtbl := List.mem_filter.mpr ⟨List.mem_append_right _ (List.mem_append_right _ (List.mem_append_right _ (List.mem_append_right _ (List.mem_append_left _ (List.mem_of_getElem? (l := tables_1_4) (i := 215) rfl))))), rfl⟩
set_option maxRecDepth 8000 in
theorem zw_936 : (Cond.methodLink "LifeboatHouseLaw" (80 : Nat) ({ cls := "LifeboatHouseModel", name := "reach", desc := "(III)I" } : MethodName)) ∈ gtbl := List.mem_filter.mpr ⟨List.mem_append_right _ (List.mem_append_right _ (List.mem_append_right _ (List.mem_append_right _ (List.mem_append_left _ (List.mem_of_getElem? (l := tables_1_4) (i := 216) rfl))))), rfl⟩
set_option maxRecDepth 8000 in
theorem zw_937 : (Cond.instanceMethod ({ cls := "LifeboatHouseModel", name := "reach", desc := "(III)I" } : MethodName)) ∈ gtbl := List.mem_filter.mpr ⟨List.mem_append_right _ (List.mem_append_right _ (List.mem_append_right _ (List.mem_append_right _ (List.mem_append_left _ (List.mem_of_getElem? (l := tables_1_4) (i := 217) rfl))))), rfl⟩
set_option maxRecDepth 8000 in
theorem zw_938 : (Cond.selects "LifeboatHouseModel" ({ cls := "LifeboatHouseModel", name := "reach", desc := "(III)I" } : MethodName) ({ cls := "LifeboatHouseModel", name := "reach", desc := "(III)I" } : MethodName)) ∈ gtbl := List.mem_filter.mpr ⟨List.mem_append_right _ (List.mem_append_right _ (List.mem_append_right _ (List.mem_append_right _ (List.mem_append_left _ (List.mem_of_getElem? (l := tables_1_4) (i := 218) rfl))))), rfl⟩
set_option maxRecDepth 8000 in
theorem zw_939 : (Cond.code ({ cls := "LifeboatHouseModel", name := "reach", desc := "(III)I" } : MethodName) prog_12_method_41_code (4 : Nat) (Option.some FieldType.int)) ∈ gtbl := List.mem_filter.mpr ⟨List.mem_append_right _ (List.mem_append_right _ (List.mem_append_right _ (List.mem_append_right _ (List.mem_append_left _ (List.mem_of_getElem? (l := tables_1_4) (i := 219) rfl))))), rfl⟩
set_option maxRecDepth 8000 in
theorem zw_940 : (Cond.methodLink "LifeboatHouseModel" (195 : Nat) ({ cls := "LifeboatHouseModel", name := "isCall", desc := "(I)Z" } : MethodName)) ∈ gtbl := List.mem_filter.mpr ⟨List.mem_append_right _ (List.mem_append_right _ (List.mem_append_right _ (List.mem_append_right _ (List.mem_append_left _ (List.mem_of_getElem? (l := tables_1_4) (i := 220) rfl))))), rfl⟩
set_option maxRecDepth 8000 in
theorem zw_941 : (Cond.privateMethod ({ cls := "LifeboatHouseModel", name := "isCall", desc := "(I)Z" } : MethodName)) ∈ lw_tbl := List.mem_append_right _ (List.mem_append_right _ (List.mem_append_right _ (List.mem_append_right _ (List.mem_append_left _ (List.mem_of_getElem? (l := tables_1_4) (i := 221) rfl)))))
set_option maxRecDepth 8000 in
theorem zw_942 : (Cond.instanceMethod ({ cls := "LifeboatHouseModel", name := "isCall", desc := "(I)Z" } : MethodName)) ∈ gtbl := List.mem_filter.mpr ⟨List.mem_append_right _ (List.mem_append_right _ (List.mem_append_right _ (List.mem_append_right _ (List.mem_append_left _ (List.mem_of_getElem? (l := tables_1_4) (i := 222) rfl))))), rfl⟩
set_option maxRecDepth 8000 in
theorem zw_943 : (Cond.code ({ cls := "LifeboatHouseModel", name := "isCall", desc := "(I)Z" } : MethodName) prog_12_method_7_code (2 : Nat) (Option.some FieldType.boolean)) ∈ gtbl := List.mem_filter.mpr ⟨List.mem_append_right _ (List.mem_append_right _ (List.mem_append_right _ (List.mem_append_right _ (List.mem_append_left _ (List.mem_of_getElem? (l := tables_1_4) (i := 223) rfl))))), rfl⟩
set_option maxRecDepth 8000 in
theorem zw_944 : (Cond.methodLink "LifeboatHouseModel" (189 : Nat) ({ cls := "LifeboatHouseModel", name := "can", desc := "(II)Z" } : MethodName)) ∈ gtbl := List.mem_filter.mpr ⟨List.mem_append_right _ (List.mem_append_right _ (List.mem_append_right _ (List.mem_append_right _ (List.mem_append_left _ (List.mem_of_getElem? (l := tables_1_4) (i := 224) rfl))))), rfl⟩
set_option maxRecDepth 8000 in
theorem zw_945 : (Cond.privateMethod ({ cls := "LifeboatHouseModel", name := "can", desc := "(II)Z" } : MethodName)) ∈ lw_tbl := List.mem_append_right _ (List.mem_append_right _ (List.mem_append_right _ (List.mem_append_right _ (List.mem_append_left _ (List.mem_of_getElem? (l := tables_1_4) (i := 225) rfl)))))
set_option maxRecDepth 8000 in
theorem zw_946 : (Cond.instanceMethod ({ cls := "LifeboatHouseModel", name := "can", desc := "(II)Z" } : MethodName)) ∈ gtbl := List.mem_filter.mpr ⟨List.mem_append_right _ (List.mem_append_right _ (List.mem_append_right _ (List.mem_append_right _ (List.mem_append_left _ (List.mem_of_getElem? (l := tables_1_4) (i := 226) rfl))))), rfl⟩
set_option maxRecDepth 8000 in
theorem zw_947 : (Cond.code ({ cls := "LifeboatHouseModel", name := "can", desc := "(II)Z" } : MethodName) prog_12_method_38_code (4 : Nat) (Option.some FieldType.boolean)) ∈ gtbl := List.mem_filter.mpr ⟨List.mem_append_right _ (List.mem_append_right _ (List.mem_append_right _ (List.mem_append_right _ (List.mem_append_left _ (List.mem_of_getElem? (l := tables_1_4) (i := 227) rfl))))), rfl⟩
set_option maxRecDepth 8000 in
theorem zw_948 : (Cond.methodLink "LifeboatHouseModel" (180 : Nat) ({ cls := "LifeboatHouseModel", name := "speedFor", desc := "(II)I" } : MethodName)) ∈ gtbl := List.mem_filter.mpr ⟨List.mem_append_right _ (List.mem_append_right _ (List.mem_append_right _ (List.mem_append_right _ (List.mem_append_left _ (List.mem_of_getElem? (l := tables_1_4) (i := 228) rfl))))), rfl⟩
set_option maxRecDepth 8000 in
theorem zw_949 : (Cond.privateMethod ({ cls := "LifeboatHouseModel", name := "speedFor", desc := "(II)I" } : MethodName)) ∈ lw_tbl := List.mem_append_right _ (List.mem_append_right _ (List.mem_append_right _ (List.mem_append_right _ (List.mem_append_left _ (List.mem_of_getElem? (l := tables_1_4) (i := 229) rfl)))))
set_option maxRecDepth 8000 in
theorem zw_950 : (Cond.instanceMethod ({ cls := "LifeboatHouseModel", name := "speedFor", desc := "(II)I" } : MethodName)) ∈ gtbl := List.mem_filter.mpr ⟨List.mem_append_right _ (List.mem_append_right _ (List.mem_append_right _ (List.mem_append_right _ (List.mem_append_left _ (List.mem_of_getElem? (l := tables_1_4) (i := 230) rfl))))), rfl⟩
set_option maxRecDepth 8000 in
theorem zw_951 : (Cond.code ({ cls := "LifeboatHouseModel", name := "speedFor", desc := "(II)I" } : MethodName) prog_12_method_37_code (3 : Nat) (Option.some FieldType.int)) ∈ gtbl := List.mem_filter.mpr ⟨List.mem_append_right _ (List.mem_append_right _ (List.mem_append_right _ (List.mem_append_right _ (List.mem_append_left _ (List.mem_of_getElem? (l := tables_1_4) (i := 231) rfl))))), rfl⟩
set_option maxRecDepth 8000 in
theorem zw_952 : (Cond.methodLink "LifeboatHouseModel" (183 : Nat) ({ cls := "LifeboatHouseModel", name := "way", desc := "(II)I" } : MethodName)) ∈ gtbl := List.mem_filter.mpr ⟨List.mem_append_right _ (List.mem_append_right _ (List.mem_append_right _ (List.mem_append_right _ (List.mem_append_left _ (List.mem_of_getElem? (l := tables_1_4) (i := 232) rfl))))), rfl⟩
set_option maxRecDepth 8000 in
theorem zw_953 : (Cond.privateMethod ({ cls := "LifeboatHouseModel", name := "way", desc := "(II)I" } : MethodName)) ∈ lw_tbl := List.mem_append_right _ (List.mem_append_right _ (List.mem_append_right _ (List.mem_append_right _ (List.mem_append_left _ (List.mem_of_getElem? (l := tables_1_4) (i := 233) rfl)))))
set_option maxRecDepth 8000 in
theorem zw_954 : (Cond.instanceMethod ({ cls := "LifeboatHouseModel", name := "way", desc := "(II)I" } : MethodName)) ∈ gtbl := List.mem_filter.mpr ⟨List.mem_append_right _ (List.mem_append_right _ (List.mem_append_right _ (List.mem_append_right _ (List.mem_append_left _ (List.mem_of_getElem? (l := tables_1_4) (i := 234) rfl))))), rfl⟩
set_option maxRecDepth 8000 in
theorem zw_955 : (Cond.code ({ cls := "LifeboatHouseModel", name := "way", desc := "(II)I" } : MethodName) prog_12_method_36_code (3 : Nat) (Option.some FieldType.int)) ∈ gtbl := List.mem_filter.mpr ⟨List.mem_append_right _ (List.mem_append_right _ (List.mem_append_right _ (List.mem_append_right _ (List.mem_append_left _ (List.mem_of_getElem? (l := tables_1_4) (i := 235) rfl))))), rfl⟩
set_option maxRecDepth 8000 in
theorem zw_956 : (Cond.methodLink "LifeboatHouseModel" (177 : Nat) ({ cls := "LifeboatHouseModel", name := "size", desc := "(I)I" } : MethodName)) ∈ gtbl := List.mem_filter.mpr ⟨List.mem_append_right _ (List.mem_append_right _ (List.mem_append_right _ (List.mem_append_right _ (List.mem_append_left _ (List.mem_of_getElem? (l := tables_1_4) (i := 236) rfl))))), rfl⟩
set_option maxRecDepth 8000 in
theorem zw_957 : (Cond.static ({ cls := "LifeboatHouseModel", name := "size", desc := "(I)I" } : MethodName)) ∈ gtbl := List.mem_filter.mpr ⟨List.mem_append_right _ (List.mem_append_right _ (List.mem_append_right _ (List.mem_append_right _ (List.mem_append_left _ (List.mem_of_getElem? (l := tables_1_4) (i := 237) rfl))))), rfl⟩
set_option maxRecDepth 8000 in
theorem zw_958 : (Cond.code ({ cls := "LifeboatHouseModel", name := "size", desc := "(I)I" } : MethodName) prog_12_method_34_code (1 : Nat) (Option.some FieldType.int)) ∈ gtbl := List.mem_filter.mpr ⟨List.mem_append_right _ (List.mem_append_right _ (List.mem_append_right _ (List.mem_append_right _ (List.mem_append_left _ (List.mem_of_getElem? (l := tables_1_4) (i := 238) rfl))))), rfl⟩
set_option maxRecDepth 8000 in
theorem zw_959 : (Cond.methodLink "LifeboatHouseModel" (186 : Nat) ({ cls := "LifeboatHouseModel", name := "up", desc := "(II)I" } : MethodName)) ∈ gtbl := List.mem_filter.mpr ⟨List.mem_append_right _ (List.mem_append_right _ (List.mem_append_right _ (List.mem_append_right _ (List.mem_append_left _ (List.mem_of_getElem? (l := tables_1_4) (i := 239) rfl))))), rfl⟩
set_option maxRecDepth 8000 in
theorem zw_960 : (Cond.static ({ cls := "LifeboatHouseModel", name := "up", desc := "(II)I" } : MethodName)) ∈ gtbl := List.mem_filter.mpr ⟨List.mem_append_right _ (List.mem_append_right _ (List.mem_append_right _ (List.mem_append_right _ (List.mem_append_right _ (List.mem_of_getElem? (l := tables_1_5) (i := 0) rfl))))), rfl⟩
set_option maxRecDepth 8000 in
theorem zw_961 : (Cond.code ({ cls := "LifeboatHouseModel", name := "up", desc := "(II)I" } : MethodName) prog_12_method_35_code (2 : Nat) (Option.some FieldType.int)) ∈ gtbl := List.mem_filter.mpr ⟨List.mem_append_right _ (List.mem_append_right _ (List.mem_append_right _ (List.mem_append_right _ (List.mem_append_right _ (List.mem_of_getElem? (l := tables_1_5) (i := 1) rfl))))), rfl⟩
set_option maxRecDepth 8000 in
theorem zw_962 : (Cond.methodLink "LifeboatHouseModel" (198 : Nat) ({ cls := "LifeboatHouseModel", name := "reached", desc := "(II)I" } : MethodName)) ∈ gtbl := List.mem_filter.mpr ⟨List.mem_append_right _ (List.mem_append_right _ (List.mem_append_right _ (List.mem_append_right _ (List.mem_append_right _ (List.mem_of_getElem? (l := tables_1_5) (i := 2) rfl))))), rfl⟩
set_option maxRecDepth 8000 in
theorem zw_963 : (Cond.privateMethod ({ cls := "LifeboatHouseModel", name := "reached", desc := "(II)I" } : MethodName)) ∈ lw_tbl := List.mem_append_right _ (List.mem_append_right _ (List.mem_append_right _ (List.mem_append_right _ (List.mem_append_right _ (List.mem_of_getElem? (l := tables_1_5) (i := 3) rfl)))))
set_option maxRecDepth 8000 in
theorem zw_964 : (Cond.instanceMethod ({ cls := "LifeboatHouseModel", name := "reached", desc := "(II)I" } : MethodName)) ∈ gtbl := List.mem_filter.mpr ⟨List.mem_append_right _ (List.mem_append_right _ (List.mem_append_right _ (List.mem_append_right _ (List.mem_append_right _ (List.mem_of_getElem? (l := tables_1_5) (i := 4) rfl))))), rfl⟩
set_option maxRecDepth 8000 in
theorem zw_965 : (Cond.code ({ cls := "LifeboatHouseModel", name := "reached", desc := "(II)I" } : MethodName) prog_12_method_40_code (4 : Nat) (Option.some FieldType.int)) ∈ gtbl := List.mem_filter.mpr ⟨List.mem_append_right _ (List.mem_append_right _ (List.mem_append_right _ (List.mem_append_right _ (List.mem_append_right _ (List.mem_of_getElem? (l := tables_1_5) (i := 5) rfl))))), rfl⟩
set_option maxRecDepth 8000 in
theorem zw_966 : (Cond.methodLink "LifeboatHouseModel" (192 : Nat) ({ cls := "LifeboatHouseModel", name := "launch", desc := "(I)I" } : MethodName)) ∈ gtbl := List.mem_filter.mpr ⟨List.mem_append_right _ (List.mem_append_right _ (List.mem_append_right _ (List.mem_append_right _ (List.mem_append_right _ (List.mem_of_getElem? (l := tables_1_5) (i := 6) rfl))))), rfl⟩
set_option maxRecDepth 8000 in
theorem zw_967 : (Cond.privateMethod ({ cls := "LifeboatHouseModel", name := "launch", desc := "(I)I" } : MethodName)) ∈ lw_tbl := List.mem_append_right _ (List.mem_append_right _ (List.mem_append_right _ (List.mem_append_right _ (List.mem_append_right _ (List.mem_of_getElem? (l := tables_1_5) (i := 7) rfl)))))
set_option maxRecDepth 8000 in
theorem zw_968 : (Cond.instanceMethod ({ cls := "LifeboatHouseModel", name := "launch", desc := "(I)I" } : MethodName)) ∈ gtbl := List.mem_filter.mpr ⟨List.mem_append_right _ (List.mem_append_right _ (List.mem_append_right _ (List.mem_append_right _ (List.mem_append_right _ (List.mem_of_getElem? (l := tables_1_5) (i := 8) rfl))))), rfl⟩
set_option maxRecDepth 8000 in
theorem zw_969 : (Cond.code ({ cls := "LifeboatHouseModel", name := "launch", desc := "(I)I" } : MethodName) prog_12_method_39_code (5 : Nat) (Option.some FieldType.int)) ∈ gtbl := List.mem_filter.mpr ⟨List.mem_append_right _ (List.mem_append_right _ (List.mem_append_right _ (List.mem_append_right _ (List.mem_append_right _ (List.mem_of_getElem? (l := tables_1_5) (i := 9) rfl))))), rfl⟩
set_option maxRecDepth 8000 in
theorem zw_970 : (Cond.methodLink "LifeboatHouseLaw" (84 : Nat) ({ cls := "LifeboatHouseModel", name := "first", desc := "(I)I" } : MethodName)) ∈ gtbl := List.mem_filter.mpr ⟨List.mem_append_right _ (List.mem_append_right _ (List.mem_append_right _ (List.mem_append_right _ (List.mem_append_right _ (List.mem_of_getElem? (l := tables_1_5) (i := 10) rfl))))), rfl⟩
set_option maxRecDepth 8000 in
theorem zw_971 : (Cond.instanceMethod ({ cls := "LifeboatHouseModel", name := "first", desc := "(I)I" } : MethodName)) ∈ gtbl := List.mem_filter.mpr ⟨List.mem_append_right _ (List.mem_append_right _ (List.mem_append_right _ (List.mem_append_right _ (List.mem_append_right _ (List.mem_of_getElem? (l := tables_1_5) (i := 11) rfl))))), rfl⟩
set_option maxRecDepth 8000 in
theorem zw_972 : (Cond.selects "LifeboatHouseModel" ({ cls := "LifeboatHouseModel", name := "first", desc := "(I)I" } : MethodName) ({ cls := "LifeboatHouseModel", name := "first", desc := "(I)I" } : MethodName)) ∈ gtbl := List.mem_filter.mpr ⟨List.mem_append_right _ (List.mem_append_right _ (List.mem_append_right _ (List.mem_append_right _ (List.mem_append_right _ (List.mem_of_getElem? (l := tables_1_5) (i := 12) rfl))))), rfl⟩
set_option maxRecDepth 8000 in
theorem zw_973 : (Cond.code ({ cls := "LifeboatHouseModel", name := "first", desc := "(I)I" } : MethodName) prog_12_method_42_code (5 : Nat) (Option.some FieldType.int)) ∈ gtbl := List.mem_filter.mpr ⟨List.mem_append_right _ (List.mem_append_right _ (List.mem_append_right _ (List.mem_append_right _ (List.mem_append_right _ (List.mem_of_getElem? (l := tables_1_5) (i := 13) rfl))))), rfl⟩
set_option maxRecDepth 8000 in
theorem zw_974 : (Cond.methodLink "LifeboatHouseLaw" (88 : Nat) ({ cls := "LifeboatHouseModel", name := "two", desc := "(III)I" } : MethodName)) ∈ gtbl := List.mem_filter.mpr ⟨List.mem_append_right _ (List.mem_append_right _ (List.mem_append_right _ (List.mem_append_right _ (List.mem_append_right _ (List.mem_of_getElem? (l := tables_1_5) (i := 14) rfl))))), rfl⟩
set_option maxRecDepth 8000 in
theorem zw_975 : (Cond.instanceMethod ({ cls := "LifeboatHouseModel", name := "two", desc := "(III)I" } : MethodName)) ∈ gtbl := List.mem_filter.mpr ⟨List.mem_append_right _ (List.mem_append_right _ (List.mem_append_right _ (List.mem_append_right _ (List.mem_append_right _ (List.mem_of_getElem? (l := tables_1_5) (i := 15) rfl))))), rfl⟩
set_option maxRecDepth 8000 in
theorem zw_976 : (Cond.selects "LifeboatHouseModel" ({ cls := "LifeboatHouseModel", name := "two", desc := "(III)I" } : MethodName) ({ cls := "LifeboatHouseModel", name := "two", desc := "(III)I" } : MethodName)) ∈ gtbl := List.mem_filter.mpr ⟨List.mem_append_right _ (List.mem_append_right _ (List.mem_append_right _ (List.mem_append_right _ (List.mem_append_right _ (List.mem_of_getElem? (l := tables_1_5) (i := 16) rfl))))), rfl⟩
set_option maxRecDepth 8000 in
theorem zw_977 : (Cond.code ({ cls := "LifeboatHouseModel", name := "two", desc := "(III)I" } : MethodName) prog_12_method_43_code (13 : Nat) (Option.some FieldType.int)) ∈ gtbl := List.mem_filter.mpr ⟨List.mem_append_right _ (List.mem_append_right _ (List.mem_append_right _ (List.mem_append_right _ (List.mem_append_right _ (List.mem_of_getElem? (l := tables_1_5) (i := 17) rfl))))), rfl⟩
set_option maxRecDepth 8000 in
theorem zw_978 : (Cond.methodLink "LifeboatHouseLaw" (93 : Nat) ({ cls := "LifeboatHouseModel", name := "send", desc := "(IIIZ)I" } : MethodName)) ∈ gtbl := List.mem_filter.mpr ⟨List.mem_append_right _ (List.mem_append_right _ (List.mem_append_right _ (List.mem_append_right _ (List.mem_append_right _ (List.mem_of_getElem? (l := tables_1_5) (i := 18) rfl))))), rfl⟩
set_option maxRecDepth 8000 in
theorem zw_979 : (Cond.instanceMethod ({ cls := "LifeboatHouseModel", name := "send", desc := "(IIIZ)I" } : MethodName)) ∈ gtbl := List.mem_filter.mpr ⟨List.mem_append_right _ (List.mem_append_right _ (List.mem_append_right _ (List.mem_append_right _ (List.mem_append_right _ (List.mem_of_getElem? (l := tables_1_5) (i := 19) rfl))))), rfl⟩
set_option maxRecDepth 8000 in
theorem zw_980 : (Cond.selects "LifeboatHouseModel" ({ cls := "LifeboatHouseModel", name := "send", desc := "(IIIZ)I" } : MethodName) ({ cls := "LifeboatHouseModel", name := "send", desc := "(IIIZ)I" } : MethodName)) ∈ gtbl := List.mem_filter.mpr ⟨List.mem_append_right _ (List.mem_append_right _ (List.mem_append_right _ (List.mem_append_right _ (List.mem_append_right _ (List.mem_of_getElem? (l := tables_1_5) (i := 20) rfl))))), rfl⟩
set_option maxRecDepth 8000 in
theorem zw_981 : (Cond.code ({ cls := "LifeboatHouseModel", name := "send", desc := "(IIIZ)I" } : MethodName) prog_12_method_44_code (8 : Nat) (Option.some FieldType.int)) ∈ gtbl := List.mem_filter.mpr ⟨List.mem_append_right _ (List.mem_append_right _ (List.mem_append_right _ (List.mem_append_right _ (List.mem_append_right _ (List.mem_of_getElem? (l := tables_1_5) (i := 21) rfl))))), rfl⟩
set_option maxRecDepth 8000 in
theorem zw_982 : (Cond.methodLink "LifeboatHouseLaw" (97 : Nat) ({ cls := "LifeboatHouseModel", name := "log", desc := "(II)I" } : MethodName)) ∈ gtbl := List.mem_filter.mpr ⟨List.mem_append_right _ (List.mem_append_right _ (List.mem_append_right _ (List.mem_append_right _ (List.mem_append_right _ (List.mem_of_getElem? (l := tables_1_5) (i := 22) rfl))))), rfl⟩
set_option maxRecDepth 8000 in
theorem zw_983 : (Cond.instanceMethod ({ cls := "LifeboatHouseModel", name := "log", desc := "(II)I" } : MethodName)) ∈ gtbl := List.mem_filter.mpr ⟨List.mem_append_right _ (List.mem_append_right _ (List.mem_append_right _ (List.mem_append_right _ (List.mem_append_right _ (List.mem_of_getElem? (l := tables_1_5) (i := 23) rfl))))), rfl⟩
set_option maxRecDepth 8000 in
theorem zw_984 : (Cond.selects "LifeboatHouseModel" ({ cls := "LifeboatHouseModel", name := "log", desc := "(II)I" } : MethodName) ({ cls := "LifeboatHouseModel", name := "log", desc := "(II)I" } : MethodName)) ∈ gtbl := List.mem_filter.mpr ⟨List.mem_append_right _ (List.mem_append_right _ (List.mem_append_right _ (List.mem_append_right _ (List.mem_append_right _ (List.mem_of_getElem? (l := tables_1_5) (i := 24) rfl))))), rfl⟩
set_option maxRecDepth 8000 in
theorem zw_985 : (Cond.code ({ cls := "LifeboatHouseModel", name := "log", desc := "(II)I" } : MethodName) prog_12_method_45_code (3 : Nat) (Option.some FieldType.int)) ∈ gtbl := List.mem_filter.mpr ⟨List.mem_append_right _ (List.mem_append_right _ (List.mem_append_right _ (List.mem_append_right _ (List.mem_append_right _ (List.mem_of_getElem? (l := tables_1_5) (i := 25) rfl))))), rfl⟩
set_option maxRecDepth 8000 in
theorem zw_986 : (Cond.methodLink "LifeboatHouseLaw" (101 : Nat) ({ cls := "LifeboatHouseModel", name := "covered", desc := "(I)I" } : MethodName)) ∈ gtbl := List.mem_filter.mpr ⟨List.mem_append_right _ (List.mem_append_right _ (List.mem_append_right _ (List.mem_append_right _ (List.mem_append_right _ (List.mem_of_getElem? (l := tables_1_5) (i := 26) rfl))))), rfl⟩
set_option maxRecDepth 8000 in
theorem zw_987 : (Cond.instanceMethod ({ cls := "LifeboatHouseModel", name := "covered", desc := "(I)I" } : MethodName)) ∈ gtbl := List.mem_filter.mpr ⟨List.mem_append_right _ (List.mem_append_right _ (List.mem_append_right _ (List.mem_append_right _ (List.mem_append_right _ (List.mem_of_getElem? (l := tables_1_5) (i := 27) rfl))))), rfl⟩
set_option maxRecDepth 8000 in
theorem zw_988 : (Cond.selects "LifeboatHouseModel" ({ cls := "LifeboatHouseModel", name := "covered", desc := "(I)I" } : MethodName) ({ cls := "LifeboatHouseModel", name := "covered", desc := "(I)I" } : MethodName)) ∈ gtbl := List.mem_filter.mpr ⟨List.mem_append_right _ (List.mem_append_right _ (List.mem_append_right _ (List.mem_append_right _ (List.mem_append_right _ (List.mem_of_getElem? (l := tables_1_5) (i := 28) rfl))))), rfl⟩
set_option maxRecDepth 8000 in
theorem zw_989 : (Cond.code ({ cls := "LifeboatHouseModel", name := "covered", desc := "(I)I" } : MethodName) prog_12_method_47_code (2 : Nat) (Option.some FieldType.int)) ∈ gtbl := List.mem_filter.mpr ⟨List.mem_append_right _ (List.mem_append_right _ (List.mem_append_right _ (List.mem_append_right _ (List.mem_append_right _ (List.mem_of_getElem? (l := tables_1_5) (i := 29) rfl))))), rfl⟩
set_option maxRecDepth 8000 in
theorem zw_990 : (Cond.methodLink "LifeboatHouseModel" (204 : Nat) ({ cls := "LifeboatHouseModel", name := "standing", desc := "(I)I" } : MethodName)) ∈ gtbl := List.mem_filter.mpr ⟨List.mem_append_right _ (List.mem_append_right _ (List.mem_append_right _ (List.mem_append_right _ (List.mem_append_right _ (List.mem_of_getElem? (l := tables_1_5) (i := 30) rfl))))), rfl⟩
set_option maxRecDepth 8000 in
theorem zw_991 : (Cond.privateMethod ({ cls := "LifeboatHouseModel", name := "standing", desc := "(I)I" } : MethodName)) ∈ lw_tbl := List.mem_append_right _ (List.mem_append_right _ (List.mem_append_right _ (List.mem_append_right _ (List.mem_append_right _ (List.mem_of_getElem? (l := tables_1_5) (i := 31) rfl)))))
set_option maxRecDepth 8000 in
theorem zw_992 : (Cond.instanceMethod ({ cls := "LifeboatHouseModel", name := "standing", desc := "(I)I" } : MethodName)) ∈ gtbl := List.mem_filter.mpr ⟨List.mem_append_right _ (List.mem_append_right _ (List.mem_append_right _ (List.mem_append_right _ (List.mem_append_right _ (List.mem_of_getElem? (l := tables_1_5) (i := 32) rfl))))), rfl⟩
set_option maxRecDepth 8000 in
theorem zw_993 : (Cond.code ({ cls := "LifeboatHouseModel", name := "standing", desc := "(I)I" } : MethodName) prog_12_method_46_code (4 : Nat) (Option.some FieldType.int)) ∈ gtbl := List.mem_filter.mpr ⟨List.mem_append_right _ (List.mem_append_right _ (List.mem_append_right _ (List.mem_append_right _ (List.mem_append_right _ (List.mem_of_getElem? (l := tables_1_5) (i := 33) rfl))))), rfl⟩
set_option maxRecDepth 8000 in
theorem zw_994 : (Cond.methodLink "LifeboatHouseLaw" (105 : Nat) ({ cls := "LifeboatHouseModel", name := "flanks", desc := "(I)I" } : MethodName)) ∈ gtbl := List.mem_filter.mpr ⟨List.mem_append_right _ (List.mem_append_right _ (List.mem_append_right _ (List.mem_append_right _ (List.mem_append_right _ (List.mem_of_getElem? (l := tables_1_5) (i := 34) rfl))))), rfl⟩
set_option maxRecDepth 8000 in
theorem zw_995 : (Cond.instanceMethod ({ cls := "LifeboatHouseModel", name := "flanks", desc := "(I)I" } : MethodName)) ∈ gtbl := List.mem_filter.mpr ⟨List.mem_append_right _ (List.mem_append_right _ (List.mem_append_right _ (List.mem_append_right _ (List.mem_append_right _ (List.mem_of_getElem? (l := tables_1_5) (i := 35) rfl))))), rfl⟩
set_option maxRecDepth 8000 in
theorem zw_996 : (Cond.selects "LifeboatHouseModel" ({ cls := "LifeboatHouseModel", name := "flanks", desc := "(I)I" } : MethodName) ({ cls := "LifeboatHouseModel", name := "flanks", desc := "(I)I" } : MethodName)) ∈ gtbl := List.mem_filter.mpr ⟨List.mem_append_right _ (List.mem_append_right _ (List.mem_append_right _ (List.mem_append_right _ (List.mem_append_right _ (List.mem_of_getElem? (l := tables_1_5) (i := 36) rfl))))), rfl⟩
set_option maxRecDepth 8000 in
theorem zw_997 : (Cond.code ({ cls := "LifeboatHouseModel", name := "flanks", desc := "(I)I" } : MethodName) prog_12_method_49_code (2 : Nat) (Option.some FieldType.int)) ∈ gtbl := List.mem_filter.mpr ⟨List.mem_append_right _ (List.mem_append_right _ (List.mem_append_right _ (List.mem_append_right _ (List.mem_append_right _ (List.mem_of_getElem? (l := tables_1_5) (i := 37) rfl))))), rfl⟩
set_option maxRecDepth 8000 in
theorem zw_998 : (Cond.methodLink "LifeboatHouseModel" (213 : Nat) ({ cls := "LifeboatHouseModel", name := "helps", desc := "()V" } : MethodName)) ∈ gtbl := List.mem_filter.mpr ⟨List.mem_append_right _ (List.mem_append_right _ (List.mem_append_right _ (List.mem_append_right _ (List.mem_append_right _ (List.mem_of_getElem? (l := tables_1_5) (i := 38) rfl))))), rfl⟩
set_option maxRecDepth 8000 in
theorem zw_999 : (Cond.privateMethod ({ cls := "LifeboatHouseModel", name := "helps", desc := "()V" } : MethodName)) ∈ lw_tbl := List.mem_append_right _ (List.mem_append_right _ (List.mem_append_right _ (List.mem_append_right _ (List.mem_append_right _ (List.mem_of_getElem? (l := tables_1_5) (i := 39) rfl)))))
set_option maxRecDepth 8000 in
theorem zw_1000 : (Cond.instanceMethod ({ cls := "LifeboatHouseModel", name := "helps", desc := "()V" } : MethodName)) ∈ gtbl := List.mem_filter.mpr ⟨List.mem_append_right _ (List.mem_append_right _ (List.mem_append_right _ (List.mem_append_right _ (List.mem_append_right _ (List.mem_of_getElem? (l := tables_1_5) (i := 40) rfl))))), rfl⟩
set_option maxRecDepth 8000 in
theorem zw_1001 : (Cond.code ({ cls := "LifeboatHouseModel", name := "helps", desc := "()V" } : MethodName) prog_12_method_48_code (11 : Nat) (Option.none : Option FieldType)) ∈ gtbl := List.mem_filter.mpr ⟨List.mem_append_right _ (List.mem_append_right _ (List.mem_append_right _ (List.mem_append_right _ (List.mem_append_right _ (List.mem_of_getElem? (l := tables_1_5) (i := 41) rfl))))), rfl⟩
set_option maxRecDepth 8000 in
theorem zw_1002 : (Cond.methodLink "LifeboatHouseLaw" (109 : Nat) ({ cls := "LifeboatHouseModel", name := "flank", desc := "(I)I" } : MethodName)) ∈ gtbl := List.mem_filter.mpr ⟨List.mem_append_right _ (List.mem_append_right _ (List.mem_append_right _ (List.mem_append_right _ (List.mem_append_right _ (List.mem_of_getElem? (l := tables_1_5) (i := 42) rfl))))), rfl⟩
set_option maxRecDepth 8000 in
theorem zw_1003 : (Cond.instanceMethod ({ cls := "LifeboatHouseModel", name := "flank", desc := "(I)I" } : MethodName)) ∈ gtbl := List.mem_filter.mpr ⟨List.mem_append_right _ (List.mem_append_right _ (List.mem_append_right _ (List.mem_append_right _ (List.mem_append_right _ (List.mem_of_getElem? (l := tables_1_5) (i := 43) rfl))))), rfl⟩
set_option maxRecDepth 8000 in
theorem zw_1004 : (Cond.selects "LifeboatHouseModel" ({ cls := "LifeboatHouseModel", name := "flank", desc := "(I)I" } : MethodName) ({ cls := "LifeboatHouseModel", name := "flank", desc := "(I)I" } : MethodName)) ∈ gtbl := List.mem_filter.mpr ⟨List.mem_append_right _ (List.mem_append_right _ (List.mem_append_right _ (List.mem_append_right _ (List.mem_append_right _ (List.mem_of_getElem? (l := tables_1_5) (i := 44) rfl))))), rfl⟩
set_option maxRecDepth 8000 in
theorem zw_1005 : (Cond.code ({ cls := "LifeboatHouseModel", name := "flank", desc := "(I)I" } : MethodName) prog_12_method_50_code (2 : Nat) (Option.some FieldType.int)) ∈ gtbl := List.mem_filter.mpr ⟨List.mem_append_right _ (List.mem_append_right _ (List.mem_append_right _ (List.mem_append_right _ (List.mem_append_right _ (List.mem_of_getElem? (l := tables_1_5) (i := 45) rfl))))), rfl⟩
set_option maxRecDepth 8000 in
theorem zw_1006 : (Cond.methodLink "LifeboatHouseLaw" (113 : Nat) ({ cls := "LifeboatHouseModel", name := "box", desc := "(II)I" } : MethodName)) ∈ gtbl := List.mem_filter.mpr ⟨List.mem_append_right _ (List.mem_append_right _ (List.mem_append_right _ (List.mem_append_right _ (List.mem_append_right _ (List.mem_of_getElem? (l := tables_1_5) (i := 46) rfl))))), rfl⟩
set_option maxRecDepth 8000 in
theorem zw_1007 : (Cond.instanceMethod ({ cls := "LifeboatHouseModel", name := "box", desc := "(II)I" } : MethodName)) ∈ gtbl := List.mem_filter.mpr ⟨List.mem_append_right _ (List.mem_append_right _ (List.mem_append_right _ (List.mem_append_right _ (List.mem_append_right _ (List.mem_of_getElem? (l := tables_1_5) (i := 47) rfl))))), rfl⟩
set_option maxRecDepth 8000 in
theorem zw_1008 : (Cond.selects "LifeboatHouseModel" ({ cls := "LifeboatHouseModel", name := "box", desc := "(II)I" } : MethodName) ({ cls := "LifeboatHouseModel", name := "box", desc := "(II)I" } : MethodName)) ∈ gtbl := List.mem_filter.mpr ⟨List.mem_append_right _ (List.mem_append_right _ (List.mem_append_right _ (List.mem_append_right _ (List.mem_append_right _ (List.mem_of_getElem? (l := tables_1_5) (i := 48) rfl))))), rfl⟩
set_option maxRecDepth 8000 in
theorem zw_1009 : (Cond.code ({ cls := "LifeboatHouseModel", name := "box", desc := "(II)I" } : MethodName) prog_12_method_52_code (4 : Nat) (Option.some FieldType.int)) ∈ gtbl := List.mem_filter.mpr ⟨List.mem_append_right _ (List.mem_append_right _ (List.mem_append_right _ (List.mem_append_right _ (List.mem_append_right _ (List.mem_of_getElem? (l := tables_1_5) (i := 49) rfl))))), rfl⟩
set_option maxRecDepth 8000 in
theorem zw_1010 : (Cond.methodLink "LifeboatHouseModel" (216 : Nat) ({ cls := "LifeboatHouseModel", name := "isBox", desc := "(I)Z" } : MethodName)) ∈ gtbl := List.mem_filter.mpr ⟨List.mem_append_right _ (List.mem_append_right _ (List.mem_append_right _ (List.mem_append_right _ (List.mem_append_right _ (List.mem_of_getElem? (l := tables_1_5) (i := 50) rfl))))), rfl⟩
set_option maxRecDepth 8000 in
theorem zw_1011 : (Cond.static ({ cls := "LifeboatHouseModel", name := "isBox", desc := "(I)Z" } : MethodName)) ∈ gtbl := List.mem_filter.mpr ⟨List.mem_append_right _ (List.mem_append_right _ (List.mem_append_right _ (List.mem_append_right _ (List.mem_append_right _ (List.mem_of_getElem? (l := tables_1_5) (i := 51) rfl))))), rfl⟩
set_option maxRecDepth 8000 in
theorem zw_1012 : (Cond.code ({ cls := "LifeboatHouseModel", name := "isBox", desc := "(I)Z" } : MethodName) prog_12_method_51_code (1 : Nat) (Option.some FieldType.boolean)) ∈ gtbl := List.mem_filter.mpr ⟨List.mem_append_right _ (List.mem_append_right _ (List.mem_append_right _ (List.mem_append_right _ (List.mem_append_right _ (List.mem_of_getElem? (l := tables_1_5) (i := 52) rfl))))), rfl⟩
set_option maxRecDepth 8000 in
theorem zw_1013 : (Cond.methodLink "LifeboatHouseLaw" (117 : Nat) ({ cls := "LifeboatHouseModel", name := "look", desc := "(II)I" } : MethodName)) ∈ gtbl := List.mem_filter.mpr ⟨List.mem_append_right _ (List.mem_append_right _ (List.mem_append_right _ (List.mem_append_right _ (List.mem_append_right _ (List.mem_of_getElem? (l := tables_1_5) (i := 53) rfl))))), rfl⟩
set_option maxRecDepth 8000 in
theorem zw_1014 : (Cond.instanceMethod ({ cls := "LifeboatHouseModel", name := "look", desc := "(II)I" } : MethodName)) ∈ gtbl := List.mem_filter.mpr ⟨List.mem_append_right _ (List.mem_append_right _ (List.mem_append_right _ (List.mem_append_right _ (List.mem_append_right _ (List.mem_of_getElem? (l := tables_1_5) (i := 54) rfl))))), rfl⟩
set_option maxRecDepth 8000 in
theorem zw_1015 : (Cond.selects "LifeboatHouseModel" ({ cls := "LifeboatHouseModel", name := "look", desc := "(II)I" } : MethodName) ({ cls := "LifeboatHouseModel", name := "look", desc := "(II)I" } : MethodName)) ∈ gtbl := List.mem_filter.mpr ⟨List.mem_append_right _ (List.mem_append_right _ (List.mem_append_right _ (List.mem_append_right _ (List.mem_append_right _ (List.mem_of_getElem? (l := tables_1_5) (i := 55) rfl))))), rfl⟩
set_option maxRecDepth 8000 in
theorem zw_1016 : (Cond.code ({ cls := "LifeboatHouseModel", name := "look", desc := "(II)I" } : MethodName) prog_12_method_53_code (3 : Nat) (Option.some FieldType.int)) ∈ gtbl := List.mem_filter.mpr ⟨List.mem_append_right _ (List.mem_append_right _ (List.mem_append_right _ (List.mem_append_right _ (List.mem_append_right _ (List.mem_of_getElem? (l := tables_1_5) (i := 56) rfl))))), rfl⟩
set_option maxRecDepth 8000 in
theorem zw_1017 : (Cond.methodLink "LifeboatHouseLaw" (121 : Nat) ({ cls := "LifeboatHouseModel", name := "looks", desc := "(II)I" } : MethodName)) ∈ gtbl := List.mem_filter.mpr ⟨List.mem_append_right _ (List.mem_append_right _ (List.mem_append_right _ (List.mem_append_right _ (List.mem_append_right _ (List.mem_of_getElem? (l := tables_1_5) (i := 57) rfl))))), rfl⟩
set_option maxRecDepth 8000 in
theorem zw_1018 : (Cond.instanceMethod ({ cls := "LifeboatHouseModel", name := "looks", desc := "(II)I" } : MethodName)) ∈ gtbl := List.mem_filter.mpr ⟨List.mem_append_right _ (List.mem_append_right _ (List.mem_append_right _ (List.mem_append_right _ (List.mem_append_right _ (List.mem_of_getElem? (l := tables_1_5) (i := 58) rfl))))), rfl⟩
set_option maxRecDepth 8000 in
theorem zw_1019 : (Cond.selects "LifeboatHouseModel" ({ cls := "LifeboatHouseModel", name := "looks", desc := "(II)I" } : MethodName) ({ cls := "LifeboatHouseModel", name := "looks", desc := "(II)I" } : MethodName)) ∈ gtbl := List.mem_filter.mpr ⟨List.mem_append_right _ (List.mem_append_right _ (List.mem_append_right _ (List.mem_append_right _ (List.mem_append_right _ (List.mem_of_getElem? (l := tables_1_5) (i := 59) rfl))))), rfl⟩
set_option maxRecDepth 8000 in
theorem zw_1020 : (Cond.code ({ cls := "LifeboatHouseModel", name := "looks", desc := "(II)I" } : MethodName) prog_12_method_55_code (3 : Nat) (Option.some FieldType.int)) ∈ gtbl := List.mem_filter.mpr ⟨List.mem_append_right _ (List.mem_append_right _ (List.mem_append_right _ (List.mem_append_right _ (List.mem_append_right _ (List.mem_of_getElem? (l := tables_1_5) (i := 60) rfl))))), rfl⟩
set_option maxRecDepth 8000 in
theorem zw_1021 : (Cond.methodLink "LifeboatHouseModel" (219 : Nat) ({ cls := "LifeboatHouseModel", name := "tries", desc := "(II)I" } : MethodName)) ∈ gtbl := List.mem_filter.mpr ⟨List.mem_append_right _ (List.mem_append_right _ (List.mem_append_right _ (List.mem_append_right _ (List.mem_append_right _ (List.mem_of_getElem? (l := tables_1_5) (i := 61) rfl))))), rfl⟩
set_option maxRecDepth 8000 in
theorem zw_1022 : (Cond.privateMethod ({ cls := "LifeboatHouseModel", name := "tries", desc := "(II)I" } : MethodName)) ∈ lw_tbl := List.mem_append_right _ (List.mem_append_right _ (List.mem_append_right _ (List.mem_append_right _ (List.mem_append_right _ (List.mem_of_getElem? (l := tables_1_5) (i := 62) rfl)))))
set_option maxRecDepth 8000 in
theorem zw_1023 : (Cond.instanceMethod ({ cls := "LifeboatHouseModel", name := "tries", desc := "(II)I" } : MethodName)) ∈ gtbl := List.mem_filter.mpr ⟨List.mem_append_right _ (List.mem_append_right _ (List.mem_append_right _ (List.mem_append_right _ (List.mem_append_right _ (List.mem_of_getElem? (l := tables_1_5) (i := 63) rfl))))), rfl⟩
set_option maxRecDepth 8000 in
theorem zw_1024 : (Cond.code ({ cls := "LifeboatHouseModel", name := "tries", desc := "(II)I" } : MethodName) prog_12_method_54_code (7 : Nat) (Option.some FieldType.int)) ∈ gtbl := List.mem_filter.mpr ⟨List.mem_append_right _ (List.mem_append_right _ (List.mem_append_right _ (List.mem_append_right _ (List.mem_append_right _ (List.mem_of_getElem? (l := tables_1_5) (i := 64) rfl))))), rfl⟩
set_option maxRecDepth 8000 in
theorem zw_1025 : (Cond.methodLink "LifeboatHouseLaw" (125 : Nat) ({ cls := "LifeboatHouseModel", name := "lookAt", desc := "(III)I" } : MethodName)) ∈ gtbl := List.mem_filter.mpr ⟨List.mem_append_right _ (List.mem_append_right _ (List.mem_append_right _ (List.mem_append_right _ (List.mem_append_right _ (List.mem_of_getElem? (l := tables_1_5) (i := 65) rfl))))), rfl⟩
set_option maxRecDepth 8000 in
theorem zw_1026 : (Cond.instanceMethod ({ cls := "LifeboatHouseModel", name := "lookAt", desc := "(III)I" } : MethodName)) ∈ gtbl := List.mem_filter.mpr ⟨List.mem_append_right _ (List.mem_append_right _ (List.mem_append_right _ (List.mem_append_right _ (List.mem_append_right _ (List.mem_of_getElem? (l := tables_1_5) (i := 66) rfl))))), rfl⟩
set_option maxRecDepth 8000 in
theorem zw_1027 : (Cond.selects "LifeboatHouseModel" ({ cls := "LifeboatHouseModel", name := "lookAt", desc := "(III)I" } : MethodName) ({ cls := "LifeboatHouseModel", name := "lookAt", desc := "(III)I" } : MethodName)) ∈ gtbl := List.mem_filter.mpr ⟨List.mem_append_right _ (List.mem_append_right _ (List.mem_append_right _ (List.mem_append_right _ (List.mem_append_right _ (List.mem_of_getElem? (l := tables_1_5) (i := 67) rfl))))), rfl⟩
set_option maxRecDepth 8000 in
theorem zw_1028 : (Cond.code ({ cls := "LifeboatHouseModel", name := "lookAt", desc := "(III)I" } : MethodName) prog_12_method_56_code (4 : Nat) (Option.some FieldType.int)) ∈ gtbl := List.mem_filter.mpr ⟨List.mem_append_right _ (List.mem_append_right _ (List.mem_append_right _ (List.mem_append_right _ (List.mem_append_right _ (List.mem_of_getElem? (l := tables_1_5) (i := 68) rfl))))), rfl⟩
set_option maxRecDepth 8000 in
theorem zw_1029 : (Cond.methodLink "LifeboatHouseLaw" (129 : Nat) ({ cls := "LifeboatHouseModel", name := "rest", desc := "(II)I" } : MethodName)) ∈ gtbl := List.mem_filter.mpr ⟨List.mem_append_right _ (List.mem_append_right _ (List.mem_append_right _ (List.mem_append_right _ (List.mem_append_right _ (List.mem_of_getElem? (l := tables_1_5) (i := 69) rfl))))), rfl⟩
set_option maxRecDepth 8000 in
theorem zw_1030 : (Cond.instanceMethod ({ cls := "LifeboatHouseModel", name := "rest", desc := "(II)I" } : MethodName)) ∈ gtbl := List.mem_filter.mpr ⟨List.mem_append_right _ (List.mem_append_right _ (List.mem_append_right _ (List.mem_append_right _ (List.mem_append_right _ (List.mem_of_getElem? (l := tables_1_5) (i := 70) rfl))))), rfl⟩
set_option maxRecDepth 8000 in
theorem zw_1031 : (Cond.selects "LifeboatHouseModel" ({ cls := "LifeboatHouseModel", name := "rest", desc := "(II)I" } : MethodName) ({ cls := "LifeboatHouseModel", name := "rest", desc := "(II)I" } : MethodName)) ∈ gtbl := List.mem_filter.mpr ⟨List.mem_append_right _ (List.mem_append_right _ (List.mem_append_right _ (List.mem_append_right _ (List.mem_append_right _ (List.mem_of_getElem? (l := tables_1_5) (i := 71) rfl))))), rfl⟩
set_option maxRecDepth 8000 in
theorem zw_1032 : (Cond.code ({ cls := "LifeboatHouseModel", name := "rest", desc := "(II)I" } : MethodName) prog_12_method_57_code (4 : Nat) (Option.some FieldType.int)) ∈ gtbl := List.mem_filter.mpr ⟨List.mem_append_right _ (List.mem_append_right _ (List.mem_append_right _ (List.mem_append_right _ (List.mem_append_right _ (List.mem_of_getElem? (l := tables_1_5) (i := 72) rfl))))), rfl⟩
set_option maxRecDepth 8000 in
theorem zw_1033 : (Cond.methodLink "LifeboatHouseLaw" (133 : Nat) ({ cls := "LifeboatHouseModel", name := "turn", desc := "(II)I" } : MethodName)) ∈ gtbl := List.mem_filter.mpr ⟨List.mem_append_right _ (List.mem_append_right _ (List.mem_append_right _ (List.mem_append_right _ (List.mem_append_right _ (List.mem_of_getElem? (l := tables_1_5) (i := 73) rfl))))), rfl⟩
set_option maxRecDepth 8000 in
theorem zw_1034 : (Cond.instanceMethod ({ cls := "LifeboatHouseModel", name := "turn", desc := "(II)I" } : MethodName)) ∈ gtbl := List.mem_filter.mpr ⟨List.mem_append_right _ (List.mem_append_right _ (List.mem_append_right _ (List.mem_append_right _ (List.mem_append_right _ (List.mem_of_getElem? (l := tables_1_5) (i := 74) rfl))))), rfl⟩
set_option maxRecDepth 8000 in
theorem zw_1035 : (Cond.selects "LifeboatHouseModel" ({ cls := "LifeboatHouseModel", name := "turn", desc := "(II)I" } : MethodName) ({ cls := "LifeboatHouseModel", name := "turn", desc := "(II)I" } : MethodName)) ∈ gtbl := List.mem_filter.mpr ⟨List.mem_append_right _ (List.mem_append_right _ (List.mem_append_right _ (List.mem_append_right _ (List.mem_append_right _ (List.mem_of_getElem? (l := tables_1_5) (i := 75) rfl))))), rfl⟩
set_option maxRecDepth 8000 in
theorem zw_1036 : (Cond.code ({ cls := "LifeboatHouseModel", name := "turn", desc := "(II)I" } : MethodName) prog_12_method_58_code (6 : Nat) (Option.some FieldType.int)) ∈ gtbl := List.mem_filter.mpr ⟨List.mem_append_right _ (List.mem_append_right _ (List.mem_append_right _ (List.mem_append_right _ (List.mem_append_right _ (List.mem_of_getElem? (l := tables_1_5) (i := 76) rfl))))), rfl⟩
set_option maxRecDepth 8000 in
theorem zw_1037 : (Cond.methodLink "LifeboatHouseLaw" (137 : Nat) ({ cls := "LifeboatHouseModel", name := "personOf", desc := "(II)I" } : MethodName)) ∈ gtbl := List.mem_filter.mpr ⟨List.mem_append_right _ (List.mem_append_right _ (List.mem_append_right _ (List.mem_append_right _ (List.mem_append_right _ (List.mem_of_getElem? (l := tables_1_5) (i := 77) rfl))))), rfl⟩
set_option maxRecDepth 8000 in
theorem zw_1038 : (Cond.instanceMethod ({ cls := "LifeboatHouseModel", name := "personOf", desc := "(II)I" } : MethodName)) ∈ gtbl := List.mem_filter.mpr ⟨List.mem_append_right _ (List.mem_append_right _ (List.mem_append_right _ (List.mem_append_right _ (List.mem_append_right _ (List.mem_of_getElem? (l := tables_1_5) (i := 78) rfl))))), rfl⟩
set_option maxRecDepth 8000 in
theorem zw_1039 : (Cond.selects "LifeboatHouseModel" ({ cls := "LifeboatHouseModel", name := "personOf", desc := "(II)I" } : MethodName) ({ cls := "LifeboatHouseModel", name := "personOf", desc := "(II)I" } : MethodName)) ∈ gtbl := List.mem_filter.mpr ⟨List.mem_append_right _ (List.mem_append_right _ (List.mem_append_right _ (List.mem_append_right _ (List.mem_append_right _ (List.mem_of_getElem? (l := tables_1_5) (i := 79) rfl))))), rfl⟩
set_option maxRecDepth 8000 in
theorem zw_1040 : (Cond.code ({ cls := "LifeboatHouseModel", name := "personOf", desc := "(II)I" } : MethodName) prog_12_method_59_code (3 : Nat) (Option.some FieldType.int)) ∈ gtbl := List.mem_filter.mpr ⟨List.mem_append_right _ (List.mem_append_right _ (List.mem_append_right _ (List.mem_append_right _ (List.mem_append_right _ (List.mem_of_getElem? (l := tables_1_5) (i := 80) rfl))))), rfl⟩
set_option maxRecDepth 8000 in
theorem zw_1041 : (Cond.methodLink "LifeboatHouseLaw" (141 : Nat) ({ cls := "LifeboatHouseModel", name := "count", desc := "(I)I" } : MethodName)) ∈ gtbl := List.mem_filter.mpr ⟨List.mem_append_right _ (List.mem_append_right _ (List.mem_append_right _ (List.mem_append_right _ (List.mem_append_right _ (List.mem_of_getElem? (l := tables_1_5) (i := 81) rfl))))), rfl⟩
set_option maxRecDepth 8000 in
theorem zw_1042 : (Cond.instanceMethod ({ cls := "LifeboatHouseModel", name := "count", desc := "(I)I" } : MethodName)) ∈ gtbl := List.mem_filter.mpr ⟨List.mem_append_right _ (List.mem_append_right _ (List.mem_append_right _ (List.mem_append_right _ (List.mem_append_right _ (List.mem_of_getElem? (l := tables_1_5) (i := 82) rfl))))), rfl⟩
set_option maxRecDepth 8000 in
theorem zw_1043 : (Cond.selects "LifeboatHouseModel" ({ cls := "LifeboatHouseModel", name := "count", desc := "(I)I" } : MethodName) ({ cls := "LifeboatHouseModel", name := "count", desc := "(I)I" } : MethodName)) ∈ gtbl := List.mem_filter.mpr ⟨List.mem_append_right _ (List.mem_append_right _ (List.mem_append_right _ (List.mem_append_right _ (List.mem_append_right _ (List.mem_of_getElem? (l := tables_1_5) (i := 83) rfl))))), rfl⟩
set_option maxRecDepth 8000 in
theorem zw_1044 : (Cond.code ({ cls := "LifeboatHouseModel", name := "count", desc := "(I)I" } : MethodName) prog_12_method_60_code (4 : Nat) (Option.some FieldType.int)) ∈ gtbl := List.mem_filter.mpr ⟨List.mem_append_right _ (List.mem_append_right _ (List.mem_append_right _ (List.mem_append_right _ (List.mem_append_right _ (List.mem_of_getElem? (l := tables_1_5) (i := 84) rfl))))), rfl⟩
set_option maxRecDepth 8000 in
theorem zw_1045 : (Cond.castable "LifeboatHouse" "java/lang/Object") ∈ ntbl := List.mem_filter.mpr ⟨List.mem_append_right _ (List.mem_append_right _ (List.mem_append_right _ (List.mem_append_right _ (List.mem_append_right _ (List.mem_of_getElem? (l := tables_1_5) (i := 85) rfl))))), rfl⟩
set_option maxRecDepth 8000 in
theorem zw_1046 : (Cond.castable "java/util/ArrayList" "java/lang/Object") ∈ ntbl := List.mem_filter.mpr ⟨List.mem_append_right _ (List.mem_append_right _ (List.mem_append_right _ (List.mem_append_right _ (List.mem_append_right _ (List.mem_of_getElem? (l := tables_1_5) (i := 86) rfl))))), rfl⟩
set_option maxRecDepth 8000 in
theorem zw_1047 : (Cond.castable "LifeboatHouse$Tides" "java/lang/Object") ∈ ntbl := List.mem_filter.mpr ⟨List.mem_append_right _ (List.mem_append_right _ (List.mem_append_right _ (List.mem_append_right _ (List.mem_append_right _ (List.mem_of_getElem? (l := tables_1_5) (i := 87) rfl))))), rfl⟩
set_option maxRecDepth 8000 in
theorem zw_1048 : (Cond.castable "LifeboatHouse$CrewRows" "java/lang/Object") ∈ ntbl := List.mem_filter.mpr ⟨List.mem_append_right _ (List.mem_append_right _ (List.mem_append_right _ (List.mem_append_right _ (List.mem_append_right _ (List.mem_of_getElem? (l := tables_1_5) (i := 88) rfl))))), rfl⟩
set_option maxRecDepth 8000 in
theorem zw_1049 : (Cond.castable "LifeboatHouse$Pair" "java/lang/Object") ∈ ntbl := List.mem_filter.mpr ⟨List.mem_append_right _ (List.mem_append_right _ (List.mem_append_right _ (List.mem_append_right _ (List.mem_append_right _ (List.mem_of_getElem? (l := tables_1_5) (i := 89) rfl))))), rfl⟩
set_option maxRecDepth 8000 in
theorem zw_1050 : (Cond.castable "LifeboatHouse$FlankPlan" "java/lang/Object") ∈ ntbl := List.mem_filter.mpr ⟨List.mem_append_right _ (List.mem_append_right _ (List.mem_append_right _ (List.mem_append_right _ (List.mem_append_right _ (List.mem_of_getElem? (l := tables_1_5) (i := 90) rfl))))), rfl⟩
set_option maxRecDepth 8000 in
theorem zw_1051 : (Cond.castable "LifeboatHouse$Search" "java/lang/Object") ∈ ntbl := List.mem_filter.mpr ⟨List.mem_append_right _ (List.mem_append_right _ (List.mem_append_right _ (List.mem_append_right _ (List.mem_append_right _ (List.mem_of_getElem? (l := tables_1_5) (i := 91) rfl))))), rfl⟩
set_option maxRecDepth 8000 in
theorem zw_1052 : (Cond.castable "LifeboatHouseModel" "java/lang/Object") ∈ ntbl := List.mem_filter.mpr ⟨List.mem_append_right _ (List.mem_append_right _ (List.mem_append_right _ (List.mem_append_right _ (List.mem_append_right _ (List.mem_of_getElem? (l := tables_1_5) (i := 92) rfl))))), rfl⟩
set_option maxRecDepth 8000 in
theorem zw_1053 : (Cond.castable "LifeboatHouse$Person" "java/lang/Object") ∈ ntbl := List.mem_filter.mpr ⟨List.mem_append_right _ (List.mem_append_right _ (List.mem_append_right _ (List.mem_append_right _ (List.mem_append_right _ (List.mem_of_getElem? (l := tables_1_5) (i := 93) rfl))))), rfl⟩
set_option maxRecDepth 8000 in
theorem zw_1054 : (Cond.castable "LifeboatHouse$Boat" "java/lang/Object") ∈ ntbl := List.mem_filter.mpr ⟨List.mem_append_right _ (List.mem_append_right _ (List.mem_append_right _ (List.mem_append_right _ (List.mem_append_right _ (List.mem_of_getElem? (l := tables_1_5) (i := 94) rfl))))), rfl⟩
set_option maxRecDepth 8000 in
theorem zw_1055 : (Cond.castable "LifeboatHouse$Call" "java/lang/Object") ∈ ntbl := List.mem_filter.mpr ⟨List.mem_append_right _ (List.mem_append_right _ (List.mem_append_right _ (List.mem_append_right _ (List.mem_append_right _ (List.mem_of_getElem? (l := tables_1_5) (i := 95) rfl))))), rfl⟩
set_option maxRecDepth 8000 in
theorem zw_1056 : (Cond.castable "LifeboatHouse$Launch" "java/lang/Object") ∈ ntbl := List.mem_filter.mpr ⟨List.mem_append_right _ (List.mem_append_right _ (List.mem_append_right _ (List.mem_append_right _ (List.mem_append_right _ (List.mem_of_getElem? (l := tables_1_5) (i := 96) rfl))))), rfl⟩
set_option maxRecDepth 8000 in
theorem zw_1057 : (Cond.sameMethod "[Ljava/lang/Object;" "java/lang/Object" "getClass" "()Ljava/lang/Class;") ∈ gtbl := List.mem_filter.mpr ⟨List.mem_append_right _ (List.mem_append_right _ (List.mem_append_right _ (List.mem_append_right _ (List.mem_append_right _ (List.mem_of_getElem? (l := tables_1_5) (i := 97) rfl))))), rfl⟩
set_option maxRecDepth 8000 in
theorem zw_1058 : (Cond.selects "[Ljava/lang/Object;" ({ cls := "java/lang/Object", name := "getClass", desc := "()Ljava/lang/Class;" } : MethodName) ({ cls := "java/lang/Object", name := "getClass", desc := "()Ljava/lang/Class;" } : MethodName)) ∈ gtbl := List.mem_filter.mpr ⟨List.mem_append_right _ (List.mem_append_right _ (List.mem_append_right _ (List.mem_append_right _ (List.mem_append_right _ (List.mem_of_getElem? (l := tables_1_5) (i := 98) rfl))))), rfl⟩
set_option maxRecDepth 8000 in
theorem zw_1059 : (Cond.declares ({ cls := "java/lang/Object", name := "getClass", desc := "()Ljava/lang/Class;" } : MethodName)) ∈ ntbl := List.mem_filter.mpr ⟨List.mem_append_right _ (List.mem_append_right _ (List.mem_append_right _ (List.mem_append_right _ (List.mem_append_right _ (List.mem_of_getElem? (l := tables_1_5) (i := 99) rfl))))), rfl⟩
set_option maxRecDepth 8000 in
theorem zw_1060 : (Cond.castable "[I" "java/lang/Object") ∈ ntbl := List.mem_filter.mpr ⟨List.mem_append_right _ (List.mem_append_right _ (List.mem_append_right _ (List.mem_append_right _ (List.mem_append_right _ (List.mem_of_getElem? (l := tables_1_5) (i := 100) rfl))))), rfl⟩
set_option maxRecDepth 8000 in
theorem zw_1061 : (Cond.castable "[Z" "java/lang/Object") ∈ ntbl := List.mem_filter.mpr ⟨List.mem_append_right _ (List.mem_append_right _ (List.mem_append_right _ (List.mem_append_right _ (List.mem_append_right _ (List.mem_of_getElem? (l := tables_1_5) (i := 101) rfl))))), rfl⟩
set_option maxRecDepth 8000 in
theorem zw_1062 : (Cond.castable "[Ljava/lang/Object;" "java/lang/Object") ∈ ntbl := List.mem_filter.mpr ⟨List.mem_append_right _ (List.mem_append_right _ (List.mem_append_right _ (List.mem_append_right _ (List.mem_append_right _ (List.mem_of_getElem? (l := tables_1_5) (i := 102) rfl))))), rfl⟩
theorem zi_B : ∀ w ∈ u_ws Cn_B Ft_B 4, w ∈ gtbl := List.forall_mem_cons.mpr ⟨zw_446, List.forall_mem_cons.mpr ⟨zw_448, List.forall_mem_cons.mpr ⟨zw_450, List.forall_mem_cons.mpr ⟨zw_452, fun _ h => absurd h List.not_mem_nil⟩⟩⟩⟩
theorem zi_C : ∀ w ∈ u_ws Cn_C Ft_C 3, w ∈ gtbl := List.forall_mem_cons.mpr ⟨zw_490, List.forall_mem_cons.mpr ⟨zw_492, List.forall_mem_cons.mpr ⟨zw_494, fun _ h => absurd h List.not_mem_nil⟩⟩⟩
theorem zi_R : ∀ w ∈ u_ws Cn_R Ft_R 2, w ∈ gtbl := List.forall_mem_cons.mpr ⟨zw_80, List.forall_mem_cons.mpr ⟨zw_82, fun _ h => absurd h List.not_mem_nil⟩⟩
theorem zi_F : ∀ w ∈ u_ws Cn_F Ft_F 7, w ∈ gtbl := List.forall_mem_cons.mpr ⟨zw_123, List.forall_mem_cons.mpr ⟨zw_125, List.forall_mem_cons.mpr ⟨zw_127, List.forall_mem_cons.mpr ⟨zw_129, List.forall_mem_cons.mpr ⟨zw_131, List.forall_mem_cons.mpr ⟨zw_133, List.forall_mem_cons.mpr ⟨zw_135, fun _ h => absurd h List.not_mem_nil⟩⟩⟩⟩⟩⟩⟩
theorem zi_U : ∀ w ∈ u_ws Cn_U Ft_U 5, w ∈ gtbl := List.forall_mem_cons.mpr ⟨zw_564, List.forall_mem_cons.mpr ⟨zw_566, List.forall_mem_cons.mpr ⟨zw_568, List.forall_mem_cons.mpr ⟨zw_570, List.forall_mem_cons.mpr ⟨zw_572, fun _ h => absurd h List.not_mem_nil⟩⟩⟩⟩⟩
theorem zi_P : ∀ w ∈ u_ws Cn_P Ft_P 4, w ∈ gtbl := List.forall_mem_cons.mpr ⟨zw_98, List.forall_mem_cons.mpr ⟨zw_100, List.forall_mem_cons.mpr ⟨zw_102, List.forall_mem_cons.mpr ⟨zw_104, fun _ h => absurd h List.not_mem_nil⟩⟩⟩⟩
theorem zi_Q : ∀ w ∈ u_ws Cn_Q Ft_Q 6, w ∈ gtbl := List.forall_mem_cons.mpr ⟨zw_247, List.forall_mem_cons.mpr ⟨zw_249, List.forall_mem_cons.mpr ⟨zw_251, List.forall_mem_cons.mpr ⟨zw_253, List.forall_mem_cons.mpr ⟨zw_255, List.forall_mem_cons.mpr ⟨zw_257, fun _ h => absurd h List.not_mem_nil⟩⟩⟩⟩⟩⟩
theorem zi_S : ∀ w ∈ u_ws Cn_S Ft_S 4, w ∈ gtbl := List.forall_mem_cons.mpr ⟨zw_152, List.forall_mem_cons.mpr ⟨zw_154, List.forall_mem_cons.mpr ⟨zw_156, List.forall_mem_cons.mpr ⟨zw_158, fun _ h => absurd h List.not_mem_nil⟩⟩⟩⟩
theorem zi_T : ∀ w ∈ u_ws Cn_T Ft_T 2, w ∈ gtbl := List.forall_mem_cons.mpr ⟨zw_67, List.forall_mem_cons.mpr ⟨zw_69, fun _ h => absurd h List.not_mem_nil⟩⟩
theorem zi_H : ∀ w ∈ u_ws Cn_H Ft_H 15, w ∈ gtbl := List.forall_mem_cons.mpr ⟨zw_176, List.forall_mem_cons.mpr ⟨zw_178, List.forall_mem_cons.mpr ⟨zw_180, List.forall_mem_cons.mpr ⟨zw_182, List.forall_mem_cons.mpr ⟨zw_184, List.forall_mem_cons.mpr ⟨zw_186, List.forall_mem_cons.mpr ⟨zw_188, List.forall_mem_cons.mpr ⟨zw_190, List.forall_mem_cons.mpr ⟨zw_192, List.forall_mem_cons.mpr ⟨zw_194, List.forall_mem_cons.mpr ⟨zw_196, List.forall_mem_cons.mpr ⟨zw_198, List.forall_mem_cons.mpr ⟨zw_200, List.forall_mem_cons.mpr ⟨zw_202, List.forall_mem_cons.mpr ⟨zw_204, fun _ h => absurd h List.not_mem_nil⟩⟩⟩⟩⟩⟩⟩⟩⟩⟩⟩⟩⟩⟩⟩
theorem zi_M : ∀ w ∈ u_ws Cn_M Ft_M 40, w ∈ gtbl := List.forall_mem_cons.mpr ⟨zw_733, List.forall_mem_cons.mpr ⟨zw_735, List.forall_mem_cons.mpr ⟨zw_737, List.forall_mem_cons.mpr ⟨zw_739, List.forall_mem_cons.mpr ⟨zw_741, List.forall_mem_cons.mpr ⟨zw_743, List.forall_mem_cons.mpr ⟨zw_745, List.forall_mem_cons.mpr ⟨zw_747, List.forall_mem_cons.mpr ⟨zw_749, List.forall_mem_cons.mpr ⟨zw_751, List.forall_mem_cons.mpr ⟨zw_753, List.forall_mem_cons.mpr ⟨zw_755, List.forall_mem_cons.mpr ⟨zw_757, List.forall_mem_cons.mpr ⟨zw_759, List.forall_mem_cons.mpr ⟨zw_761, List.forall_mem_cons.mpr ⟨zw_763, List.forall_mem_cons.mpr ⟨zw_765, List.forall_mem_cons.mpr ⟨zw_767, List.forall_mem_cons.mpr ⟨zw_769, List.forall_mem_cons.mpr ⟨zw_771, List.forall_mem_cons.mpr ⟨zw_773, List.forall_mem_cons.mpr ⟨zw_775, List.forall_mem_cons.mpr ⟨zw_777, List.forall_mem_cons.mpr ⟨zw_779, List.forall_mem_cons.mpr ⟨zw_781, List.forall_mem_cons.mpr ⟨zw_783, List.forall_mem_cons.mpr ⟨zw_785, List.forall_mem_cons.mpr ⟨zw_787, List.forall_mem_cons.mpr ⟨zw_789, List.forall_mem_cons.mpr ⟨zw_791, List.forall_mem_cons.mpr ⟨zw_793, List.forall_mem_cons.mpr ⟨zw_795, List.forall_mem_cons.mpr ⟨zw_797, List.forall_mem_cons.mpr ⟨zw_799, List.forall_mem_cons.mpr ⟨zw_801, List.forall_mem_cons.mpr ⟨zw_803, List.forall_mem_cons.mpr ⟨zw_805, List.forall_mem_cons.mpr ⟨zw_807, List.forall_mem_cons.mpr ⟨zw_809, List.forall_mem_cons.mpr ⟨zw_811, fun _ h => absurd h List.not_mem_nil⟩⟩⟩⟩⟩⟩⟩⟩⟩⟩⟩⟩⟩⟩⟩⟩⟩⟩⟩⟩⟩⟩⟩⟩⟩⟩⟩⟩⟩⟩⟩⟩⟩⟩⟩⟩⟩⟩⟩⟩
theorem zi_AL : ∀ w ∈ u_ws Cn_AL Ft_AL 3, w ∈ gtbl := List.forall_mem_cons.mpr ⟨zw_52, List.forall_mem_cons.mpr ⟨zw_48, List.forall_mem_cons.mpr ⟨zw_50, fun _ h => absurd h List.not_mem_nil⟩⟩⟩
theorem zs_0 : Cond.selects "LifeboatHouse" ⟨"LifeboatHouse", "refuse", "(I)I"⟩ ⟨"LifeboatHouse", "refuse", "(I)I"⟩ ∈ gtbl := List.mem_filter.mpr ⟨List.mem_append_left _ (List.mem_of_getElem? (i := 0) rfl), rfl⟩
theorem zs_1 : Cond.selects "java/util/ArrayList" ⟨"java/util/ArrayList", "add", "(Ljava/lang/Object;[Ljava/lang/Object;I)V"⟩ ⟨"java/util/ArrayList", "add", "(Ljava/lang/Object;[Ljava/lang/Object;I)V"⟩ ∈ gtbl := List.mem_filter.mpr ⟨List.mem_append_left _ (List.mem_of_getElem? (i := 1) rfl), rfl⟩
theorem zs_2 : Cond.selects "java/util/ArrayList" ⟨"java/util/ArrayList", "grow", "()[Ljava/lang/Object;"⟩ ⟨"java/util/ArrayList", "grow", "()[Ljava/lang/Object;"⟩ ∈ gtbl := List.mem_filter.mpr ⟨List.mem_append_left _ (List.mem_of_getElem? (i := 2) rfl), rfl⟩
theorem zs_3 : Cond.selects "java/util/ArrayList" ⟨"java/util/ArrayList", "grow", "(I)[Ljava/lang/Object;"⟩ ⟨"java/util/ArrayList", "grow", "(I)[Ljava/lang/Object;"⟩ ∈ gtbl := List.mem_filter.mpr ⟨List.mem_append_left _ (List.mem_of_getElem? (i := 3) rfl), rfl⟩
theorem zs_4 : Cond.selects "LifeboatHouse" ⟨"LifeboatHouse", "personAt", "(I)LLifeboatHouse$Person;"⟩ ⟨"LifeboatHouse", "personAt", "(I)LLifeboatHouse$Person;"⟩ ∈ gtbl := List.mem_filter.mpr ⟨List.mem_append_left _ (List.mem_of_getElem? (i := 4) rfl), rfl⟩
theorem zs_5 : Cond.selects "LifeboatHouse" ⟨"LifeboatHouse", "bandNow", "()I"⟩ ⟨"LifeboatHouse", "bandNow", "()I"⟩ ∈ gtbl := List.mem_filter.mpr ⟨List.mem_append_left _ (List.mem_of_getElem? (i := 5) rfl), rfl⟩
theorem zs_6 : Cond.selects "LifeboatHouse" ⟨"LifeboatHouse", "crewChance", "(II)I"⟩ ⟨"LifeboatHouse", "crewChance", "(II)I"⟩ ∈ gtbl := List.mem_filter.mpr ⟨List.mem_append_left _ (List.mem_of_getElem? (i := 6) rfl), rfl⟩
theorem zs_7 : Cond.selects "LifeboatHouse" ⟨"LifeboatHouse", "isOpen", "(II)Z"⟩ ⟨"LifeboatHouse", "isOpen", "(II)Z"⟩ ∈ gtbl := List.mem_filter.mpr ⟨List.mem_append_left _ (List.mem_of_getElem? (i := 7) rfl), rfl⟩
theorem zs_8 : Cond.selects "LifeboatHouse" ⟨"LifeboatHouse", "boatAt", "(I)LLifeboatHouse$Boat;"⟩ ⟨"LifeboatHouse", "boatAt", "(I)LLifeboatHouse$Boat;"⟩ ∈ gtbl := List.mem_filter.mpr ⟨List.mem_append_left _ (List.mem_of_getElem? (i := 8) rfl), rfl⟩
theorem zs_9 : Cond.selects "LifeboatHouse" ⟨"LifeboatHouse", "callAt", "(I)LLifeboatHouse$Call;"⟩ ⟨"LifeboatHouse", "callAt", "(I)LLifeboatHouse$Call;"⟩ ∈ gtbl := List.mem_filter.mpr ⟨List.mem_append_left _ (List.mem_of_getElem? (i := 9) rfl), rfl⟩
theorem zs_10 : Cond.selects "LifeboatHouse" ⟨"LifeboatHouse", "canGo", "(LLifeboatHouse$Boat;LLifeboatHouse$Call;)Z"⟩ ⟨"LifeboatHouse", "canGo", "(LLifeboatHouse$Boat;LLifeboatHouse$Call;)Z"⟩ ∈ gtbl := List.mem_filter.mpr ⟨List.mem_append_left _ (List.mem_of_getElem? (i := 10) rfl), rfl⟩
theorem zs_11 : Cond.selects "LifeboatHouse" ⟨"LifeboatHouse", "wayOf", "(LLifeboatHouse$Boat;LLifeboatHouse$Call;)I"⟩ ⟨"LifeboatHouse", "wayOf", "(LLifeboatHouse$Boat;LLifeboatHouse$Call;)I"⟩ ∈ gtbl := List.mem_filter.mpr ⟨List.mem_append_left _ (List.mem_of_getElem? (i := 11) rfl), rfl⟩
theorem zs_12 : Cond.selects "LifeboatHouse" ⟨"LifeboatHouse", "launchMinute", "(LLifeboatHouse$Boat;)I"⟩ ⟨"LifeboatHouse", "launchMinute", "(LLifeboatHouse$Boat;)I"⟩ ∈ gtbl := List.mem_filter.mpr ⟨List.mem_append_left _ (List.mem_of_getElem? (i := 12) rfl), rfl⟩
theorem zs_13 : Cond.selects "LifeboatHouse" ⟨"LifeboatHouse", "reachedMinute", "(LLifeboatHouse$Boat;LLifeboatHouse$Call;)I"⟩ ⟨"LifeboatHouse", "reachedMinute", "(LLifeboatHouse$Boat;LLifeboatHouse$Call;)I"⟩ ∈ gtbl := List.mem_filter.mpr ⟨List.mem_append_left _ (List.mem_of_getElem? (i := 13) rfl), rfl⟩
theorem zs_14 : Cond.selects "LifeboatHouse" ⟨"LifeboatHouse", "pairBoats", "(LLifeboatHouse$Call;LLifeboatHouse$Call;)V"⟩ ⟨"LifeboatHouse", "pairBoats", "(LLifeboatHouse$Call;LLifeboatHouse$Call;)V"⟩ ∈ gtbl := List.mem_filter.mpr ⟨List.mem_append_left _ (List.mem_of_getElem? (i := 14) rfl), rfl⟩
theorem zs_15 : Cond.selects "LifeboatHouse" ⟨"LifeboatHouse", "boatsReadyAt", "(I)I"⟩ ⟨"LifeboatHouse", "boatsReadyAt", "(I)I"⟩ ∈ gtbl := List.mem_filter.mpr ⟨List.mem_append_left _ (List.mem_of_getElem? (i := 15) rfl), rfl⟩
theorem zs_16 : Cond.selects "LifeboatHouse" ⟨"LifeboatHouse", "planFlanks", "()V"⟩ ⟨"LifeboatHouse", "planFlanks", "()V"⟩ ∈ gtbl := List.mem_filter.mpr ⟨List.mem_append_left _ (List.mem_of_getElem? (i := 16) rfl), rfl⟩
theorem zs_17 : Cond.selects "LifeboatHouse$FlankPlan" ⟨"LifeboatHouse$FlankPlan", "keepIfBetter", "(II)V"⟩ ⟨"LifeboatHouse$FlankPlan", "keepIfBetter", "(II)V"⟩ ∈ gtbl := List.mem_filter.mpr ⟨List.mem_append_left _ (List.mem_of_getElem? (i := 17) rfl), rfl⟩
theorem zs_18 : Cond.selects "LifeboatHouse$Search" ⟨"LifeboatHouse$Search", "richest", "(I)I"⟩ ⟨"LifeboatHouse$Search", "richest", "(I)I"⟩ ∈ gtbl := List.mem_filter.mpr ⟨List.mem_append_left _ (List.mem_of_getElem? (i := 18) rfl), rfl⟩
theorem zs_19 : Cond.selects "LifeboatHouse" ⟨"LifeboatHouse", "placeInTurn", "(I)I"⟩ ⟨"LifeboatHouse", "placeInTurn", "(I)I"⟩ ∈ gtbl := List.mem_filter.mpr ⟨List.mem_append_left _ (List.mem_of_getElem? (i := 19) rfl), rfl⟩
theorem zs_20 : Cond.selects "LifeboatHouse" ⟨"LifeboatHouse", "boatsAway", "()I"⟩ ⟨"LifeboatHouse", "boatsAway", "()I"⟩ ∈ gtbl := List.mem_filter.mpr ⟨List.mem_append_left _ (List.mem_of_getElem? (i := 20) rfl), rfl⟩
theorem zs_21 : Cond.selects "LifeboatHouse" ⟨"LifeboatHouse", "stationsCovered", "()I"⟩ ⟨"LifeboatHouse", "stationsCovered", "()I"⟩ ∈ gtbl := List.mem_filter.mpr ⟨List.mem_append_left _ (List.mem_of_getElem? (i := 21) rfl), rfl⟩
theorem zs_22 : Cond.selects "LifeboatHouseModel" ⟨"LifeboatHouseModel", "no", "(I)I"⟩ ⟨"LifeboatHouseModel", "no", "(I)I"⟩ ∈ gtbl := List.mem_filter.mpr ⟨List.mem_append_left _ (List.mem_of_getElem? (i := 22) rfl), rfl⟩
theorem zs_23 : Cond.selects "LifeboatHouseModel" ⟨"LifeboatHouseModel", "isPerson", "(I)Z"⟩ ⟨"LifeboatHouseModel", "isPerson", "(I)Z"⟩ ∈ gtbl := List.mem_filter.mpr ⟨List.mem_append_left _ (List.mem_of_getElem? (i := 23) rfl), rfl⟩
theorem zs_24 : Cond.selects "LifeboatHouseModel" ⟨"LifeboatHouseModel", "band", "()I"⟩ ⟨"LifeboatHouseModel", "band", "()I"⟩ ∈ gtbl := List.mem_filter.mpr ⟨List.mem_append_left _ (List.mem_of_getElem? (i := 24) rfl), rfl⟩
theorem zs_25 : Cond.selects "LifeboatHouseModel" ⟨"LifeboatHouseModel", "hour", "()I"⟩ ⟨"LifeboatHouseModel", "hour", "()I"⟩ ∈ gtbl := List.mem_filter.mpr ⟨List.mem_append_left _ (List.mem_of_getElem? (i := 25) rfl), rfl⟩
theorem zs_26 : Cond.selects "LifeboatHouseModel" ⟨"LifeboatHouseModel", "day", "()I"⟩ ⟨"LifeboatHouseModel", "day", "()I"⟩ ∈ gtbl := List.mem_filter.mpr ⟨List.mem_append_left _ (List.mem_of_getElem? (i := 26) rfl), rfl⟩
theorem zs_27 : Cond.selects "LifeboatHouseModel" ⟨"LifeboatHouseModel", "part", "(II)I"⟩ ⟨"LifeboatHouseModel", "part", "(II)I"⟩ ∈ gtbl := List.mem_filter.mpr ⟨List.mem_append_left _ (List.mem_of_getElem? (i := 27) rfl), rfl⟩
theorem zs_28 : Cond.selects "LifeboatHouseModel" ⟨"LifeboatHouseModel", "chanceOf", "(II)I"⟩ ⟨"LifeboatHouseModel", "chanceOf", "(II)I"⟩ ∈ gtbl := List.mem_filter.mpr ⟨List.mem_append_left _ (List.mem_of_getElem? (i := 28) rfl), rfl⟩
theorem zs_29 : Cond.selects "LifeboatHouseModel" ⟨"LifeboatHouseModel", "stands", "(I)Z"⟩ ⟨"LifeboatHouseModel", "stands", "(I)Z"⟩ ∈ gtbl := List.mem_filter.mpr ⟨List.mem_append_left _ (List.mem_of_getElem? (i := 29) rfl), rfl⟩
theorem zs_30 : Cond.selects "LifeboatHouseModel" ⟨"LifeboatHouseModel", "isOpen", "(II)Z"⟩ ⟨"LifeboatHouseModel", "isOpen", "(II)Z"⟩ ∈ gtbl := List.mem_filter.mpr ⟨List.mem_append_left _ (List.mem_of_getElem? (i := 30) rfl), rfl⟩
theorem zs_31 : Cond.selects "LifeboatHouseModel" ⟨"LifeboatHouseModel", "highOf", "(I)I"⟩ ⟨"LifeboatHouseModel", "highOf", "(I)I"⟩ ∈ gtbl := List.mem_filter.mpr ⟨List.mem_append_left _ (List.mem_of_getElem? (i := 31) rfl), rfl⟩
theorem zs_32 : Cond.selects "LifeboatHouseModel" ⟨"LifeboatHouseModel", "isBoat", "(I)Z"⟩ ⟨"LifeboatHouseModel", "isBoat", "(I)Z"⟩ ∈ gtbl := List.mem_filter.mpr ⟨List.mem_append_left _ (List.mem_of_getElem? (i := 32) rfl), rfl⟩
theorem zs_33 : Cond.selects "LifeboatHouseModel" ⟨"LifeboatHouseModel", "isAway", "(I)Z"⟩ ⟨"LifeboatHouseModel", "isAway", "(I)Z"⟩ ∈ gtbl := List.mem_filter.mpr ⟨List.mem_append_left _ (List.mem_of_getElem? (i := 33) rfl), rfl⟩
theorem zs_34 : Cond.selects "LifeboatHouseModel" ⟨"LifeboatHouseModel", "isCall", "(I)Z"⟩ ⟨"LifeboatHouseModel", "isCall", "(I)Z"⟩ ∈ gtbl := List.mem_filter.mpr ⟨List.mem_append_left _ (List.mem_of_getElem? (i := 34) rfl), rfl⟩
theorem zs_35 : Cond.selects "LifeboatHouseModel" ⟨"LifeboatHouseModel", "can", "(II)Z"⟩ ⟨"LifeboatHouseModel", "can", "(II)Z"⟩ ∈ gtbl := List.mem_filter.mpr ⟨List.mem_append_left _ (List.mem_of_getElem? (i := 35) rfl), rfl⟩
theorem zs_36 : Cond.selects "LifeboatHouseModel" ⟨"LifeboatHouseModel", "speedFor", "(II)I"⟩ ⟨"LifeboatHouseModel", "speedFor", "(II)I"⟩ ∈ gtbl := List.mem_filter.mpr ⟨List.mem_append_left _ (List.mem_of_getElem? (i := 36) rfl), rfl⟩
theorem zs_37 : Cond.selects "LifeboatHouseModel" ⟨"LifeboatHouseModel", "way", "(II)I"⟩ ⟨"LifeboatHouseModel", "way", "(II)I"⟩ ∈ gtbl := List.mem_filter.mpr ⟨List.mem_append_left _ (List.mem_of_getElem? (i := 37) rfl), rfl⟩
theorem zs_38 : Cond.selects "LifeboatHouseModel" ⟨"LifeboatHouseModel", "reached", "(II)I"⟩ ⟨"LifeboatHouseModel", "reached", "(II)I"⟩ ∈ gtbl := List.mem_filter.mpr ⟨List.mem_append_left _ (List.mem_of_getElem? (i := 38) rfl), rfl⟩
theorem zs_39 : Cond.selects "LifeboatHouseModel" ⟨"LifeboatHouseModel", "launch", "(I)I"⟩ ⟨"LifeboatHouseModel", "launch", "(I)I"⟩ ∈ gtbl := List.mem_filter.mpr ⟨List.mem_append_left _ (List.mem_of_getElem? (i := 39) rfl), rfl⟩
theorem zs_40 : Cond.selects "LifeboatHouseModel" ⟨"LifeboatHouseModel", "standing", "(I)I"⟩ ⟨"LifeboatHouseModel", "standing", "(I)I"⟩ ∈ gtbl := List.mem_filter.mpr ⟨List.mem_append_left _ (List.mem_of_getElem? (i := 40) rfl), rfl⟩
theorem zs_41 : Cond.selects "LifeboatHouseModel" ⟨"LifeboatHouseModel", "helps", "()V"⟩ ⟨"LifeboatHouseModel", "helps", "()V"⟩ ∈ gtbl := List.mem_filter.mpr ⟨List.mem_append_left _ (List.mem_of_getElem? (i := 41) rfl), rfl⟩
theorem zs_42 : Cond.selects "LifeboatHouseModel" ⟨"LifeboatHouseModel", "tries", "(II)I"⟩ ⟨"LifeboatHouseModel", "tries", "(II)I"⟩ ∈ gtbl := List.mem_filter.mpr ⟨List.mem_append_left _ (List.mem_of_getElem? (i := 42) rfl), rfl⟩
theorem gtbl_good : GoodIn lw_tbl gtbl := fun w h => ⟨(List.mem_filter.mp h).1, good_of_word (List.mem_filter.mp h).2⟩
theorem gtbl_self : GoodIn gtbl gtbl := fun w h => ⟨h, good_of_word (List.mem_filter.mp h).2⟩

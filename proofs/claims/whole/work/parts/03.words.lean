/-- the words of the tables that stay as the machine goes on -/
def okWord : Cond → Bool
  | .methodLinkNest _ _ _ _ => true
  | .fieldLinkNest _ _ _ _ _ _ => true
  | .arrayOver (.object _) => true
  | .arrayOver (.array .int) => true
  | w => goodWord w
def tbl : List Cond := lw_tbl.filter okWord
theorem tb_ok {w : Cond} (h : w ∈ tbl) : okWord w = true := (List.mem_filter.mp h).2
theorem tb_lw {w : Cond} (h : w ∈ tbl) : w ∈ lw_tbl := (List.mem_filter.mp h).1
theorem tb_0 {w : Cond} (i : Nat) (h : (k2_sels lw_privs)[i]? = some w) (ho : okWord w = true) : w ∈ tbl := List.mem_filter.mpr ⟨List.mem_append_left _ (List.mem_of_getElem? h), ho⟩
theorem tb_t {w : Cond} (h : w ∈ tables_1) (ho : okWord w = true) : w ∈ tbl := List.mem_filter.mpr ⟨List.mem_append_right _ h, ho⟩
theorem tb_1 {w : Cond} (i : Nat) (h : tables_1_1[i]? = some w) (ho : okWord w = true) : w ∈ tbl := tb_t (List.mem_append_left _ (List.mem_of_getElem? h)) ho
theorem tb_2 {w : Cond} (i : Nat) (h : tables_1_2[i]? = some w) (ho : okWord w = true) : w ∈ tbl := tb_t (List.mem_append_right _ (List.mem_append_left _ (List.mem_of_getElem? h))) ho
theorem tb_3 {w : Cond} (i : Nat) (h : tables_1_3[i]? = some w) (ho : okWord w = true) : w ∈ tbl := tb_t (List.mem_append_right _ (List.mem_append_right _ (List.mem_append_left _ (List.mem_of_getElem? h)))) ho
theorem tb_4 {w : Cond} (i : Nat) (h : tables_1_4[i]? = some w) (ho : okWord w = true) : w ∈ tbl := tb_t (List.mem_append_right _ (List.mem_append_right _ (List.mem_append_right _ (List.mem_append_left _ (List.mem_of_getElem? h))))) ho
theorem tb_5 {w : Cond} (i : Nat) (h : tables_1_5[i]? = some w) (ho : okWord w = true) : w ∈ tbl := tb_t (List.mem_append_right _ (List.mem_append_right _ (List.mem_append_right _ (List.mem_append_right _ (List.mem_of_getElem? h))))) ho
theorem wN_L : (Jvm.Cond.initialized "PictureDeskLaw") ∈ tbl := tb_1 0 rfl rfl
theorem wN_X9 : (Jvm.Cond.initialized "PictureDesk") ∈ tbl := tb_1 1 rfl rfl
theorem wN_X3 : (Jvm.Cond.initialized "PictureDesk$Land") ∈ tbl := tb_1 2 rfl rfl
theorem wN_X0 : (Jvm.Cond.initialized "PictureDesk$Album") ∈ tbl := tb_1 3 rfl rfl
theorem wN_X1 : (Jvm.Cond.initialized "PictureDesk$Facts") ∈ tbl := tb_1 4 rfl rfl
theorem wN_X8 : (Jvm.Cond.initialized "PictureDesk$Uses") ∈ tbl := tb_1 5 rfl rfl
theorem wN_X4 : (Jvm.Cond.initialized "PictureDesk$Lines") ∈ tbl := tb_1 6 rfl rfl
theorem wN_X2 : (Jvm.Cond.initialized "PictureDesk$Flights") ∈ tbl := tb_1 7 rfl rfl
theorem wN_X10 : (Jvm.Cond.initialized "PictureDeskModel") ∈ tbl := tb_1 8 rfl rfl
theorem wN_X6 : (Jvm.Cond.initialized "PictureDesk$Thing") ∈ tbl := tb_1 9 rfl rfl
theorem wN_X7 : (Jvm.Cond.initialized "PictureDesk$Ticks") ∈ tbl := tb_1 10 rfl rfl
theorem wN_X5 : (Jvm.Cond.initialized "PictureDesk$Picture") ∈ tbl := tb_1 11 rfl rfl
theorem wN_J9 : (Jvm.Cond.initialized "java/lang/Math") ∈ tbl := tb_1 12 rfl rfl
theorem wL_L_7 : (Jvm.Cond.classLink "PictureDeskLaw" (7 : Nat) "PictureDesk") ∈ tbl := tb_1 13 rfl rfl
theorem wB_X9 : (Jvm.Cond.instantiable "PictureDesk" (6 : Nat)) ∈ tbl := tb_1 14 rfl rfl
theorem wM_L_9 : (Jvm.Cond.methodLink "PictureDeskLaw" (9 : Nat) ({ cls := "PictureDesk", name := "<init>", desc := "()V" } : Jvm.MethodName)) ∈ tbl := tb_1 15 rfl rfl
theorem wI_X9_init : (Jvm.Cond.instanceMethod ({ cls := "PictureDesk", name := "<init>", desc := "()V" } : Jvm.MethodName)) ∈ tbl := tb_1 16 rfl rfl
theorem wC_X9_init : (Jvm.Cond.code ({ cls := "PictureDesk", name := "<init>", desc := "()V" } : Jvm.MethodName) prog_1_method_1_code (1 : Nat) (Option.none : Option Jvm.ClassFile.FieldType)) ∈ tbl := tb_1 17 rfl rfl
theorem wM_X9_1 : (Jvm.Cond.methodLink "PictureDesk" (1 : Nat) ({ cls := "java/lang/Object", name := "<init>", desc := "()V" } : Jvm.MethodName)) ∈ tbl := tb_1 18 rfl rfl
theorem wI_java_lang_Object__init____V : (Jvm.Cond.instanceMethod ({ cls := "java/lang/Object", name := "<init>", desc := "()V" } : Jvm.MethodName)) ∈ tbl := tb_1 19 rfl rfl
theorem wC_java_lang_Object__init____V : (Jvm.Cond.code ({ cls := "java/lang/Object", name := "<init>", desc := "()V" } : Jvm.MethodName) object_method_1_code (1 : Nat) (Option.none : Option Jvm.ClassFile.FieldType)) ∈ tbl := tb_1 20 rfl rfl
theorem wL_X9_7 : (Jvm.Cond.classLink "PictureDesk" (7 : Nat) "PictureDesk$Land") ∈ tbl := tb_1 21 rfl rfl
theorem wB_X3 : (Jvm.Cond.instantiable "PictureDesk$Land" (2 : Nat)) ∈ tbl := tb_1 22 rfl rfl
theorem wMN_X9_9 : (Jvm.Cond.methodLinkNest "PictureDesk" (9 : Nat) ({ cls := "PictureDesk$Land", name := "<init>", desc := "()V" } : Jvm.MethodName) "PictureDesk") ∈ tbl := tb_1 23 rfl rfl
theorem wI_X3_init : (Jvm.Cond.instanceMethod ({ cls := "PictureDesk$Land", name := "<init>", desc := "()V" } : Jvm.MethodName)) ∈ tbl := tb_1 24 rfl rfl
theorem wC_X3_init : (Jvm.Cond.code ({ cls := "PictureDesk$Land", name := "<init>", desc := "()V" } : Jvm.MethodName) prog_5_method_1_code (1 : Nat) (Option.none : Option Jvm.ClassFile.FieldType)) ∈ tbl := tb_1 25 rfl rfl
theorem wM_X3_3 : (Jvm.Cond.methodLink "PictureDesk$Land" (3 : Nat) ({ cls := "java/lang/Object", name := "<init>", desc := "()V" } : Jvm.MethodName)) ∈ tbl := tb_1 26 rfl rfl
theorem wL_X3_9 : (Jvm.Cond.classLink "PictureDesk$Land" (9 : Nat) "PictureDesk$Thing") ∈ tbl := tb_1 27 rfl rfl
theorem wO_Jvm_ClassFile_FieldType_object_PictureDesk_Thing : (Jvm.Cond.arrayOver (Jvm.ClassFile.FieldType.object "PictureDesk$Thing")) ∈ tbl := tb_1 28 rfl rfl
theorem wF_X3_11 : (Jvm.Cond.fieldLink "PictureDesk$Land" (11 : Nat) "PictureDesk$Land" "things" "[LPictureDesk$Thing;") ∈ tbl := tb_1 29 rfl rfl
theorem wF_X3_17 : (Jvm.Cond.fieldLink "PictureDesk$Land" (17 : Nat) "PictureDesk$Land" "size" "I") ∈ tbl := tb_1 30 rfl rfl
theorem wL_X9_16 : (Jvm.Cond.classLink "PictureDesk" (16 : Nat) "PictureDesk$Album") ∈ tbl := tb_1 36 rfl rfl
theorem wB_X0 : (Jvm.Cond.instantiable "PictureDesk$Album" (2 : Nat)) ∈ tbl := tb_1 37 rfl rfl
theorem wMN_X9_18 : (Jvm.Cond.methodLinkNest "PictureDesk" (18 : Nat) ({ cls := "PictureDesk$Album", name := "<init>", desc := "()V" } : Jvm.MethodName) "PictureDesk") ∈ tbl := tb_1 38 rfl rfl
theorem wI_X0_init : (Jvm.Cond.instanceMethod ({ cls := "PictureDesk$Album", name := "<init>", desc := "()V" } : Jvm.MethodName)) ∈ tbl := tb_1 39 rfl rfl
theorem wC_X0_init : (Jvm.Cond.code ({ cls := "PictureDesk$Album", name := "<init>", desc := "()V" } : Jvm.MethodName) prog_2_method_1_code (1 : Nat) (Option.none : Option Jvm.ClassFile.FieldType)) ∈ tbl := tb_1 40 rfl rfl
theorem wM_X0_3 : (Jvm.Cond.methodLink "PictureDesk$Album" (3 : Nat) ({ cls := "java/lang/Object", name := "<init>", desc := "()V" } : Jvm.MethodName)) ∈ tbl := tb_1 41 rfl rfl
theorem wL_X0_9 : (Jvm.Cond.classLink "PictureDesk$Album" (9 : Nat) "PictureDesk$Picture") ∈ tbl := tb_1 42 rfl rfl
theorem wO_Jvm_ClassFile_FieldType_object_PictureDesk_Picture : (Jvm.Cond.arrayOver (Jvm.ClassFile.FieldType.object "PictureDesk$Picture")) ∈ tbl := tb_1 43 rfl rfl
theorem wF_X0_11 : (Jvm.Cond.fieldLink "PictureDesk$Album" (11 : Nat) "PictureDesk$Album" "pictures" "[LPictureDesk$Picture;") ∈ tbl := tb_1 44 rfl rfl
theorem wF_X0_17 : (Jvm.Cond.fieldLink "PictureDesk$Album" (17 : Nat) "PictureDesk$Album" "size" "I") ∈ tbl := tb_1 45 rfl rfl
theorem wL_X9_23 : (Jvm.Cond.classLink "PictureDesk" (23 : Nat) "PictureDesk$Facts") ∈ tbl := tb_1 51 rfl rfl
theorem wB_X1 : (Jvm.Cond.instantiable "PictureDesk$Facts" (3 : Nat)) ∈ tbl := tb_1 52 rfl rfl
theorem wMN_X9_25 : (Jvm.Cond.methodLinkNest "PictureDesk" (25 : Nat) ({ cls := "PictureDesk$Facts", name := "<init>", desc := "()V" } : Jvm.MethodName) "PictureDesk") ∈ tbl := tb_1 53 rfl rfl
theorem wI_X1_init : (Jvm.Cond.instanceMethod ({ cls := "PictureDesk$Facts", name := "<init>", desc := "()V" } : Jvm.MethodName)) ∈ tbl := tb_1 54 rfl rfl
theorem wC_X1_init : (Jvm.Cond.code ({ cls := "PictureDesk$Facts", name := "<init>", desc := "()V" } : Jvm.MethodName) prog_3_method_1_code (1 : Nat) (Option.none : Option Jvm.ClassFile.FieldType)) ∈ tbl := tb_1 55 rfl rfl
theorem wM_X1_3 : (Jvm.Cond.methodLink "PictureDesk$Facts" (3 : Nat) ({ cls := "java/lang/Object", name := "<init>", desc := "()V" } : Jvm.MethodName)) ∈ tbl := tb_1 56 rfl rfl
theorem wF_X1_11 : (Jvm.Cond.fieldLink "PictureDesk$Facts" (11 : Nat) "PictureDesk$Facts" "values" "[I") ∈ tbl := tb_1 57 rfl rfl
theorem wF_X1_29 : (Jvm.Cond.fieldLink "PictureDesk$Facts" (29 : Nat) "PictureDesk$Facts" "isCovered" "Z") ∈ tbl := tb_1 58 rfl rfl
theorem wF_X1_25 : (Jvm.Cond.fieldLink "PictureDesk$Facts" (25 : Nat) "PictureDesk$Facts" "isSeen" "Z") ∈ tbl := tb_1 59 rfl rfl
theorem wA_Jvm_ClassFile_FieldType_int : (Jvm.Cond.arrayClass Jvm.ClassFile.FieldType.int) ∈ tbl := tb_1 67 rfl rfl
theorem wL_X9_30 : (Jvm.Cond.classLink "PictureDesk" (30 : Nat) "PictureDesk$Uses") ∈ tbl := tb_1 68 rfl rfl
theorem wB_X8 : (Jvm.Cond.instantiable "PictureDesk$Uses" (4 : Nat)) ∈ tbl := tb_1 69 rfl rfl
theorem wMN_X9_32 : (Jvm.Cond.methodLinkNest "PictureDesk" (32 : Nat) ({ cls := "PictureDesk$Uses", name := "<init>", desc := "()V" } : Jvm.MethodName) "PictureDesk") ∈ tbl := tb_1 70 rfl rfl
theorem wI_X8_init : (Jvm.Cond.instanceMethod ({ cls := "PictureDesk$Uses", name := "<init>", desc := "()V" } : Jvm.MethodName)) ∈ tbl := tb_1 71 rfl rfl
theorem wC_X8_init : (Jvm.Cond.code ({ cls := "PictureDesk$Uses", name := "<init>", desc := "()V" } : Jvm.MethodName) prog_10_method_1_code (1 : Nat) (Option.none : Option Jvm.ClassFile.FieldType)) ∈ tbl := tb_1 72 rfl rfl
theorem wM_X8_3 : (Jvm.Cond.methodLink "PictureDesk$Uses" (3 : Nat) ({ cls := "java/lang/Object", name := "<init>", desc := "()V" } : Jvm.MethodName)) ∈ tbl := tb_1 73 rfl rfl
theorem wL_X8_15 : (Jvm.Cond.classLink "PictureDesk$Uses" (15 : Nat) "[[I") ∈ tbl := tb_1 74 rfl rfl
theorem wO_Jvm_ClassFile_FieldType_array_Jvm_ClassFile_FieldType_int : (Jvm.Cond.arrayOver (Jvm.ClassFile.FieldType.array Jvm.ClassFile.FieldType.int)) ∈ tbl := tb_1 75 rfl rfl
theorem wF_X8_11 : (Jvm.Cond.fieldLink "PictureDesk$Uses" (11 : Nat) "PictureDesk$Uses" "signs" "[I") ∈ tbl := tb_1 76 rfl rfl
theorem wF_X8_23 : (Jvm.Cond.fieldLink "PictureDesk$Uses" (23 : Nat) "PictureDesk$Uses" "length" "I") ∈ tbl := tb_1 77 rfl rfl
theorem wF_X8_17 : (Jvm.Cond.fieldLink "PictureDesk$Uses" (17 : Nat) "PictureDesk$Uses" "texts" "[[I") ∈ tbl := tb_1 78 rfl rfl
theorem wF_X8_20 : (Jvm.Cond.fieldLink "PictureDesk$Uses" (20 : Nat) "PictureDesk$Uses" "lengths" "[I") ∈ tbl := tb_1 79 rfl rfl
theorem wL_X9_37 : (Jvm.Cond.classLink "PictureDesk" (37 : Nat) "PictureDesk$Lines") ∈ tbl := tb_1 89 rfl rfl
theorem wB_X4 : (Jvm.Cond.instantiable "PictureDesk$Lines" (3 : Nat)) ∈ tbl := tb_1 90 rfl rfl
theorem wMN_X9_39 : (Jvm.Cond.methodLinkNest "PictureDesk" (39 : Nat) ({ cls := "PictureDesk$Lines", name := "<init>", desc := "()V" } : Jvm.MethodName) "PictureDesk") ∈ tbl := tb_1 91 rfl rfl
theorem wI_X4_init : (Jvm.Cond.instanceMethod ({ cls := "PictureDesk$Lines", name := "<init>", desc := "()V" } : Jvm.MethodName)) ∈ tbl := tb_1 92 rfl rfl
theorem wC_X4_init : (Jvm.Cond.code ({ cls := "PictureDesk$Lines", name := "<init>", desc := "()V" } : Jvm.MethodName) prog_6_method_1_code (1 : Nat) (Option.none : Option Jvm.ClassFile.FieldType)) ∈ tbl := tb_1 93 rfl rfl
theorem wM_X4_3 : (Jvm.Cond.methodLink "PictureDesk$Lines" (3 : Nat) ({ cls := "java/lang/Object", name := "<init>", desc := "()V" } : Jvm.MethodName)) ∈ tbl := tb_1 94 rfl rfl
theorem wF_X4_9 : (Jvm.Cond.fieldLink "PictureDesk$Lines" (9 : Nat) "PictureDesk$Lines" "crossings" "[I") ∈ tbl := tb_1 95 rfl rfl
theorem wF_X4_15 : (Jvm.Cond.fieldLink "PictureDesk$Lines" (15 : Nat) "PictureDesk$Lines" "cell" "I") ∈ tbl := tb_1 96 rfl rfl
theorem wF_X4_19 : (Jvm.Cond.fieldLink "PictureDesk$Lines" (19 : Nat) "PictureDesk$Lines" "most" "I") ∈ tbl := tb_1 97 rfl rfl
theorem wL_X9_44 : (Jvm.Cond.classLink "PictureDesk" (44 : Nat) "PictureDesk$Flights") ∈ tbl := tb_1 105 rfl rfl
theorem wB_X2 : (Jvm.Cond.instantiable "PictureDesk$Flights" (6 : Nat)) ∈ tbl := tb_1 106 rfl rfl
theorem wMN_X9_46 : (Jvm.Cond.methodLinkNest "PictureDesk" (46 : Nat) ({ cls := "PictureDesk$Flights", name := "<init>", desc := "()V" } : Jvm.MethodName) "PictureDesk") ∈ tbl := tb_1 107 rfl rfl
theorem wI_X2_init : (Jvm.Cond.instanceMethod ({ cls := "PictureDesk$Flights", name := "<init>", desc := "()V" } : Jvm.MethodName)) ∈ tbl := tb_1 108 rfl rfl
theorem wC_X2_init : (Jvm.Cond.code ({ cls := "PictureDesk$Flights", name := "<init>", desc := "()V" } : Jvm.MethodName) prog_4_method_1_code (1 : Nat) (Option.none : Option Jvm.ClassFile.FieldType)) ∈ tbl := tb_1 109 rfl rfl
theorem wM_X2_3 : (Jvm.Cond.methodLink "PictureDesk$Flights" (3 : Nat) ({ cls := "java/lang/Object", name := "<init>", desc := "()V" } : Jvm.MethodName)) ∈ tbl := tb_1 110 rfl rfl
theorem wF_X2_11 : (Jvm.Cond.fieldLink "PictureDesk$Flights" (11 : Nat) "PictureDesk$Flights" "from" "[I") ∈ tbl := tb_1 111 rfl rfl
theorem wF_X2_15 : (Jvm.Cond.fieldLink "PictureDesk$Flights" (15 : Nat) "PictureDesk$Flights" "to" "[I") ∈ tbl := tb_1 112 rfl rfl
theorem wF_X2_18 : (Jvm.Cond.fieldLink "PictureDesk$Flights" (18 : Nat) "PictureDesk$Flights" "weather" "[I") ∈ tbl := tb_1 113 rfl rfl
theorem wF_X2_21 : (Jvm.Cond.fieldLink "PictureDesk$Flights" (21 : Nat) "PictureDesk$Flights" "risk" "[I") ∈ tbl := tb_1 114 rfl rfl
theorem wF_X2_24 : (Jvm.Cond.fieldLink "PictureDesk$Flights" (24 : Nat) "PictureDesk$Flights" "missing" "[J") ∈ tbl := tb_1 115 rfl rfl
theorem wF_X2_28 : (Jvm.Cond.fieldLink "PictureDesk$Flights" (28 : Nat) "PictureDesk$Flights" "weights" "[J") ∈ tbl := tb_1 116 rfl rfl
theorem wA_Jvm_ClassFile_FieldType_long : (Jvm.Cond.arrayClass Jvm.ClassFile.FieldType.long) ∈ tbl := tb_1 130 rfl rfl
theorem wF_X9_10 : (Jvm.Cond.fieldLink "PictureDesk" (10 : Nat) "PictureDesk" "land" "LPictureDesk$Land;") ∈ tbl := tb_1 131 rfl rfl
theorem wF_X9_19 : (Jvm.Cond.fieldLink "PictureDesk" (19 : Nat) "PictureDesk" "album" "LPictureDesk$Album;") ∈ tbl := tb_1 132 rfl rfl
theorem wF_X9_26 : (Jvm.Cond.fieldLink "PictureDesk" (26 : Nat) "PictureDesk" "facts" "LPictureDesk$Facts;") ∈ tbl := tb_1 133 rfl rfl
theorem wF_X9_33 : (Jvm.Cond.fieldLink "PictureDesk" (33 : Nat) "PictureDesk" "uses" "LPictureDesk$Uses;") ∈ tbl := tb_1 134 rfl rfl
theorem wF_X9_40 : (Jvm.Cond.fieldLink "PictureDesk" (40 : Nat) "PictureDesk" "lines" "LPictureDesk$Lines;") ∈ tbl := tb_1 135 rfl rfl
theorem wF_X9_47 : (Jvm.Cond.fieldLink "PictureDesk" (47 : Nat) "PictureDesk" "flights" "LPictureDesk$Flights;") ∈ tbl := tb_1 136 rfl rfl
theorem wM_L_13 : (Jvm.Cond.methodLink "PictureDeskLaw" (13 : Nat) ({ cls := "PictureDesk", name := "thing", desc := "(IIIIIIII)I" } : Jvm.MethodName)) ∈ tbl := tb_1 150 rfl rfl
theorem wI_X9_thing : (Jvm.Cond.instanceMethod ({ cls := "PictureDesk", name := "thing", desc := "(IIIIIIII)I" } : Jvm.MethodName)) ∈ tbl := tb_1 151 rfl rfl
theorem wS_X9_thing : (Jvm.Cond.selects "PictureDesk" ({ cls := "PictureDesk", name := "thing", desc := "(IIIIIIII)I" } : Jvm.MethodName) ({ cls := "PictureDesk", name := "thing", desc := "(IIIIIIII)I" } : Jvm.MethodName)) ∈ tbl := tb_1 152 rfl rfl
theorem wC_X9_thing : (Jvm.Cond.code ({ cls := "PictureDesk", name := "thing", desc := "(IIIIIIII)I" } : Jvm.MethodName) prog_1_method_2_code (11 : Nat) (Option.some Jvm.ClassFile.FieldType.int)) ∈ tbl := tb_1 153 rfl rfl
theorem wM_X9_51 : (Jvm.Cond.methodLink "PictureDesk" (51 : Nat) ({ cls := "PictureDesk", name := "isOnLand", desc := "(II)Z" } : Jvm.MethodName)) ∈ tbl := tb_1 154 rfl rfl
theorem wT_X9_isOnLand : (Jvm.Cond.static ({ cls := "PictureDesk", name := "isOnLand", desc := "(II)Z" } : Jvm.MethodName)) ∈ tbl := tb_1 155 rfl rfl
theorem wC_X9_isOnLand : (Jvm.Cond.code ({ cls := "PictureDesk", name := "isOnLand", desc := "(II)Z" } : Jvm.MethodName) prog_1_method_32_code (2 : Nat) (Option.some Jvm.ClassFile.FieldType.boolean)) ∈ tbl := tb_1 156 rfl rfl
theorem wM_X9_55 : (Jvm.Cond.methodLink "PictureDesk" (55 : Nat) ({ cls := "PictureDesk", name := "isWithin", desc := "(III)Z" } : Jvm.MethodName)) ∈ tbl := tb_1 157 rfl rfl
theorem wT_X9_isWithin : (Jvm.Cond.static ({ cls := "PictureDesk", name := "isWithin", desc := "(III)Z" } : Jvm.MethodName)) ∈ tbl := tb_1 158 rfl rfl
theorem wC_X9_isWithin : (Jvm.Cond.code ({ cls := "PictureDesk", name := "isWithin", desc := "(III)Z" } : Jvm.MethodName) prog_1_method_31_code (3 : Nat) (Option.some Jvm.ClassFile.FieldType.boolean)) ∈ tbl := tb_1 159 rfl rfl
theorem wM_X9_59 : (Jvm.Cond.methodLink "PictureDesk" (59 : Nat) ({ cls := "PictureDesk", name := "isDay", desc := "(I)Z" } : Jvm.MethodName)) ∈ tbl := tb_1 160 rfl rfl
theorem wT_X9_isDay : (Jvm.Cond.static ({ cls := "PictureDesk", name := "isDay", desc := "(I)Z" } : Jvm.MethodName)) ∈ tbl := tb_1 161 rfl rfl
theorem wC_X9_isDay : (Jvm.Cond.code ({ cls := "PictureDesk", name := "isDay", desc := "(I)Z" } : Jvm.MethodName) prog_1_method_34_code (1 : Nat) (Option.some Jvm.ClassFile.FieldType.boolean)) ∈ tbl := tb_1 162 rfl rfl
theorem wM_X9_63 : (Jvm.Cond.methodLink "PictureDesk" (63 : Nat) ({ cls := "PictureDesk$Land", name := "isFull", desc := "()Z" } : Jvm.MethodName)) ∈ tbl := tb_1 163 rfl rfl
theorem wI_X3_isFull : (Jvm.Cond.instanceMethod ({ cls := "PictureDesk$Land", name := "isFull", desc := "()Z" } : Jvm.MethodName)) ∈ tbl := tb_1 164 rfl rfl
theorem wS_X3_isFull : (Jvm.Cond.selects "PictureDesk$Land" ({ cls := "PictureDesk$Land", name := "isFull", desc := "()Z" } : Jvm.MethodName) ({ cls := "PictureDesk$Land", name := "isFull", desc := "()Z" } : Jvm.MethodName)) ∈ tbl := tb_1 165 rfl rfl
theorem wC_X3_isFull : (Jvm.Cond.code ({ cls := "PictureDesk$Land", name := "isFull", desc := "()Z" } : Jvm.MethodName) prog_5_method_3_code (1 : Nat) (Option.some Jvm.ClassFile.FieldType.boolean)) ∈ tbl := tb_1 166 rfl rfl
theorem wM_X9_67 : (Jvm.Cond.methodLink "PictureDesk" (67 : Nat) ({ cls := "PictureDesk$Land", name := "add", desc := "([I)I" } : Jvm.MethodName)) ∈ tbl := tb_1 167 rfl rfl
theorem wI_X3_add : (Jvm.Cond.instanceMethod ({ cls := "PictureDesk$Land", name := "add", desc := "([I)I" } : Jvm.MethodName)) ∈ tbl := tb_1 168 rfl rfl
theorem wS_X3_add : (Jvm.Cond.selects "PictureDesk$Land" ({ cls := "PictureDesk$Land", name := "add", desc := "([I)I" } : Jvm.MethodName) ({ cls := "PictureDesk$Land", name := "add", desc := "([I)I" } : Jvm.MethodName)) ∈ tbl := tb_1 169 rfl rfl
theorem wC_X3_add : (Jvm.Cond.code ({ cls := "PictureDesk$Land", name := "add", desc := "([I)I" } : Jvm.MethodName) prog_5_method_4_code (2 : Nat) (Option.some Jvm.ClassFile.FieldType.int)) ∈ tbl := tb_1 170 rfl rfl
theorem wM_X3_21 : (Jvm.Cond.methodLink "PictureDesk$Land" (21 : Nat) ({ cls := "PictureDesk$Land", name := "isFull", desc := "()Z" } : Jvm.MethodName)) ∈ tbl := tb_1 171 rfl rfl
theorem wB_X6 : (Jvm.Cond.instantiable "PictureDesk$Thing" (3 : Nat)) ∈ tbl := tb_1 172 rfl rfl
theorem wM_X3_25 : (Jvm.Cond.methodLink "PictureDesk$Land" (25 : Nat) ({ cls := "PictureDesk$Thing", name := "<init>", desc := "(I[I)V" } : Jvm.MethodName)) ∈ tbl := tb_1 173 rfl rfl
theorem wI_X6_init : (Jvm.Cond.instanceMethod ({ cls := "PictureDesk$Thing", name := "<init>", desc := "(I[I)V" } : Jvm.MethodName)) ∈ tbl := tb_1 174 rfl rfl
theorem wC_X6_init : (Jvm.Cond.code ({ cls := "PictureDesk$Thing", name := "<init>", desc := "(I[I)V" } : Jvm.MethodName) prog_8_method_1_code (3 : Nat) (Option.none : Option Jvm.ClassFile.FieldType)) ∈ tbl := tb_1 175 rfl rfl
theorem wM_X6_3 : (Jvm.Cond.methodLink "PictureDesk$Thing" (3 : Nat) ({ cls := "java/lang/Object", name := "<init>", desc := "()V" } : Jvm.MethodName)) ∈ tbl := tb_1 176 rfl rfl
theorem wL_X6_9 : (Jvm.Cond.classLink "PictureDesk$Thing" (9 : Nat) "PictureDesk$Ticks") ∈ tbl := tb_1 177 rfl rfl
theorem wB_X7 : (Jvm.Cond.instantiable "PictureDesk$Ticks" (2 : Nat)) ∈ tbl := tb_1 178 rfl rfl
theorem wMN_X6_11 : (Jvm.Cond.methodLinkNest "PictureDesk$Thing" (11 : Nat) ({ cls := "PictureDesk$Ticks", name := "<init>", desc := "()V" } : Jvm.MethodName) "PictureDesk") ∈ tbl := tb_1 179 rfl rfl
theorem wI_X7_init : (Jvm.Cond.instanceMethod ({ cls := "PictureDesk$Ticks", name := "<init>", desc := "()V" } : Jvm.MethodName)) ∈ tbl := tb_1 180 rfl rfl
theorem wC_X7_init : (Jvm.Cond.code ({ cls := "PictureDesk$Ticks", name := "<init>", desc := "()V" } : Jvm.MethodName) prog_9_method_1_code (1 : Nat) (Option.none : Option Jvm.ClassFile.FieldType)) ∈ tbl := tb_1 181 rfl rfl
theorem wM_X7_1 : (Jvm.Cond.methodLink "PictureDesk$Ticks" (1 : Nat) ({ cls := "java/lang/Object", name := "<init>", desc := "()V" } : Jvm.MethodName)) ∈ tbl := tb_1 182 rfl rfl
theorem wF_X7_7 : (Jvm.Cond.fieldLink "PictureDesk$Ticks" (7 : Nat) "PictureDesk$Ticks" "low" "J") ∈ tbl := tb_1 183 rfl rfl
theorem wF_X7_13 : (Jvm.Cond.fieldLink "PictureDesk$Ticks" (13 : Nat) "PictureDesk$Ticks" "high" "J") ∈ tbl := tb_1 184 rfl rfl
theorem wF_X6_18 : (Jvm.Cond.fieldLink "PictureDesk$Thing" (18 : Nat) "PictureDesk$Thing" "number" "I") ∈ tbl := tb_1 190 rfl rfl
theorem wF_X6_22 : (Jvm.Cond.fieldLink "PictureDesk$Thing" (22 : Nat) "PictureDesk$Thing" "marks" "[I") ∈ tbl := tb_1 191 rfl rfl
theorem wF_X6_12 : (Jvm.Cond.fieldLink "PictureDesk$Thing" (12 : Nat) "PictureDesk$Thing" "doings" "LPictureDesk$Ticks;") ∈ tbl := tb_1 192 rfl rfl
theorem wM_X9_71 : (Jvm.Cond.methodLink "PictureDesk" (71 : Nat) ({ cls := "PictureDesk$Album", name := "develop", desc := "(LPictureDesk$Land;)V" } : Jvm.MethodName)) ∈ tbl := tb_1 200 rfl rfl
theorem wI_X0_develop : (Jvm.Cond.instanceMethod ({ cls := "PictureDesk$Album", name := "develop", desc := "(LPictureDesk$Land;)V" } : Jvm.MethodName)) ∈ tbl := tb_1 201 rfl rfl
theorem wS_X0_develop : (Jvm.Cond.selects "PictureDesk$Album" ({ cls := "PictureDesk$Album", name := "develop", desc := "(LPictureDesk$Land;)V" } : Jvm.MethodName) ({ cls := "PictureDesk$Album", name := "develop", desc := "(LPictureDesk$Land;)V" } : Jvm.MethodName)) ∈ tbl := tb_1 202 rfl rfl
theorem wC_X0_develop : (Jvm.Cond.code ({ cls := "PictureDesk$Album", name := "develop", desc := "(LPictureDesk$Land;)V" } : Jvm.MethodName) prog_2_method_7_code (4 : Nat) (Option.none : Option Jvm.ClassFile.FieldType)) ∈ tbl := tb_1 203 rfl rfl
theorem wM_X0_29 : (Jvm.Cond.methodLink "PictureDesk$Album" (29 : Nat) ({ cls := "PictureDesk$Album", name := "find", desc := "(I)LPictureDesk$Picture;" } : Jvm.MethodName)) ∈ tbl := tb_1 204 rfl rfl
theorem wI_X0_find : (Jvm.Cond.instanceMethod ({ cls := "PictureDesk$Album", name := "find", desc := "(I)LPictureDesk$Picture;" } : Jvm.MethodName)) ∈ tbl := tb_1 205 rfl rfl
theorem wS_X0_find : (Jvm.Cond.selects "PictureDesk$Album" ({ cls := "PictureDesk$Album", name := "find", desc := "(I)LPictureDesk$Picture;" } : Jvm.MethodName) ({ cls := "PictureDesk$Album", name := "find", desc := "(I)LPictureDesk$Picture;" } : Jvm.MethodName)) ∈ tbl := tb_1 206 rfl rfl
theorem wC_X0_find : (Jvm.Cond.code ({ cls := "PictureDesk$Album", name := "find", desc := "(I)LPictureDesk$Picture;" } : Jvm.MethodName) prog_2_method_5_code (2 : Nat) (Option.some (Jvm.ClassFile.FieldType.object "PictureDesk$Picture"))) ∈ tbl := tb_1 207 rfl rfl
theorem wMN_X0_25 : (Jvm.Cond.methodLinkNest "PictureDesk$Album" (25 : Nat) ({ cls := "PictureDesk", name := "isWithin", desc := "(III)Z" } : Jvm.MethodName) "PictureDesk") ∈ tbl := tb_1 208 rfl rfl
theorem wM_X0_37 : (Jvm.Cond.methodLink "PictureDesk$Album" (37 : Nat) ({ cls := "PictureDesk$Picture", name := "develop", desc := "(LPictureDesk$Land;)V" } : Jvm.MethodName)) ∈ tbl := tb_1 209 rfl rfl
theorem wI_X5_develop : (Jvm.Cond.instanceMethod ({ cls := "PictureDesk$Picture", name := "develop", desc := "(LPictureDesk$Land;)V" } : Jvm.MethodName)) ∈ tbl := tb_1 210 rfl rfl
theorem wS_X5_develop : (Jvm.Cond.selects "PictureDesk$Picture" ({ cls := "PictureDesk$Picture", name := "develop", desc := "(LPictureDesk$Land;)V" } : Jvm.MethodName) ({ cls := "PictureDesk$Picture", name := "develop", desc := "(LPictureDesk$Land;)V" } : Jvm.MethodName)) ∈ tbl := tb_1 211 rfl rfl
theorem wC_X5_develop : (Jvm.Cond.code ({ cls := "PictureDesk$Picture", name := "develop", desc := "(LPictureDesk$Land;)V" } : Jvm.MethodName) prog_7_method_2_code (4 : Nat) (Option.none : Option Jvm.ClassFile.FieldType)) ∈ tbl := tb_1 212 rfl rfl
theorem wM_X5_41 : (Jvm.Cond.methodLink "PictureDesk$Picture" (41 : Nat) ({ cls := "PictureDesk$Land", name := "fillCounting", desc := "([II)V" } : Jvm.MethodName)) ∈ tbl := tb_1 213 rfl rfl
theorem wI_X3_fillCounting : (Jvm.Cond.instanceMethod ({ cls := "PictureDesk$Land", name := "fillCounting", desc := "([II)V" } : Jvm.MethodName)) ∈ tbl := tb_1 214 rfl rfl
theorem wS_X3_fillCounting : (Jvm.Cond.selects "PictureDesk$Land" ({ cls := "PictureDesk$Land", name := "fillCounting", desc := "([II)V" } : Jvm.MethodName) ({ cls := "PictureDesk$Land", name := "fillCounting", desc := "([II)V" } : Jvm.MethodName)) ∈ tbl := tb_1 215 rfl rfl
theorem wC_X3_fillCounting : (Jvm.Cond.code ({ cls := "PictureDesk$Land", name := "fillCounting", desc := "([II)V" } : Jvm.MethodName) prog_5_method_7_code (5 : Nat) (Option.none : Option Jvm.ClassFile.FieldType)) ∈ tbl := tb_1 216 rfl rfl
theorem wM_X3_32 : (Jvm.Cond.methodLink "PictureDesk$Land" (32 : Nat) ({ cls := "PictureDesk$Land", name := "find", desc := "(I)LPictureDesk$Thing;" } : Jvm.MethodName)) ∈ tbl := tb_1 217 rfl rfl
theorem wI_X3_find : (Jvm.Cond.instanceMethod ({ cls := "PictureDesk$Land", name := "find", desc := "(I)LPictureDesk$Thing;" } : Jvm.MethodName)) ∈ tbl := tb_1 218 rfl rfl
theorem wS_X3_find : (Jvm.Cond.selects "PictureDesk$Land" ({ cls := "PictureDesk$Land", name := "find", desc := "(I)LPictureDesk$Thing;" } : Jvm.MethodName) ({ cls := "PictureDesk$Land", name := "find", desc := "(I)LPictureDesk$Thing;" } : Jvm.MethodName)) ∈ tbl := tb_1 219 rfl rfl
theorem wC_X3_find : (Jvm.Cond.code ({ cls := "PictureDesk$Land", name := "find", desc := "(I)LPictureDesk$Thing;" } : Jvm.MethodName) prog_5_method_5_code (2 : Nat) (Option.some (Jvm.ClassFile.FieldType.object "PictureDesk$Thing"))) ∈ tbl := tb_1 220 rfl rfl
theorem wMN_X3_28 : (Jvm.Cond.methodLinkNest "PictureDesk$Land" (28 : Nat) ({ cls := "PictureDesk", name := "isWithin", desc := "(III)Z" } : Jvm.MethodName) "PictureDesk") ∈ tbl := tb_1 221 rfl rfl
theorem wM_X3_36 : (Jvm.Cond.methodLink "PictureDesk$Land" (36 : Nat) ({ cls := "PictureDesk$Thing", name := "isThere", desc := "(I)Z" } : Jvm.MethodName)) ∈ tbl := tb_1 222 rfl rfl
theorem wI_X6_isThere : (Jvm.Cond.instanceMethod ({ cls := "PictureDesk$Thing", name := "isThere", desc := "(I)Z" } : Jvm.MethodName)) ∈ tbl := tb_1 223 rfl rfl
theorem wS_X6_isThere : (Jvm.Cond.selects "PictureDesk$Thing" ({ cls := "PictureDesk$Thing", name := "isThere", desc := "(I)Z" } : Jvm.MethodName) ({ cls := "PictureDesk$Thing", name := "isThere", desc := "(I)Z" } : Jvm.MethodName)) ∈ tbl := tb_1 224 rfl rfl
theorem wC_X6_isThere : (Jvm.Cond.code ({ cls := "PictureDesk$Thing", name := "isThere", desc := "(I)Z" } : Jvm.MethodName) prog_8_method_5_code (2 : Nat) (Option.some Jvm.ClassFile.FieldType.boolean)) ∈ tbl := tb_1 225 rfl rfl
theorem wM_X6_26 : (Jvm.Cond.methodLink "PictureDesk$Thing" (26 : Nat) ({ cls := "PictureDesk$Thing", name := "mark", desc := "(I)I" } : Jvm.MethodName)) ∈ tbl := tb_1 226 rfl rfl
theorem wI_X6_mark : (Jvm.Cond.instanceMethod ({ cls := "PictureDesk$Thing", name := "mark", desc := "(I)I" } : Jvm.MethodName)) ∈ tbl := tb_1 227 rfl rfl
theorem wS_X6_mark : (Jvm.Cond.selects "PictureDesk$Thing" ({ cls := "PictureDesk$Thing", name := "mark", desc := "(I)I" } : Jvm.MethodName) ({ cls := "PictureDesk$Thing", name := "mark", desc := "(I)I" } : Jvm.MethodName)) ∈ tbl := tb_1 228 rfl rfl
theorem wC_X6_mark : (Jvm.Cond.code ({ cls := "PictureDesk$Thing", name := "mark", desc := "(I)I" } : Jvm.MethodName) prog_8_method_3_code (2 : Nat) (Option.some Jvm.ClassFile.FieldType.int)) ∈ tbl := tb_1 229 rfl rfl
theorem wMN_X6_30 : (Jvm.Cond.methodLinkNest "PictureDesk$Thing" (30 : Nat) ({ cls := "PictureDesk", name := "isWithin", desc := "(III)Z" } : Jvm.MethodName) "PictureDesk") ∈ tbl := tb_1 230 rfl rfl
theorem wM_X3_52 : (Jvm.Cond.methodLink "PictureDesk$Land" (52 : Nat) ({ cls := "PictureDesk$Land", name := "lay", desc := "(LPictureDesk$Thing;[I)V" } : Jvm.MethodName)) ∈ tbl := tb_1 231 rfl rfl
theorem wI_X3_lay : (Jvm.Cond.instanceMethod ({ cls := "PictureDesk$Land", name := "lay", desc := "(LPictureDesk$Thing;[I)V" } : Jvm.MethodName)) ∈ tbl := tb_1 233 rfl rfl
theorem wC_X3_lay : (Jvm.Cond.code ({ cls := "PictureDesk$Land", name := "lay", desc := "(LPictureDesk$Thing;[I)V" } : Jvm.MethodName) prog_5_method_8_code (7 : Nat) (Option.none : Option Jvm.ClassFile.FieldType)) ∈ tbl := tb_1 234 rfl rfl
theorem wM_X3_56 : (Jvm.Cond.methodLink "PictureDesk$Land" (56 : Nat) ({ cls := "PictureDesk$Thing", name := "mark", desc := "(I)I" } : Jvm.MethodName)) ∈ tbl := tb_1 235 rfl rfl
theorem wMN_X3_60 : (Jvm.Cond.methodLinkNest "PictureDesk$Land" (60 : Nat) ({ cls := "PictureDesk", name := "cellOf", desc := "(II)I" } : Jvm.MethodName) "PictureDesk") ∈ tbl := tb_1 236 rfl rfl
theorem wT_X9_cellOf : (Jvm.Cond.static ({ cls := "PictureDesk", name := "cellOf", desc := "(II)I" } : Jvm.MethodName)) ∈ tbl := tb_1 237 rfl rfl
theorem wC_X9_cellOf : (Jvm.Cond.code ({ cls := "PictureDesk", name := "cellOf", desc := "(II)I" } : Jvm.MethodName) prog_1_method_37_code (2 : Nat) (Option.some Jvm.ClassFile.FieldType.int)) ∈ tbl := tb_1 238 rfl rfl
theorem wM_X3_44 : (Jvm.Cond.methodLink "PictureDesk$Land" (44 : Nat) ({ cls := "PictureDesk$Thing", name := "isAbove", desc := "(LPictureDesk$Thing;)Z" } : Jvm.MethodName)) ∈ tbl := tb_1 239 rfl rfl
theorem wI_X6_isAbove : (Jvm.Cond.instanceMethod ({ cls := "PictureDesk$Thing", name := "isAbove", desc := "(LPictureDesk$Thing;)Z" } : Jvm.MethodName)) ∈ tbl := tb_2 0 rfl rfl
theorem wS_X6_isAbove : (Jvm.Cond.selects "PictureDesk$Thing" ({ cls := "PictureDesk$Thing", name := "isAbove", desc := "(LPictureDesk$Thing;)Z" } : Jvm.MethodName) ({ cls := "PictureDesk$Thing", name := "isAbove", desc := "(LPictureDesk$Thing;)Z" } : Jvm.MethodName)) ∈ tbl := tb_2 1 rfl rfl
theorem wC_X6_isAbove : (Jvm.Cond.code ({ cls := "PictureDesk$Thing", name := "isAbove", desc := "(LPictureDesk$Thing;)Z" } : Jvm.MethodName) prog_8_method_7_code (2 : Nat) (Option.some Jvm.ClassFile.FieldType.boolean)) ∈ tbl := tb_2 2 rfl rfl
theorem wM_X3_48 : (Jvm.Cond.methodLink "PictureDesk$Land" (48 : Nat) ({ cls := "PictureDesk$Thing", name := "number", desc := "()I" } : Jvm.MethodName)) ∈ tbl := tb_2 3 rfl rfl
theorem wI_X6_number : (Jvm.Cond.instanceMethod ({ cls := "PictureDesk$Thing", name := "number", desc := "()I" } : Jvm.MethodName)) ∈ tbl := tb_2 4 rfl rfl
theorem wS_X6_number : (Jvm.Cond.selects "PictureDesk$Thing" ({ cls := "PictureDesk$Thing", name := "number", desc := "()I" } : Jvm.MethodName) ({ cls := "PictureDesk$Thing", name := "number", desc := "()I" } : Jvm.MethodName)) ∈ tbl := tb_2 5 rfl rfl
theorem wC_X6_number : (Jvm.Cond.code ({ cls := "PictureDesk$Thing", name := "number", desc := "()I" } : Jvm.MethodName) prog_8_method_2_code (1 : Nat) (Option.some Jvm.ClassFile.FieldType.int)) ∈ tbl := tb_2 6 rfl rfl
theorem wM_X5_47 : (Jvm.Cond.methodLink "PictureDesk$Picture" (47 : Nat) ({ cls := "PictureDesk$Land", name := "find", desc := "(I)LPictureDesk$Thing;" } : Jvm.MethodName)) ∈ tbl := tb_2 7 rfl rfl
theorem wM_X5_51 : (Jvm.Cond.methodLink "PictureDesk$Picture" (51 : Nat) ({ cls := "PictureDesk$Thing", name := "mark", desc := "(I)I" } : Jvm.MethodName)) ∈ tbl := tb_2 8 rfl rfl
theorem wM_X5_57 : (Jvm.Cond.methodLink "PictureDesk$Picture" (57 : Nat) ({ cls := "PictureDesk$Picture", name := "shadowOf", desc := "(I)I" } : Jvm.MethodName)) ∈ tbl := tb_2 9 rfl rfl
theorem wI_X5_shadowOf : (Jvm.Cond.instanceMethod ({ cls := "PictureDesk$Picture", name := "shadowOf", desc := "(I)I" } : Jvm.MethodName)) ∈ tbl := tb_2 11 rfl rfl
theorem wB_X5 : (Jvm.Cond.instantiable "PictureDesk$Picture" (8 : Nat)) ∈ tbl := tb_2 12 rfl rfl
theorem wC_X5_shadowOf : (Jvm.Cond.code ({ cls := "PictureDesk$Picture", name := "shadowOf", desc := "(I)I" } : Jvm.MethodName) prog_7_method_3_code (2 : Nat) (Option.some Jvm.ClassFile.FieldType.int)) ∈ tbl := tb_2 13 rfl rfl
theorem wM_X5_60 : (Jvm.Cond.methodLink "PictureDesk$Picture" (60 : Nat) ({ cls := "PictureDesk$Picture", name := "castShadow", desc := "(II)V" } : Jvm.MethodName)) ∈ tbl := tb_2 14 rfl rfl
theorem wI_X5_castShadow : (Jvm.Cond.instanceMethod ({ cls := "PictureDesk$Picture", name := "castShadow", desc := "(II)V" } : Jvm.MethodName)) ∈ tbl := tb_2 16 rfl rfl
theorem wC_X5_castShadow : (Jvm.Cond.code ({ cls := "PictureDesk$Picture", name := "castShadow", desc := "(II)V" } : Jvm.MethodName) prog_7_method_4_code (7 : Nat) (Option.none : Option Jvm.ClassFile.FieldType)) ∈ tbl := tb_2 17 rfl rfl
theorem wMN_X5_64 : (Jvm.Cond.methodLinkNest "PictureDesk$Picture" (64 : Nat) ({ cls := "PictureDesk", name := "isWithin", desc := "(III)Z" } : Jvm.MethodName) "PictureDesk") ∈ tbl := tb_2 18 rfl rfl
theorem wFN_X5_68 : (Jvm.Cond.fieldLinkNest "PictureDesk$Picture" (68 : Nat) "PictureDesk" "EAST_STEP" "[I" "PictureDesk") ∈ tbl := tb_2 19 rfl rfl
theorem wY_EAST_STEP : (Jvm.Cond.laysStatic "PictureDesk" "EAST_STEP" "[I") ∈ lw_tbl := List.mem_append_right _ (List.mem_append_right _ (List.mem_append_left _ (List.mem_of_getElem? (i := 20) rfl)))
theorem wFN_X5_71 : (Jvm.Cond.fieldLinkNest "PictureDesk$Picture" (71 : Nat) "PictureDesk" "SOUTH_STEP" "[I" "PictureDesk") ∈ tbl := tb_2 21 rfl rfl
theorem wY_SOUTH_STEP : (Jvm.Cond.laysStatic "PictureDesk" "SOUTH_STEP" "[I") ∈ lw_tbl := List.mem_append_right _ (List.mem_append_right _ (List.mem_append_left _ (List.mem_of_getElem? (i := 22) rfl)))
theorem wMN_X5_74 : (Jvm.Cond.methodLinkNest "PictureDesk$Picture" (74 : Nat) ({ cls := "PictureDesk", name := "isOnLand", desc := "(II)Z" } : Jvm.MethodName) "PictureDesk") ∈ tbl := tb_2 23 rfl rfl
theorem wMN_X5_78 : (Jvm.Cond.methodLinkNest "PictureDesk$Picture" (78 : Nat) ({ cls := "PictureDesk", name := "cellOf", desc := "(II)I" } : Jvm.MethodName) "PictureDesk") ∈ tbl := tb_2 24 rfl rfl
theorem wM_L_18 : (Jvm.Cond.methodLink "PictureDeskLaw" (18 : Nat) ({ cls := "PictureDesk", name := "of", desc := "(II)I" } : Jvm.MethodName)) ∈ tbl := tb_2 25 rfl rfl
theorem wI_X9_of : (Jvm.Cond.instanceMethod ({ cls := "PictureDesk", name := "of", desc := "(II)I" } : Jvm.MethodName)) ∈ tbl := tb_2 26 rfl rfl
theorem wS_X9_of : (Jvm.Cond.selects "PictureDesk" ({ cls := "PictureDesk", name := "of", desc := "(II)I" } : Jvm.MethodName) ({ cls := "PictureDesk", name := "of", desc := "(II)I" } : Jvm.MethodName)) ∈ tbl := tb_2 27 rfl rfl
theorem wC_X9_of : (Jvm.Cond.code ({ cls := "PictureDesk", name := "of", desc := "(II)I" } : Jvm.MethodName) prog_1_method_3_code (4 : Nat) (Option.some Jvm.ClassFile.FieldType.int)) ∈ tbl := tb_2 28 rfl rfl
theorem wM_X9_75 : (Jvm.Cond.methodLink "PictureDesk" (75 : Nat) ({ cls := "PictureDesk$Land", name := "find", desc := "(I)LPictureDesk$Thing;" } : Jvm.MethodName)) ∈ tbl := tb_2 29 rfl rfl
theorem wM_X9_79 : (Jvm.Cond.methodLink "PictureDesk" (79 : Nat) ({ cls := "PictureDesk$Thing", name := "mark", desc := "(I)I" } : Jvm.MethodName)) ∈ tbl := tb_2 30 rfl rfl
theorem wM_L_23 : (Jvm.Cond.methodLink "PictureDeskLaw" (23 : Nat) ({ cls := "PictureDesk", name := "set", desc := "(III)I" } : Jvm.MethodName)) ∈ tbl := tb_2 31 rfl rfl
theorem wI_X9_set : (Jvm.Cond.instanceMethod ({ cls := "PictureDesk", name := "set", desc := "(III)I" } : Jvm.MethodName)) ∈ tbl := tb_2 32 rfl rfl
theorem wS_X9_set : (Jvm.Cond.selects "PictureDesk" ({ cls := "PictureDesk", name := "set", desc := "(III)I" } : Jvm.MethodName) ({ cls := "PictureDesk", name := "set", desc := "(III)I" } : Jvm.MethodName)) ∈ tbl := tb_2 33 rfl rfl
theorem wC_X9_set : (Jvm.Cond.code ({ cls := "PictureDesk", name := "set", desc := "(III)I" } : Jvm.MethodName) prog_1_method_4_code (6 : Nat) (Option.some Jvm.ClassFile.FieldType.int)) ∈ tbl := tb_2 34 rfl rfl
theorem wM_X9_85 : (Jvm.Cond.methodLink "PictureDesk" (85 : Nat) ({ cls := "PictureDesk$Thing", name := "remark", desc := "(II)V" } : Jvm.MethodName)) ∈ tbl := tb_2 35 rfl rfl
theorem wI_X6_remark : (Jvm.Cond.instanceMethod ({ cls := "PictureDesk$Thing", name := "remark", desc := "(II)V" } : Jvm.MethodName)) ∈ tbl := tb_2 36 rfl rfl
theorem wS_X6_remark : (Jvm.Cond.selects "PictureDesk$Thing" ({ cls := "PictureDesk$Thing", name := "remark", desc := "(II)V" } : Jvm.MethodName) ({ cls := "PictureDesk$Thing", name := "remark", desc := "(II)V" } : Jvm.MethodName)) ∈ tbl := tb_2 37 rfl rfl
theorem wC_X6_remark : (Jvm.Cond.code ({ cls := "PictureDesk$Thing", name := "remark", desc := "(II)V" } : Jvm.MethodName) prog_8_method_4_code (3 : Nat) (Option.none : Option Jvm.ClassFile.FieldType)) ∈ tbl := tb_2 38 rfl rfl
theorem wM_L_28 : (Jvm.Cond.methodLink "PictureDeskLaw" (28 : Nat) ({ cls := "PictureDesk", name := "at", desc := "(II)I" } : Jvm.MethodName)) ∈ tbl := tb_2 39 rfl rfl
theorem wI_X9_at : (Jvm.Cond.instanceMethod ({ cls := "PictureDesk", name := "at", desc := "(II)I" } : Jvm.MethodName)) ∈ tbl := tb_2 40 rfl rfl
theorem wS_X9_at : (Jvm.Cond.selects "PictureDesk" ({ cls := "PictureDesk", name := "at", desc := "(II)I" } : Jvm.MethodName) ({ cls := "PictureDesk", name := "at", desc := "(II)I" } : Jvm.MethodName)) ∈ tbl := tb_2 41 rfl rfl
theorem wC_X9_at : (Jvm.Cond.code ({ cls := "PictureDesk", name := "at", desc := "(II)I" } : Jvm.MethodName) prog_1_method_5_code (3 : Nat) (Option.some Jvm.ClassFile.FieldType.int)) ∈ tbl := tb_2 42 rfl rfl
theorem wM_X9_89 : (Jvm.Cond.methodLink "PictureDesk" (89 : Nat) ({ cls := "PictureDesk", name := "isCell", desc := "(I)Z" } : Jvm.MethodName)) ∈ tbl := tb_2 43 rfl rfl
theorem wT_X9_isCell : (Jvm.Cond.static ({ cls := "PictureDesk", name := "isCell", desc := "(I)Z" } : Jvm.MethodName)) ∈ tbl := tb_2 44 rfl rfl
theorem wC_X9_isCell : (Jvm.Cond.code ({ cls := "PictureDesk", name := "isCell", desc := "(I)Z" } : Jvm.MethodName) prog_1_method_33_code (1 : Nat) (Option.some Jvm.ClassFile.FieldType.boolean)) ∈ tbl := tb_2 45 rfl rfl
theorem wM_X9_92 : (Jvm.Cond.methodLink "PictureDesk" (92 : Nat) ({ cls := "PictureDesk$Land", name := "counting", desc := "(II)I" } : Jvm.MethodName)) ∈ tbl := tb_2 46 rfl rfl
theorem wI_X3_counting : (Jvm.Cond.instanceMethod ({ cls := "PictureDesk$Land", name := "counting", desc := "(II)I" } : Jvm.MethodName)) ∈ tbl := tb_2 47 rfl rfl
theorem wS_X3_counting : (Jvm.Cond.selects "PictureDesk$Land" ({ cls := "PictureDesk$Land", name := "counting", desc := "(II)I" } : Jvm.MethodName) ({ cls := "PictureDesk$Land", name := "counting", desc := "(II)I" } : Jvm.MethodName)) ∈ tbl := tb_2 48 rfl rfl
theorem wC_X3_counting : (Jvm.Cond.code ({ cls := "PictureDesk$Land", name := "counting", desc := "(II)I" } : Jvm.MethodName) prog_5_method_6_code (6 : Nat) (Option.some Jvm.ClassFile.FieldType.int)) ∈ tbl := tb_2 49 rfl rfl
theorem wM_X3_40 : (Jvm.Cond.methodLink "PictureDesk$Land" (40 : Nat) ({ cls := "PictureDesk$Thing", name := "liesOn", desc := "(II)Z" } : Jvm.MethodName)) ∈ tbl := tb_2 50 rfl rfl
theorem wI_X6_liesOn : (Jvm.Cond.instanceMethod ({ cls := "PictureDesk$Thing", name := "liesOn", desc := "(II)Z" } : Jvm.MethodName)) ∈ tbl := tb_2 51 rfl rfl
theorem wS_X6_liesOn : (Jvm.Cond.selects "PictureDesk$Thing" ({ cls := "PictureDesk$Thing", name := "liesOn", desc := "(II)Z" } : Jvm.MethodName) ({ cls := "PictureDesk$Thing", name := "liesOn", desc := "(II)Z" } : Jvm.MethodName)) ∈ tbl := tb_2 52 rfl rfl
theorem wC_X6_liesOn : (Jvm.Cond.code ({ cls := "PictureDesk$Thing", name := "liesOn", desc := "(II)Z" } : Jvm.MethodName) prog_8_method_6_code (5 : Nat) (Option.some Jvm.ClassFile.FieldType.boolean)) ∈ tbl := tb_2 53 rfl rfl
theorem wM_L_32 : (Jvm.Cond.methodLink "PictureDeskLaw" (32 : Nat) ({ cls := "PictureDesk", name := "picture", desc := "(IIIII)I" } : Jvm.MethodName)) ∈ tbl := tb_2 54 rfl rfl
theorem wI_X9_picture : (Jvm.Cond.instanceMethod ({ cls := "PictureDesk", name := "picture", desc := "(IIIII)I" } : Jvm.MethodName)) ∈ tbl := tb_2 55 rfl rfl
theorem wS_X9_picture : (Jvm.Cond.selects "PictureDesk" ({ cls := "PictureDesk", name := "picture", desc := "(IIIII)I" } : Jvm.MethodName) ({ cls := "PictureDesk", name := "picture", desc := "(IIIII)I" } : Jvm.MethodName)) ∈ tbl := tb_2 56 rfl rfl
theorem wC_X9_picture : (Jvm.Cond.code ({ cls := "PictureDesk", name := "picture", desc := "(IIIII)I" } : Jvm.MethodName) prog_1_method_6_code (7 : Nat) (Option.some Jvm.ClassFile.FieldType.int)) ∈ tbl := tb_2 57 rfl rfl
theorem wM_X9_96 : (Jvm.Cond.methodLink "PictureDesk" (96 : Nat) ({ cls := "PictureDesk", name := "isStrip", desc := "(II)Z" } : Jvm.MethodName)) ∈ tbl := tb_2 58 rfl rfl
theorem wT_X9_isStrip : (Jvm.Cond.static ({ cls := "PictureDesk", name := "isStrip", desc := "(II)Z" } : Jvm.MethodName)) ∈ tbl := tb_2 59 rfl rfl
theorem wC_X9_isStrip : (Jvm.Cond.code ({ cls := "PictureDesk", name := "isStrip", desc := "(II)Z" } : Jvm.MethodName) prog_1_method_35_code (2 : Nat) (Option.some Jvm.ClassFile.FieldType.boolean)) ∈ tbl := tb_2 60 rfl rfl
theorem wM_X9_99 : (Jvm.Cond.methodLink "PictureDesk" (99 : Nat) ({ cls := "PictureDesk$Album", name := "isFull", desc := "()Z" } : Jvm.MethodName)) ∈ tbl := tb_2 61 rfl rfl
theorem wI_X0_isFull : (Jvm.Cond.instanceMethod ({ cls := "PictureDesk$Album", name := "isFull", desc := "()Z" } : Jvm.MethodName)) ∈ tbl := tb_2 62 rfl rfl
theorem wS_X0_isFull : (Jvm.Cond.selects "PictureDesk$Album" ({ cls := "PictureDesk$Album", name := "isFull", desc := "()Z" } : Jvm.MethodName) ({ cls := "PictureDesk$Album", name := "isFull", desc := "()Z" } : Jvm.MethodName)) ∈ tbl := tb_2 63 rfl rfl
theorem wC_X0_isFull : (Jvm.Cond.code ({ cls := "PictureDesk$Album", name := "isFull", desc := "()Z" } : Jvm.MethodName) prog_2_method_3_code (1 : Nat) (Option.some Jvm.ClassFile.FieldType.boolean)) ∈ tbl := tb_2 64 rfl rfl
theorem wL_X9_100 : (Jvm.Cond.classLink "PictureDesk" (100 : Nat) "PictureDesk$Picture") ∈ tbl := tb_2 65 rfl rfl
theorem wM_X9_102 : (Jvm.Cond.methodLink "PictureDesk" (102 : Nat) ({ cls := "PictureDesk$Picture", name := "<init>", desc := "(IIIII)V" } : Jvm.MethodName)) ∈ tbl := tb_2 66 rfl rfl
theorem wI_X5_init : (Jvm.Cond.instanceMethod ({ cls := "PictureDesk$Picture", name := "<init>", desc := "(IIIII)V" } : Jvm.MethodName)) ∈ tbl := tb_2 67 rfl rfl
theorem wC_X5_init : (Jvm.Cond.code ({ cls := "PictureDesk$Picture", name := "<init>", desc := "(IIIII)V" } : Jvm.MethodName) prog_7_method_1_code (6 : Nat) (Option.none : Option Jvm.ClassFile.FieldType)) ∈ tbl := tb_2 68 rfl rfl
theorem wM_X5_3 : (Jvm.Cond.methodLink "PictureDesk$Picture" (3 : Nat) ({ cls := "java/lang/Object", name := "<init>", desc := "()V" } : Jvm.MethodName)) ∈ tbl := tb_2 69 rfl rfl
theorem wL_X5_9 : (Jvm.Cond.classLink "PictureDesk$Picture" (9 : Nat) "PictureDesk$Ticks") ∈ tbl := tb_2 70 rfl rfl
theorem wMN_X5_11 : (Jvm.Cond.methodLinkNest "PictureDesk$Picture" (11 : Nat) ({ cls := "PictureDesk$Ticks", name := "<init>", desc := "()V" } : Jvm.MethodName) "PictureDesk") ∈ tbl := tb_2 71 rfl rfl
theorem wF_X5_25 : (Jvm.Cond.fieldLink "PictureDesk$Picture" (25 : Nat) "PictureDesk$Picture" "from" "I") ∈ tbl := tb_2 72 rfl rfl
theorem wF_X5_29 : (Jvm.Cond.fieldLink "PictureDesk$Picture" (29 : Nat) "PictureDesk$Picture" "to" "I") ∈ tbl := tb_2 73 rfl rfl
theorem wF_X5_32 : (Jvm.Cond.fieldLink "PictureDesk$Picture" (32 : Nat) "PictureDesk$Picture" "day" "I") ∈ tbl := tb_2 74 rfl rfl
theorem wF_X5_35 : (Jvm.Cond.fieldLink "PictureDesk$Picture" (35 : Nat) "PictureDesk$Picture" "sun" "I") ∈ tbl := tb_2 75 rfl rfl
theorem wF_X5_38 : (Jvm.Cond.fieldLink "PictureDesk$Picture" (38 : Nat) "PictureDesk$Picture" "slope" "I") ∈ tbl := tb_2 76 rfl rfl
theorem wF_X5_12 : (Jvm.Cond.fieldLink "PictureDesk$Picture" (12 : Nat) "PictureDesk$Picture" "clouds" "LPictureDesk$Ticks;") ∈ tbl := tb_2 77 rfl rfl
theorem wF_X5_18 : (Jvm.Cond.fieldLink "PictureDesk$Picture" (18 : Nat) "PictureDesk$Picture" "counting" "[I") ∈ tbl := tb_2 78 rfl rfl
theorem wF_X5_22 : (Jvm.Cond.fieldLink "PictureDesk$Picture" (22 : Nat) "PictureDesk$Picture" "looks" "[I") ∈ tbl := tb_2 79 rfl rfl
theorem wM_X9_105 : (Jvm.Cond.methodLink "PictureDesk" (105 : Nat) ({ cls := "PictureDesk$Picture", name := "develop", desc := "(LPictureDesk$Land;)V" } : Jvm.MethodName)) ∈ tbl := tb_2 97 rfl rfl
theorem wM_X9_106 : (Jvm.Cond.methodLink "PictureDesk" (106 : Nat) ({ cls := "PictureDesk$Album", name := "add", desc := "(LPictureDesk$Picture;)I" } : Jvm.MethodName)) ∈ tbl := tb_2 98 rfl rfl
theorem wI_X0_add : (Jvm.Cond.instanceMethod ({ cls := "PictureDesk$Album", name := "add", desc := "(LPictureDesk$Picture;)I" } : Jvm.MethodName)) ∈ tbl := tb_2 99 rfl rfl
theorem wS_X0_add : (Jvm.Cond.selects "PictureDesk$Album" ({ cls := "PictureDesk$Album", name := "add", desc := "(LPictureDesk$Picture;)I" } : Jvm.MethodName) ({ cls := "PictureDesk$Album", name := "add", desc := "(LPictureDesk$Picture;)I" } : Jvm.MethodName)) ∈ tbl := tb_2 100 rfl rfl
theorem wC_X0_add : (Jvm.Cond.code ({ cls := "PictureDesk$Album", name := "add", desc := "(LPictureDesk$Picture;)I" } : Jvm.MethodName) prog_2_method_4_code (2 : Nat) (Option.some Jvm.ClassFile.FieldType.int)) ∈ tbl := tb_2 101 rfl rfl
theorem wM_X0_21 : (Jvm.Cond.methodLink "PictureDesk$Album" (21 : Nat) ({ cls := "PictureDesk$Album", name := "isFull", desc := "()Z" } : Jvm.MethodName)) ∈ tbl := tb_2 102 rfl rfl
theorem wM_L_37 : (Jvm.Cond.methodLink "PictureDeskLaw" (37 : Nat) ({ cls := "PictureDesk", name := "cloud", desc := "(IIZ)I" } : Jvm.MethodName)) ∈ tbl := tb_2 103 rfl rfl
theorem wI_X9_cloud : (Jvm.Cond.instanceMethod ({ cls := "PictureDesk", name := "cloud", desc := "(IIZ)I" } : Jvm.MethodName)) ∈ tbl := tb_2 104 rfl rfl
theorem wS_X9_cloud : (Jvm.Cond.selects "PictureDesk" ({ cls := "PictureDesk", name := "cloud", desc := "(IIZ)I" } : Jvm.MethodName) ({ cls := "PictureDesk", name := "cloud", desc := "(IIZ)I" } : Jvm.MethodName)) ∈ tbl := tb_2 105 rfl rfl
theorem wC_X9_cloud : (Jvm.Cond.code ({ cls := "PictureDesk", name := "cloud", desc := "(IIZ)I" } : Jvm.MethodName) prog_1_method_7_code (5 : Nat) (Option.some Jvm.ClassFile.FieldType.int)) ∈ tbl := tb_2 106 rfl rfl
theorem wM_X9_109 : (Jvm.Cond.methodLink "PictureDesk" (109 : Nat) ({ cls := "PictureDesk$Album", name := "find", desc := "(I)LPictureDesk$Picture;" } : Jvm.MethodName)) ∈ tbl := tb_2 107 rfl rfl
theorem wM_X9_112 : (Jvm.Cond.methodLink "PictureDesk" (112 : Nat) ({ cls := "PictureDesk$Picture", name := "tickCloud", desc := "(IZ)Z" } : Jvm.MethodName)) ∈ tbl := tb_2 108 rfl rfl
theorem wI_X5_tickCloud : (Jvm.Cond.instanceMethod ({ cls := "PictureDesk$Picture", name := "tickCloud", desc := "(IZ)Z" } : Jvm.MethodName)) ∈ tbl := tb_2 109 rfl rfl
theorem wS_X5_tickCloud : (Jvm.Cond.selects "PictureDesk$Picture" ({ cls := "PictureDesk$Picture", name := "tickCloud", desc := "(IZ)Z" } : Jvm.MethodName) ({ cls := "PictureDesk$Picture", name := "tickCloud", desc := "(IZ)Z" } : Jvm.MethodName)) ∈ tbl := tb_2 110 rfl rfl
theorem wC_X5_tickCloud : (Jvm.Cond.code ({ cls := "PictureDesk$Picture", name := "tickCloud", desc := "(IZ)Z" } : Jvm.MethodName) prog_7_method_6_code (3 : Nat) (Option.some Jvm.ClassFile.FieldType.boolean)) ∈ tbl := tb_2 111 rfl rfl
theorem wM_X5_82 : (Jvm.Cond.methodLink "PictureDesk$Picture" (82 : Nat) ({ cls := "PictureDesk$Ticks", name := "put", desc := "(IZ)Z" } : Jvm.MethodName)) ∈ tbl := tb_2 112 rfl rfl
theorem wI_X7_put : (Jvm.Cond.instanceMethod ({ cls := "PictureDesk$Ticks", name := "put", desc := "(IZ)Z" } : Jvm.MethodName)) ∈ tbl := tb_2 113 rfl rfl
theorem wS_X7_put : (Jvm.Cond.selects "PictureDesk$Ticks" ({ cls := "PictureDesk$Ticks", name := "put", desc := "(IZ)Z" } : Jvm.MethodName) ({ cls := "PictureDesk$Ticks", name := "put", desc := "(IZ)Z" } : Jvm.MethodName)) ∈ tbl := tb_2 114 rfl rfl
theorem wC_X7_put : (Jvm.Cond.code ({ cls := "PictureDesk$Ticks", name := "put", desc := "(IZ)Z" } : Jvm.MethodName) prog_9_method_3_code (6 : Nat) (Option.some Jvm.ClassFile.FieldType.boolean)) ∈ tbl := tb_2 115 rfl rfl
theorem wM_X7_16 : (Jvm.Cond.methodLink "PictureDesk$Ticks" (16 : Nat) ({ cls := "PictureDesk$Ticks", name := "has", desc := "(I)Z" } : Jvm.MethodName)) ∈ tbl := tb_2 116 rfl rfl
theorem wI_X7_has : (Jvm.Cond.instanceMethod ({ cls := "PictureDesk$Ticks", name := "has", desc := "(I)Z" } : Jvm.MethodName)) ∈ tbl := tb_2 117 rfl rfl
theorem wS_X7_has : (Jvm.Cond.selects "PictureDesk$Ticks" ({ cls := "PictureDesk$Ticks", name := "has", desc := "(I)Z" } : Jvm.MethodName) ({ cls := "PictureDesk$Ticks", name := "has", desc := "(I)Z" } : Jvm.MethodName)) ∈ tbl := tb_2 118 rfl rfl
theorem wC_X7_has : (Jvm.Cond.code ({ cls := "PictureDesk$Ticks", name := "has", desc := "(I)Z" } : Jvm.MethodName) prog_9_method_2_code (4 : Nat) (Option.some Jvm.ClassFile.FieldType.boolean)) ∈ tbl := tb_2 119 rfl rfl
theorem wM_L_42 : (Jvm.Cond.methodLink "PictureDeskLaw" (42 : Nat) ({ cls := "PictureDesk", name := "shows", desc := "(II)I" } : Jvm.MethodName)) ∈ tbl := tb_2 120 rfl rfl
theorem wI_X9_shows : (Jvm.Cond.instanceMethod ({ cls := "PictureDesk", name := "shows", desc := "(II)I" } : Jvm.MethodName)) ∈ tbl := tb_2 121 rfl rfl
theorem wS_X9_shows : (Jvm.Cond.selects "PictureDesk" ({ cls := "PictureDesk", name := "shows", desc := "(II)I" } : Jvm.MethodName) ({ cls := "PictureDesk", name := "shows", desc := "(II)I" } : Jvm.MethodName)) ∈ tbl := tb_2 122 rfl rfl
theorem wC_X9_shows : (Jvm.Cond.code ({ cls := "PictureDesk", name := "shows", desc := "(II)I" } : Jvm.MethodName) prog_1_method_8_code (4 : Nat) (Option.some Jvm.ClassFile.FieldType.int)) ∈ tbl := tb_2 123 rfl rfl
theorem wM_X9_116 : (Jvm.Cond.methodLink "PictureDesk" (116 : Nat) ({ cls := "PictureDesk$Picture", name := "look", desc := "(I)I" } : Jvm.MethodName)) ∈ tbl := tb_2 124 rfl rfl
theorem wI_X5_look : (Jvm.Cond.instanceMethod ({ cls := "PictureDesk$Picture", name := "look", desc := "(I)I" } : Jvm.MethodName)) ∈ tbl := tb_2 125 rfl rfl
theorem wS_X5_look : (Jvm.Cond.selects "PictureDesk$Picture" ({ cls := "PictureDesk$Picture", name := "look", desc := "(I)I" } : Jvm.MethodName) ({ cls := "PictureDesk$Picture", name := "look", desc := "(I)I" } : Jvm.MethodName)) ∈ tbl := tb_2 126 rfl rfl
theorem wC_X5_look : (Jvm.Cond.code ({ cls := "PictureDesk$Picture", name := "look", desc := "(I)I" } : Jvm.MethodName) prog_7_method_8_code (2 : Nat) (Option.some Jvm.ClassFile.FieldType.int)) ∈ tbl := tb_2 127 rfl rfl
theorem wM_X5_93 : (Jvm.Cond.methodLink "PictureDesk$Picture" (93 : Nat) ({ cls := "PictureDesk$Picture", name := "covers", desc := "(I)Z" } : Jvm.MethodName)) ∈ tbl := tb_2 128 rfl rfl
theorem wI_X5_covers : (Jvm.Cond.instanceMethod ({ cls := "PictureDesk$Picture", name := "covers", desc := "(I)Z" } : Jvm.MethodName)) ∈ tbl := tb_2 129 rfl rfl
theorem wS_X5_covers : (Jvm.Cond.selects "PictureDesk$Picture" ({ cls := "PictureDesk$Picture", name := "covers", desc := "(I)Z" } : Jvm.MethodName) ({ cls := "PictureDesk$Picture", name := "covers", desc := "(I)Z" } : Jvm.MethodName)) ∈ tbl := tb_2 130 rfl rfl
theorem wC_X5_covers : (Jvm.Cond.code ({ cls := "PictureDesk$Picture", name := "covers", desc := "(I)Z" } : Jvm.MethodName) prog_7_method_7_code (2 : Nat) (Option.some Jvm.ClassFile.FieldType.boolean)) ∈ tbl := tb_2 131 rfl rfl
theorem wMN_X5_86 : (Jvm.Cond.methodLinkNest "PictureDesk$Picture" (86 : Nat) ({ cls := "PictureDesk", name := "isCell", desc := "(I)Z" } : Jvm.MethodName) "PictureDesk") ∈ tbl := tb_2 132 rfl rfl
theorem wM_X5_90 : (Jvm.Cond.methodLink "PictureDesk$Picture" (90 : Nat) ({ cls := "PictureDesk$Ticks", name := "has", desc := "(I)Z" } : Jvm.MethodName)) ∈ tbl := tb_2 133 rfl rfl
theorem wM_L_46 : (Jvm.Cond.methodLink "PictureDeskLaw" (46 : Nat) ({ cls := "PictureDesk", name := "count", desc := "(II)I" } : Jvm.MethodName)) ∈ tbl := tb_2 134 rfl rfl
theorem wI_X9_count : (Jvm.Cond.instanceMethod ({ cls := "PictureDesk", name := "count", desc := "(II)I" } : Jvm.MethodName)) ∈ tbl := tb_2 135 rfl rfl
theorem wS_X9_count : (Jvm.Cond.selects "PictureDesk" ({ cls := "PictureDesk", name := "count", desc := "(II)I" } : Jvm.MethodName) ({ cls := "PictureDesk", name := "count", desc := "(II)I" } : Jvm.MethodName)) ∈ tbl := tb_2 136 rfl rfl
theorem wC_X9_count : (Jvm.Cond.code ({ cls := "PictureDesk", name := "count", desc := "(II)I" } : Jvm.MethodName) prog_1_method_9_code (4 : Nat) (Option.some Jvm.ClassFile.FieldType.int)) ∈ tbl := tb_2 137 rfl rfl
theorem wM_X9_119 : (Jvm.Cond.methodLink "PictureDesk" (119 : Nat) ({ cls := "PictureDesk$Picture", name := "tally", desc := "(I)I" } : Jvm.MethodName)) ∈ tbl := tb_2 138 rfl rfl
theorem wI_X5_tally : (Jvm.Cond.instanceMethod ({ cls := "PictureDesk$Picture", name := "tally", desc := "(I)I" } : Jvm.MethodName)) ∈ tbl := tb_2 139 rfl rfl
theorem wS_X5_tally : (Jvm.Cond.selects "PictureDesk$Picture" ({ cls := "PictureDesk$Picture", name := "tally", desc := "(I)I" } : Jvm.MethodName) ({ cls := "PictureDesk$Picture", name := "tally", desc := "(I)I" } : Jvm.MethodName)) ∈ tbl := tb_2 140 rfl rfl
theorem wC_X5_tally : (Jvm.Cond.code ({ cls := "PictureDesk$Picture", name := "tally", desc := "(I)I" } : Jvm.MethodName) prog_7_method_10_code (4 : Nat) (Option.some Jvm.ClassFile.FieldType.int)) ∈ tbl := tb_2 141 rfl rfl
theorem wM_X5_96 : (Jvm.Cond.methodLink "PictureDesk$Picture" (96 : Nat) ({ cls := "PictureDesk$Picture", name := "look", desc := "(I)I" } : Jvm.MethodName)) ∈ tbl := tb_2 142 rfl rfl
theorem wM_X5_99 : (Jvm.Cond.methodLink "PictureDesk$Picture" (99 : Nat) ({ cls := "PictureDesk$Picture", name := "sortOf", desc := "(I)I" } : Jvm.MethodName)) ∈ tbl := tb_2 143 rfl rfl
theorem wT_X5_sortOf : (Jvm.Cond.static ({ cls := "PictureDesk$Picture", name := "sortOf", desc := "(I)I" } : Jvm.MethodName)) ∈ tbl := tb_2 144 rfl rfl
theorem wC_X5_sortOf : (Jvm.Cond.code ({ cls := "PictureDesk$Picture", name := "sortOf", desc := "(I)I" } : Jvm.MethodName) prog_7_method_11_code (1 : Nat) (Option.some Jvm.ClassFile.FieldType.int)) ∈ tbl := tb_2 145 rfl rfl
theorem wM_L_50 : (Jvm.Cond.methodLink "PictureDeskLaw" (50 : Nat) ({ cls := "PictureDesk", name := "span", desc := "(III)I" } : Jvm.MethodName)) ∈ tbl := tb_2 146 rfl rfl
theorem wI_X9_span : (Jvm.Cond.instanceMethod ({ cls := "PictureDesk", name := "span", desc := "(III)I" } : Jvm.MethodName)) ∈ tbl := tb_2 147 rfl rfl
theorem wS_X9_span : (Jvm.Cond.selects "PictureDesk" ({ cls := "PictureDesk", name := "span", desc := "(III)I" } : Jvm.MethodName) ({ cls := "PictureDesk", name := "span", desc := "(III)I" } : Jvm.MethodName)) ∈ tbl := tb_2 148 rfl rfl
theorem wC_X9_span : (Jvm.Cond.code ({ cls := "PictureDesk", name := "span", desc := "(III)I" } : Jvm.MethodName) prog_1_method_10_code (5 : Nat) (Option.some Jvm.ClassFile.FieldType.int)) ∈ tbl := tb_2 149 rfl rfl
theorem wM_X9_122 : (Jvm.Cond.methodLink "PictureDesk" (122 : Nat) ({ cls := "PictureDesk$Picture", name := "leastHeight", desc := "(I)I" } : Jvm.MethodName)) ∈ tbl := tb_2 150 rfl rfl
theorem wI_X5_leastHeight : (Jvm.Cond.instanceMethod ({ cls := "PictureDesk$Picture", name := "leastHeight", desc := "(I)I" } : Jvm.MethodName)) ∈ tbl := tb_2 151 rfl rfl
theorem wS_X5_leastHeight : (Jvm.Cond.selects "PictureDesk$Picture" ({ cls := "PictureDesk$Picture", name := "leastHeight", desc := "(I)I" } : Jvm.MethodName) ({ cls := "PictureDesk$Picture", name := "leastHeight", desc := "(I)I" } : Jvm.MethodName)) ∈ tbl := tb_2 152 rfl rfl
theorem wC_X5_leastHeight : (Jvm.Cond.code ({ cls := "PictureDesk$Picture", name := "leastHeight", desc := "(I)I" } : Jvm.MethodName) prog_7_method_12_code (3 : Nat) (Option.some Jvm.ClassFile.FieldType.int)) ∈ tbl := tb_2 153 rfl rfl
theorem wM_X9_125 : (Jvm.Cond.methodLink "PictureDesk" (125 : Nat) ({ cls := "PictureDesk$Picture", name := "greatestHeight", desc := "(I)I" } : Jvm.MethodName)) ∈ tbl := tb_2 154 rfl rfl
theorem wI_X5_greatestHeight : (Jvm.Cond.instanceMethod ({ cls := "PictureDesk$Picture", name := "greatestHeight", desc := "(I)I" } : Jvm.MethodName)) ∈ tbl := tb_2 155 rfl rfl
theorem wS_X5_greatestHeight : (Jvm.Cond.selects "PictureDesk$Picture" ({ cls := "PictureDesk$Picture", name := "greatestHeight", desc := "(I)I" } : Jvm.MethodName) ({ cls := "PictureDesk$Picture", name := "greatestHeight", desc := "(I)I" } : Jvm.MethodName)) ∈ tbl := tb_2 156 rfl rfl
theorem wC_X5_greatestHeight : (Jvm.Cond.code ({ cls := "PictureDesk$Picture", name := "greatestHeight", desc := "(I)I" } : Jvm.MethodName) prog_7_method_13_code (3 : Nat) (Option.some Jvm.ClassFile.FieldType.int)) ∈ tbl := tb_2 157 rfl rfl
theorem wM_L_54 : (Jvm.Cond.methodLink "PictureDeskLaw" (54 : Nat) ({ cls := "PictureDesk", name := "changed", desc := "(III)I" } : Jvm.MethodName)) ∈ tbl := tb_2 158 rfl rfl
theorem wI_X9_changed : (Jvm.Cond.instanceMethod ({ cls := "PictureDesk", name := "changed", desc := "(III)I" } : Jvm.MethodName)) ∈ tbl := tb_2 159 rfl rfl
theorem wS_X9_changed : (Jvm.Cond.selects "PictureDesk" ({ cls := "PictureDesk", name := "changed", desc := "(III)I" } : Jvm.MethodName) ({ cls := "PictureDesk", name := "changed", desc := "(III)I" } : Jvm.MethodName)) ∈ tbl := tb_2 160 rfl rfl
theorem wC_X9_changed : (Jvm.Cond.code ({ cls := "PictureDesk", name := "changed", desc := "(III)I" } : Jvm.MethodName) prog_1_method_11_code (6 : Nat) (Option.some Jvm.ClassFile.FieldType.int)) ∈ tbl := tb_2 161 rfl rfl
theorem wM_X9_128 : (Jvm.Cond.methodLink "PictureDesk" (128 : Nat) ({ cls := "PictureDesk$Picture", name := "firstUnlike", desc := "(LPictureDesk$Picture;)I" } : Jvm.MethodName)) ∈ tbl := tb_2 162 rfl rfl
theorem wI_X5_firstUnlike : (Jvm.Cond.instanceMethod ({ cls := "PictureDesk$Picture", name := "firstUnlike", desc := "(LPictureDesk$Picture;)I" } : Jvm.MethodName)) ∈ tbl := tb_2 163 rfl rfl
theorem wS_X5_firstUnlike : (Jvm.Cond.selects "PictureDesk$Picture" ({ cls := "PictureDesk$Picture", name := "firstUnlike", desc := "(LPictureDesk$Picture;)I" } : Jvm.MethodName) ({ cls := "PictureDesk$Picture", name := "firstUnlike", desc := "(LPictureDesk$Picture;)I" } : Jvm.MethodName)) ∈ tbl := tb_2 164 rfl rfl
theorem wC_X5_firstUnlike : (Jvm.Cond.code ({ cls := "PictureDesk$Picture", name := "firstUnlike", desc := "(LPictureDesk$Picture;)I" } : Jvm.MethodName) prog_7_method_17_code (3 : Nat) (Option.some Jvm.ClassFile.FieldType.int)) ∈ tbl := tb_2 165 rfl rfl
theorem wM_X5_102 : (Jvm.Cond.methodLink "PictureDesk$Picture" (102 : Nat) ({ cls := "PictureDesk$Picture", name := "isUnlike", desc := "(LPictureDesk$Picture;I)Z" } : Jvm.MethodName)) ∈ tbl := tb_2 166 rfl rfl
theorem wI_X5_isUnlike : (Jvm.Cond.instanceMethod ({ cls := "PictureDesk$Picture", name := "isUnlike", desc := "(LPictureDesk$Picture;I)Z" } : Jvm.MethodName)) ∈ tbl := tb_2 168 rfl rfl
theorem wC_X5_isUnlike : (Jvm.Cond.code ({ cls := "PictureDesk$Picture", name := "isUnlike", desc := "(LPictureDesk$Picture;I)Z" } : Jvm.MethodName) prog_7_method_14_code (3 : Nat) (Option.some Jvm.ClassFile.FieldType.boolean)) ∈ tbl := tb_2 169 rfl rfl
theorem wM_X9_131 : (Jvm.Cond.methodLink "PictureDesk" (131 : Nat) ({ cls := "PictureDesk$Picture", name := "unlike", desc := "(LPictureDesk$Picture;)I" } : Jvm.MethodName)) ∈ tbl := tb_2 170 rfl rfl
theorem wI_X5_unlike : (Jvm.Cond.instanceMethod ({ cls := "PictureDesk$Picture", name := "unlike", desc := "(LPictureDesk$Picture;)I" } : Jvm.MethodName)) ∈ tbl := tb_2 171 rfl rfl
theorem wS_X5_unlike : (Jvm.Cond.selects "PictureDesk$Picture" ({ cls := "PictureDesk$Picture", name := "unlike", desc := "(LPictureDesk$Picture;)I" } : Jvm.MethodName) ({ cls := "PictureDesk$Picture", name := "unlike", desc := "(LPictureDesk$Picture;)I" } : Jvm.MethodName)) ∈ tbl := tb_2 172 rfl rfl
theorem wC_X5_unlike : (Jvm.Cond.code ({ cls := "PictureDesk$Picture", name := "unlike", desc := "(LPictureDesk$Picture;)I" } : Jvm.MethodName) prog_7_method_15_code (4 : Nat) (Option.some Jvm.ClassFile.FieldType.int)) ∈ tbl := tb_2 173 rfl rfl
theorem wM_X9_134 : (Jvm.Cond.methodLink "PictureDesk" (134 : Nat) ({ cls := "PictureDesk$Picture", name := "unlikeByHour", desc := "(LPictureDesk$Picture;)I" } : Jvm.MethodName)) ∈ tbl := tb_2 174 rfl rfl
theorem wI_X5_unlikeByHour : (Jvm.Cond.instanceMethod ({ cls := "PictureDesk$Picture", name := "unlikeByHour", desc := "(LPictureDesk$Picture;)I" } : Jvm.MethodName)) ∈ tbl := tb_2 175 rfl rfl
theorem wS_X5_unlikeByHour : (Jvm.Cond.selects "PictureDesk$Picture" ({ cls := "PictureDesk$Picture", name := "unlikeByHour", desc := "(LPictureDesk$Picture;)I" } : Jvm.MethodName) ({ cls := "PictureDesk$Picture", name := "unlikeByHour", desc := "(LPictureDesk$Picture;)I" } : Jvm.MethodName)) ∈ tbl := tb_2 176 rfl rfl
theorem wC_X5_unlikeByHour : (Jvm.Cond.code ({ cls := "PictureDesk$Picture", name := "unlikeByHour", desc := "(LPictureDesk$Picture;)I" } : Jvm.MethodName) prog_7_method_16_code (5 : Nat) (Option.some Jvm.ClassFile.FieldType.int)) ∈ tbl := tb_2 177 rfl rfl
theorem wM_L_58 : (Jvm.Cond.methodLink "PictureDeskLaw" (58 : Nat) ({ cls := "PictureDesk", name := "say", desc := "(I)I" } : Jvm.MethodName)) ∈ tbl := tb_2 178 rfl rfl
theorem wI_X9_say : (Jvm.Cond.instanceMethod ({ cls := "PictureDesk", name := "say", desc := "(I)I" } : Jvm.MethodName)) ∈ tbl := tb_2 179 rfl rfl
theorem wS_X9_say : (Jvm.Cond.selects "PictureDesk" ({ cls := "PictureDesk", name := "say", desc := "(I)I" } : Jvm.MethodName) ({ cls := "PictureDesk", name := "say", desc := "(I)I" } : Jvm.MethodName)) ∈ tbl := tb_2 180 rfl rfl
theorem wC_X9_say : (Jvm.Cond.code ({ cls := "PictureDesk", name := "say", desc := "(I)I" } : Jvm.MethodName) prog_1_method_12_code (2 : Nat) (Option.some Jvm.ClassFile.FieldType.int)) ∈ tbl := tb_2 181 rfl rfl
theorem wM_X9_137 : (Jvm.Cond.methodLink "PictureDesk" (137 : Nat) ({ cls := "PictureDesk$Uses", name := "append", desc := "(I)I" } : Jvm.MethodName)) ∈ tbl := tb_2 182 rfl rfl
theorem wI_X8_append : (Jvm.Cond.instanceMethod ({ cls := "PictureDesk$Uses", name := "append", desc := "(I)I" } : Jvm.MethodName)) ∈ tbl := tb_2 183 rfl rfl
theorem wS_X8_append : (Jvm.Cond.selects "PictureDesk$Uses" ({ cls := "PictureDesk$Uses", name := "append", desc := "(I)I" } : Jvm.MethodName) ({ cls := "PictureDesk$Uses", name := "append", desc := "(I)I" } : Jvm.MethodName)) ∈ tbl := tb_2 184 rfl rfl
theorem wC_X8_append : (Jvm.Cond.code ({ cls := "PictureDesk$Uses", name := "append", desc := "(I)I" } : Jvm.MethodName) prog_10_method_3_code (2 : Nat) (Option.some Jvm.ClassFile.FieldType.int)) ∈ tbl := tb_2 185 rfl rfl
theorem wM_L_63 : (Jvm.Cond.methodLink "PictureDeskLaw" (63 : Nat) ({ cls := "PictureDesk", name := "wipe", desc := "()I" } : Jvm.MethodName)) ∈ tbl := tb_2 186 rfl rfl
theorem wI_X9_wipe : (Jvm.Cond.instanceMethod ({ cls := "PictureDesk", name := "wipe", desc := "()I" } : Jvm.MethodName)) ∈ tbl := tb_2 187 rfl rfl
theorem wS_X9_wipe : (Jvm.Cond.selects "PictureDesk" ({ cls := "PictureDesk", name := "wipe", desc := "()I" } : Jvm.MethodName) ({ cls := "PictureDesk", name := "wipe", desc := "()I" } : Jvm.MethodName)) ∈ tbl := tb_2 188 rfl rfl
theorem wC_X9_wipe : (Jvm.Cond.code ({ cls := "PictureDesk", name := "wipe", desc := "()I" } : Jvm.MethodName) prog_1_method_13_code (1 : Nat) (Option.some Jvm.ClassFile.FieldType.int)) ∈ tbl := tb_2 189 rfl rfl
theorem wM_X9_140 : (Jvm.Cond.methodLink "PictureDesk" (140 : Nat) ({ cls := "PictureDesk$Uses", name := "clear", desc := "()I" } : Jvm.MethodName)) ∈ tbl := tb_2 190 rfl rfl
theorem wI_X8_clear : (Jvm.Cond.instanceMethod ({ cls := "PictureDesk$Uses", name := "clear", desc := "()I" } : Jvm.MethodName)) ∈ tbl := tb_2 191 rfl rfl
theorem wS_X8_clear : (Jvm.Cond.selects "PictureDesk$Uses" ({ cls := "PictureDesk$Uses", name := "clear", desc := "()I" } : Jvm.MethodName) ({ cls := "PictureDesk$Uses", name := "clear", desc := "()I" } : Jvm.MethodName)) ∈ tbl := tb_2 192 rfl rfl
theorem wC_X8_clear : (Jvm.Cond.code ({ cls := "PictureDesk$Uses", name := "clear", desc := "()I" } : Jvm.MethodName) prog_10_method_4_code (2 : Nat) (Option.some Jvm.ClassFile.FieldType.int)) ∈ tbl := tb_2 193 rfl rfl
theorem wM_L_68 : (Jvm.Cond.methodLink "PictureDeskLaw" (68 : Nat) ({ cls := "PictureDesk", name := "fault", desc := "()I" } : Jvm.MethodName)) ∈ tbl := tb_2 194 rfl rfl
theorem wI_X9_fault : (Jvm.Cond.instanceMethod ({ cls := "PictureDesk", name := "fault", desc := "()I" } : Jvm.MethodName)) ∈ tbl := tb_2 195 rfl rfl
theorem wS_X9_fault : (Jvm.Cond.selects "PictureDesk" ({ cls := "PictureDesk", name := "fault", desc := "()I" } : Jvm.MethodName) ({ cls := "PictureDesk", name := "fault", desc := "()I" } : Jvm.MethodName)) ∈ tbl := tb_2 196 rfl rfl
theorem wC_X9_fault : (Jvm.Cond.code ({ cls := "PictureDesk", name := "fault", desc := "()I" } : Jvm.MethodName) prog_1_method_14_code (1 : Nat) (Option.some Jvm.ClassFile.FieldType.int)) ∈ tbl := tb_2 197 rfl rfl
theorem wM_X9_144 : (Jvm.Cond.methodLink "PictureDesk" (144 : Nat) ({ cls := "PictureDesk$Uses", name := "firstFault", desc := "()I" } : Jvm.MethodName)) ∈ tbl := tb_2 198 rfl rfl
theorem wI_X8_firstFault : (Jvm.Cond.instanceMethod ({ cls := "PictureDesk$Uses", name := "firstFault", desc := "()I" } : Jvm.MethodName)) ∈ tbl := tb_2 199 rfl rfl
theorem wS_X8_firstFault : (Jvm.Cond.selects "PictureDesk$Uses" ({ cls := "PictureDesk$Uses", name := "firstFault", desc := "()I" } : Jvm.MethodName) ({ cls := "PictureDesk$Uses", name := "firstFault", desc := "()I" } : Jvm.MethodName)) ∈ tbl := tb_2 200 rfl rfl
theorem wC_X8_firstFault : (Jvm.Cond.code ({ cls := "PictureDesk$Uses", name := "firstFault", desc := "()I" } : Jvm.MethodName) prog_10_method_5_code (3 : Nat) (Option.some Jvm.ClassFile.FieldType.int)) ∈ tbl := tb_2 201 rfl rfl
theorem wM_X8_27 : (Jvm.Cond.methodLink "PictureDesk$Uses" (27 : Nat) ({ cls := "PictureDesk$Uses", name := "behind", desc := "(II)I" } : Jvm.MethodName)) ∈ tbl := tb_2 202 rfl rfl
theorem wT_X8_behind : (Jvm.Cond.static ({ cls := "PictureDesk$Uses", name := "behind", desc := "(II)I" } : Jvm.MethodName)) ∈ tbl := tb_2 203 rfl rfl
theorem wC_X8_behind : (Jvm.Cond.code ({ cls := "PictureDesk$Uses", name := "behind", desc := "(II)I" } : Jvm.MethodName) prog_10_method_6_code (2 : Nat) (Option.some Jvm.ClassFile.FieldType.int)) ∈ tbl := tb_2 204 rfl rfl
theorem wM_X8_31 : (Jvm.Cond.methodLink "PictureDesk$Uses" (31 : Nat) ({ cls := "PictureDesk$Uses", name := "behindFact", desc := "(I)I" } : Jvm.MethodName)) ∈ tbl := tb_2 205 rfl rfl
theorem wT_X8_behindFact : (Jvm.Cond.static ({ cls := "PictureDesk$Uses", name := "behindFact", desc := "(I)I" } : Jvm.MethodName)) ∈ tbl := tb_2 206 rfl rfl
theorem wC_X8_behindFact : (Jvm.Cond.code ({ cls := "PictureDesk$Uses", name := "behindFact", desc := "(I)I" } : Jvm.MethodName) prog_10_method_7_code (1 : Nat) (Option.some Jvm.ClassFile.FieldType.int)) ∈ tbl := tb_2 207 rfl rfl
theorem wMN_X8_35 : (Jvm.Cond.methodLinkNest "PictureDesk$Uses" (35 : Nat) ({ cls := "PictureDesk", name := "isWithin", desc := "(III)Z" } : Jvm.MethodName) "PictureDesk") ∈ tbl := tb_2 208 rfl rfl
theorem wM_X8_39 : (Jvm.Cond.methodLink "PictureDesk$Uses" (39 : Nat) ({ cls := "PictureDesk$Uses", name := "isDigit", desc := "(I)Z" } : Jvm.MethodName)) ∈ tbl := tb_2 209 rfl rfl
theorem wT_X8_isDigit : (Jvm.Cond.static ({ cls := "PictureDesk$Uses", name := "isDigit", desc := "(I)Z" } : Jvm.MethodName)) ∈ tbl := tb_2 210 rfl rfl
theorem wC_X8_isDigit : (Jvm.Cond.code ({ cls := "PictureDesk$Uses", name := "isDigit", desc := "(I)Z" } : Jvm.MethodName) prog_10_method_9_code (1 : Nat) (Option.some Jvm.ClassFile.FieldType.boolean)) ∈ tbl := tb_2 211 rfl rfl
theorem wM_X8_43 : (Jvm.Cond.methodLink "PictureDesk$Uses" (43 : Nat) ({ cls := "PictureDesk$Uses", name := "behindJoint", desc := "(I)I" } : Jvm.MethodName)) ∈ tbl := tb_2 212 rfl rfl
theorem wT_X8_behindJoint : (Jvm.Cond.static ({ cls := "PictureDesk$Uses", name := "behindJoint", desc := "(I)I" } : Jvm.MethodName)) ∈ tbl := tb_2 213 rfl rfl
theorem wC_X8_behindJoint : (Jvm.Cond.code ({ cls := "PictureDesk$Uses", name := "behindJoint", desc := "(I)I" } : Jvm.MethodName) prog_10_method_8_code (1 : Nat) (Option.some Jvm.ClassFile.FieldType.int)) ∈ tbl := tb_2 214 rfl rfl
theorem wM_L_72 : (Jvm.Cond.methodLink "PictureDeskLaw" (72 : Nat) ({ cls := "PictureDesk", name := "use", desc := "(I)I" } : Jvm.MethodName)) ∈ tbl := tb_2 215 rfl rfl
theorem wI_X9_use : (Jvm.Cond.instanceMethod ({ cls := "PictureDesk", name := "use", desc := "(I)I" } : Jvm.MethodName)) ∈ tbl := tb_2 216 rfl rfl
theorem wS_X9_use : (Jvm.Cond.selects "PictureDesk" ({ cls := "PictureDesk", name := "use", desc := "(I)I" } : Jvm.MethodName) ({ cls := "PictureDesk", name := "use", desc := "(I)I" } : Jvm.MethodName)) ∈ tbl := tb_2 217 rfl rfl
theorem wC_X9_use : (Jvm.Cond.code ({ cls := "PictureDesk", name := "use", desc := "(I)I" } : Jvm.MethodName) prog_1_method_15_code (3 : Nat) (Option.some Jvm.ClassFile.FieldType.int)) ∈ tbl := tb_2 218 rfl rfl
theorem wM_X9_147 : (Jvm.Cond.methodLink "PictureDesk" (147 : Nat) ({ cls := "PictureDesk$Uses", name := "isPlace", desc := "(I)Z" } : Jvm.MethodName)) ∈ tbl := tb_2 219 rfl rfl
theorem wI_X8_isPlace : (Jvm.Cond.instanceMethod ({ cls := "PictureDesk$Uses", name := "isPlace", desc := "(I)Z" } : Jvm.MethodName)) ∈ tbl := tb_2 220 rfl rfl
theorem wS_X8_isPlace : (Jvm.Cond.selects "PictureDesk$Uses" ({ cls := "PictureDesk$Uses", name := "isPlace", desc := "(I)Z" } : Jvm.MethodName) ({ cls := "PictureDesk$Uses", name := "isPlace", desc := "(I)Z" } : Jvm.MethodName)) ∈ tbl := tb_2 221 rfl rfl
theorem wC_X8_isPlace : (Jvm.Cond.code ({ cls := "PictureDesk$Uses", name := "isPlace", desc := "(I)Z" } : Jvm.MethodName) prog_10_method_10_code (2 : Nat) (Option.some Jvm.ClassFile.FieldType.boolean)) ∈ tbl := tb_2 222 rfl rfl
theorem wM_X9_150 : (Jvm.Cond.methodLink "PictureDesk" (150 : Nat) ({ cls := "PictureDesk$Uses", name := "has", desc := "(I)Z" } : Jvm.MethodName)) ∈ tbl := tb_2 223 rfl rfl
theorem wI_X8_has : (Jvm.Cond.instanceMethod ({ cls := "PictureDesk$Uses", name := "has", desc := "(I)Z" } : Jvm.MethodName)) ∈ tbl := tb_2 224 rfl rfl
theorem wS_X8_has : (Jvm.Cond.selects "PictureDesk$Uses" ({ cls := "PictureDesk$Uses", name := "has", desc := "(I)Z" } : Jvm.MethodName) ({ cls := "PictureDesk$Uses", name := "has", desc := "(I)Z" } : Jvm.MethodName)) ∈ tbl := tb_2 225 rfl rfl
theorem wC_X8_has : (Jvm.Cond.code ({ cls := "PictureDesk$Uses", name := "has", desc := "(I)Z" } : Jvm.MethodName) prog_10_method_11_code (2 : Nat) (Option.some Jvm.ClassFile.FieldType.boolean)) ∈ tbl := tb_2 226 rfl rfl
theorem wM_X8_46 : (Jvm.Cond.methodLink "PictureDesk$Uses" (46 : Nat) ({ cls := "PictureDesk$Uses", name := "isPlace", desc := "(I)Z" } : Jvm.MethodName)) ∈ tbl := tb_2 227 rfl rfl
theorem wM_X9_153 : (Jvm.Cond.methodLink "PictureDesk" (153 : Nat) ({ cls := "PictureDesk$Uses", name := "keep", desc := "(I)V" } : Jvm.MethodName)) ∈ tbl := tb_2 228 rfl rfl
theorem wI_X8_keep : (Jvm.Cond.instanceMethod ({ cls := "PictureDesk$Uses", name := "keep", desc := "(I)V" } : Jvm.MethodName)) ∈ tbl := tb_2 229 rfl rfl
theorem wS_X8_keep : (Jvm.Cond.selects "PictureDesk$Uses" ({ cls := "PictureDesk$Uses", name := "keep", desc := "(I)V" } : Jvm.MethodName) ({ cls := "PictureDesk$Uses", name := "keep", desc := "(I)V" } : Jvm.MethodName)) ∈ tbl := tb_2 230 rfl rfl
theorem wC_X8_keep : (Jvm.Cond.code ({ cls := "PictureDesk$Uses", name := "keep", desc := "(I)V" } : Jvm.MethodName) prog_10_method_12_code (3 : Nat) (Option.none : Option Jvm.ClassFile.FieldType)) ∈ tbl := tb_2 231 rfl rfl
theorem wM_L_76 : (Jvm.Cond.methodLink "PictureDeskLaw" (76 : Nat) ({ cls := "PictureDesk", name := "fact", desc := "(III)I" } : Jvm.MethodName)) ∈ tbl := tb_2 232 rfl rfl
theorem wI_X9_fact : (Jvm.Cond.instanceMethod ({ cls := "PictureDesk", name := "fact", desc := "(III)I" } : Jvm.MethodName)) ∈ tbl := tb_2 233 rfl rfl
theorem wS_X9_fact : (Jvm.Cond.selects "PictureDesk" ({ cls := "PictureDesk", name := "fact", desc := "(III)I" } : Jvm.MethodName) ({ cls := "PictureDesk", name := "fact", desc := "(III)I" } : Jvm.MethodName)) ∈ tbl := tb_2 234 rfl rfl
theorem wC_X9_fact : (Jvm.Cond.code ({ cls := "PictureDesk", name := "fact", desc := "(III)I" } : Jvm.MethodName) prog_1_method_16_code (5 : Nat) (Option.some Jvm.ClassFile.FieldType.int)) ∈ tbl := tb_2 235 rfl rfl
theorem wM_X9_157 : (Jvm.Cond.methodLink "PictureDesk" (157 : Nat) ({ cls := "PictureDesk$Facts", name := "learn", desc := "(LPictureDesk$Thing;LPictureDesk$Album;I)V" } : Jvm.MethodName)) ∈ tbl := tb_2 236 rfl rfl
theorem wI_X1_learn : (Jvm.Cond.instanceMethod ({ cls := "PictureDesk$Facts", name := "learn", desc := "(LPictureDesk$Thing;LPictureDesk$Album;I)V" } : Jvm.MethodName)) ∈ tbl := tb_2 237 rfl rfl
theorem wS_X1_learn : (Jvm.Cond.selects "PictureDesk$Facts" ({ cls := "PictureDesk$Facts", name := "learn", desc := "(LPictureDesk$Thing;LPictureDesk$Album;I)V" } : Jvm.MethodName) ({ cls := "PictureDesk$Facts", name := "learn", desc := "(LPictureDesk$Thing;LPictureDesk$Album;I)V" } : Jvm.MethodName)) ∈ tbl := tb_2 238 rfl rfl
theorem wC_X1_learn : (Jvm.Cond.code ({ cls := "PictureDesk$Facts", name := "learn", desc := "(LPictureDesk$Thing;LPictureDesk$Album;I)V" } : Jvm.MethodName) prog_3_method_3_code (8 : Nat) (Option.none : Option Jvm.ClassFile.FieldType)) ∈ tbl := tb_2 239 rfl rfl
theorem wM_X1_15 : (Jvm.Cond.methodLink "PictureDesk$Facts" (15 : Nat) ({ cls := "PictureDesk$Thing", name := "distance", desc := "(II)I" } : Jvm.MethodName)) ∈ tbl := tb_3 0 rfl rfl
theorem wI_X6_distance : (Jvm.Cond.instanceMethod ({ cls := "PictureDesk$Thing", name := "distance", desc := "(II)I" } : Jvm.MethodName)) ∈ tbl := tb_3 1 rfl rfl
theorem wS_X6_distance : (Jvm.Cond.selects "PictureDesk$Thing" ({ cls := "PictureDesk$Thing", name := "distance", desc := "(II)I" } : Jvm.MethodName) ({ cls := "PictureDesk$Thing", name := "distance", desc := "(II)I" } : Jvm.MethodName)) ∈ tbl := tb_3 2 rfl rfl
theorem wC_X6_distance : (Jvm.Cond.code ({ cls := "PictureDesk$Thing", name := "distance", desc := "(II)I" } : Jvm.MethodName) prog_8_method_9_code (3 : Nat) (Option.some Jvm.ClassFile.FieldType.int)) ∈ tbl := tb_3 3 rfl rfl
theorem wM_X6_38 : (Jvm.Cond.methodLink "PictureDesk$Thing" (38 : Nat) ({ cls := "java/lang/Math", name := "abs", desc := "(I)I" } : Jvm.MethodName)) ∈ tbl := tb_3 4 rfl rfl
theorem wT_J9_abs_0f7a4 : (Jvm.Cond.static ({ cls := "java/lang/Math", name := "abs", desc := "(I)I" } : Jvm.MethodName)) ∈ tbl := tb_3 5 rfl rfl
theorem wC_J9_abs_0f7a4 : (Jvm.Cond.code ({ cls := "java/lang/Math", name := "abs", desc := "(I)I" } : Jvm.MethodName) prog_13_method_59_code (1 : Nat) (Option.some Jvm.ClassFile.FieldType.int)) ∈ tbl := tb_3 6 rfl rfl
theorem wM_X1_21 : (Jvm.Cond.methodLink "PictureDesk$Facts" (21 : Nat) ({ cls := "PictureDesk$Facts", name := "lookAt", desc := "(IILPictureDesk$Thing;LPictureDesk$Album;I)V" } : Jvm.MethodName)) ∈ tbl := tb_3 7 rfl rfl
theorem wI_X1_lookAt : (Jvm.Cond.instanceMethod ({ cls := "PictureDesk$Facts", name := "lookAt", desc := "(IILPictureDesk$Thing;LPictureDesk$Album;I)V" } : Jvm.MethodName)) ∈ tbl := tb_3 9 rfl rfl
theorem wC_X1_lookAt : (Jvm.Cond.code ({ cls := "PictureDesk$Facts", name := "lookAt", desc := "(IILPictureDesk$Thing;LPictureDesk$Album;I)V" } : Jvm.MethodName) prog_3_method_4_code (9 : Nat) (Option.none : Option Jvm.ClassFile.FieldType)) ∈ tbl := tb_3 10 rfl rfl
theorem wM_X1_39 : (Jvm.Cond.methodLink "PictureDesk$Facts" (39 : Nat) ({ cls := "PictureDesk$Album", name := "size", desc := "()I" } : Jvm.MethodName)) ∈ tbl := tb_3 11 rfl rfl
theorem wI_X0_size : (Jvm.Cond.instanceMethod ({ cls := "PictureDesk$Album", name := "size", desc := "()I" } : Jvm.MethodName)) ∈ tbl := tb_3 12 rfl rfl
theorem wS_X0_size : (Jvm.Cond.selects "PictureDesk$Album" ({ cls := "PictureDesk$Album", name := "size", desc := "()I" } : Jvm.MethodName) ({ cls := "PictureDesk$Album", name := "size", desc := "()I" } : Jvm.MethodName)) ∈ tbl := tb_3 13 rfl rfl
theorem wC_X0_size : (Jvm.Cond.code ({ cls := "PictureDesk$Album", name := "size", desc := "()I" } : Jvm.MethodName) prog_2_method_2_code (1 : Nat) (Option.some Jvm.ClassFile.FieldType.int)) ∈ tbl := tb_3 14 rfl rfl
theorem wM_X1_45 : (Jvm.Cond.methodLink "PictureDesk$Facts" (45 : Nat) ({ cls := "PictureDesk$Album", name := "find", desc := "(I)LPictureDesk$Picture;" } : Jvm.MethodName)) ∈ tbl := tb_3 15 rfl rfl
theorem wM_X1_49 : (Jvm.Cond.methodLink "PictureDesk$Facts" (49 : Nat) ({ cls := "PictureDesk$Picture", name := "day", desc := "()I" } : Jvm.MethodName)) ∈ tbl := tb_3 16 rfl rfl
theorem wI_X5_day : (Jvm.Cond.instanceMethod ({ cls := "PictureDesk$Picture", name := "day", desc := "()I" } : Jvm.MethodName)) ∈ tbl := tb_3 17 rfl rfl
theorem wS_X5_day : (Jvm.Cond.selects "PictureDesk$Picture" ({ cls := "PictureDesk$Picture", name := "day", desc := "()I" } : Jvm.MethodName) ({ cls := "PictureDesk$Picture", name := "day", desc := "()I" } : Jvm.MethodName)) ∈ tbl := tb_3 18 rfl rfl
theorem wC_X5_day : (Jvm.Cond.code ({ cls := "PictureDesk$Picture", name := "day", desc := "()I" } : Jvm.MethodName) prog_7_method_5_code (1 : Nat) (Option.some Jvm.ClassFile.FieldType.int)) ∈ tbl := tb_3 19 rfl rfl
theorem wM_X1_54 : (Jvm.Cond.methodLink "PictureDesk$Facts" (54 : Nat) ({ cls := "PictureDesk$Picture", name := "look", desc := "(I)I" } : Jvm.MethodName)) ∈ tbl := tb_3 20 rfl rfl
theorem wM_X1_57 : (Jvm.Cond.methodLink "PictureDesk$Facts" (57 : Nat) ({ cls := "PictureDesk$Picture", name := "counting", desc := "(I)I" } : Jvm.MethodName)) ∈ tbl := tb_3 21 rfl rfl
theorem wI_X5_counting : (Jvm.Cond.instanceMethod ({ cls := "PictureDesk$Picture", name := "counting", desc := "(I)I" } : Jvm.MethodName)) ∈ tbl := tb_3 22 rfl rfl
theorem wS_X5_counting : (Jvm.Cond.selects "PictureDesk$Picture" ({ cls := "PictureDesk$Picture", name := "counting", desc := "(I)I" } : Jvm.MethodName) ({ cls := "PictureDesk$Picture", name := "counting", desc := "(I)I" } : Jvm.MethodName)) ∈ tbl := tb_3 23 rfl rfl
theorem wC_X5_counting : (Jvm.Cond.code ({ cls := "PictureDesk$Picture", name := "counting", desc := "(I)I" } : Jvm.MethodName) prog_7_method_9_code (2 : Nat) (Option.some Jvm.ClassFile.FieldType.int)) ∈ tbl := tb_3 24 rfl rfl
theorem wM_X1_60 : (Jvm.Cond.methodLink "PictureDesk$Facts" (60 : Nat) ({ cls := "PictureDesk$Thing", name := "number", desc := "()I" } : Jvm.MethodName)) ∈ tbl := tb_3 25 rfl rfl
theorem wM_X1_63 : (Jvm.Cond.methodLink "PictureDesk$Facts" (63 : Nat) ({ cls := "PictureDesk$Facts", name := "comeNearer", desc := "(II)V" } : Jvm.MethodName)) ∈ tbl := tb_3 26 rfl rfl
theorem wI_X1_comeNearer : (Jvm.Cond.instanceMethod ({ cls := "PictureDesk$Facts", name := "comeNearer", desc := "(II)V" } : Jvm.MethodName)) ∈ tbl := tb_3 28 rfl rfl
theorem wC_X1_comeNearer : (Jvm.Cond.code ({ cls := "PictureDesk$Facts", name := "comeNearer", desc := "(II)V" } : Jvm.MethodName) prog_3_method_5_code (3 : Nat) (Option.none : Option Jvm.ClassFile.FieldType)) ∈ tbl := tb_3 29 rfl rfl
theorem wM_X1_32 : (Jvm.Cond.methodLink "PictureDesk$Facts" (32 : Nat) ({ cls := "PictureDesk$Thing", name := "mark", desc := "(I)I" } : Jvm.MethodName)) ∈ tbl := tb_3 30 rfl rfl
theorem wM_X1_36 : (Jvm.Cond.methodLink "PictureDesk$Facts" (36 : Nat) ({ cls := "PictureDesk$Facts", name := "ruleOutTheRest", desc := "()V" } : Jvm.MethodName)) ∈ tbl := tb_3 31 rfl rfl
theorem wI_X1_ruleOutTheRest : (Jvm.Cond.instanceMethod ({ cls := "PictureDesk$Facts", name := "ruleOutTheRest", desc := "()V" } : Jvm.MethodName)) ∈ tbl := tb_3 33 rfl rfl
theorem wC_X1_ruleOutTheRest : (Jvm.Cond.code ({ cls := "PictureDesk$Facts", name := "ruleOutTheRest", desc := "()V" } : Jvm.MethodName) prog_3_method_6_code (2 : Nat) (Option.none : Option Jvm.ClassFile.FieldType)) ∈ tbl := tb_3 34 rfl rfl
theorem wM_X9_161 : (Jvm.Cond.methodLink "PictureDesk" (161 : Nat) ({ cls := "PictureDesk$Facts", name := "known", desc := "(I)I" } : Jvm.MethodName)) ∈ tbl := tb_3 35 rfl rfl
theorem wI_X1_known : (Jvm.Cond.instanceMethod ({ cls := "PictureDesk$Facts", name := "known", desc := "(I)I" } : Jvm.MethodName)) ∈ tbl := tb_3 36 rfl rfl
theorem wS_X1_known : (Jvm.Cond.selects "PictureDesk$Facts" ({ cls := "PictureDesk$Facts", name := "known", desc := "(I)I" } : Jvm.MethodName) ({ cls := "PictureDesk$Facts", name := "known", desc := "(I)I" } : Jvm.MethodName)) ∈ tbl := tb_3 37 rfl rfl
theorem wC_X1_known : (Jvm.Cond.code ({ cls := "PictureDesk$Facts", name := "known", desc := "(I)I" } : Jvm.MethodName) prog_3_method_2_code (2 : Nat) (Option.some Jvm.ClassFile.FieldType.int)) ∈ tbl := tb_3 38 rfl rfl
theorem wM_L_80 : (Jvm.Cond.methodLink "PictureDeskLaw" (80 : Nat) ({ cls := "PictureDesk", name := "fit", desc := "(III)I" } : Jvm.MethodName)) ∈ tbl := tb_3 39 rfl rfl
theorem wI_X9_fit : (Jvm.Cond.instanceMethod ({ cls := "PictureDesk", name := "fit", desc := "(III)I" } : Jvm.MethodName)) ∈ tbl := tb_3 40 rfl rfl
theorem wS_X9_fit : (Jvm.Cond.selects "PictureDesk" ({ cls := "PictureDesk", name := "fit", desc := "(III)I" } : Jvm.MethodName) ({ cls := "PictureDesk", name := "fit", desc := "(III)I" } : Jvm.MethodName)) ∈ tbl := tb_3 41 rfl rfl
theorem wC_X9_fit : (Jvm.Cond.code ({ cls := "PictureDesk", name := "fit", desc := "(III)I" } : Jvm.MethodName) prog_1_method_17_code (5 : Nat) (Option.some Jvm.ClassFile.FieldType.int)) ∈ tbl := tb_3 42 rfl rfl
theorem wM_X9_164 : (Jvm.Cond.methodLink "PictureDesk" (164 : Nat) ({ cls := "PictureDesk", name := "judge", desc := "(ILPictureDesk$Thing;I)I" } : Jvm.MethodName)) ∈ tbl := tb_3 43 rfl rfl
theorem wI_X9_judge : (Jvm.Cond.instanceMethod ({ cls := "PictureDesk", name := "judge", desc := "(ILPictureDesk$Thing;I)I" } : Jvm.MethodName)) ∈ tbl := tb_3 45 rfl rfl
theorem wC_X9_judge : (Jvm.Cond.code ({ cls := "PictureDesk", name := "judge", desc := "(ILPictureDesk$Thing;I)I" } : Jvm.MethodName) prog_1_method_30_code (4 : Nat) (Option.some Jvm.ClassFile.FieldType.int)) ∈ tbl := tb_3 46 rfl rfl
theorem wM_X9_248 : (Jvm.Cond.methodLink "PictureDesk" (248 : Nat) ({ cls := "PictureDesk$Uses", name := "judge", desc := "(ILPictureDesk$Facts;)I" } : Jvm.MethodName)) ∈ tbl := tb_3 47 rfl rfl
theorem wI_X8_judge : (Jvm.Cond.instanceMethod ({ cls := "PictureDesk$Uses", name := "judge", desc := "(ILPictureDesk$Facts;)I" } : Jvm.MethodName)) ∈ tbl := tb_3 48 rfl rfl
theorem wS_X8_judge : (Jvm.Cond.selects "PictureDesk$Uses" ({ cls := "PictureDesk$Uses", name := "judge", desc := "(ILPictureDesk$Facts;)I" } : Jvm.MethodName) ({ cls := "PictureDesk$Uses", name := "judge", desc := "(ILPictureDesk$Facts;)I" } : Jvm.MethodName)) ∈ tbl := tb_3 49 rfl rfl
theorem wC_X8_judge : (Jvm.Cond.code ({ cls := "PictureDesk$Uses", name := "judge", desc := "(ILPictureDesk$Facts;)I" } : Jvm.MethodName) prog_10_method_14_code (10 : Nat) (Option.some Jvm.ClassFile.FieldType.int)) ∈ tbl := tb_3 50 rfl rfl
theorem wM_X8_49 : (Jvm.Cond.methodLink "PictureDesk$Uses" (49 : Nat) ({ cls := "PictureDesk$Uses", name := "has", desc := "(I)Z" } : Jvm.MethodName)) ∈ tbl := tb_3 51 rfl rfl
theorem wM_X8_52 : (Jvm.Cond.methodLink "PictureDesk$Uses" (52 : Nat) ({ cls := "PictureDesk$Uses", name := "signOf", desc := "(II)I" } : Jvm.MethodName)) ∈ tbl := tb_3 52 rfl rfl
theorem wI_X8_signOf : (Jvm.Cond.instanceMethod ({ cls := "PictureDesk$Uses", name := "signOf", desc := "(II)I" } : Jvm.MethodName)) ∈ tbl := tb_3 54 rfl rfl
theorem wC_X8_signOf : (Jvm.Cond.code ({ cls := "PictureDesk$Uses", name := "signOf", desc := "(II)I" } : Jvm.MethodName) prog_10_method_15_code (3 : Nat) (Option.some Jvm.ClassFile.FieldType.int)) ∈ tbl := tb_3 55 rfl rfl
theorem wM_X8_55 : (Jvm.Cond.methodLink "PictureDesk$Uses" (55 : Nat) ({ cls := "PictureDesk$Facts", name := "known", desc := "(I)I" } : Jvm.MethodName)) ∈ tbl := tb_3 56 rfl rfl
theorem wM_X8_60 : (Jvm.Cond.methodLink "PictureDesk$Uses" (60 : Nat) ({ cls := "PictureDesk$Uses", name := "test", desc := "(III)I" } : Jvm.MethodName)) ∈ tbl := tb_3 57 rfl rfl
theorem wT_X8_test : (Jvm.Cond.static ({ cls := "PictureDesk$Uses", name := "test", desc := "(III)I" } : Jvm.MethodName)) ∈ tbl := tb_3 58 rfl rfl
theorem wC_X8_test : (Jvm.Cond.code ({ cls := "PictureDesk$Uses", name := "test", desc := "(III)I" } : Jvm.MethodName) prog_10_method_16_code (3 : Nat) (Option.some Jvm.ClassFile.FieldType.int)) ∈ tbl := tb_3 59 rfl rfl
theorem wM_X8_64 : (Jvm.Cond.methodLink "PictureDesk$Uses" (64 : Nat) ({ cls := "java/lang/Math", name := "min", desc := "(II)I" } : Jvm.MethodName)) ∈ tbl := tb_3 60 rfl rfl
theorem wT_J9_min_7cf53 : (Jvm.Cond.static ({ cls := "java/lang/Math", name := "min", desc := "(II)I" } : Jvm.MethodName)) ∈ tbl := tb_3 61 rfl rfl
theorem wC_J9_min_7cf53 : (Jvm.Cond.code ({ cls := "java/lang/Math", name := "min", desc := "(II)I" } : Jvm.MethodName) prog_13_method_69_code (2 : Nat) (Option.some Jvm.ClassFile.FieldType.int)) ∈ tbl := tb_3 62 rfl rfl
theorem wM_X8_69 : (Jvm.Cond.methodLink "PictureDesk$Uses" (69 : Nat) ({ cls := "java/lang/Math", name := "max", desc := "(II)I" } : Jvm.MethodName)) ∈ tbl := tb_3 63 rfl rfl
theorem wT_J9_max_7cf53 : (Jvm.Cond.static ({ cls := "java/lang/Math", name := "max", desc := "(II)I" } : Jvm.MethodName)) ∈ tbl := tb_3 64 rfl rfl
theorem wC_J9_max_7cf53 : (Jvm.Cond.code ({ cls := "java/lang/Math", name := "max", desc := "(II)I" } : Jvm.MethodName) prog_13_method_65_code (2 : Nat) (Option.some Jvm.ClassFile.FieldType.int)) ∈ tbl := tb_3 65 rfl rfl
theorem wM_L_84 : (Jvm.Cond.methodLink "PictureDeskLaw" (84 : Nat) ({ cls := "PictureDesk", name := "could", desc := "(II)I" } : Jvm.MethodName)) ∈ tbl := tb_3 66 rfl rfl
theorem wI_X9_could : (Jvm.Cond.instanceMethod ({ cls := "PictureDesk", name := "could", desc := "(II)I" } : Jvm.MethodName)) ∈ tbl := tb_3 67 rfl rfl
theorem wS_X9_could : (Jvm.Cond.selects "PictureDesk" ({ cls := "PictureDesk", name := "could", desc := "(II)I" } : Jvm.MethodName) ({ cls := "PictureDesk", name := "could", desc := "(II)I" } : Jvm.MethodName)) ∈ tbl := tb_3 68 rfl rfl
theorem wC_X9_could : (Jvm.Cond.code ({ cls := "PictureDesk", name := "could", desc := "(II)I" } : Jvm.MethodName) prog_1_method_18_code (6 : Nat) (Option.some Jvm.ClassFile.FieldType.int)) ∈ tbl := tb_3 69 rfl rfl
theorem wM_X9_168 : (Jvm.Cond.methodLink "PictureDesk" (168 : Nat) ({ cls := "PictureDesk$Album", name := "hasDay", desc := "(I)Z" } : Jvm.MethodName)) ∈ tbl := tb_3 70 rfl rfl
theorem wI_X0_hasDay : (Jvm.Cond.instanceMethod ({ cls := "PictureDesk$Album", name := "hasDay", desc := "(I)Z" } : Jvm.MethodName)) ∈ tbl := tb_3 71 rfl rfl
theorem wS_X0_hasDay : (Jvm.Cond.selects "PictureDesk$Album" ({ cls := "PictureDesk$Album", name := "hasDay", desc := "(I)Z" } : Jvm.MethodName) ({ cls := "PictureDesk$Album", name := "hasDay", desc := "(I)Z" } : Jvm.MethodName)) ∈ tbl := tb_3 72 rfl rfl
theorem wC_X0_hasDay : (Jvm.Cond.code ({ cls := "PictureDesk$Album", name := "hasDay", desc := "(I)Z" } : Jvm.MethodName) prog_2_method_6_code (4 : Nat) (Option.some Jvm.ClassFile.FieldType.boolean)) ∈ tbl := tb_3 73 rfl rfl
theorem wM_X0_33 : (Jvm.Cond.methodLink "PictureDesk$Album" (33 : Nat) ({ cls := "PictureDesk$Picture", name := "day", desc := "()I" } : Jvm.MethodName)) ∈ tbl := tb_3 74 rfl rfl
theorem wM_L_88 : (Jvm.Cond.methodLink "PictureDeskLaw" (88 : Nat) ({ cls := "PictureDesk", name := "all", desc := "(III)I" } : Jvm.MethodName)) ∈ tbl := tb_3 75 rfl rfl
theorem wI_X9_all : (Jvm.Cond.instanceMethod ({ cls := "PictureDesk", name := "all", desc := "(III)I" } : Jvm.MethodName)) ∈ tbl := tb_3 76 rfl rfl
theorem wS_X9_all : (Jvm.Cond.selects "PictureDesk" ({ cls := "PictureDesk", name := "all", desc := "(III)I" } : Jvm.MethodName) ({ cls := "PictureDesk", name := "all", desc := "(III)I" } : Jvm.MethodName)) ∈ tbl := tb_3 77 rfl rfl
theorem wC_X9_all : (Jvm.Cond.code ({ cls := "PictureDesk", name := "all", desc := "(III)I" } : Jvm.MethodName) prog_1_method_19_code (7 : Nat) (Option.some Jvm.ClassFile.FieldType.int)) ∈ tbl := tb_3 78 rfl rfl
theorem wM_X9_171 : (Jvm.Cond.methodLink "PictureDesk" (171 : Nat) ({ cls := "PictureDesk$Land", name := "size", desc := "()I" } : Jvm.MethodName)) ∈ tbl := tb_3 79 rfl rfl
theorem wI_X3_size : (Jvm.Cond.instanceMethod ({ cls := "PictureDesk$Land", name := "size", desc := "()I" } : Jvm.MethodName)) ∈ tbl := tb_3 80 rfl rfl
theorem wS_X3_size : (Jvm.Cond.selects "PictureDesk$Land" ({ cls := "PictureDesk$Land", name := "size", desc := "()I" } : Jvm.MethodName) ({ cls := "PictureDesk$Land", name := "size", desc := "()I" } : Jvm.MethodName)) ∈ tbl := tb_3 81 rfl rfl
theorem wC_X3_size : (Jvm.Cond.code ({ cls := "PictureDesk$Land", name := "size", desc := "()I" } : Jvm.MethodName) prog_5_method_2_code (1 : Nat) (Option.some Jvm.ClassFile.FieldType.int)) ∈ tbl := tb_3 82 rfl rfl
theorem wM_L_92 : (Jvm.Cond.methodLink "PictureDeskLaw" (92 : Nat) ({ cls := "PictureDesk", name := "meet", desc := "(II)I" } : Jvm.MethodName)) ∈ tbl := tb_3 83 rfl rfl
theorem wI_X9_meet : (Jvm.Cond.instanceMethod ({ cls := "PictureDesk", name := "meet", desc := "(II)I" } : Jvm.MethodName)) ∈ tbl := tb_3 84 rfl rfl
theorem wS_X9_meet : (Jvm.Cond.selects "PictureDesk" ({ cls := "PictureDesk", name := "meet", desc := "(II)I" } : Jvm.MethodName) ({ cls := "PictureDesk", name := "meet", desc := "(II)I" } : Jvm.MethodName)) ∈ tbl := tb_3 85 rfl rfl
theorem wC_X9_meet : (Jvm.Cond.code ({ cls := "PictureDesk", name := "meet", desc := "(II)I" } : Jvm.MethodName) prog_1_method_20_code (3 : Nat) (Option.some Jvm.ClassFile.FieldType.int)) ∈ tbl := tb_3 86 rfl rfl
theorem wM_X9_174 : (Jvm.Cond.methodLink "PictureDesk" (174 : Nat) ({ cls := "PictureDesk$Lines", name := "draw", desc := "(LPictureDesk$Land;I)V" } : Jvm.MethodName)) ∈ tbl := tb_3 87 rfl rfl
theorem wI_X4_draw : (Jvm.Cond.instanceMethod ({ cls := "PictureDesk$Lines", name := "draw", desc := "(LPictureDesk$Land;I)V" } : Jvm.MethodName)) ∈ tbl := tb_3 88 rfl rfl
theorem wS_X4_draw : (Jvm.Cond.selects "PictureDesk$Lines" ({ cls := "PictureDesk$Lines", name := "draw", desc := "(LPictureDesk$Land;I)V" } : Jvm.MethodName) ({ cls := "PictureDesk$Lines", name := "draw", desc := "(LPictureDesk$Land;I)V" } : Jvm.MethodName)) ∈ tbl := tb_3 89 rfl rfl
theorem wC_X4_draw : (Jvm.Cond.code ({ cls := "PictureDesk$Lines", name := "draw", desc := "(LPictureDesk$Land;I)V" } : Jvm.MethodName) prog_6_method_4_code (5 : Nat) (Option.none : Option Jvm.ClassFile.FieldType)) ∈ tbl := tb_3 90 rfl rfl
theorem wM_X4_22 : (Jvm.Cond.methodLink "PictureDesk$Lines" (22 : Nat) ({ cls := "PictureDesk$Land", name := "size", desc := "()I" } : Jvm.MethodName)) ∈ tbl := tb_3 91 rfl rfl
theorem wM_X4_28 : (Jvm.Cond.methodLink "PictureDesk$Lines" (28 : Nat) ({ cls := "PictureDesk$Land", name := "find", desc := "(I)LPictureDesk$Thing;" } : Jvm.MethodName)) ∈ tbl := tb_3 92 rfl rfl
theorem wM_X4_32 : (Jvm.Cond.methodLink "PictureDesk$Lines" (32 : Nat) ({ cls := "PictureDesk$Thing", name := "hasLine", desc := "(I)Z" } : Jvm.MethodName)) ∈ tbl := tb_3 93 rfl rfl
theorem wI_X6_hasLine : (Jvm.Cond.instanceMethod ({ cls := "PictureDesk$Thing", name := "hasLine", desc := "(I)Z" } : Jvm.MethodName)) ∈ tbl := tb_3 94 rfl rfl
theorem wS_X6_hasLine : (Jvm.Cond.selects "PictureDesk$Thing" ({ cls := "PictureDesk$Thing", name := "hasLine", desc := "(I)Z" } : Jvm.MethodName) ({ cls := "PictureDesk$Thing", name := "hasLine", desc := "(I)Z" } : Jvm.MethodName)) ∈ tbl := tb_3 95 rfl rfl
theorem wC_X6_hasLine : (Jvm.Cond.code ({ cls := "PictureDesk$Thing", name := "hasLine", desc := "(I)Z" } : Jvm.MethodName) prog_8_method_8_code (2 : Nat) (Option.some Jvm.ClassFile.FieldType.boolean)) ∈ tbl := tb_3 96 rfl rfl
theorem wM_X6_34 : (Jvm.Cond.methodLink "PictureDesk$Thing" (34 : Nat) ({ cls := "PictureDesk$Thing", name := "isThere", desc := "(I)Z" } : Jvm.MethodName)) ∈ tbl := tb_3 97 rfl rfl
theorem wM_X4_38 : (Jvm.Cond.methodLink "PictureDesk$Lines" (38 : Nat) ({ cls := "PictureDesk$Lines", name := "drawFrom", desc := "(LPictureDesk$Thing;)V" } : Jvm.MethodName)) ∈ tbl := tb_3 98 rfl rfl
theorem wI_X4_drawFrom : (Jvm.Cond.instanceMethod ({ cls := "PictureDesk$Lines", name := "drawFrom", desc := "(LPictureDesk$Thing;)V" } : Jvm.MethodName)) ∈ tbl := tb_3 100 rfl rfl
theorem wC_X4_drawFrom : (Jvm.Cond.code ({ cls := "PictureDesk$Lines", name := "drawFrom", desc := "(LPictureDesk$Thing;)V" } : Jvm.MethodName) prog_6_method_5_code (6 : Nat) (Option.none : Option Jvm.ClassFile.FieldType)) ∈ tbl := tb_3 101 rfl rfl
theorem wM_X4_42 : (Jvm.Cond.methodLink "PictureDesk$Lines" (42 : Nat) ({ cls := "PictureDesk$Thing", name := "mark", desc := "(I)I" } : Jvm.MethodName)) ∈ tbl := tb_3 102 rfl rfl
theorem wMN_X4_46 : (Jvm.Cond.methodLinkNest "PictureDesk$Lines" (46 : Nat) ({ cls := "PictureDesk", name := "isWithin", desc := "(III)Z" } : Jvm.MethodName) "PictureDesk") ∈ tbl := tb_3 103 rfl rfl
theorem wMN_X4_50 : (Jvm.Cond.methodLinkNest "PictureDesk$Lines" (50 : Nat) ({ cls := "PictureDesk", name := "isOnLand", desc := "(II)Z" } : Jvm.MethodName) "PictureDesk") ∈ tbl := tb_3 104 rfl rfl
theorem wM_X4_54 : (Jvm.Cond.methodLink "PictureDesk$Lines" (54 : Nat) ({ cls := "PictureDesk$Thing", name := "liesOn", desc := "(II)Z" } : Jvm.MethodName)) ∈ tbl := tb_3 105 rfl rfl
theorem wMN_X4_57 : (Jvm.Cond.methodLinkNest "PictureDesk$Lines" (57 : Nat) ({ cls := "PictureDesk", name := "cellOf", desc := "(II)I" } : Jvm.MethodName) "PictureDesk") ∈ tbl := tb_3 106 rfl rfl
theorem wFN_X4_61 : (Jvm.Cond.fieldLinkNest "PictureDesk$Lines" (61 : Nat) "PictureDesk" "EAST_STEP" "[I" "PictureDesk") ∈ tbl := tb_3 107 rfl rfl
theorem wFN_X4_64 : (Jvm.Cond.fieldLinkNest "PictureDesk$Lines" (64 : Nat) "PictureDesk" "SOUTH_STEP" "[I" "PictureDesk") ∈ tbl := tb_3 108 rfl rfl
theorem wM_X9_178 : (Jvm.Cond.methodLink "PictureDesk" (178 : Nat) ({ cls := "PictureDesk$Lines", name := "cell", desc := "()I" } : Jvm.MethodName)) ∈ tbl := tb_3 109 rfl rfl
theorem wI_X4_cell : (Jvm.Cond.instanceMethod ({ cls := "PictureDesk$Lines", name := "cell", desc := "()I" } : Jvm.MethodName)) ∈ tbl := tb_3 110 rfl rfl
theorem wS_X4_cell : (Jvm.Cond.selects "PictureDesk$Lines" ({ cls := "PictureDesk$Lines", name := "cell", desc := "()I" } : Jvm.MethodName) ({ cls := "PictureDesk$Lines", name := "cell", desc := "()I" } : Jvm.MethodName)) ∈ tbl := tb_3 111 rfl rfl
theorem wC_X4_cell : (Jvm.Cond.code ({ cls := "PictureDesk$Lines", name := "cell", desc := "()I" } : Jvm.MethodName) prog_6_method_2_code (1 : Nat) (Option.some Jvm.ClassFile.FieldType.int)) ∈ tbl := tb_3 112 rfl rfl
theorem wM_X9_181 : (Jvm.Cond.methodLink "PictureDesk" (181 : Nat) ({ cls := "PictureDesk$Lines", name := "most", desc := "()I" } : Jvm.MethodName)) ∈ tbl := tb_3 113 rfl rfl
theorem wI_X4_most : (Jvm.Cond.instanceMethod ({ cls := "PictureDesk$Lines", name := "most", desc := "()I" } : Jvm.MethodName)) ∈ tbl := tb_3 114 rfl rfl
theorem wS_X4_most : (Jvm.Cond.selects "PictureDesk$Lines" ({ cls := "PictureDesk$Lines", name := "most", desc := "()I" } : Jvm.MethodName) ({ cls := "PictureDesk$Lines", name := "most", desc := "()I" } : Jvm.MethodName)) ∈ tbl := tb_3 115 rfl rfl
theorem wC_X4_most : (Jvm.Cond.code ({ cls := "PictureDesk$Lines", name := "most", desc := "()I" } : Jvm.MethodName) prog_6_method_3_code (1 : Nat) (Option.some Jvm.ClassFile.FieldType.int)) ∈ tbl := tb_3 116 rfl rfl
theorem wM_L_96 : (Jvm.Cond.methodLink "PictureDeskLaw" (96 : Nat) ({ cls := "PictureDesk", name := "chance", desc := "(II)J" } : Jvm.MethodName)) ∈ tbl := tb_3 117 rfl rfl
theorem wI_X9_chance : (Jvm.Cond.instanceMethod ({ cls := "PictureDesk", name := "chance", desc := "(II)J" } : Jvm.MethodName)) ∈ tbl := tb_3 118 rfl rfl
theorem wS_X9_chance : (Jvm.Cond.selects "PictureDesk" ({ cls := "PictureDesk", name := "chance", desc := "(II)J" } : Jvm.MethodName) ({ cls := "PictureDesk", name := "chance", desc := "(II)J" } : Jvm.MethodName)) ∈ tbl := tb_3 119 rfl rfl
theorem wC_X9_chance : (Jvm.Cond.code ({ cls := "PictureDesk", name := "chance", desc := "(II)J" } : Jvm.MethodName) prog_1_method_21_code (5 : Nat) (Option.some Jvm.ClassFile.FieldType.long)) ∈ tbl := tb_3 120 rfl rfl
theorem wM_X9_184 : (Jvm.Cond.methodLink "PictureDesk" (184 : Nat) ({ cls := "PictureDesk", name := "isPart", desc := "(I)Z" } : Jvm.MethodName)) ∈ tbl := tb_3 121 rfl rfl
theorem wT_X9_isPart : (Jvm.Cond.static ({ cls := "PictureDesk", name := "isPart", desc := "(I)Z" } : Jvm.MethodName)) ∈ tbl := tb_3 122 rfl rfl
theorem wC_X9_isPart : (Jvm.Cond.code ({ cls := "PictureDesk", name := "isPart", desc := "(I)Z" } : Jvm.MethodName) prog_1_method_36_code (1 : Nat) (Option.some Jvm.ClassFile.FieldType.boolean)) ∈ tbl := tb_3 123 rfl rfl
theorem wJ_X9_187 : (Jvm.Cond.constantLong "PictureDesk" (187 : Nat) (-1000000000000000002 : Int64)) ∈ tbl := tb_3 124 rfl rfl
theorem wJ_X9_189 : (Jvm.Cond.constantLong "PictureDesk" (189 : Nat) (-1000000000000000003 : Int64)) ∈ tbl := tb_3 125 rfl rfl
theorem wM_X9_191 : (Jvm.Cond.methodLink "PictureDesk" (191 : Nat) ({ cls := "PictureDesk$Lines", name := "allMayCross", desc := "(LPictureDesk$Land;I)Z" } : Jvm.MethodName)) ∈ tbl := tb_3 126 rfl rfl
theorem wI_X4_allMayCross : (Jvm.Cond.instanceMethod ({ cls := "PictureDesk$Lines", name := "allMayCross", desc := "(LPictureDesk$Land;I)Z" } : Jvm.MethodName)) ∈ tbl := tb_3 127 rfl rfl
theorem wS_X4_allMayCross : (Jvm.Cond.selects "PictureDesk$Lines" ({ cls := "PictureDesk$Lines", name := "allMayCross", desc := "(LPictureDesk$Land;I)Z" } : Jvm.MethodName) ({ cls := "PictureDesk$Lines", name := "allMayCross", desc := "(LPictureDesk$Land;I)Z" } : Jvm.MethodName)) ∈ tbl := tb_3 128 rfl rfl
theorem wC_X4_allMayCross : (Jvm.Cond.code ({ cls := "PictureDesk$Lines", name := "allMayCross", desc := "(LPictureDesk$Land;I)Z" } : Jvm.MethodName) prog_6_method_6_code (5 : Nat) (Option.some Jvm.ClassFile.FieldType.boolean)) ∈ tbl := tb_3 129 rfl rfl
theorem wM_X4_67 : (Jvm.Cond.methodLink "PictureDesk$Lines" (67 : Nat) ({ cls := "PictureDesk$Lines", name := "mayCross", desc := "(LPictureDesk$Thing;)Z" } : Jvm.MethodName)) ∈ tbl := tb_3 130 rfl rfl
theorem wI_X4_mayCross : (Jvm.Cond.instanceMethod ({ cls := "PictureDesk$Lines", name := "mayCross", desc := "(LPictureDesk$Thing;)Z" } : Jvm.MethodName)) ∈ tbl := tb_3 132 rfl rfl
theorem wC_X4_mayCross : (Jvm.Cond.code ({ cls := "PictureDesk$Lines", name := "mayCross", desc := "(LPictureDesk$Thing;)Z" } : Jvm.MethodName) prog_6_method_7_code (6 : Nat) (Option.some Jvm.ClassFile.FieldType.boolean)) ∈ tbl := tb_3 133 rfl rfl
theorem wM_X4_71 : (Jvm.Cond.methodLink "PictureDesk$Lines" (71 : Nat) ({ cls := "java/lang/Math", name := "abs", desc := "(I)I" } : Jvm.MethodName)) ∈ tbl := tb_3 134 rfl rfl
theorem wM_X9_195 : (Jvm.Cond.methodLink "PictureDesk" (195 : Nat) ({ cls := "PictureDesk$Lines", name := "lots", desc := "(LPictureDesk$Land;I)J" } : Jvm.MethodName)) ∈ tbl := tb_3 135 rfl rfl
theorem wI_X4_lots : (Jvm.Cond.instanceMethod ({ cls := "PictureDesk$Lines", name := "lots", desc := "(LPictureDesk$Land;I)J" } : Jvm.MethodName)) ∈ tbl := tb_3 136 rfl rfl
theorem wS_X4_lots : (Jvm.Cond.selects "PictureDesk$Lines" ({ cls := "PictureDesk$Lines", name := "lots", desc := "(LPictureDesk$Land;I)J" } : Jvm.MethodName) ({ cls := "PictureDesk$Lines", name := "lots", desc := "(LPictureDesk$Land;I)J" } : Jvm.MethodName)) ∈ tbl := tb_3 137 rfl rfl
theorem wC_X4_lots : (Jvm.Cond.code ({ cls := "PictureDesk$Lines", name := "lots", desc := "(LPictureDesk$Land;I)J" } : Jvm.MethodName) prog_6_method_8_code (7 : Nat) (Option.some Jvm.ClassFile.FieldType.long)) ∈ tbl := tb_3 138 rfl rfl
theorem wJ_X4_76 : (Jvm.Cond.constantLong "PictureDesk$Lines" (76 : Nat) (8 : Int64)) ∈ tbl := tb_3 139 rfl rfl
theorem wM_X9_199 : (Jvm.Cond.methodLink "PictureDesk" (199 : Nat) ({ cls := "PictureDesk", name := "partOf", desc := "(JJI)J" } : Jvm.MethodName)) ∈ tbl := tb_3 140 rfl rfl
theorem wT_X9_partOf : (Jvm.Cond.static ({ cls := "PictureDesk", name := "partOf", desc := "(JJI)J" } : Jvm.MethodName)) ∈ tbl := tb_3 141 rfl rfl
theorem wC_X9_partOf : (Jvm.Cond.code ({ cls := "PictureDesk", name := "partOf", desc := "(JJI)J" } : Jvm.MethodName) prog_1_method_40_code (7 : Nat) (Option.some Jvm.ClassFile.FieldType.long)) ∈ tbl := tb_3 142 rfl rfl
theorem wM_X9_251 : (Jvm.Cond.methodLink "PictureDesk" (251 : Nat) ({ cls := "PictureDesk", name := "commonDivisor", desc := "(JJ)J" } : Jvm.MethodName)) ∈ tbl := tb_3 143 rfl rfl
theorem wT_X9_commonDivisor : (Jvm.Cond.static ({ cls := "PictureDesk", name := "commonDivisor", desc := "(JJ)J" } : Jvm.MethodName)) ∈ tbl := tb_3 144 rfl rfl
theorem wC_X9_commonDivisor : (Jvm.Cond.code ({ cls := "PictureDesk", name := "commonDivisor", desc := "(JJ)J" } : Jvm.MethodName) prog_1_method_41_code (11 : Nat) (Option.some Jvm.ClassFile.FieldType.long)) ∈ tbl := tb_3 145 rfl rfl
theorem wM_L_101 : (Jvm.Cond.methodLink "PictureDeskLaw" (101 : Nat) ({ cls := "PictureDesk", name := "did", desc := "(IIZ)I" } : Jvm.MethodName)) ∈ tbl := tb_3 146 rfl rfl
theorem wI_X9_did : (Jvm.Cond.instanceMethod ({ cls := "PictureDesk", name := "did", desc := "(IIZ)I" } : Jvm.MethodName)) ∈ tbl := tb_3 147 rfl rfl
theorem wS_X9_did : (Jvm.Cond.selects "PictureDesk" ({ cls := "PictureDesk", name := "did", desc := "(IIZ)I" } : Jvm.MethodName) ({ cls := "PictureDesk", name := "did", desc := "(IIZ)I" } : Jvm.MethodName)) ∈ tbl := tb_3 148 rfl rfl
theorem wC_X9_did : (Jvm.Cond.code ({ cls := "PictureDesk", name := "did", desc := "(IIZ)I" } : Jvm.MethodName) prog_1_method_22_code (5 : Nat) (Option.some Jvm.ClassFile.FieldType.int)) ∈ tbl := tb_3 149 rfl rfl
theorem wM_X9_203 : (Jvm.Cond.methodLink "PictureDesk" (203 : Nat) ({ cls := "PictureDesk$Thing", name := "tickDoing", desc := "(IZ)Z" } : Jvm.MethodName)) ∈ tbl := tb_3 150 rfl rfl
theorem wI_X6_tickDoing : (Jvm.Cond.instanceMethod ({ cls := "PictureDesk$Thing", name := "tickDoing", desc := "(IZ)Z" } : Jvm.MethodName)) ∈ tbl := tb_3 151 rfl rfl
theorem wS_X6_tickDoing : (Jvm.Cond.selects "PictureDesk$Thing" ({ cls := "PictureDesk$Thing", name := "tickDoing", desc := "(IZ)Z" } : Jvm.MethodName) ({ cls := "PictureDesk$Thing", name := "tickDoing", desc := "(IZ)Z" } : Jvm.MethodName)) ∈ tbl := tb_3 152 rfl rfl
theorem wC_X6_tickDoing : (Jvm.Cond.code ({ cls := "PictureDesk$Thing", name := "tickDoing", desc := "(IZ)Z" } : Jvm.MethodName) prog_8_method_10_code (3 : Nat) (Option.some Jvm.ClassFile.FieldType.boolean)) ∈ tbl := tb_3 153 rfl rfl
theorem wM_X6_43 : (Jvm.Cond.methodLink "PictureDesk$Thing" (43 : Nat) ({ cls := "PictureDesk$Ticks", name := "put", desc := "(IZ)Z" } : Jvm.MethodName)) ∈ tbl := tb_3 154 rfl rfl
theorem wM_L_105 : (Jvm.Cond.methodLink "PictureDeskLaw" (105 : Nat) ({ cls := "PictureDesk", name := "decoy", desc := "(IIIII)J" } : Jvm.MethodName)) ∈ tbl := tb_3 155 rfl rfl
theorem wI_X9_decoy : (Jvm.Cond.instanceMethod ({ cls := "PictureDesk", name := "decoy", desc := "(IIIII)J" } : Jvm.MethodName)) ∈ tbl := tb_3 156 rfl rfl
theorem wS_X9_decoy : (Jvm.Cond.selects "PictureDesk" ({ cls := "PictureDesk", name := "decoy", desc := "(IIIII)J" } : Jvm.MethodName) ({ cls := "PictureDesk", name := "decoy", desc := "(IIIII)J" } : Jvm.MethodName)) ∈ tbl := tb_3 157 rfl rfl
theorem wC_X9_decoy : (Jvm.Cond.code ({ cls := "PictureDesk", name := "decoy", desc := "(IIIII)J" } : Jvm.MethodName) prog_1_method_23_code (8 : Nat) (Option.some Jvm.ClassFile.FieldType.long)) ∈ tbl := tb_3 158 rfl rfl
theorem wJ_X9_206 : (Jvm.Cond.constantLong "PictureDesk" (206 : Nat) (-1000000000000000001 : Int64)) ∈ tbl := tb_3 159 rfl rfl
theorem wM_X9_208 : (Jvm.Cond.methodLink "PictureDesk" (208 : Nat) ({ cls := "PictureDesk$Thing", name := "daysWithout", desc := "(II)I" } : Jvm.MethodName)) ∈ tbl := tb_3 160 rfl rfl
theorem wI_X6_daysWithout : (Jvm.Cond.instanceMethod ({ cls := "PictureDesk$Thing", name := "daysWithout", desc := "(II)I" } : Jvm.MethodName)) ∈ tbl := tb_3 161 rfl rfl
theorem wS_X6_daysWithout : (Jvm.Cond.selects "PictureDesk$Thing" ({ cls := "PictureDesk$Thing", name := "daysWithout", desc := "(II)I" } : Jvm.MethodName) ({ cls := "PictureDesk$Thing", name := "daysWithout", desc := "(II)I" } : Jvm.MethodName)) ∈ tbl := tb_3 162 rfl rfl
theorem wC_X6_daysWithout : (Jvm.Cond.code ({ cls := "PictureDesk$Thing", name := "daysWithout", desc := "(II)I" } : Jvm.MethodName) prog_8_method_11_code (5 : Nat) (Option.some Jvm.ClassFile.FieldType.int)) ∈ tbl := tb_3 163 rfl rfl
theorem wM_X6_47 : (Jvm.Cond.methodLink "PictureDesk$Thing" (47 : Nat) ({ cls := "PictureDesk$Ticks", name := "has", desc := "(I)Z" } : Jvm.MethodName)) ∈ tbl := tb_3 164 rfl rfl
theorem wM_X9_211 : (Jvm.Cond.methodLink "PictureDesk" (211 : Nat) ({ cls := "PictureDesk", name := "power", desc := "(JI)J" } : Jvm.MethodName)) ∈ tbl := tb_3 165 rfl rfl
theorem wT_X9_power : (Jvm.Cond.static ({ cls := "PictureDesk", name := "power", desc := "(JI)J" } : Jvm.MethodName)) ∈ tbl := tb_3 166 rfl rfl
theorem wC_X9_power : (Jvm.Cond.code ({ cls := "PictureDesk", name := "power", desc := "(JI)J" } : Jvm.MethodName) prog_1_method_38_code (6 : Nat) (Option.some Jvm.ClassFile.FieldType.long)) ∈ tbl := tb_3 167 rfl rfl
theorem wJ_X9_215 : (Jvm.Cond.constantLong "PictureDesk" (215 : Nat) (20 : Int64)) ∈ tbl := tb_3 168 rfl rfl
theorem wM_L_110 : (Jvm.Cond.methodLink "PictureDeskLaw" (110 : Nat) ({ cls := "PictureDesk", name := "sure", desc := "(II)I" } : Jvm.MethodName)) ∈ tbl := tb_3 169 rfl rfl
theorem wI_X9_sure : (Jvm.Cond.instanceMethod ({ cls := "PictureDesk", name := "sure", desc := "(II)I" } : Jvm.MethodName)) ∈ tbl := tb_3 170 rfl rfl
theorem wS_X9_sure : (Jvm.Cond.selects "PictureDesk" ({ cls := "PictureDesk", name := "sure", desc := "(II)I" } : Jvm.MethodName) ({ cls := "PictureDesk", name := "sure", desc := "(II)I" } : Jvm.MethodName)) ∈ tbl := tb_3 171 rfl rfl
theorem wC_X9_sure : (Jvm.Cond.code ({ cls := "PictureDesk", name := "sure", desc := "(II)I" } : Jvm.MethodName) prog_1_method_24_code (4 : Nat) (Option.some Jvm.ClassFile.FieldType.int)) ∈ tbl := tb_3 172 rfl rfl
theorem wJ_X9_217 : (Jvm.Cond.constantLong "PictureDesk" (217 : Nat) (100 : Int64)) ∈ tbl := tb_3 173 rfl rfl
theorem wM_L_114 : (Jvm.Cond.methodLink "PictureDeskLaw" (114 : Nat) ({ cls := "PictureDesk", name := "flight", desc := "(IIIII)I" } : Jvm.MethodName)) ∈ tbl := tb_3 174 rfl rfl
theorem wI_X9_flight : (Jvm.Cond.instanceMethod ({ cls := "PictureDesk", name := "flight", desc := "(IIIII)I" } : Jvm.MethodName)) ∈ tbl := tb_3 175 rfl rfl
theorem wS_X9_flight : (Jvm.Cond.selects "PictureDesk" ({ cls := "PictureDesk", name := "flight", desc := "(IIIII)I" } : Jvm.MethodName) ({ cls := "PictureDesk", name := "flight", desc := "(IIIII)I" } : Jvm.MethodName)) ∈ tbl := tb_3 176 rfl rfl
theorem wC_X9_flight : (Jvm.Cond.code ({ cls := "PictureDesk", name := "flight", desc := "(IIIII)I" } : Jvm.MethodName) prog_1_method_25_code (6 : Nat) (Option.some Jvm.ClassFile.FieldType.int)) ∈ tbl := tb_3 177 rfl rfl
theorem wM_X9_219 : (Jvm.Cond.methodLink "PictureDesk" (219 : Nat) ({ cls := "PictureDesk$Flights", name := "plan", desc := "(IIIII)V" } : Jvm.MethodName)) ∈ tbl := tb_3 178 rfl rfl
theorem wI_X2_plan : (Jvm.Cond.instanceMethod ({ cls := "PictureDesk$Flights", name := "plan", desc := "(IIIII)V" } : Jvm.MethodName)) ∈ tbl := tb_3 179 rfl rfl
theorem wS_X2_plan : (Jvm.Cond.selects "PictureDesk$Flights" ({ cls := "PictureDesk$Flights", name := "plan", desc := "(IIIII)V" } : Jvm.MethodName) ({ cls := "PictureDesk$Flights", name := "plan", desc := "(IIIII)V" } : Jvm.MethodName)) ∈ tbl := tb_3 180 rfl rfl
theorem wC_X2_plan : (Jvm.Cond.code ({ cls := "PictureDesk$Flights", name := "plan", desc := "(IIIII)V" } : Jvm.MethodName) prog_4_method_2_code (6 : Nat) (Option.none : Option Jvm.ClassFile.FieldType)) ∈ tbl := tb_3 181 rfl rfl
theorem wMN_X2_31 : (Jvm.Cond.methodLinkNest "PictureDesk$Flights" (31 : Nat) ({ cls := "PictureDesk", name := "isWithin", desc := "(III)Z" } : Jvm.MethodName) "PictureDesk") ∈ tbl := tb_3 182 rfl rfl
theorem wM_L_118 : (Jvm.Cond.methodLink "PictureDeskLaw" (118 : Nat) ({ cls := "PictureDesk", name := "worth", desc := "(II)J" } : Jvm.MethodName)) ∈ tbl := tb_3 183 rfl rfl
theorem wI_X9_worth : (Jvm.Cond.instanceMethod ({ cls := "PictureDesk", name := "worth", desc := "(II)J" } : Jvm.MethodName)) ∈ tbl := tb_3 184 rfl rfl
theorem wS_X9_worth : (Jvm.Cond.selects "PictureDesk" ({ cls := "PictureDesk", name := "worth", desc := "(II)J" } : Jvm.MethodName) ({ cls := "PictureDesk", name := "worth", desc := "(II)J" } : Jvm.MethodName)) ∈ tbl := tb_3 185 rfl rfl
theorem wC_X9_worth : (Jvm.Cond.code ({ cls := "PictureDesk", name := "worth", desc := "(II)J" } : Jvm.MethodName) prog_1_method_26_code (3 : Nat) (Option.some Jvm.ClassFile.FieldType.long)) ∈ tbl := tb_3 186 rfl rfl
theorem wM_X9_222 : (Jvm.Cond.methodLink "PictureDesk" (222 : Nat) ({ cls := "PictureDesk$Flights", name := "weigh", desc := "(LPictureDesk$Land;)V" } : Jvm.MethodName)) ∈ tbl := tb_3 187 rfl rfl
theorem wI_X2_weigh : (Jvm.Cond.instanceMethod ({ cls := "PictureDesk$Flights", name := "weigh", desc := "(LPictureDesk$Land;)V" } : Jvm.MethodName)) ∈ tbl := tb_3 188 rfl rfl
theorem wS_X2_weigh : (Jvm.Cond.selects "PictureDesk$Flights" ({ cls := "PictureDesk$Flights", name := "weigh", desc := "(LPictureDesk$Land;)V" } : Jvm.MethodName) ({ cls := "PictureDesk$Flights", name := "weigh", desc := "(LPictureDesk$Land;)V" } : Jvm.MethodName)) ∈ tbl := tb_3 189 rfl rfl
theorem wC_X2_weigh : (Jvm.Cond.code ({ cls := "PictureDesk$Flights", name := "weigh", desc := "(LPictureDesk$Land;)V" } : Jvm.MethodName) prog_4_method_3_code (4 : Nat) (Option.none : Option Jvm.ClassFile.FieldType)) ∈ tbl := tb_3 190 rfl rfl
theorem wM_X2_35 : (Jvm.Cond.methodLink "PictureDesk$Flights" (35 : Nat) ({ cls := "PictureDesk$Land", name := "size", desc := "()I" } : Jvm.MethodName)) ∈ tbl := tb_3 191 rfl rfl
theorem wM_X2_41 : (Jvm.Cond.methodLink "PictureDesk$Flights" (41 : Nat) ({ cls := "PictureDesk$Land", name := "find", desc := "(I)LPictureDesk$Thing;" } : Jvm.MethodName)) ∈ tbl := tb_3 192 rfl rfl
theorem wM_X2_45 : (Jvm.Cond.methodLink "PictureDesk$Flights" (45 : Nat) ({ cls := "PictureDesk$Thing", name := "mark", desc := "(I)I" } : Jvm.MethodName)) ∈ tbl := tb_3 193 rfl rfl
theorem wM_X2_51 : (Jvm.Cond.methodLink "PictureDesk$Flights" (51 : Nat) ({ cls := "PictureDesk$Flights", name := "weighColumn", desc := "(I)V" } : Jvm.MethodName)) ∈ tbl := tb_3 194 rfl rfl
theorem wI_X2_weighColumn : (Jvm.Cond.instanceMethod ({ cls := "PictureDesk$Flights", name := "weighColumn", desc := "(I)V" } : Jvm.MethodName)) ∈ tbl := tb_3 196 rfl rfl
theorem wC_X2_weighColumn : (Jvm.Cond.code ({ cls := "PictureDesk$Flights", name := "weighColumn", desc := "(I)V" } : Jvm.MethodName) prog_4_method_4_code (6 : Nat) (Option.none : Option Jvm.ClassFile.FieldType)) ∈ tbl := tb_3 197 rfl rfl
theorem wJ_X2_55 : (Jvm.Cond.constantLong "PictureDesk$Flights" (55 : Nat) (100000000 : Int64)) ∈ tbl := tb_3 198 rfl rfl
theorem wM_X2_57 : (Jvm.Cond.methodLink "PictureDesk$Flights" (57 : Nat) ({ cls := "PictureDesk$Flights", name := "tenthsMissing", desc := "(II)I" } : Jvm.MethodName)) ∈ tbl := tb_3 199 rfl rfl
theorem wI_X2_tenthsMissing : (Jvm.Cond.instanceMethod ({ cls := "PictureDesk$Flights", name := "tenthsMissing", desc := "(II)I" } : Jvm.MethodName)) ∈ tbl := tb_3 201 rfl rfl
theorem wC_X2_tenthsMissing : (Jvm.Cond.code ({ cls := "PictureDesk$Flights", name := "tenthsMissing", desc := "(II)I" } : Jvm.MethodName) prog_4_method_5_code (3 : Nat) (Option.some Jvm.ClassFile.FieldType.int)) ∈ tbl := tb_3 202 rfl rfl
theorem wJ_X2_61 : (Jvm.Cond.constantLong "PictureDesk$Flights" (61 : Nat) (10 : Int64)) ∈ tbl := tb_3 203 rfl rfl
theorem wM_X9_225 : (Jvm.Cond.methodLink "PictureDesk" (225 : Nat) ({ cls := "PictureDesk$Flights", name := "weight", desc := "(I)J" } : Jvm.MethodName)) ∈ tbl := tb_3 204 rfl rfl
theorem wI_X2_weight : (Jvm.Cond.instanceMethod ({ cls := "PictureDesk$Flights", name := "weight", desc := "(I)J" } : Jvm.MethodName)) ∈ tbl := tb_3 205 rfl rfl
theorem wS_X2_weight : (Jvm.Cond.selects "PictureDesk$Flights" ({ cls := "PictureDesk$Flights", name := "weight", desc := "(I)J" } : Jvm.MethodName) ({ cls := "PictureDesk$Flights", name := "weight", desc := "(I)J" } : Jvm.MethodName)) ∈ tbl := tb_3 206 rfl rfl
theorem wC_X2_weight : (Jvm.Cond.code ({ cls := "PictureDesk$Flights", name := "weight", desc := "(I)J" } : Jvm.MethodName) prog_4_method_6_code (2 : Nat) (Option.some Jvm.ClassFile.FieldType.long)) ∈ tbl := tb_3 207 rfl rfl
theorem wJ_X9_229 : (Jvm.Cond.constantLong "PictureDesk" (229 : Nat) (100000000 : Int64)) ∈ tbl := tb_3 208 rfl rfl
theorem wM_L_122 : (Jvm.Cond.methodLink "PictureDeskLaw" (122 : Nat) ({ cls := "PictureDesk", name := "best", desc := "(II)I" } : Jvm.MethodName)) ∈ tbl := tb_3 209 rfl rfl
theorem wI_X9_best : (Jvm.Cond.instanceMethod ({ cls := "PictureDesk", name := "best", desc := "(II)I" } : Jvm.MethodName)) ∈ tbl := tb_3 210 rfl rfl
theorem wS_X9_best : (Jvm.Cond.selects "PictureDesk" ({ cls := "PictureDesk", name := "best", desc := "(II)I" } : Jvm.MethodName) ({ cls := "PictureDesk", name := "best", desc := "(II)I" } : Jvm.MethodName)) ∈ tbl := tb_3 211 rfl rfl
theorem wC_X9_best : (Jvm.Cond.code ({ cls := "PictureDesk", name := "best", desc := "(II)I" } : Jvm.MethodName) prog_1_method_27_code (4 : Nat) (Option.some Jvm.ClassFile.FieldType.int)) ∈ tbl := tb_3 212 rfl rfl
theorem wM_X9_231 : (Jvm.Cond.methodLink "PictureDesk" (231 : Nat) ({ cls := "PictureDesk$Flights", name := "choose", desc := "(I)I" } : Jvm.MethodName)) ∈ tbl := tb_3 213 rfl rfl
theorem wI_X2_choose : (Jvm.Cond.instanceMethod ({ cls := "PictureDesk$Flights", name := "choose", desc := "(I)I" } : Jvm.MethodName)) ∈ tbl := tb_3 214 rfl rfl
theorem wS_X2_choose : (Jvm.Cond.selects "PictureDesk$Flights" ({ cls := "PictureDesk$Flights", name := "choose", desc := "(I)I" } : Jvm.MethodName) ({ cls := "PictureDesk$Flights", name := "choose", desc := "(I)I" } : Jvm.MethodName)) ∈ tbl := tb_3 215 rfl rfl
theorem wC_X2_choose : (Jvm.Cond.code ({ cls := "PictureDesk$Flights", name := "choose", desc := "(I)I" } : Jvm.MethodName) prog_4_method_8_code (8 : Nat) (Option.some Jvm.ClassFile.FieldType.int)) ∈ tbl := tb_3 216 rfl rfl
theorem wM_X2_63 : (Jvm.Cond.methodLink "PictureDesk$Flights" (63 : Nat) ({ cls := "PictureDesk$Flights", name := "riskOf", desc := "(I)I" } : Jvm.MethodName)) ∈ tbl := tb_3 217 rfl rfl
theorem wI_X2_riskOf : (Jvm.Cond.instanceMethod ({ cls := "PictureDesk$Flights", name := "riskOf", desc := "(I)I" } : Jvm.MethodName)) ∈ tbl := tb_3 218 rfl rfl
theorem wS_X2_riskOf : (Jvm.Cond.selects "PictureDesk$Flights" ({ cls := "PictureDesk$Flights", name := "riskOf", desc := "(I)I" } : Jvm.MethodName) ({ cls := "PictureDesk$Flights", name := "riskOf", desc := "(I)I" } : Jvm.MethodName)) ∈ tbl := tb_3 219 rfl rfl
theorem wC_X2_riskOf : (Jvm.Cond.code ({ cls := "PictureDesk$Flights", name := "riskOf", desc := "(I)I" } : Jvm.MethodName) prog_4_method_7_code (4 : Nat) (Option.some Jvm.ClassFile.FieldType.int)) ∈ tbl := tb_3 220 rfl rfl
theorem wM_X9_234 : (Jvm.Cond.methodLink "PictureDesk" (234 : Nat) ({ cls := "PictureDesk$Flights", name := "riskOf", desc := "(I)I" } : Jvm.MethodName)) ∈ tbl := tb_3 221 rfl rfl
theorem wM_L_126 : (Jvm.Cond.methodLink "PictureDeskLaw" (126 : Nat) ({ cls := "PictureDesk", name := "lean", desc := "(IIIII)J" } : Jvm.MethodName)) ∈ tbl := tb_3 222 rfl rfl
theorem wI_X9_lean : (Jvm.Cond.instanceMethod ({ cls := "PictureDesk", name := "lean", desc := "(IIIII)J" } : Jvm.MethodName)) ∈ tbl := tb_3 223 rfl rfl
theorem wS_X9_lean : (Jvm.Cond.selects "PictureDesk" ({ cls := "PictureDesk", name := "lean", desc := "(IIIII)J" } : Jvm.MethodName) ({ cls := "PictureDesk", name := "lean", desc := "(IIIII)J" } : Jvm.MethodName)) ∈ tbl := tb_3 224 rfl rfl
theorem wC_X9_lean : (Jvm.Cond.code ({ cls := "PictureDesk", name := "lean", desc := "(IIIII)J" } : Jvm.MethodName) prog_1_method_28_code (10 : Nat) (Option.some Jvm.ClassFile.FieldType.long)) ∈ tbl := tb_3 225 rfl rfl
theorem wM_X9_237 : (Jvm.Cond.methodLink "PictureDesk" (237 : Nat) ({ cls := "PictureDesk", name := "choices", desc := "(II)J" } : Jvm.MethodName)) ∈ tbl := tb_3 226 rfl rfl
theorem wT_X9_choices : (Jvm.Cond.static ({ cls := "PictureDesk", name := "choices", desc := "(II)J" } : Jvm.MethodName)) ∈ tbl := tb_3 227 rfl rfl
theorem wC_X9_choices : (Jvm.Cond.code ({ cls := "PictureDesk", name := "choices", desc := "(II)J" } : Jvm.MethodName) prog_1_method_39_code (5 : Nat) (Option.some Jvm.ClassFile.FieldType.long)) ∈ tbl := tb_3 228 rfl rfl
theorem wM_L_130 : (Jvm.Cond.methodLink "PictureDeskLaw" (130 : Nat) ({ cls := "PictureDesk", name := "told", desc := "(I)I" } : Jvm.MethodName)) ∈ tbl := tb_3 229 rfl rfl
theorem wI_X9_told : (Jvm.Cond.instanceMethod ({ cls := "PictureDesk", name := "told", desc := "(I)I" } : Jvm.MethodName)) ∈ tbl := tb_3 230 rfl rfl
theorem wS_X9_told : (Jvm.Cond.selects "PictureDesk" ({ cls := "PictureDesk", name := "told", desc := "(I)I" } : Jvm.MethodName) ({ cls := "PictureDesk", name := "told", desc := "(I)I" } : Jvm.MethodName)) ∈ tbl := tb_3 231 rfl rfl
theorem wC_X9_told : (Jvm.Cond.code ({ cls := "PictureDesk", name := "told", desc := "(I)I" } : Jvm.MethodName) prog_1_method_29_code (2 : Nat) (Option.some Jvm.ClassFile.FieldType.int)) ∈ tbl := tb_3 232 rfl rfl
theorem wM_X9_241 : (Jvm.Cond.methodLink "PictureDesk" (241 : Nat) ({ cls := "PictureDesk$Album", name := "size", desc := "()I" } : Jvm.MethodName)) ∈ tbl := tb_3 233 rfl rfl
theorem wM_X9_242 : (Jvm.Cond.methodLink "PictureDesk" (242 : Nat) ({ cls := "PictureDesk$Uses", name := "signs", desc := "()I" } : Jvm.MethodName)) ∈ tbl := tb_3 234 rfl rfl
theorem wI_X8_signs : (Jvm.Cond.instanceMethod ({ cls := "PictureDesk$Uses", name := "signs", desc := "()I" } : Jvm.MethodName)) ∈ tbl := tb_3 235 rfl rfl
theorem wS_X8_signs : (Jvm.Cond.selects "PictureDesk$Uses" ({ cls := "PictureDesk$Uses", name := "signs", desc := "()I" } : Jvm.MethodName) ({ cls := "PictureDesk$Uses", name := "signs", desc := "()I" } : Jvm.MethodName)) ∈ tbl := tb_3 236 rfl rfl
theorem wC_X8_signs : (Jvm.Cond.code ({ cls := "PictureDesk$Uses", name := "signs", desc := "()I" } : Jvm.MethodName) prog_10_method_2_code (1 : Nat) (Option.some Jvm.ClassFile.FieldType.int)) ∈ tbl := tb_3 237 rfl rfl
theorem wM_X9_245 : (Jvm.Cond.methodLink "PictureDesk" (245 : Nat) ({ cls := "PictureDesk$Uses", name := "bits", desc := "()I" } : Jvm.MethodName)) ∈ tbl := tb_3 238 rfl rfl
theorem wI_X8_bits : (Jvm.Cond.instanceMethod ({ cls := "PictureDesk$Uses", name := "bits", desc := "()I" } : Jvm.MethodName)) ∈ tbl := tb_3 239 rfl rfl
theorem wS_X8_bits : (Jvm.Cond.selects "PictureDesk$Uses" ({ cls := "PictureDesk$Uses", name := "bits", desc := "()I" } : Jvm.MethodName) ({ cls := "PictureDesk$Uses", name := "bits", desc := "()I" } : Jvm.MethodName)) ∈ tbl := tb_4 0 rfl rfl
theorem wC_X8_bits : (Jvm.Cond.code ({ cls := "PictureDesk$Uses", name := "bits", desc := "()I" } : Jvm.MethodName) prog_10_method_13_code (3 : Nat) (Option.some Jvm.ClassFile.FieldType.int)) ∈ tbl := tb_4 1 rfl rfl
theorem wL_L_10 : (Jvm.Cond.classLink "PictureDeskLaw" (10 : Nat) "PictureDeskModel") ∈ tbl := tb_4 2 rfl rfl
theorem wB_X10 : (Jvm.Cond.instantiable "PictureDeskModel" (12 : Nat)) ∈ tbl := tb_4 3 rfl rfl
theorem wM_L_12 : (Jvm.Cond.methodLink "PictureDeskLaw" (12 : Nat) ({ cls := "PictureDeskModel", name := "<init>", desc := "()V" } : Jvm.MethodName)) ∈ tbl := tb_4 4 rfl rfl
theorem wI_X10_init : (Jvm.Cond.instanceMethod ({ cls := "PictureDeskModel", name := "<init>", desc := "()V" } : Jvm.MethodName)) ∈ tbl := tb_4 5 rfl rfl
theorem wC_X10_init : (Jvm.Cond.code ({ cls := "PictureDeskModel", name := "<init>", desc := "()V" } : Jvm.MethodName) prog_12_method_1_code (1 : Nat) (Option.none : Option Jvm.ClassFile.FieldType)) ∈ tbl := tb_4 6 rfl rfl
theorem wM_X10_1 : (Jvm.Cond.methodLink "PictureDeskModel" (1 : Nat) ({ cls := "java/lang/Object", name := "<init>", desc := "()V" } : Jvm.MethodName)) ∈ tbl := tb_4 7 rfl rfl
theorem wF_X10_39 : (Jvm.Cond.fieldLink "PictureDeskModel" (39 : Nat) "PictureDeskModel" "things" "I") ∈ tbl := tb_4 8 rfl rfl
theorem wF_X10_7 : (Jvm.Cond.fieldLink "PictureDeskModel" (7 : Nat) "PictureDeskModel" "thing" "[I") ∈ tbl := tb_4 9 rfl rfl
theorem wF_X10_13 : (Jvm.Cond.fieldLink "PictureDeskModel" (13 : Nat) "PictureDeskModel" "does" "[Z") ∈ tbl := tb_4 10 rfl rfl
theorem wF_X10_43 : (Jvm.Cond.fieldLink "PictureDeskModel" (43 : Nat) "PictureDeskModel" "pictures" "I") ∈ tbl := tb_4 11 rfl rfl
theorem wF_X10_17 : (Jvm.Cond.fieldLink "PictureDeskModel" (17 : Nat) "PictureDeskModel" "picture" "[I") ∈ tbl := tb_4 12 rfl rfl
theorem wF_X10_20 : (Jvm.Cond.fieldLink "PictureDeskModel" (20 : Nat) "PictureDeskModel" "cloud" "[Z") ∈ tbl := tb_4 13 rfl rfl
theorem wF_X10_80 : (Jvm.Cond.fieldLink "PictureDeskModel" (80 : Nat) "PictureDeskModel" "signs" "I") ∈ tbl := tb_4 14 rfl rfl
theorem wF_X10_23 : (Jvm.Cond.fieldLink "PictureDeskModel" (23 : Nat) "PictureDeskModel" "sign" "[I") ∈ tbl := tb_4 15 rfl rfl
theorem wF_X10_26 : (Jvm.Cond.fieldLink "PictureDeskModel" (26 : Nat) "PictureDeskModel" "useMany" "[I") ∈ tbl := tb_4 16 rfl rfl
theorem wF_X10_29 : (Jvm.Cond.fieldLink "PictureDeskModel" (29 : Nat) "PictureDeskModel" "useSign" "[I") ∈ tbl := tb_4 17 rfl rfl
theorem wF_X10_32 : (Jvm.Cond.fieldLink "PictureDeskModel" (32 : Nat) "PictureDeskModel" "flight" "[I") ∈ tbl := tb_4 18 rfl rfl
theorem wF_X10_119 : (Jvm.Cond.fieldLink "PictureDeskModel" (119 : Nat) "PictureDeskModel" "most" "I") ∈ tbl := tb_4 19 rfl rfl
theorem wA_Jvm_ClassFile_FieldType_boolean : (Jvm.Cond.arrayClass Jvm.ClassFile.FieldType.boolean) ∈ tbl := tb_4 45 rfl rfl
theorem wM_L_17 : (Jvm.Cond.methodLink "PictureDeskLaw" (17 : Nat) ({ cls := "PictureDeskModel", name := "thing", desc := "(IIIIIIII)I" } : Jvm.MethodName)) ∈ tbl := tb_4 46 rfl rfl
theorem wI_X10_thing : (Jvm.Cond.instanceMethod ({ cls := "PictureDeskModel", name := "thing", desc := "(IIIIIIII)I" } : Jvm.MethodName)) ∈ tbl := tb_4 47 rfl rfl
theorem wS_X10_thing : (Jvm.Cond.selects "PictureDeskModel" ({ cls := "PictureDeskModel", name := "thing", desc := "(IIIIIIII)I" } : Jvm.MethodName) ({ cls := "PictureDeskModel", name := "thing", desc := "(IIIIIIII)I" } : Jvm.MethodName)) ∈ tbl := tb_4 48 rfl rfl
theorem wC_X10_thing : (Jvm.Cond.code ({ cls := "PictureDeskModel", name := "thing", desc := "(IIIIIIII)I" } : Jvm.MethodName) prog_12_method_8_code (11 : Nat) (Option.some Jvm.ClassFile.FieldType.int)) ∈ tbl := tb_4 49 rfl rfl
theorem wM_X10_35 : (Jvm.Cond.methodLink "PictureDeskModel" (35 : Nat) ({ cls := "PictureDeskModel", name := "in", desc := "(III)Z" } : Jvm.MethodName)) ∈ tbl := tb_4 50 rfl rfl
theorem wT_X10_in : (Jvm.Cond.static ({ cls := "PictureDeskModel", name := "in", desc := "(III)Z" } : Jvm.MethodName)) ∈ tbl := tb_4 51 rfl rfl
theorem wC_X10_in : (Jvm.Cond.code ({ cls := "PictureDeskModel", name := "in", desc := "(III)Z" } : Jvm.MethodName) prog_12_method_2_code (3 : Nat) (Option.some Jvm.ClassFile.FieldType.boolean)) ∈ tbl := tb_4 52 rfl rfl
theorem wM_X10_46 : (Jvm.Cond.methodLink "PictureDeskModel" (46 : Nat) ({ cls := "PictureDeskModel", name := "isDay", desc := "(I)Z" } : Jvm.MethodName)) ∈ tbl := tb_4 53 rfl rfl
theorem wT_X10_isDay : (Jvm.Cond.static ({ cls := "PictureDeskModel", name := "isDay", desc := "(I)Z" } : Jvm.MethodName)) ∈ tbl := tb_4 54 rfl rfl
theorem wC_X10_isDay : (Jvm.Cond.code ({ cls := "PictureDeskModel", name := "isDay", desc := "(I)Z" } : Jvm.MethodName) prog_12_method_3_code (1 : Nat) (Option.some Jvm.ClassFile.FieldType.boolean)) ∈ tbl := tb_4 55 rfl rfl
theorem wM_L_22 : (Jvm.Cond.methodLink "PictureDeskLaw" (22 : Nat) ({ cls := "PictureDeskModel", name := "of", desc := "(II)I" } : Jvm.MethodName)) ∈ tbl := tb_4 56 rfl rfl
theorem wI_X10_of : (Jvm.Cond.instanceMethod ({ cls := "PictureDeskModel", name := "of", desc := "(II)I" } : Jvm.MethodName)) ∈ tbl := tb_4 57 rfl rfl
theorem wS_X10_of : (Jvm.Cond.selects "PictureDeskModel" ({ cls := "PictureDeskModel", name := "of", desc := "(II)I" } : Jvm.MethodName) ({ cls := "PictureDeskModel", name := "of", desc := "(II)I" } : Jvm.MethodName)) ∈ tbl := tb_4 58 rfl rfl
theorem wC_X10_of : (Jvm.Cond.code ({ cls := "PictureDeskModel", name := "of", desc := "(II)I" } : Jvm.MethodName) prog_12_method_9_code (3 : Nat) (Option.some Jvm.ClassFile.FieldType.int)) ∈ tbl := tb_4 59 rfl rfl
theorem wM_X10_50 : (Jvm.Cond.methodLink "PictureDeskModel" (50 : Nat) ({ cls := "PictureDeskModel", name := "isThing", desc := "(I)Z" } : Jvm.MethodName)) ∈ tbl := tb_4 60 rfl rfl
theorem wI_X10_isThing : (Jvm.Cond.instanceMethod ({ cls := "PictureDeskModel", name := "isThing", desc := "(I)Z" } : Jvm.MethodName)) ∈ tbl := tb_4 62 rfl rfl
theorem wC_X10_isThing : (Jvm.Cond.code ({ cls := "PictureDeskModel", name := "isThing", desc := "(I)Z" } : Jvm.MethodName) prog_12_method_6_code (2 : Nat) (Option.some Jvm.ClassFile.FieldType.boolean)) ∈ tbl := tb_4 63 rfl rfl
theorem wM_L_27 : (Jvm.Cond.methodLink "PictureDeskLaw" (27 : Nat) ({ cls := "PictureDeskModel", name := "set", desc := "(III)I" } : Jvm.MethodName)) ∈ tbl := tb_4 64 rfl rfl
theorem wI_X10_set : (Jvm.Cond.instanceMethod ({ cls := "PictureDeskModel", name := "set", desc := "(III)I" } : Jvm.MethodName)) ∈ tbl := tb_4 65 rfl rfl
theorem wS_X10_set : (Jvm.Cond.selects "PictureDeskModel" ({ cls := "PictureDeskModel", name := "set", desc := "(III)I" } : Jvm.MethodName) ({ cls := "PictureDeskModel", name := "set", desc := "(III)I" } : Jvm.MethodName)) ∈ tbl := tb_4 66 rfl rfl
theorem wC_X10_set : (Jvm.Cond.code ({ cls := "PictureDeskModel", name := "set", desc := "(III)I" } : Jvm.MethodName) prog_12_method_10_code (5 : Nat) (Option.some Jvm.ClassFile.FieldType.int)) ∈ tbl := tb_4 67 rfl rfl
theorem wM_L_31 : (Jvm.Cond.methodLink "PictureDeskLaw" (31 : Nat) ({ cls := "PictureDeskModel", name := "at", desc := "(II)I" } : Jvm.MethodName)) ∈ tbl := tb_4 68 rfl rfl
theorem wI_X10_at : (Jvm.Cond.instanceMethod ({ cls := "PictureDeskModel", name := "at", desc := "(II)I" } : Jvm.MethodName)) ∈ tbl := tb_4 69 rfl rfl
theorem wS_X10_at : (Jvm.Cond.selects "PictureDeskModel" ({ cls := "PictureDeskModel", name := "at", desc := "(II)I" } : Jvm.MethodName) ({ cls := "PictureDeskModel", name := "at", desc := "(II)I" } : Jvm.MethodName)) ∈ tbl := tb_4 70 rfl rfl
theorem wC_X10_at : (Jvm.Cond.code ({ cls := "PictureDeskModel", name := "at", desc := "(II)I" } : Jvm.MethodName) prog_12_method_14_code (3 : Nat) (Option.some Jvm.ClassFile.FieldType.int)) ∈ tbl := tb_4 71 rfl rfl
theorem wM_X10_60 : (Jvm.Cond.methodLink "PictureDeskModel" (60 : Nat) ({ cls := "PictureDeskModel", name := "isCell", desc := "(I)Z" } : Jvm.MethodName)) ∈ tbl := tb_4 72 rfl rfl
theorem wT_X10_isCell : (Jvm.Cond.static ({ cls := "PictureDeskModel", name := "isCell", desc := "(I)Z" } : Jvm.MethodName)) ∈ tbl := tb_4 73 rfl rfl
theorem wC_X10_isCell : (Jvm.Cond.code ({ cls := "PictureDeskModel", name := "isCell", desc := "(I)Z" } : Jvm.MethodName) prog_12_method_4_code (1 : Nat) (Option.some Jvm.ClassFile.FieldType.boolean)) ∈ tbl := tb_4 74 rfl rfl
theorem wM_X10_63 : (Jvm.Cond.methodLink "PictureDeskModel" (63 : Nat) ({ cls := "PictureDeskModel", name := "thingAt", desc := "(III)I" } : Jvm.MethodName)) ∈ tbl := tb_4 75 rfl rfl
theorem wI_X10_thingAt : (Jvm.Cond.instanceMethod ({ cls := "PictureDeskModel", name := "thingAt", desc := "(III)I" } : Jvm.MethodName)) ∈ tbl := tb_4 77 rfl rfl
theorem wC_X10_thingAt : (Jvm.Cond.code ({ cls := "PictureDeskModel", name := "thingAt", desc := "(III)I" } : Jvm.MethodName) prog_12_method_13_code (6 : Nat) (Option.some Jvm.ClassFile.FieldType.int)) ∈ tbl := tb_4 78 rfl rfl
theorem wM_X10_53 : (Jvm.Cond.methodLink "PictureDeskModel" (53 : Nat) ({ cls := "PictureDeskModel", name := "isThere", desc := "(II)Z" } : Jvm.MethodName)) ∈ tbl := tb_4 79 rfl rfl
theorem wI_X10_isThere : (Jvm.Cond.instanceMethod ({ cls := "PictureDeskModel", name := "isThere", desc := "(II)Z" } : Jvm.MethodName)) ∈ tbl := tb_4 81 rfl rfl
theorem wC_X10_isThere : (Jvm.Cond.code ({ cls := "PictureDeskModel", name := "isThere", desc := "(II)Z" } : Jvm.MethodName) prog_12_method_11_code (3 : Nat) (Option.some Jvm.ClassFile.FieldType.boolean)) ∈ tbl := tb_4 82 rfl rfl
theorem wM_X10_57 : (Jvm.Cond.methodLink "PictureDeskModel" (57 : Nat) ({ cls := "PictureDeskModel", name := "isOwn", desc := "(III)Z" } : Jvm.MethodName)) ∈ tbl := tb_4 83 rfl rfl
theorem wI_X10_isOwn : (Jvm.Cond.instanceMethod ({ cls := "PictureDeskModel", name := "isOwn", desc := "(III)Z" } : Jvm.MethodName)) ∈ tbl := tb_4 85 rfl rfl
theorem wC_X10_isOwn : (Jvm.Cond.code ({ cls := "PictureDeskModel", name := "isOwn", desc := "(III)Z" } : Jvm.MethodName) prog_12_method_12_code (5 : Nat) (Option.some Jvm.ClassFile.FieldType.boolean)) ∈ tbl := tb_4 86 rfl rfl
theorem wM_L_36 : (Jvm.Cond.methodLink "PictureDeskLaw" (36 : Nat) ({ cls := "PictureDeskModel", name := "picture", desc := "(IIIII)I" } : Jvm.MethodName)) ∈ tbl := tb_4 87 rfl rfl
theorem wI_X10_picture : (Jvm.Cond.instanceMethod ({ cls := "PictureDeskModel", name := "picture", desc := "(IIIII)I" } : Jvm.MethodName)) ∈ tbl := tb_4 88 rfl rfl
theorem wS_X10_picture : (Jvm.Cond.selects "PictureDeskModel" ({ cls := "PictureDeskModel", name := "picture", desc := "(IIIII)I" } : Jvm.MethodName) ({ cls := "PictureDeskModel", name := "picture", desc := "(IIIII)I" } : Jvm.MethodName)) ∈ tbl := tb_4 89 rfl rfl
theorem wC_X10_picture : (Jvm.Cond.code ({ cls := "PictureDeskModel", name := "picture", desc := "(IIIII)I" } : Jvm.MethodName) prog_12_method_15_code (7 : Nat) (Option.some Jvm.ClassFile.FieldType.int)) ∈ tbl := tb_4 90 rfl rfl
theorem wM_L_41 : (Jvm.Cond.methodLink "PictureDeskLaw" (41 : Nat) ({ cls := "PictureDeskModel", name := "cloud", desc := "(IIZ)I" } : Jvm.MethodName)) ∈ tbl := tb_4 91 rfl rfl
theorem wI_X10_cloud : (Jvm.Cond.instanceMethod ({ cls := "PictureDeskModel", name := "cloud", desc := "(IIZ)I" } : Jvm.MethodName)) ∈ tbl := tb_4 92 rfl rfl
theorem wS_X10_cloud : (Jvm.Cond.selects "PictureDeskModel" ({ cls := "PictureDeskModel", name := "cloud", desc := "(IIZ)I" } : Jvm.MethodName) ({ cls := "PictureDeskModel", name := "cloud", desc := "(IIZ)I" } : Jvm.MethodName)) ∈ tbl := tb_4 93 rfl rfl
theorem wC_X10_cloud : (Jvm.Cond.code ({ cls := "PictureDeskModel", name := "cloud", desc := "(IIZ)I" } : Jvm.MethodName) prog_12_method_16_code (5 : Nat) (Option.some Jvm.ClassFile.FieldType.int)) ∈ tbl := tb_4 94 rfl rfl
theorem wM_X10_67 : (Jvm.Cond.methodLink "PictureDeskModel" (67 : Nat) ({ cls := "PictureDeskModel", name := "isPicture", desc := "(I)Z" } : Jvm.MethodName)) ∈ tbl := tb_4 95 rfl rfl
theorem wI_X10_isPicture : (Jvm.Cond.instanceMethod ({ cls := "PictureDeskModel", name := "isPicture", desc := "(I)Z" } : Jvm.MethodName)) ∈ tbl := tb_4 97 rfl rfl
theorem wC_X10_isPicture : (Jvm.Cond.code ({ cls := "PictureDeskModel", name := "isPicture", desc := "(I)Z" } : Jvm.MethodName) prog_12_method_7_code (2 : Nat) (Option.some Jvm.ClassFile.FieldType.boolean)) ∈ tbl := tb_4 98 rfl rfl
theorem wM_L_45 : (Jvm.Cond.methodLink "PictureDeskLaw" (45 : Nat) ({ cls := "PictureDeskModel", name := "shows", desc := "(II)I" } : Jvm.MethodName)) ∈ tbl := tb_4 99 rfl rfl
theorem wI_X10_shows : (Jvm.Cond.instanceMethod ({ cls := "PictureDeskModel", name := "shows", desc := "(II)I" } : Jvm.MethodName)) ∈ tbl := tb_4 100 rfl rfl
theorem wS_X10_shows : (Jvm.Cond.selects "PictureDeskModel" ({ cls := "PictureDeskModel", name := "shows", desc := "(II)I" } : Jvm.MethodName) ({ cls := "PictureDeskModel", name := "shows", desc := "(II)I" } : Jvm.MethodName)) ∈ tbl := tb_4 101 rfl rfl
theorem wC_X10_shows : (Jvm.Cond.code ({ cls := "PictureDeskModel", name := "shows", desc := "(II)I" } : Jvm.MethodName) prog_12_method_19_code (3 : Nat) (Option.some Jvm.ClassFile.FieldType.int)) ∈ tbl := tb_4 102 rfl rfl
theorem wM_X10_73 : (Jvm.Cond.methodLink "PictureDeskModel" (73 : Nat) ({ cls := "PictureDeskModel", name := "showsOf", desc := "(II)I" } : Jvm.MethodName)) ∈ tbl := tb_4 103 rfl rfl
theorem wI_X10_showsOf : (Jvm.Cond.instanceMethod ({ cls := "PictureDeskModel", name := "showsOf", desc := "(II)I" } : Jvm.MethodName)) ∈ tbl := tb_4 105 rfl rfl
theorem wC_X10_showsOf : (Jvm.Cond.code ({ cls := "PictureDeskModel", name := "showsOf", desc := "(II)I" } : Jvm.MethodName) prog_12_method_18_code (15 : Nat) (Option.some Jvm.ClassFile.FieldType.int)) ∈ tbl := tb_4 106 rfl rfl
theorem wM_X10_70 : (Jvm.Cond.methodLink "PictureDeskModel" (70 : Nat) ({ cls := "PictureDeskModel", name := "covers", desc := "(II)Z" } : Jvm.MethodName)) ∈ tbl := tb_4 107 rfl rfl
theorem wI_X10_covers : (Jvm.Cond.instanceMethod ({ cls := "PictureDeskModel", name := "covers", desc := "(II)Z" } : Jvm.MethodName)) ∈ tbl := tb_4 109 rfl rfl
theorem wC_X10_covers : (Jvm.Cond.code ({ cls := "PictureDeskModel", name := "covers", desc := "(II)Z" } : Jvm.MethodName) prog_12_method_17_code (3 : Nat) (Option.some Jvm.ClassFile.FieldType.boolean)) ∈ tbl := tb_4 110 rfl rfl
theorem wM_L_49 : (Jvm.Cond.methodLink "PictureDeskLaw" (49 : Nat) ({ cls := "PictureDeskModel", name := "count", desc := "(II)I" } : Jvm.MethodName)) ∈ tbl := tb_4 111 rfl rfl
theorem wI_X10_count : (Jvm.Cond.instanceMethod ({ cls := "PictureDeskModel", name := "count", desc := "(II)I" } : Jvm.MethodName)) ∈ tbl := tb_4 112 rfl rfl
theorem wS_X10_count : (Jvm.Cond.selects "PictureDeskModel" ({ cls := "PictureDeskModel", name := "count", desc := "(II)I" } : Jvm.MethodName) ({ cls := "PictureDeskModel", name := "count", desc := "(II)I" } : Jvm.MethodName)) ∈ tbl := tb_4 113 rfl rfl
theorem wC_X10_count : (Jvm.Cond.code ({ cls := "PictureDeskModel", name := "count", desc := "(II)I" } : Jvm.MethodName) prog_12_method_20_code (7 : Nat) (Option.some Jvm.ClassFile.FieldType.int)) ∈ tbl := tb_4 114 rfl rfl
theorem wM_L_53 : (Jvm.Cond.methodLink "PictureDeskLaw" (53 : Nat) ({ cls := "PictureDeskModel", name := "span", desc := "(III)I" } : Jvm.MethodName)) ∈ tbl := tb_4 115 rfl rfl
theorem wI_X10_span : (Jvm.Cond.instanceMethod ({ cls := "PictureDeskModel", name := "span", desc := "(III)I" } : Jvm.MethodName)) ∈ tbl := tb_4 116 rfl rfl
theorem wS_X10_span : (Jvm.Cond.selects "PictureDeskModel" ({ cls := "PictureDeskModel", name := "span", desc := "(III)I" } : Jvm.MethodName) ({ cls := "PictureDeskModel", name := "span", desc := "(III)I" } : Jvm.MethodName)) ∈ tbl := tb_4 117 rfl rfl
theorem wC_X10_span : (Jvm.Cond.code ({ cls := "PictureDeskModel", name := "span", desc := "(III)I" } : Jvm.MethodName) prog_12_method_21_code (7 : Nat) (Option.some Jvm.ClassFile.FieldType.int)) ∈ tbl := tb_4 118 rfl rfl
theorem wM_X10_77 : (Jvm.Cond.methodLink "PictureDeskModel" (77 : Nat) ({ cls := "PictureDeskModel", name := "isPart", desc := "(I)Z" } : Jvm.MethodName)) ∈ tbl := tb_4 119 rfl rfl
theorem wT_X10_isPart : (Jvm.Cond.static ({ cls := "PictureDeskModel", name := "isPart", desc := "(I)Z" } : Jvm.MethodName)) ∈ tbl := tb_4 120 rfl rfl
theorem wC_X10_isPart : (Jvm.Cond.code ({ cls := "PictureDeskModel", name := "isPart", desc := "(I)Z" } : Jvm.MethodName) prog_12_method_5_code (1 : Nat) (Option.some Jvm.ClassFile.FieldType.boolean)) ∈ tbl := tb_4 121 rfl rfl
theorem wM_L_57 : (Jvm.Cond.methodLink "PictureDeskLaw" (57 : Nat) ({ cls := "PictureDeskModel", name := "changed", desc := "(III)I" } : Jvm.MethodName)) ∈ tbl := tb_4 122 rfl rfl
theorem wI_X10_changed : (Jvm.Cond.instanceMethod ({ cls := "PictureDeskModel", name := "changed", desc := "(III)I" } : Jvm.MethodName)) ∈ tbl := tb_4 123 rfl rfl
theorem wS_X10_changed : (Jvm.Cond.selects "PictureDeskModel" ({ cls := "PictureDeskModel", name := "changed", desc := "(III)I" } : Jvm.MethodName) ({ cls := "PictureDeskModel", name := "changed", desc := "(III)I" } : Jvm.MethodName)) ∈ tbl := tb_4 124 rfl rfl
theorem wC_X10_changed : (Jvm.Cond.code ({ cls := "PictureDeskModel", name := "changed", desc := "(III)I" } : Jvm.MethodName) prog_12_method_22_code (10 : Nat) (Option.some Jvm.ClassFile.FieldType.int)) ∈ tbl := tb_4 125 rfl rfl
theorem wM_L_62 : (Jvm.Cond.methodLink "PictureDeskLaw" (62 : Nat) ({ cls := "PictureDeskModel", name := "say", desc := "(I)I" } : Jvm.MethodName)) ∈ tbl := tb_4 126 rfl rfl
theorem wI_X10_say : (Jvm.Cond.instanceMethod ({ cls := "PictureDeskModel", name := "say", desc := "(I)I" } : Jvm.MethodName)) ∈ tbl := tb_4 127 rfl rfl
theorem wS_X10_say : (Jvm.Cond.selects "PictureDeskModel" ({ cls := "PictureDeskModel", name := "say", desc := "(I)I" } : Jvm.MethodName) ({ cls := "PictureDeskModel", name := "say", desc := "(I)I" } : Jvm.MethodName)) ∈ tbl := tb_4 128 rfl rfl
theorem wC_X10_say : (Jvm.Cond.code ({ cls := "PictureDeskModel", name := "say", desc := "(I)I" } : Jvm.MethodName) prog_12_method_23_code (2 : Nat) (Option.some Jvm.ClassFile.FieldType.int)) ∈ tbl := tb_4 129 rfl rfl
theorem wM_L_67 : (Jvm.Cond.methodLink "PictureDeskLaw" (67 : Nat) ({ cls := "PictureDeskModel", name := "wipe", desc := "()I" } : Jvm.MethodName)) ∈ tbl := tb_4 130 rfl rfl
theorem wI_X10_wipe : (Jvm.Cond.instanceMethod ({ cls := "PictureDeskModel", name := "wipe", desc := "()I" } : Jvm.MethodName)) ∈ tbl := tb_4 131 rfl rfl
theorem wS_X10_wipe : (Jvm.Cond.selects "PictureDeskModel" ({ cls := "PictureDeskModel", name := "wipe", desc := "()I" } : Jvm.MethodName) ({ cls := "PictureDeskModel", name := "wipe", desc := "()I" } : Jvm.MethodName)) ∈ tbl := tb_4 132 rfl rfl
theorem wC_X10_wipe : (Jvm.Cond.code ({ cls := "PictureDeskModel", name := "wipe", desc := "()I" } : Jvm.MethodName) prog_12_method_24_code (2 : Nat) (Option.some Jvm.ClassFile.FieldType.int)) ∈ tbl := tb_4 133 rfl rfl
theorem wM_L_71 : (Jvm.Cond.methodLink "PictureDeskLaw" (71 : Nat) ({ cls := "PictureDeskModel", name := "fault", desc := "()I" } : Jvm.MethodName)) ∈ tbl := tb_4 134 rfl rfl
theorem wI_X10_fault : (Jvm.Cond.instanceMethod ({ cls := "PictureDeskModel", name := "fault", desc := "()I" } : Jvm.MethodName)) ∈ tbl := tb_4 135 rfl rfl
theorem wS_X10_fault : (Jvm.Cond.selects "PictureDeskModel" ({ cls := "PictureDeskModel", name := "fault", desc := "()I" } : Jvm.MethodName) ({ cls := "PictureDeskModel", name := "fault", desc := "()I" } : Jvm.MethodName)) ∈ tbl := tb_4 136 rfl rfl
theorem wC_X10_fault : (Jvm.Cond.code ({ cls := "PictureDeskModel", name := "fault", desc := "()I" } : Jvm.MethodName) prog_12_method_26_code (1 : Nat) (Option.some Jvm.ClassFile.FieldType.int)) ∈ tbl := tb_4 137 rfl rfl
theorem wM_X10_83 : (Jvm.Cond.methodLink "PictureDeskModel" (83 : Nat) ({ cls := "PictureDeskModel", name := "faultOf", desc := "()I" } : Jvm.MethodName)) ∈ tbl := tb_4 138 rfl rfl
theorem wI_X10_faultOf : (Jvm.Cond.instanceMethod ({ cls := "PictureDeskModel", name := "faultOf", desc := "()I" } : Jvm.MethodName)) ∈ tbl := tb_4 140 rfl rfl
theorem wC_X10_faultOf : (Jvm.Cond.code ({ cls := "PictureDeskModel", name := "faultOf", desc := "()I" } : Jvm.MethodName) prog_12_method_25_code (6 : Nat) (Option.some Jvm.ClassFile.FieldType.int)) ∈ tbl := tb_4 141 rfl rfl
theorem wM_L_75 : (Jvm.Cond.methodLink "PictureDeskLaw" (75 : Nat) ({ cls := "PictureDeskModel", name := "use", desc := "(I)I" } : Jvm.MethodName)) ∈ tbl := tb_4 142 rfl rfl
theorem wI_X10_use : (Jvm.Cond.instanceMethod ({ cls := "PictureDeskModel", name := "use", desc := "(I)I" } : Jvm.MethodName)) ∈ tbl := tb_4 143 rfl rfl
theorem wS_X10_use : (Jvm.Cond.selects "PictureDeskModel" ({ cls := "PictureDeskModel", name := "use", desc := "(I)I" } : Jvm.MethodName) ({ cls := "PictureDeskModel", name := "use", desc := "(I)I" } : Jvm.MethodName)) ∈ tbl := tb_4 144 rfl rfl
theorem wC_X10_use : (Jvm.Cond.code ({ cls := "PictureDeskModel", name := "use", desc := "(I)I" } : Jvm.MethodName) prog_12_method_27_code (4 : Nat) (Option.some Jvm.ClassFile.FieldType.int)) ∈ tbl := tb_4 145 rfl rfl
theorem wM_L_79 : (Jvm.Cond.methodLink "PictureDeskLaw" (79 : Nat) ({ cls := "PictureDeskModel", name := "fact", desc := "(III)I" } : Jvm.MethodName)) ∈ tbl := tb_4 146 rfl rfl
theorem wI_X10_fact : (Jvm.Cond.instanceMethod ({ cls := "PictureDeskModel", name := "fact", desc := "(III)I" } : Jvm.MethodName)) ∈ tbl := tb_4 147 rfl rfl
theorem wS_X10_fact : (Jvm.Cond.selects "PictureDeskModel" ({ cls := "PictureDeskModel", name := "fact", desc := "(III)I" } : Jvm.MethodName) ({ cls := "PictureDeskModel", name := "fact", desc := "(III)I" } : Jvm.MethodName)) ∈ tbl := tb_4 148 rfl rfl
theorem wC_X10_fact : (Jvm.Cond.code ({ cls := "PictureDeskModel", name := "fact", desc := "(III)I" } : Jvm.MethodName) prog_12_method_34_code (4 : Nat) (Option.some Jvm.ClassFile.FieldType.int)) ∈ tbl := tb_4 149 rfl rfl
theorem wM_X10_103 : (Jvm.Cond.methodLink "PictureDeskModel" (103 : Nat) ({ cls := "PictureDeskModel", name := "factOf", desc := "(III)I" } : Jvm.MethodName)) ∈ tbl := tb_4 150 rfl rfl
theorem wI_X10_factOf : (Jvm.Cond.instanceMethod ({ cls := "PictureDeskModel", name := "factOf", desc := "(III)I" } : Jvm.MethodName)) ∈ tbl := tb_4 152 rfl rfl
theorem wC_X10_factOf : (Jvm.Cond.code ({ cls := "PictureDeskModel", name := "factOf", desc := "(III)I" } : Jvm.MethodName) prog_12_method_33_code (5 : Nat) (Option.some Jvm.ClassFile.FieldType.int)) ∈ tbl := tb_4 153 rfl rfl
theorem wM_X10_97 : (Jvm.Cond.methodLink "PictureDeskModel" (97 : Nat) ({ cls := "PictureDeskModel", name := "nearOf", desc := "(III)I" } : Jvm.MethodName)) ∈ tbl := tb_4 154 rfl rfl
theorem wI_X10_nearOf : (Jvm.Cond.instanceMethod ({ cls := "PictureDeskModel", name := "nearOf", desc := "(III)I" } : Jvm.MethodName)) ∈ tbl := tb_4 156 rfl rfl
theorem wC_X10_nearOf : (Jvm.Cond.code ({ cls := "PictureDeskModel", name := "nearOf", desc := "(III)I" } : Jvm.MethodName) prog_12_method_32_code (8 : Nat) (Option.some Jvm.ClassFile.FieldType.int)) ∈ tbl := tb_4 157 rfl rfl
theorem wM_X10_94 : (Jvm.Cond.methodLink "PictureDeskModel" (94 : Nat) ({ cls := "PictureDeskModel", name := "farOf", desc := "(II)I" } : Jvm.MethodName)) ∈ tbl := tb_4 158 rfl rfl
theorem wI_X10_farOf : (Jvm.Cond.instanceMethod ({ cls := "PictureDeskModel", name := "farOf", desc := "(II)I" } : Jvm.MethodName)) ∈ tbl := tb_4 160 rfl rfl
theorem wC_X10_farOf : (Jvm.Cond.code ({ cls := "PictureDeskModel", name := "farOf", desc := "(II)I" } : Jvm.MethodName) prog_12_method_31_code (5 : Nat) (Option.some Jvm.ClassFile.FieldType.int)) ∈ tbl := tb_4 161 rfl rfl
theorem wM_X10_90 : (Jvm.Cond.methodLink "PictureDeskModel" (90 : Nat) ({ cls := "PictureDeskModel", name := "isShown", desc := "(IIIIZ)Z" } : Jvm.MethodName)) ∈ tbl := tb_4 162 rfl rfl
theorem wI_X10_isShown : (Jvm.Cond.instanceMethod ({ cls := "PictureDeskModel", name := "isShown", desc := "(IIIIZ)Z" } : Jvm.MethodName)) ∈ tbl := tb_4 164 rfl rfl
theorem wC_X10_isShown : (Jvm.Cond.code ({ cls := "PictureDeskModel", name := "isShown", desc := "(IIIIZ)Z" } : Jvm.MethodName) prog_12_method_29_code (8 : Nat) (Option.some Jvm.ClassFile.FieldType.boolean)) ∈ tbl := tb_4 165 rfl rfl
theorem wM_X10_87 : (Jvm.Cond.methodLink "PictureDeskModel" (87 : Nat) ({ cls := "PictureDeskModel", name := "isSeen", desc := "(II)Z" } : Jvm.MethodName)) ∈ tbl := tb_4 166 rfl rfl
theorem wI_X10_isSeen : (Jvm.Cond.instanceMethod ({ cls := "PictureDeskModel", name := "isSeen", desc := "(II)Z" } : Jvm.MethodName)) ∈ tbl := tb_4 168 rfl rfl
theorem wC_X10_isSeen : (Jvm.Cond.code ({ cls := "PictureDeskModel", name := "isSeen", desc := "(II)Z" } : Jvm.MethodName) prog_12_method_28_code (3 : Nat) (Option.some Jvm.ClassFile.FieldType.boolean)) ∈ tbl := tb_4 169 rfl rfl
theorem wM_X10_100 : (Jvm.Cond.methodLink "PictureDeskModel" (100 : Nat) ({ cls := "PictureDeskModel", name := "shownOf", desc := "(II)I" } : Jvm.MethodName)) ∈ tbl := tb_4 170 rfl rfl
theorem wI_X10_shownOf : (Jvm.Cond.instanceMethod ({ cls := "PictureDeskModel", name := "shownOf", desc := "(II)I" } : Jvm.MethodName)) ∈ tbl := tb_4 172 rfl rfl
theorem wC_X10_shownOf : (Jvm.Cond.code ({ cls := "PictureDeskModel", name := "shownOf", desc := "(II)I" } : Jvm.MethodName) prog_12_method_30_code (5 : Nat) (Option.some Jvm.ClassFile.FieldType.int)) ∈ tbl := tb_4 173 rfl rfl
theorem wM_L_83 : (Jvm.Cond.methodLink "PictureDeskLaw" (83 : Nat) ({ cls := "PictureDeskModel", name := "fit", desc := "(III)I" } : Jvm.MethodName)) ∈ tbl := tb_4 174 rfl rfl
theorem wI_X10_fit : (Jvm.Cond.instanceMethod ({ cls := "PictureDeskModel", name := "fit", desc := "(III)I" } : Jvm.MethodName)) ∈ tbl := tb_4 175 rfl rfl
theorem wS_X10_fit : (Jvm.Cond.selects "PictureDeskModel" ({ cls := "PictureDeskModel", name := "fit", desc := "(III)I" } : Jvm.MethodName) ({ cls := "PictureDeskModel", name := "fit", desc := "(III)I" } : Jvm.MethodName)) ∈ tbl := tb_4 176 rfl rfl
theorem wC_X10_fit : (Jvm.Cond.code ({ cls := "PictureDeskModel", name := "fit", desc := "(III)I" } : Jvm.MethodName) prog_12_method_37_code (4 : Nat) (Option.some Jvm.ClassFile.FieldType.int)) ∈ tbl := tb_4 177 rfl rfl
theorem wM_X10_106 : (Jvm.Cond.methodLink "PictureDeskModel" (106 : Nat) ({ cls := "PictureDeskModel", name := "isUse", desc := "(I)Z" } : Jvm.MethodName)) ∈ tbl := tb_4 178 rfl rfl
theorem wI_X10_isUse : (Jvm.Cond.instanceMethod ({ cls := "PictureDeskModel", name := "isUse", desc := "(I)Z" } : Jvm.MethodName)) ∈ tbl := tb_4 180 rfl rfl
theorem wC_X10_isUse : (Jvm.Cond.code ({ cls := "PictureDeskModel", name := "isUse", desc := "(I)Z" } : Jvm.MethodName) prog_12_method_36_code (2 : Nat) (Option.some Jvm.ClassFile.FieldType.boolean)) ∈ tbl := tb_4 181 rfl rfl
theorem wM_X10_109 : (Jvm.Cond.methodLink "PictureDeskModel" (109 : Nat) ({ cls := "PictureDeskModel", name := "fitOf", desc := "(III)I" } : Jvm.MethodName)) ∈ tbl := tb_4 182 rfl rfl
theorem wI_X10_fitOf : (Jvm.Cond.instanceMethod ({ cls := "PictureDeskModel", name := "fitOf", desc := "(III)I" } : Jvm.MethodName)) ∈ tbl := tb_4 184 rfl rfl
theorem wC_X10_fitOf : (Jvm.Cond.code ({ cls := "PictureDeskModel", name := "fitOf", desc := "(III)I" } : Jvm.MethodName) prog_12_method_35_code (14 : Nat) (Option.some Jvm.ClassFile.FieldType.int)) ∈ tbl := tb_4 185 rfl rfl
theorem wM_L_87 : (Jvm.Cond.methodLink "PictureDeskLaw" (87 : Nat) ({ cls := "PictureDeskModel", name := "could", desc := "(II)I" } : Jvm.MethodName)) ∈ tbl := tb_4 186 rfl rfl
theorem wI_X10_could : (Jvm.Cond.instanceMethod ({ cls := "PictureDeskModel", name := "could", desc := "(II)I" } : Jvm.MethodName)) ∈ tbl := tb_4 187 rfl rfl
theorem wS_X10_could : (Jvm.Cond.selects "PictureDeskModel" ({ cls := "PictureDeskModel", name := "could", desc := "(II)I" } : Jvm.MethodName) ({ cls := "PictureDeskModel", name := "could", desc := "(II)I" } : Jvm.MethodName)) ∈ tbl := tb_4 188 rfl rfl
theorem wC_X10_could : (Jvm.Cond.code ({ cls := "PictureDeskModel", name := "could", desc := "(II)I" } : Jvm.MethodName) prog_12_method_38_code (6 : Nat) (Option.some Jvm.ClassFile.FieldType.int)) ∈ tbl := tb_4 189 rfl rfl
theorem wM_L_91 : (Jvm.Cond.methodLink "PictureDeskLaw" (91 : Nat) ({ cls := "PictureDeskModel", name := "all", desc := "(III)I" } : Jvm.MethodName)) ∈ tbl := tb_4 190 rfl rfl
theorem wI_X10_all : (Jvm.Cond.instanceMethod ({ cls := "PictureDeskModel", name := "all", desc := "(III)I" } : Jvm.MethodName)) ∈ tbl := tb_4 191 rfl rfl
theorem wS_X10_all : (Jvm.Cond.selects "PictureDeskModel" ({ cls := "PictureDeskModel", name := "all", desc := "(III)I" } : Jvm.MethodName) ({ cls := "PictureDeskModel", name := "all", desc := "(III)I" } : Jvm.MethodName)) ∈ tbl := tb_4 192 rfl rfl
theorem wC_X10_all : (Jvm.Cond.code ({ cls := "PictureDeskModel", name := "all", desc := "(III)I" } : Jvm.MethodName) prog_12_method_39_code (6 : Nat) (Option.some Jvm.ClassFile.FieldType.int)) ∈ tbl := tb_4 193 rfl rfl
theorem wM_L_95 : (Jvm.Cond.methodLink "PictureDeskLaw" (95 : Nat) ({ cls := "PictureDeskModel", name := "meet", desc := "(II)I" } : Jvm.MethodName)) ∈ tbl := tb_4 194 rfl rfl
theorem wI_X10_meet : (Jvm.Cond.instanceMethod ({ cls := "PictureDeskModel", name := "meet", desc := "(II)I" } : Jvm.MethodName)) ∈ tbl := tb_4 195 rfl rfl
theorem wS_X10_meet : (Jvm.Cond.selects "PictureDeskModel" ({ cls := "PictureDeskModel", name := "meet", desc := "(II)I" } : Jvm.MethodName) ({ cls := "PictureDeskModel", name := "meet", desc := "(II)I" } : Jvm.MethodName)) ∈ tbl := tb_4 196 rfl rfl
theorem wC_X10_meet : (Jvm.Cond.code ({ cls := "PictureDeskModel", name := "meet", desc := "(II)I" } : Jvm.MethodName) prog_12_method_45_code (4 : Nat) (Option.some Jvm.ClassFile.FieldType.int)) ∈ tbl := tb_4 197 rfl rfl
theorem wM_X10_128 : (Jvm.Cond.methodLink "PictureDeskModel" (128 : Nat) ({ cls := "PictureDeskModel", name := "meetOf", desc := "(I)I" } : Jvm.MethodName)) ∈ tbl := tb_4 198 rfl rfl
theorem wI_X10_meetOf : (Jvm.Cond.instanceMethod ({ cls := "PictureDeskModel", name := "meetOf", desc := "(I)I" } : Jvm.MethodName)) ∈ tbl := tb_4 200 rfl rfl
theorem wC_X10_meetOf : (Jvm.Cond.code ({ cls := "PictureDeskModel", name := "meetOf", desc := "(I)I" } : Jvm.MethodName) prog_12_method_44_code (6 : Nat) (Option.some Jvm.ClassFile.FieldType.int)) ∈ tbl := tb_4 201 rfl rfl
theorem wM_X10_122 : (Jvm.Cond.methodLink "PictureDeskModel" (122 : Nat) ({ cls := "PictureDeskModel", name := "faces", desc := "(II)Z" } : Jvm.MethodName)) ∈ tbl := tb_4 202 rfl rfl
theorem wI_X10_faces : (Jvm.Cond.instanceMethod ({ cls := "PictureDeskModel", name := "faces", desc := "(II)Z" } : Jvm.MethodName)) ∈ tbl := tb_4 204 rfl rfl
theorem wC_X10_faces : (Jvm.Cond.code ({ cls := "PictureDeskModel", name := "faces", desc := "(II)Z" } : Jvm.MethodName) prog_12_method_42_code (3 : Nat) (Option.some Jvm.ClassFile.FieldType.boolean)) ∈ tbl := tb_4 205 rfl rfl
theorem wM_X10_125 : (Jvm.Cond.methodLink "PictureDeskModel" (125 : Nat) ({ cls := "PictureDeskModel", name := "isOn", desc := "(III)Z" } : Jvm.MethodName)) ∈ tbl := tb_4 206 rfl rfl
theorem wI_X10_isOn : (Jvm.Cond.instanceMethod ({ cls := "PictureDeskModel", name := "isOn", desc := "(III)Z" } : Jvm.MethodName)) ∈ tbl := tb_4 208 rfl rfl
theorem wC_X10_isOn : (Jvm.Cond.code ({ cls := "PictureDeskModel", name := "isOn", desc := "(III)Z" } : Jvm.MethodName) prog_12_method_43_code (7 : Nat) (Option.some Jvm.ClassFile.FieldType.boolean)) ∈ tbl := tb_4 209 rfl rfl
theorem wM_X10_112 : (Jvm.Cond.methodLink "PictureDeskModel" (112 : Nat) ({ cls := "PictureDeskModel", name := "eastOf", desc := "(I)I" } : Jvm.MethodName)) ∈ tbl := tb_4 210 rfl rfl
theorem wT_X10_eastOf : (Jvm.Cond.static ({ cls := "PictureDeskModel", name := "eastOf", desc := "(I)I" } : Jvm.MethodName)) ∈ tbl := tb_4 211 rfl rfl
theorem wC_X10_eastOf : (Jvm.Cond.code ({ cls := "PictureDeskModel", name := "eastOf", desc := "(I)I" } : Jvm.MethodName) prog_12_method_40_code (1 : Nat) (Option.some Jvm.ClassFile.FieldType.int)) ∈ tbl := tb_4 212 rfl rfl
theorem wM_X10_116 : (Jvm.Cond.methodLink "PictureDeskModel" (116 : Nat) ({ cls := "PictureDeskModel", name := "southOf", desc := "(I)I" } : Jvm.MethodName)) ∈ tbl := tb_4 213 rfl rfl
theorem wT_X10_southOf : (Jvm.Cond.static ({ cls := "PictureDeskModel", name := "southOf", desc := "(I)I" } : Jvm.MethodName)) ∈ tbl := tb_4 214 rfl rfl
theorem wC_X10_southOf : (Jvm.Cond.code ({ cls := "PictureDeskModel", name := "southOf", desc := "(I)I" } : Jvm.MethodName) prog_12_method_41_code (1 : Nat) (Option.some Jvm.ClassFile.FieldType.int)) ∈ tbl := tb_4 215 rfl rfl
theorem wM_L_100 : (Jvm.Cond.methodLink "PictureDeskLaw" (100 : Nat) ({ cls := "PictureDeskModel", name := "chance", desc := "(II)J" } : Jvm.MethodName)) ∈ tbl := tb_4 216 rfl rfl
theorem wI_X10_chance : (Jvm.Cond.instanceMethod ({ cls := "PictureDeskModel", name := "chance", desc := "(II)J" } : Jvm.MethodName)) ∈ tbl := tb_4 217 rfl rfl
theorem wS_X10_chance : (Jvm.Cond.selects "PictureDeskModel" ({ cls := "PictureDeskModel", name := "chance", desc := "(II)J" } : Jvm.MethodName) ({ cls := "PictureDeskModel", name := "chance", desc := "(II)J" } : Jvm.MethodName)) ∈ tbl := tb_4 218 rfl rfl
theorem wC_X10_chance : (Jvm.Cond.code ({ cls := "PictureDeskModel", name := "chance", desc := "(II)J" } : Jvm.MethodName) prog_12_method_47_code (12 : Nat) (Option.some Jvm.ClassFile.FieldType.long)) ∈ tbl := tb_4 219 rfl rfl
theorem wJ_X10_131 : (Jvm.Cond.constantLong "PictureDeskModel" (131 : Nat) (-1000000000000000002 : Int64)) ∈ tbl := tb_4 220 rfl rfl
theorem wJ_X10_133 : (Jvm.Cond.constantLong "PictureDeskModel" (133 : Nat) (-1000000000000000003 : Int64)) ∈ tbl := tb_4 221 rfl rfl
theorem wJ_X10_135 : (Jvm.Cond.constantLong "PictureDeskModel" (135 : Nat) (8 : Int64)) ∈ tbl := tb_4 222 rfl rfl
theorem wM_X10_137 : (Jvm.Cond.methodLink "PictureDeskModel" (137 : Nat) ({ cls := "PictureDeskModel", name := "term", desc := "(JJI)J" } : Jvm.MethodName)) ∈ tbl := tb_4 223 rfl rfl
theorem wT_X10_term : (Jvm.Cond.static ({ cls := "PictureDeskModel", name := "term", desc := "(JJI)J" } : Jvm.MethodName)) ∈ tbl := tb_4 224 rfl rfl
theorem wC_X10_term : (Jvm.Cond.code ({ cls := "PictureDeskModel", name := "term", desc := "(JJI)J" } : Jvm.MethodName) prog_12_method_46_code (11 : Nat) (Option.some Jvm.ClassFile.FieldType.long)) ∈ tbl := tb_4 225 rfl rfl
theorem wM_L_104 : (Jvm.Cond.methodLink "PictureDeskLaw" (104 : Nat) ({ cls := "PictureDeskModel", name := "did", desc := "(IIZ)I" } : Jvm.MethodName)) ∈ tbl := tb_4 226 rfl rfl
theorem wI_X10_did : (Jvm.Cond.instanceMethod ({ cls := "PictureDeskModel", name := "did", desc := "(IIZ)I" } : Jvm.MethodName)) ∈ tbl := tb_4 227 rfl rfl
theorem wS_X10_did : (Jvm.Cond.selects "PictureDeskModel" ({ cls := "PictureDeskModel", name := "did", desc := "(IIZ)I" } : Jvm.MethodName) ({ cls := "PictureDeskModel", name := "did", desc := "(IIZ)I" } : Jvm.MethodName)) ∈ tbl := tb_4 228 rfl rfl
theorem wC_X10_did : (Jvm.Cond.code ({ cls := "PictureDeskModel", name := "did", desc := "(IIZ)I" } : Jvm.MethodName) prog_12_method_48_code (5 : Nat) (Option.some Jvm.ClassFile.FieldType.int)) ∈ tbl := tb_4 229 rfl rfl
theorem wM_L_109 : (Jvm.Cond.methodLink "PictureDeskLaw" (109 : Nat) ({ cls := "PictureDeskModel", name := "decoy", desc := "(IIIII)J" } : Jvm.MethodName)) ∈ tbl := tb_4 230 rfl rfl
theorem wI_X10_decoy : (Jvm.Cond.instanceMethod ({ cls := "PictureDeskModel", name := "decoy", desc := "(IIIII)J" } : Jvm.MethodName)) ∈ tbl := tb_4 231 rfl rfl
theorem wS_X10_decoy : (Jvm.Cond.selects "PictureDeskModel" ({ cls := "PictureDeskModel", name := "decoy", desc := "(IIIII)J" } : Jvm.MethodName) ({ cls := "PictureDeskModel", name := "decoy", desc := "(IIIII)J" } : Jvm.MethodName)) ∈ tbl := tb_4 232 rfl rfl
theorem wC_X10_decoy : (Jvm.Cond.code ({ cls := "PictureDeskModel", name := "decoy", desc := "(IIIII)J" } : Jvm.MethodName) prog_12_method_49_code (12 : Nat) (Option.some Jvm.ClassFile.FieldType.long)) ∈ tbl := tb_4 233 rfl rfl
theorem wJ_X10_141 : (Jvm.Cond.constantLong "PictureDeskModel" (141 : Nat) (-1000000000000000001 : Int64)) ∈ tbl := tb_4 234 rfl rfl
theorem wJ_X10_143 : (Jvm.Cond.constantLong "PictureDeskModel" (143 : Nat) (20 : Int64)) ∈ tbl := tb_4 235 rfl rfl
theorem wM_L_113 : (Jvm.Cond.methodLink "PictureDeskLaw" (113 : Nat) ({ cls := "PictureDeskModel", name := "sure", desc := "(II)I" } : Jvm.MethodName)) ∈ tbl := tb_4 236 rfl rfl
theorem wI_X10_sure : (Jvm.Cond.instanceMethod ({ cls := "PictureDeskModel", name := "sure", desc := "(II)I" } : Jvm.MethodName)) ∈ tbl := tb_4 237 rfl rfl
theorem wS_X10_sure : (Jvm.Cond.selects "PictureDeskModel" ({ cls := "PictureDeskModel", name := "sure", desc := "(II)I" } : Jvm.MethodName) ({ cls := "PictureDeskModel", name := "sure", desc := "(II)I" } : Jvm.MethodName)) ∈ tbl := tb_4 238 rfl rfl
theorem wC_X10_sure : (Jvm.Cond.code ({ cls := "PictureDeskModel", name := "sure", desc := "(II)I" } : Jvm.MethodName) prog_12_method_50_code (8 : Nat) (Option.some Jvm.ClassFile.FieldType.int)) ∈ tbl := tb_4 239 rfl rfl
theorem wJ_X10_145 : (Jvm.Cond.constantLong "PictureDeskModel" (145 : Nat) (100 : Int64)) ∈ tbl := tb_5 0 rfl rfl
theorem wM_L_117 : (Jvm.Cond.methodLink "PictureDeskLaw" (117 : Nat) ({ cls := "PictureDeskModel", name := "flight", desc := "(IIIII)I" } : Jvm.MethodName)) ∈ tbl := tb_5 1 rfl rfl
theorem wI_X10_flight : (Jvm.Cond.instanceMethod ({ cls := "PictureDeskModel", name := "flight", desc := "(IIIII)I" } : Jvm.MethodName)) ∈ tbl := tb_5 2 rfl rfl
theorem wS_X10_flight : (Jvm.Cond.selects "PictureDeskModel" ({ cls := "PictureDeskModel", name := "flight", desc := "(IIIII)I" } : Jvm.MethodName) ({ cls := "PictureDeskModel", name := "flight", desc := "(IIIII)I" } : Jvm.MethodName)) ∈ tbl := tb_5 3 rfl rfl
theorem wC_X10_flight : (Jvm.Cond.code ({ cls := "PictureDeskModel", name := "flight", desc := "(IIIII)I" } : Jvm.MethodName) prog_12_method_51_code (6 : Nat) (Option.some Jvm.ClassFile.FieldType.int)) ∈ tbl := tb_5 4 rfl rfl
theorem wM_L_121 : (Jvm.Cond.methodLink "PictureDeskLaw" (121 : Nat) ({ cls := "PictureDeskModel", name := "worth", desc := "(II)J" } : Jvm.MethodName)) ∈ tbl := tb_5 5 rfl rfl
theorem wI_X10_worth : (Jvm.Cond.instanceMethod ({ cls := "PictureDeskModel", name := "worth", desc := "(II)J" } : Jvm.MethodName)) ∈ tbl := tb_5 6 rfl rfl
theorem wS_X10_worth : (Jvm.Cond.selects "PictureDeskModel" ({ cls := "PictureDeskModel", name := "worth", desc := "(II)J" } : Jvm.MethodName) ({ cls := "PictureDeskModel", name := "worth", desc := "(II)J" } : Jvm.MethodName)) ∈ tbl := tb_5 7 rfl rfl
theorem wC_X10_worth : (Jvm.Cond.code ({ cls := "PictureDeskModel", name := "worth", desc := "(II)J" } : Jvm.MethodName) prog_12_method_53_code (3 : Nat) (Option.some Jvm.ClassFile.FieldType.long)) ∈ tbl := tb_5 8 rfl rfl
theorem wM_X10_151 : (Jvm.Cond.methodLink "PictureDeskModel" (151 : Nat) ({ cls := "PictureDeskModel", name := "worthOf", desc := "(I)J" } : Jvm.MethodName)) ∈ tbl := tb_5 9 rfl rfl
theorem wI_X10_worthOf : (Jvm.Cond.instanceMethod ({ cls := "PictureDeskModel", name := "worthOf", desc := "(I)J" } : Jvm.MethodName)) ∈ tbl := tb_5 11 rfl rfl
theorem wC_X10_worthOf : (Jvm.Cond.code ({ cls := "PictureDeskModel", name := "worthOf", desc := "(I)J" } : Jvm.MethodName) prog_12_method_52_code (9 : Nat) (Option.some Jvm.ClassFile.FieldType.long)) ∈ tbl := tb_5 12 rfl rfl
theorem wJ_X10_147 : (Jvm.Cond.constantLong "PictureDeskModel" (147 : Nat) (10 : Int64)) ∈ tbl := tb_5 13 rfl rfl
theorem wJ_X10_149 : (Jvm.Cond.constantLong "PictureDeskModel" (149 : Nat) (100000000 : Int64)) ∈ tbl := tb_5 14 rfl rfl
theorem wM_L_125 : (Jvm.Cond.methodLink "PictureDeskLaw" (125 : Nat) ({ cls := "PictureDeskModel", name := "best", desc := "(II)I" } : Jvm.MethodName)) ∈ tbl := tb_5 15 rfl rfl
theorem wI_X10_best : (Jvm.Cond.instanceMethod ({ cls := "PictureDeskModel", name := "best", desc := "(II)I" } : Jvm.MethodName)) ∈ tbl := tb_5 16 rfl rfl
theorem wS_X10_best : (Jvm.Cond.selects "PictureDeskModel" ({ cls := "PictureDeskModel", name := "best", desc := "(II)I" } : Jvm.MethodName) ({ cls := "PictureDeskModel", name := "best", desc := "(II)I" } : Jvm.MethodName)) ∈ tbl := tb_5 17 rfl rfl
theorem wC_X10_best : (Jvm.Cond.code ({ cls := "PictureDeskModel", name := "best", desc := "(II)I" } : Jvm.MethodName) prog_12_method_55_code (8 : Nat) (Option.some Jvm.ClassFile.FieldType.int)) ∈ tbl := tb_5 18 rfl rfl
theorem wM_X10_155 : (Jvm.Cond.methodLink "PictureDeskModel" (155 : Nat) ({ cls := "PictureDeskModel", name := "riskOf", desc := "(I)I" } : Jvm.MethodName)) ∈ tbl := tb_5 19 rfl rfl
theorem wI_X10_riskOf : (Jvm.Cond.instanceMethod ({ cls := "PictureDeskModel", name := "riskOf", desc := "(I)I" } : Jvm.MethodName)) ∈ tbl := tb_5 21 rfl rfl
theorem wC_X10_riskOf : (Jvm.Cond.code ({ cls := "PictureDeskModel", name := "riskOf", desc := "(I)I" } : Jvm.MethodName) prog_12_method_54_code (4 : Nat) (Option.some Jvm.ClassFile.FieldType.int)) ∈ tbl := tb_5 22 rfl rfl
theorem wM_L_129 : (Jvm.Cond.methodLink "PictureDeskLaw" (129 : Nat) ({ cls := "PictureDeskModel", name := "lean", desc := "(IIIII)J" } : Jvm.MethodName)) ∈ tbl := tb_5 23 rfl rfl
theorem wI_X10_lean : (Jvm.Cond.instanceMethod ({ cls := "PictureDeskModel", name := "lean", desc := "(IIIII)J" } : Jvm.MethodName)) ∈ tbl := tb_5 24 rfl rfl
theorem wS_X10_lean : (Jvm.Cond.selects "PictureDeskModel" ({ cls := "PictureDeskModel", name := "lean", desc := "(IIIII)J" } : Jvm.MethodName) ({ cls := "PictureDeskModel", name := "lean", desc := "(IIIII)J" } : Jvm.MethodName)) ∈ tbl := tb_5 25 rfl rfl
theorem wC_X10_lean : (Jvm.Cond.code ({ cls := "PictureDeskModel", name := "lean", desc := "(IIIII)J" } : Jvm.MethodName) prog_12_method_57_code (9 : Nat) (Option.some Jvm.ClassFile.FieldType.long)) ∈ tbl := tb_5 26 rfl rfl
theorem wM_X10_158 : (Jvm.Cond.methodLink "PictureDeskModel" (158 : Nat) ({ cls := "PictureDeskModel", name := "choose", desc := "(II)J" } : Jvm.MethodName)) ∈ tbl := tb_5 27 rfl rfl
theorem wT_X10_choose : (Jvm.Cond.static ({ cls := "PictureDeskModel", name := "choose", desc := "(II)J" } : Jvm.MethodName)) ∈ tbl := tb_5 28 rfl rfl
theorem wC_X10_choose : (Jvm.Cond.code ({ cls := "PictureDeskModel", name := "choose", desc := "(II)J" } : Jvm.MethodName) prog_12_method_56_code (5 : Nat) (Option.some Jvm.ClassFile.FieldType.long)) ∈ tbl := tb_5 29 rfl rfl
theorem wM_L_133 : (Jvm.Cond.methodLink "PictureDeskLaw" (133 : Nat) ({ cls := "PictureDeskModel", name := "told", desc := "(I)I" } : Jvm.MethodName)) ∈ tbl := tb_5 30 rfl rfl
theorem wI_X10_told : (Jvm.Cond.instanceMethod ({ cls := "PictureDeskModel", name := "told", desc := "(I)I" } : Jvm.MethodName)) ∈ tbl := tb_5 31 rfl rfl
theorem wS_X10_told : (Jvm.Cond.selects "PictureDeskModel" ({ cls := "PictureDeskModel", name := "told", desc := "(I)I" } : Jvm.MethodName) ({ cls := "PictureDeskModel", name := "told", desc := "(I)I" } : Jvm.MethodName)) ∈ tbl := tb_5 32 rfl rfl
theorem wC_X10_told : (Jvm.Cond.code ({ cls := "PictureDeskModel", name := "told", desc := "(I)I" } : Jvm.MethodName) prog_12_method_58_code (4 : Nat) (Option.some Jvm.ClassFile.FieldType.int)) ∈ tbl := tb_5 33 rfl rfl
theorem wS_X3_lay : (Jvm.Cond.selects "PictureDesk$Land" ({ cls := "PictureDesk$Land", name := "lay", desc := "(LPictureDesk$Thing;[I)V" } : Jvm.MethodName) ({ cls := "PictureDesk$Land", name := "lay", desc := "(LPictureDesk$Thing;[I)V" } : Jvm.MethodName)) ∈ tbl := tb_0 0 rfl rfl
theorem wS_X5_shadowOf : (Jvm.Cond.selects "PictureDesk$Picture" ({ cls := "PictureDesk$Picture", name := "shadowOf", desc := "(I)I" } : Jvm.MethodName) ({ cls := "PictureDesk$Picture", name := "shadowOf", desc := "(I)I" } : Jvm.MethodName)) ∈ tbl := tb_0 1 rfl rfl
theorem wS_X5_castShadow : (Jvm.Cond.selects "PictureDesk$Picture" ({ cls := "PictureDesk$Picture", name := "castShadow", desc := "(II)V" } : Jvm.MethodName) ({ cls := "PictureDesk$Picture", name := "castShadow", desc := "(II)V" } : Jvm.MethodName)) ∈ tbl := tb_0 2 rfl rfl
theorem wS_X5_isUnlike : (Jvm.Cond.selects "PictureDesk$Picture" ({ cls := "PictureDesk$Picture", name := "isUnlike", desc := "(LPictureDesk$Picture;I)Z" } : Jvm.MethodName) ({ cls := "PictureDesk$Picture", name := "isUnlike", desc := "(LPictureDesk$Picture;I)Z" } : Jvm.MethodName)) ∈ tbl := tb_0 3 rfl rfl
theorem wS_X1_lookAt : (Jvm.Cond.selects "PictureDesk$Facts" ({ cls := "PictureDesk$Facts", name := "lookAt", desc := "(IILPictureDesk$Thing;LPictureDesk$Album;I)V" } : Jvm.MethodName) ({ cls := "PictureDesk$Facts", name := "lookAt", desc := "(IILPictureDesk$Thing;LPictureDesk$Album;I)V" } : Jvm.MethodName)) ∈ tbl := tb_0 4 rfl rfl
theorem wS_X1_comeNearer : (Jvm.Cond.selects "PictureDesk$Facts" ({ cls := "PictureDesk$Facts", name := "comeNearer", desc := "(II)V" } : Jvm.MethodName) ({ cls := "PictureDesk$Facts", name := "comeNearer", desc := "(II)V" } : Jvm.MethodName)) ∈ tbl := tb_0 5 rfl rfl
theorem wS_X1_ruleOutTheRest : (Jvm.Cond.selects "PictureDesk$Facts" ({ cls := "PictureDesk$Facts", name := "ruleOutTheRest", desc := "()V" } : Jvm.MethodName) ({ cls := "PictureDesk$Facts", name := "ruleOutTheRest", desc := "()V" } : Jvm.MethodName)) ∈ tbl := tb_0 6 rfl rfl
theorem wS_X9_judge : (Jvm.Cond.selects "PictureDesk" ({ cls := "PictureDesk", name := "judge", desc := "(ILPictureDesk$Thing;I)I" } : Jvm.MethodName) ({ cls := "PictureDesk", name := "judge", desc := "(ILPictureDesk$Thing;I)I" } : Jvm.MethodName)) ∈ tbl := tb_0 7 rfl rfl
theorem wS_X8_signOf : (Jvm.Cond.selects "PictureDesk$Uses" ({ cls := "PictureDesk$Uses", name := "signOf", desc := "(II)I" } : Jvm.MethodName) ({ cls := "PictureDesk$Uses", name := "signOf", desc := "(II)I" } : Jvm.MethodName)) ∈ tbl := tb_0 8 rfl rfl
theorem wS_X4_drawFrom : (Jvm.Cond.selects "PictureDesk$Lines" ({ cls := "PictureDesk$Lines", name := "drawFrom", desc := "(LPictureDesk$Thing;)V" } : Jvm.MethodName) ({ cls := "PictureDesk$Lines", name := "drawFrom", desc := "(LPictureDesk$Thing;)V" } : Jvm.MethodName)) ∈ tbl := tb_0 9 rfl rfl
theorem wS_X4_mayCross : (Jvm.Cond.selects "PictureDesk$Lines" ({ cls := "PictureDesk$Lines", name := "mayCross", desc := "(LPictureDesk$Thing;)Z" } : Jvm.MethodName) ({ cls := "PictureDesk$Lines", name := "mayCross", desc := "(LPictureDesk$Thing;)Z" } : Jvm.MethodName)) ∈ tbl := tb_0 10 rfl rfl
theorem wS_X2_weighColumn : (Jvm.Cond.selects "PictureDesk$Flights" ({ cls := "PictureDesk$Flights", name := "weighColumn", desc := "(I)V" } : Jvm.MethodName) ({ cls := "PictureDesk$Flights", name := "weighColumn", desc := "(I)V" } : Jvm.MethodName)) ∈ tbl := tb_0 11 rfl rfl
theorem wS_X2_tenthsMissing : (Jvm.Cond.selects "PictureDesk$Flights" ({ cls := "PictureDesk$Flights", name := "tenthsMissing", desc := "(II)I" } : Jvm.MethodName) ({ cls := "PictureDesk$Flights", name := "tenthsMissing", desc := "(II)I" } : Jvm.MethodName)) ∈ tbl := tb_0 12 rfl rfl
theorem wS_X10_isThing : (Jvm.Cond.selects "PictureDeskModel" ({ cls := "PictureDeskModel", name := "isThing", desc := "(I)Z" } : Jvm.MethodName) ({ cls := "PictureDeskModel", name := "isThing", desc := "(I)Z" } : Jvm.MethodName)) ∈ tbl := tb_0 13 rfl rfl
theorem wS_X10_thingAt : (Jvm.Cond.selects "PictureDeskModel" ({ cls := "PictureDeskModel", name := "thingAt", desc := "(III)I" } : Jvm.MethodName) ({ cls := "PictureDeskModel", name := "thingAt", desc := "(III)I" } : Jvm.MethodName)) ∈ tbl := tb_0 14 rfl rfl
theorem wS_X10_isThere : (Jvm.Cond.selects "PictureDeskModel" ({ cls := "PictureDeskModel", name := "isThere", desc := "(II)Z" } : Jvm.MethodName) ({ cls := "PictureDeskModel", name := "isThere", desc := "(II)Z" } : Jvm.MethodName)) ∈ tbl := tb_0 15 rfl rfl
theorem wS_X10_isOwn : (Jvm.Cond.selects "PictureDeskModel" ({ cls := "PictureDeskModel", name := "isOwn", desc := "(III)Z" } : Jvm.MethodName) ({ cls := "PictureDeskModel", name := "isOwn", desc := "(III)Z" } : Jvm.MethodName)) ∈ tbl := tb_0 16 rfl rfl
theorem wS_X10_isPicture : (Jvm.Cond.selects "PictureDeskModel" ({ cls := "PictureDeskModel", name := "isPicture", desc := "(I)Z" } : Jvm.MethodName) ({ cls := "PictureDeskModel", name := "isPicture", desc := "(I)Z" } : Jvm.MethodName)) ∈ tbl := tb_0 17 rfl rfl
theorem wS_X10_showsOf : (Jvm.Cond.selects "PictureDeskModel" ({ cls := "PictureDeskModel", name := "showsOf", desc := "(II)I" } : Jvm.MethodName) ({ cls := "PictureDeskModel", name := "showsOf", desc := "(II)I" } : Jvm.MethodName)) ∈ tbl := tb_0 18 rfl rfl
theorem wS_X10_covers : (Jvm.Cond.selects "PictureDeskModel" ({ cls := "PictureDeskModel", name := "covers", desc := "(II)Z" } : Jvm.MethodName) ({ cls := "PictureDeskModel", name := "covers", desc := "(II)Z" } : Jvm.MethodName)) ∈ tbl := tb_0 19 rfl rfl
theorem wS_X10_faultOf : (Jvm.Cond.selects "PictureDeskModel" ({ cls := "PictureDeskModel", name := "faultOf", desc := "()I" } : Jvm.MethodName) ({ cls := "PictureDeskModel", name := "faultOf", desc := "()I" } : Jvm.MethodName)) ∈ tbl := tb_0 20 rfl rfl
theorem wS_X10_factOf : (Jvm.Cond.selects "PictureDeskModel" ({ cls := "PictureDeskModel", name := "factOf", desc := "(III)I" } : Jvm.MethodName) ({ cls := "PictureDeskModel", name := "factOf", desc := "(III)I" } : Jvm.MethodName)) ∈ tbl := tb_0 21 rfl rfl
theorem wS_X10_nearOf : (Jvm.Cond.selects "PictureDeskModel" ({ cls := "PictureDeskModel", name := "nearOf", desc := "(III)I" } : Jvm.MethodName) ({ cls := "PictureDeskModel", name := "nearOf", desc := "(III)I" } : Jvm.MethodName)) ∈ tbl := tb_0 22 rfl rfl
theorem wS_X10_farOf : (Jvm.Cond.selects "PictureDeskModel" ({ cls := "PictureDeskModel", name := "farOf", desc := "(II)I" } : Jvm.MethodName) ({ cls := "PictureDeskModel", name := "farOf", desc := "(II)I" } : Jvm.MethodName)) ∈ tbl := tb_0 23 rfl rfl
theorem wS_X10_isShown : (Jvm.Cond.selects "PictureDeskModel" ({ cls := "PictureDeskModel", name := "isShown", desc := "(IIIIZ)Z" } : Jvm.MethodName) ({ cls := "PictureDeskModel", name := "isShown", desc := "(IIIIZ)Z" } : Jvm.MethodName)) ∈ tbl := tb_0 24 rfl rfl
theorem wS_X10_isSeen : (Jvm.Cond.selects "PictureDeskModel" ({ cls := "PictureDeskModel", name := "isSeen", desc := "(II)Z" } : Jvm.MethodName) ({ cls := "PictureDeskModel", name := "isSeen", desc := "(II)Z" } : Jvm.MethodName)) ∈ tbl := tb_0 25 rfl rfl
theorem wS_X10_shownOf : (Jvm.Cond.selects "PictureDeskModel" ({ cls := "PictureDeskModel", name := "shownOf", desc := "(II)I" } : Jvm.MethodName) ({ cls := "PictureDeskModel", name := "shownOf", desc := "(II)I" } : Jvm.MethodName)) ∈ tbl := tb_0 26 rfl rfl
theorem wS_X10_isUse : (Jvm.Cond.selects "PictureDeskModel" ({ cls := "PictureDeskModel", name := "isUse", desc := "(I)Z" } : Jvm.MethodName) ({ cls := "PictureDeskModel", name := "isUse", desc := "(I)Z" } : Jvm.MethodName)) ∈ tbl := tb_0 27 rfl rfl
theorem wS_X10_fitOf : (Jvm.Cond.selects "PictureDeskModel" ({ cls := "PictureDeskModel", name := "fitOf", desc := "(III)I" } : Jvm.MethodName) ({ cls := "PictureDeskModel", name := "fitOf", desc := "(III)I" } : Jvm.MethodName)) ∈ tbl := tb_0 28 rfl rfl
theorem wS_X10_meetOf : (Jvm.Cond.selects "PictureDeskModel" ({ cls := "PictureDeskModel", name := "meetOf", desc := "(I)I" } : Jvm.MethodName) ({ cls := "PictureDeskModel", name := "meetOf", desc := "(I)I" } : Jvm.MethodName)) ∈ tbl := tb_0 29 rfl rfl
theorem wS_X10_faces : (Jvm.Cond.selects "PictureDeskModel" ({ cls := "PictureDeskModel", name := "faces", desc := "(II)Z" } : Jvm.MethodName) ({ cls := "PictureDeskModel", name := "faces", desc := "(II)Z" } : Jvm.MethodName)) ∈ tbl := tb_0 30 rfl rfl
theorem wS_X10_isOn : (Jvm.Cond.selects "PictureDeskModel" ({ cls := "PictureDeskModel", name := "isOn", desc := "(III)Z" } : Jvm.MethodName) ({ cls := "PictureDeskModel", name := "isOn", desc := "(III)Z" } : Jvm.MethodName)) ∈ tbl := tb_0 31 rfl rfl
theorem wS_X10_worthOf : (Jvm.Cond.selects "PictureDeskModel" ({ cls := "PictureDeskModel", name := "worthOf", desc := "(I)J" } : Jvm.MethodName) ({ cls := "PictureDeskModel", name := "worthOf", desc := "(I)J" } : Jvm.MethodName)) ∈ tbl := tb_0 32 rfl rfl
theorem wS_X10_riskOf : (Jvm.Cond.selects "PictureDeskModel" ({ cls := "PictureDeskModel", name := "riskOf", desc := "(I)I" } : Jvm.MethodName) ({ cls := "PictureDeskModel", name := "riskOf", desc := "(I)I" } : Jvm.MethodName)) ∈ tbl := tb_0 33 rfl rfl

section
-- ===== PART A: goes FIRST, ahead of the names: the tables' words, and 'selects' of the private methods out of them =====
/-- a private method of a class that the tables say can be made, by its rows of tables_1 -/
def lw_okq (q : MethodName × Nat) : Prop := (q.1.cls ≠ "java/lang/invoke/MethodHandle" ∧ q.1.cls ≠ "java/lang/invoke/VarHandle") ∧ Cond.instantiable q.1.cls q.2 ∈ tables_1 ∧ Cond.privateMethod q.1 ∈ tables_1 ∧ Cond.instanceMethod q.1 ∈ tables_1
theorem lw_p0 : lw_okq (⟨"PictureDesk$Land", "lay", "(LPictureDesk$Thing;[I)V"⟩, 2) := ⟨⟨by decide +kernel, by decide +kernel⟩, List.mem_of_getElem? (i := 22) (by decide +kernel), List.mem_of_getElem? (i := 232) (by decide +kernel), List.mem_of_getElem? (i := 233) (by decide +kernel)⟩
theorem lw_p1 : lw_okq (⟨"PictureDesk$Picture", "shadowOf", "(I)I"⟩, 8) := ⟨⟨by decide +kernel, by decide +kernel⟩, List.mem_of_getElem? (i := 252) (by decide +kernel), List.mem_of_getElem? (i := 250) (by decide +kernel), List.mem_of_getElem? (i := 251) (by decide +kernel)⟩
theorem lw_p2 : lw_okq (⟨"PictureDesk$Picture", "castShadow", "(II)V"⟩, 8) := ⟨⟨by decide +kernel, by decide +kernel⟩, List.mem_of_getElem? (i := 252) (by decide +kernel), List.mem_of_getElem? (i := 255) (by decide +kernel), List.mem_of_getElem? (i := 256) (by decide +kernel)⟩
theorem lw_p3 : lw_okq (⟨"PictureDesk$Picture", "isUnlike", "(LPictureDesk$Picture;I)Z"⟩, 8) := ⟨⟨by decide +kernel, by decide +kernel⟩, List.mem_of_getElem? (i := 252) (by decide +kernel), List.mem_of_getElem? (i := 407) (by decide +kernel), List.mem_of_getElem? (i := 408) (by decide +kernel)⟩
theorem lw_p4 : lw_okq (⟨"PictureDesk$Facts", "lookAt", "(IILPictureDesk$Thing;LPictureDesk$Album;I)V"⟩, 3) := ⟨⟨by decide +kernel, by decide +kernel⟩, List.mem_of_getElem? (i := 52) (by decide +kernel), List.mem_of_getElem? (i := 488) (by decide +kernel), List.mem_of_getElem? (i := 489) (by decide +kernel)⟩
theorem lw_p5 : lw_okq (⟨"PictureDesk$Facts", "comeNearer", "(II)V"⟩, 3) := ⟨⟨by decide +kernel, by decide +kernel⟩, List.mem_of_getElem? (i := 52) (by decide +kernel), List.mem_of_getElem? (i := 507) (by decide +kernel), List.mem_of_getElem? (i := 508) (by decide +kernel)⟩
theorem lw_p6 : lw_okq (⟨"PictureDesk$Facts", "ruleOutTheRest", "()V"⟩, 3) := ⟨⟨by decide +kernel, by decide +kernel⟩, List.mem_of_getElem? (i := 52) (by decide +kernel), List.mem_of_getElem? (i := 512) (by decide +kernel), List.mem_of_getElem? (i := 513) (by decide +kernel)⟩
theorem lw_p7 : lw_okq (⟨"PictureDesk", "judge", "(ILPictureDesk$Thing;I)I"⟩, 6) := ⟨⟨by decide +kernel, by decide +kernel⟩, List.mem_of_getElem? (i := 14) (by decide +kernel), List.mem_of_getElem? (i := 524) (by decide +kernel), List.mem_of_getElem? (i := 525) (by decide +kernel)⟩
theorem lw_p8 : lw_okq (⟨"PictureDesk$Uses", "signOf", "(II)I"⟩, 4) := ⟨⟨by decide +kernel, by decide +kernel⟩, List.mem_of_getElem? (i := 69) (by decide +kernel), List.mem_of_getElem? (i := 533) (by decide +kernel), List.mem_of_getElem? (i := 534) (by decide +kernel)⟩
theorem lw_p9 : lw_okq (⟨"PictureDesk$Lines", "drawFrom", "(LPictureDesk$Thing;)V"⟩, 3) := ⟨⟨by decide +kernel, by decide +kernel⟩, List.mem_of_getElem? (i := 90) (by decide +kernel), List.mem_of_getElem? (i := 579) (by decide +kernel), List.mem_of_getElem? (i := 580) (by decide +kernel)⟩
theorem lw_p10 : lw_okq (⟨"PictureDesk$Lines", "mayCross", "(LPictureDesk$Thing;)Z"⟩, 3) := ⟨⟨by decide +kernel, by decide +kernel⟩, List.mem_of_getElem? (i := 90) (by decide +kernel), List.mem_of_getElem? (i := 611) (by decide +kernel), List.mem_of_getElem? (i := 612) (by decide +kernel)⟩
theorem lw_p11 : lw_okq (⟨"PictureDesk$Flights", "weighColumn", "(I)V"⟩, 6) := ⟨⟨by decide +kernel, by decide +kernel⟩, List.mem_of_getElem? (i := 106) (by decide +kernel), List.mem_of_getElem? (i := 675) (by decide +kernel), List.mem_of_getElem? (i := 676) (by decide +kernel)⟩
theorem lw_p12 : lw_okq (⟨"PictureDesk$Flights", "tenthsMissing", "(II)I"⟩, 6) := ⟨⟨by decide +kernel, by decide +kernel⟩, List.mem_of_getElem? (i := 106) (by decide +kernel), List.mem_of_getElem? (i := 680) (by decide +kernel), List.mem_of_getElem? (i := 681) (by decide +kernel)⟩
theorem lw_p13 : lw_okq (⟨"PictureDeskModel", "isThing", "(I)Z"⟩, 12) := ⟨⟨by decide +kernel, by decide +kernel⟩, List.mem_of_getElem? (i := 723) (by decide +kernel), List.mem_of_getElem? (i := 781) (by decide +kernel), List.mem_of_getElem? (i := 782) (by decide +kernel)⟩
theorem lw_p14 : lw_okq (⟨"PictureDeskModel", "thingAt", "(III)I"⟩, 12) := ⟨⟨by decide +kernel, by decide +kernel⟩, List.mem_of_getElem? (i := 723) (by decide +kernel), List.mem_of_getElem? (i := 796) (by decide +kernel), List.mem_of_getElem? (i := 797) (by decide +kernel)⟩
theorem lw_p15 : lw_okq (⟨"PictureDeskModel", "isThere", "(II)Z"⟩, 12) := ⟨⟨by decide +kernel, by decide +kernel⟩, List.mem_of_getElem? (i := 723) (by decide +kernel), List.mem_of_getElem? (i := 800) (by decide +kernel), List.mem_of_getElem? (i := 801) (by decide +kernel)⟩
def lw_privs_1 : List (MethodName × Nat) := [(⟨"PictureDesk$Land", "lay", "(LPictureDesk$Thing;[I)V"⟩, 2), (⟨"PictureDesk$Picture", "shadowOf", "(I)I"⟩, 8), (⟨"PictureDesk$Picture", "castShadow", "(II)V"⟩, 8), (⟨"PictureDesk$Picture", "isUnlike", "(LPictureDesk$Picture;I)Z"⟩, 8), (⟨"PictureDesk$Facts", "lookAt", "(IILPictureDesk$Thing;LPictureDesk$Album;I)V"⟩, 3), (⟨"PictureDesk$Facts", "comeNearer", "(II)V"⟩, 3), (⟨"PictureDesk$Facts", "ruleOutTheRest", "()V"⟩, 3), (⟨"PictureDesk", "judge", "(ILPictureDesk$Thing;I)I"⟩, 6), (⟨"PictureDesk$Uses", "signOf", "(II)I"⟩, 4), (⟨"PictureDesk$Lines", "drawFrom", "(LPictureDesk$Thing;)V"⟩, 3), (⟨"PictureDesk$Lines", "mayCross", "(LPictureDesk$Thing;)Z"⟩, 3), (⟨"PictureDesk$Flights", "weighColumn", "(I)V"⟩, 6), (⟨"PictureDesk$Flights", "tenthsMissing", "(II)I"⟩, 6), (⟨"PictureDeskModel", "isThing", "(I)Z"⟩, 12), (⟨"PictureDeskModel", "thingAt", "(III)I"⟩, 12), (⟨"PictureDeskModel", "isThere", "(II)Z"⟩, 12)]
theorem lw_r1 : ∀ q ∈ lw_privs_1, lw_okq q := List.forall_mem_cons.mpr ⟨lw_p0, List.forall_mem_cons.mpr ⟨lw_p1, List.forall_mem_cons.mpr ⟨lw_p2, List.forall_mem_cons.mpr ⟨lw_p3, List.forall_mem_cons.mpr ⟨lw_p4, List.forall_mem_cons.mpr ⟨lw_p5, List.forall_mem_cons.mpr ⟨lw_p6, List.forall_mem_cons.mpr ⟨lw_p7, List.forall_mem_cons.mpr ⟨lw_p8, List.forall_mem_cons.mpr ⟨lw_p9, List.forall_mem_cons.mpr ⟨lw_p10, List.forall_mem_cons.mpr ⟨lw_p11, List.forall_mem_cons.mpr ⟨lw_p12, List.forall_mem_cons.mpr ⟨lw_p13, List.forall_mem_cons.mpr ⟨lw_p14, List.forall_mem_cons.mpr ⟨lw_p15, fun _ h => absurd h List.not_mem_nil⟩⟩⟩⟩⟩⟩⟩⟩⟩⟩⟩⟩⟩⟩⟩⟩
theorem lw_p16 : lw_okq (⟨"PictureDeskModel", "isOwn", "(III)Z"⟩, 12) := ⟨⟨by decide +kernel, by decide +kernel⟩, List.mem_of_getElem? (i := 723) (by decide +kernel), List.mem_of_getElem? (i := 804) (by decide +kernel), List.mem_of_getElem? (i := 805) (by decide +kernel)⟩
theorem lw_p17 : lw_okq (⟨"PictureDeskModel", "isPicture", "(I)Z"⟩, 12) := ⟨⟨by decide +kernel, by decide +kernel⟩, List.mem_of_getElem? (i := 723) (by decide +kernel), List.mem_of_getElem? (i := 816) (by decide +kernel), List.mem_of_getElem? (i := 817) (by decide +kernel)⟩
theorem lw_p18 : lw_okq (⟨"PictureDeskModel", "showsOf", "(II)I"⟩, 12) := ⟨⟨by decide +kernel, by decide +kernel⟩, List.mem_of_getElem? (i := 723) (by decide +kernel), List.mem_of_getElem? (i := 824) (by decide +kernel), List.mem_of_getElem? (i := 825) (by decide +kernel)⟩
theorem lw_p19 : lw_okq (⟨"PictureDeskModel", "covers", "(II)Z"⟩, 12) := ⟨⟨by decide +kernel, by decide +kernel⟩, List.mem_of_getElem? (i := 723) (by decide +kernel), List.mem_of_getElem? (i := 828) (by decide +kernel), List.mem_of_getElem? (i := 829) (by decide +kernel)⟩
theorem lw_p20 : lw_okq (⟨"PictureDeskModel", "faultOf", "()I"⟩, 12) := ⟨⟨by decide +kernel, by decide +kernel⟩, List.mem_of_getElem? (i := 723) (by decide +kernel), List.mem_of_getElem? (i := 859) (by decide +kernel), List.mem_of_getElem? (i := 860) (by decide +kernel)⟩
theorem lw_p21 : lw_okq (⟨"PictureDeskModel", "factOf", "(III)I"⟩, 12) := ⟨⟨by decide +kernel, by decide +kernel⟩, List.mem_of_getElem? (i := 723) (by decide +kernel), List.mem_of_getElem? (i := 871) (by decide +kernel), List.mem_of_getElem? (i := 872) (by decide +kernel)⟩
theorem lw_p22 : lw_okq (⟨"PictureDeskModel", "nearOf", "(III)I"⟩, 12) := ⟨⟨by decide +kernel, by decide +kernel⟩, List.mem_of_getElem? (i := 723) (by decide +kernel), List.mem_of_getElem? (i := 875) (by decide +kernel), List.mem_of_getElem? (i := 876) (by decide +kernel)⟩
theorem lw_p23 : lw_okq (⟨"PictureDeskModel", "farOf", "(II)I"⟩, 12) := ⟨⟨by decide +kernel, by decide +kernel⟩, List.mem_of_getElem? (i := 723) (by decide +kernel), List.mem_of_getElem? (i := 879) (by decide +kernel), List.mem_of_getElem? (i := 880) (by decide +kernel)⟩
theorem lw_p24 : lw_okq (⟨"PictureDeskModel", "isShown", "(IIIIZ)Z"⟩, 12) := ⟨⟨by decide +kernel, by decide +kernel⟩, List.mem_of_getElem? (i := 723) (by decide +kernel), List.mem_of_getElem? (i := 883) (by decide +kernel), List.mem_of_getElem? (i := 884) (by decide +kernel)⟩
theorem lw_p25 : lw_okq (⟨"PictureDeskModel", "isSeen", "(II)Z"⟩, 12) := ⟨⟨by decide +kernel, by decide +kernel⟩, List.mem_of_getElem? (i := 723) (by decide +kernel), List.mem_of_getElem? (i := 887) (by decide +kernel), List.mem_of_getElem? (i := 888) (by decide +kernel)⟩
theorem lw_p26 : lw_okq (⟨"PictureDeskModel", "shownOf", "(II)I"⟩, 12) := ⟨⟨by decide +kernel, by decide +kernel⟩, List.mem_of_getElem? (i := 723) (by decide +kernel), List.mem_of_getElem? (i := 891) (by decide +kernel), List.mem_of_getElem? (i := 892) (by decide +kernel)⟩
theorem lw_p27 : lw_okq (⟨"PictureDeskModel", "isUse", "(I)Z"⟩, 12) := ⟨⟨by decide +kernel, by decide +kernel⟩, List.mem_of_getElem? (i := 723) (by decide +kernel), List.mem_of_getElem? (i := 899) (by decide +kernel), List.mem_of_getElem? (i := 900) (by decide +kernel)⟩
theorem lw_p28 : lw_okq (⟨"PictureDeskModel", "fitOf", "(III)I"⟩, 12) := ⟨⟨by decide +kernel, by decide +kernel⟩, List.mem_of_getElem? (i := 723) (by decide +kernel), List.mem_of_getElem? (i := 903) (by decide +kernel), List.mem_of_getElem? (i := 904) (by decide +kernel)⟩
theorem lw_p29 : lw_okq (⟨"PictureDeskModel", "meetOf", "(I)I"⟩, 12) := ⟨⟨by decide +kernel, by decide +kernel⟩, List.mem_of_getElem? (i := 723) (by decide +kernel), List.mem_of_getElem? (i := 919) (by decide +kernel), List.mem_of_getElem? (i := 920) (by decide +kernel)⟩
theorem lw_p30 : lw_okq (⟨"PictureDeskModel", "faces", "(II)Z"⟩, 12) := ⟨⟨by decide +kernel, by decide +kernel⟩, List.mem_of_getElem? (i := 723) (by decide +kernel), List.mem_of_getElem? (i := 923) (by decide +kernel), List.mem_of_getElem? (i := 924) (by decide +kernel)⟩
theorem lw_p31 : lw_okq (⟨"PictureDeskModel", "isOn", "(III)Z"⟩, 12) := ⟨⟨by decide +kernel, by decide +kernel⟩, List.mem_of_getElem? (i := 723) (by decide +kernel), List.mem_of_getElem? (i := 927) (by decide +kernel), List.mem_of_getElem? (i := 928) (by decide +kernel)⟩
def lw_privs_2 : List (MethodName × Nat) := [(⟨"PictureDeskModel", "isOwn", "(III)Z"⟩, 12), (⟨"PictureDeskModel", "isPicture", "(I)Z"⟩, 12), (⟨"PictureDeskModel", "showsOf", "(II)I"⟩, 12), (⟨"PictureDeskModel", "covers", "(II)Z"⟩, 12), (⟨"PictureDeskModel", "faultOf", "()I"⟩, 12), (⟨"PictureDeskModel", "factOf", "(III)I"⟩, 12), (⟨"PictureDeskModel", "nearOf", "(III)I"⟩, 12), (⟨"PictureDeskModel", "farOf", "(II)I"⟩, 12), (⟨"PictureDeskModel", "isShown", "(IIIIZ)Z"⟩, 12), (⟨"PictureDeskModel", "isSeen", "(II)Z"⟩, 12), (⟨"PictureDeskModel", "shownOf", "(II)I"⟩, 12), (⟨"PictureDeskModel", "isUse", "(I)Z"⟩, 12), (⟨"PictureDeskModel", "fitOf", "(III)I"⟩, 12), (⟨"PictureDeskModel", "meetOf", "(I)I"⟩, 12), (⟨"PictureDeskModel", "faces", "(II)Z"⟩, 12), (⟨"PictureDeskModel", "isOn", "(III)Z"⟩, 12)]
theorem lw_r2 : ∀ q ∈ lw_privs_2, lw_okq q := List.forall_mem_cons.mpr ⟨lw_p16, List.forall_mem_cons.mpr ⟨lw_p17, List.forall_mem_cons.mpr ⟨lw_p18, List.forall_mem_cons.mpr ⟨lw_p19, List.forall_mem_cons.mpr ⟨lw_p20, List.forall_mem_cons.mpr ⟨lw_p21, List.forall_mem_cons.mpr ⟨lw_p22, List.forall_mem_cons.mpr ⟨lw_p23, List.forall_mem_cons.mpr ⟨lw_p24, List.forall_mem_cons.mpr ⟨lw_p25, List.forall_mem_cons.mpr ⟨lw_p26, List.forall_mem_cons.mpr ⟨lw_p27, List.forall_mem_cons.mpr ⟨lw_p28, List.forall_mem_cons.mpr ⟨lw_p29, List.forall_mem_cons.mpr ⟨lw_p30, List.forall_mem_cons.mpr ⟨lw_p31, fun _ h => absurd h List.not_mem_nil⟩⟩⟩⟩⟩⟩⟩⟩⟩⟩⟩⟩⟩⟩⟩⟩
theorem lw_p32 : lw_okq (⟨"PictureDeskModel", "worthOf", "(I)J"⟩, 12) := ⟨⟨by decide +kernel, by decide +kernel⟩, List.mem_of_getElem? (i := 723) (by decide +kernel), List.mem_of_getElem? (i := 970) (by decide +kernel), List.mem_of_getElem? (i := 971) (by decide +kernel)⟩
theorem lw_p33 : lw_okq (⟨"PictureDeskModel", "riskOf", "(I)I"⟩, 12) := ⟨⟨by decide +kernel, by decide +kernel⟩, List.mem_of_getElem? (i := 723) (by decide +kernel), List.mem_of_getElem? (i := 980) (by decide +kernel), List.mem_of_getElem? (i := 981) (by decide +kernel)⟩
def lw_privs_3 : List (MethodName × Nat) := [(⟨"PictureDeskModel", "worthOf", "(I)J"⟩, 12), (⟨"PictureDeskModel", "riskOf", "(I)I"⟩, 12)]
theorem lw_r3 : ∀ q ∈ lw_privs_3, lw_okq q := List.forall_mem_cons.mpr ⟨lw_p32, List.forall_mem_cons.mpr ⟨lw_p33, fun _ h => absurd h List.not_mem_nil⟩⟩
def lw_privs : List (MethodName × Nat) := lw_privs_1 ++ (lw_privs_2 ++ (lw_privs_3))
def lw_tbl : List Cond := k2_sels lw_privs ++ tables_1
theorem lw_privs_ok : ∀ q ∈ lw_privs, lw_okq q := by
  show ∀ q ∈ lw_privs_1 ++ (lw_privs_2 ++ (lw_privs_3)), lw_okq q
  exact List.forall_mem_append.mpr ⟨lw_r1, List.forall_mem_append.mpr ⟨lw_r2, lw_r3⟩⟩
end
section
def RX0 : String := "PictureDesk$Album"
def TX0 : u_T := fun k => match k with
  | 0 => ("PictureDesk$Album", "pictures", "[LPictureDesk$Picture;", true)
  | _ => ("PictureDesk$Album", "size", "I", false)
def tyX0 : Nat → FieldType := fun k => match k with
  | 0 => .array (.object "PictureDesk$Picture")
  | _ => .int
abbrev wsX00 : List Cond := u_ws RX0 TX0 2
theorem nmX0 : ∀ a, a < 2 → ∀ b, b < 2 → a ≠ b → (TX0 a).2.1 ≠ (TX0 b).2.1 := by decide +kernel
theorem tyX0_ok : ∀ k, k < 2 → parseFieldDescriptor (TX0 k).2.2.1 = some (tyX0 k) := by decide +kernel
abbrev cX0_init : ByteArray := prog_2_method_1_code
def yX0_init : MethodName := ⟨RX0, "<init>", "()V"⟩
abbrev cX0_size : ByteArray := prog_2_method_2_code
def yX0_size : MethodName := ⟨RX0, "size", "()I"⟩
abbrev cX0_isFull : ByteArray := prog_2_method_3_code
def yX0_isFull : MethodName := ⟨RX0, "isFull", "()Z"⟩
abbrev cX0_add : ByteArray := prog_2_method_4_code
def yX0_add : MethodName := ⟨RX0, "add", "(LPictureDesk$Picture;)I"⟩
abbrev cX0_find : ByteArray := prog_2_method_5_code
def yX0_find : MethodName := ⟨RX0, "find", "(I)LPictureDesk$Picture;"⟩
abbrev cX0_hasDay : ByteArray := prog_2_method_6_code
def yX0_hasDay : MethodName := ⟨RX0, "hasDay", "(I)Z"⟩
abbrev cX0_develop : ByteArray := prog_2_method_7_code
def yX0_develop : MethodName := ⟨RX0, "develop", "(LPictureDesk$Land;)V"⟩
def RX1 : String := "PictureDesk$Facts"
def TX1 : u_T := fun k => match k with
  | 0 => ("PictureDesk$Facts", "values", "[I", true)
  | 1 => ("PictureDesk$Facts", "isCovered", "Z", false)
  | _ => ("PictureDesk$Facts", "isSeen", "Z", false)
def tyX1 : Nat → FieldType := fun k => match k with
  | 0 => .array .int
  | 1 => .boolean
  | _ => .boolean
abbrev wsX10 : List Cond := u_ws RX1 TX1 3
theorem nmX1 : ∀ a, a < 3 → ∀ b, b < 3 → a ≠ b → (TX1 a).2.1 ≠ (TX1 b).2.1 := by decide +kernel
theorem tyX1_ok : ∀ k, k < 3 → parseFieldDescriptor (TX1 k).2.2.1 = some (tyX1 k) := by decide +kernel
abbrev cX1_init : ByteArray := prog_3_method_1_code
def yX1_init : MethodName := ⟨RX1, "<init>", "()V"⟩
abbrev cX1_known : ByteArray := prog_3_method_2_code
def yX1_known : MethodName := ⟨RX1, "known", "(I)I"⟩
abbrev cX1_learn : ByteArray := prog_3_method_3_code
def yX1_learn : MethodName := ⟨RX1, "learn", "(LPictureDesk$Thing;LPictureDesk$Album;I)V"⟩
abbrev cX1_lookAt : ByteArray := prog_3_method_4_code
def yX1_lookAt : MethodName := ⟨RX1, "lookAt", "(IILPictureDesk$Thing;LPictureDesk$Album;I)V"⟩
abbrev cX1_comeNearer : ByteArray := prog_3_method_5_code
def yX1_comeNearer : MethodName := ⟨RX1, "comeNearer", "(II)V"⟩
abbrev cX1_ruleOutTheRest : ByteArray := prog_3_method_6_code
def yX1_ruleOutTheRest : MethodName := ⟨RX1, "ruleOutTheRest", "()V"⟩
def RX2 : String := "PictureDesk$Flights"
def TX2 : u_T := fun k => match k with
  | 0 => ("PictureDesk$Flights", "from", "[I", true)
  | 1 => ("PictureDesk$Flights", "to", "[I", true)
  | 2 => ("PictureDesk$Flights", "weather", "[I", true)
  | 3 => ("PictureDesk$Flights", "risk", "[I", true)
  | 4 => ("PictureDesk$Flights", "missing", "[J", true)
  | _ => ("PictureDesk$Flights", "weights", "[J", true)
def tyX2 : Nat → FieldType := fun k => match k with
  | 0 => .array .int
  | 1 => .array .int
  | 2 => .array .int
  | 3 => .array .int
  | 4 => .array .long
  | _ => .array .long
abbrev wsX20 : List Cond := u_ws RX2 TX2 6
theorem nmX2 : ∀ a, a < 6 → ∀ b, b < 6 → a ≠ b → (TX2 a).2.1 ≠ (TX2 b).2.1 := by decide +kernel
theorem tyX2_ok : ∀ k, k < 6 → parseFieldDescriptor (TX2 k).2.2.1 = some (tyX2 k) := by decide +kernel
abbrev cX2_init : ByteArray := prog_4_method_1_code
def yX2_init : MethodName := ⟨RX2, "<init>", "()V"⟩
abbrev cX2_plan : ByteArray := prog_4_method_2_code
def yX2_plan : MethodName := ⟨RX2, "plan", "(IIIII)V"⟩
abbrev cX2_weigh : ByteArray := prog_4_method_3_code
def yX2_weigh : MethodName := ⟨RX2, "weigh", "(LPictureDesk$Land;)V"⟩
abbrev cX2_weighColumn : ByteArray := prog_4_method_4_code
def yX2_weighColumn : MethodName := ⟨RX2, "weighColumn", "(I)V"⟩
abbrev cX2_tenthsMissing : ByteArray := prog_4_method_5_code
def yX2_tenthsMissing : MethodName := ⟨RX2, "tenthsMissing", "(II)I"⟩
abbrev cX2_weight : ByteArray := prog_4_method_6_code
def yX2_weight : MethodName := ⟨RX2, "weight", "(I)J"⟩
abbrev cX2_riskOf : ByteArray := prog_4_method_7_code
def yX2_riskOf : MethodName := ⟨RX2, "riskOf", "(I)I"⟩
abbrev cX2_choose : ByteArray := prog_4_method_8_code
def yX2_choose : MethodName := ⟨RX2, "choose", "(I)I"⟩
def RX3 : String := "PictureDesk$Land"
def TX3 : u_T := fun k => match k with
  | 0 => ("PictureDesk$Land", "things", "[LPictureDesk$Thing;", true)
  | _ => ("PictureDesk$Land", "size", "I", false)
def tyX3 : Nat → FieldType := fun k => match k with
  | 0 => .array (.object "PictureDesk$Thing")
  | _ => .int
abbrev wsX30 : List Cond := u_ws RX3 TX3 2
theorem nmX3 : ∀ a, a < 2 → ∀ b, b < 2 → a ≠ b → (TX3 a).2.1 ≠ (TX3 b).2.1 := by decide +kernel
theorem tyX3_ok : ∀ k, k < 2 → parseFieldDescriptor (TX3 k).2.2.1 = some (tyX3 k) := by decide +kernel
abbrev cX3_init : ByteArray := prog_5_method_1_code
def yX3_init : MethodName := ⟨RX3, "<init>", "()V"⟩
abbrev cX3_size : ByteArray := prog_5_method_2_code
def yX3_size : MethodName := ⟨RX3, "size", "()I"⟩
abbrev cX3_isFull : ByteArray := prog_5_method_3_code
def yX3_isFull : MethodName := ⟨RX3, "isFull", "()Z"⟩
abbrev cX3_add : ByteArray := prog_5_method_4_code
def yX3_add : MethodName := ⟨RX3, "add", "([I)I"⟩
abbrev cX3_find : ByteArray := prog_5_method_5_code
def yX3_find : MethodName := ⟨RX3, "find", "(I)LPictureDesk$Thing;"⟩
abbrev cX3_counting : ByteArray := prog_5_method_6_code
def yX3_counting : MethodName := ⟨RX3, "counting", "(II)I"⟩
abbrev cX3_fillCounting : ByteArray := prog_5_method_7_code
def yX3_fillCounting : MethodName := ⟨RX3, "fillCounting", "([II)V"⟩
abbrev cX3_lay : ByteArray := prog_5_method_8_code
def yX3_lay : MethodName := ⟨RX3, "lay", "(LPictureDesk$Thing;[I)V"⟩
def RX4 : String := "PictureDesk$Lines"
def TX4 : u_T := fun k => match k with
  | 0 => ("PictureDesk$Lines", "crossings", "[I", true)
  | 1 => ("PictureDesk$Lines", "cell", "I", false)
  | _ => ("PictureDesk$Lines", "most", "I", false)
def tyX4 : Nat → FieldType := fun k => match k with
  | 0 => .array .int
  | 1 => .int
  | _ => .int
abbrev wsX40 : List Cond := u_ws RX4 TX4 3
theorem nmX4 : ∀ a, a < 3 → ∀ b, b < 3 → a ≠ b → (TX4 a).2.1 ≠ (TX4 b).2.1 := by decide +kernel
theorem tyX4_ok : ∀ k, k < 3 → parseFieldDescriptor (TX4 k).2.2.1 = some (tyX4 k) := by decide +kernel
abbrev cX4_init : ByteArray := prog_6_method_1_code
def yX4_init : MethodName := ⟨RX4, "<init>", "()V"⟩
abbrev cX4_cell : ByteArray := prog_6_method_2_code
def yX4_cell : MethodName := ⟨RX4, "cell", "()I"⟩
abbrev cX4_most : ByteArray := prog_6_method_3_code
def yX4_most : MethodName := ⟨RX4, "most", "()I"⟩
abbrev cX4_draw : ByteArray := prog_6_method_4_code
def yX4_draw : MethodName := ⟨RX4, "draw", "(LPictureDesk$Land;I)V"⟩
abbrev cX4_drawFrom : ByteArray := prog_6_method_5_code
def yX4_drawFrom : MethodName := ⟨RX4, "drawFrom", "(LPictureDesk$Thing;)V"⟩
abbrev cX4_allMayCross : ByteArray := prog_6_method_6_code
def yX4_allMayCross : MethodName := ⟨RX4, "allMayCross", "(LPictureDesk$Land;I)Z"⟩
abbrev cX4_mayCross : ByteArray := prog_6_method_7_code
def yX4_mayCross : MethodName := ⟨RX4, "mayCross", "(LPictureDesk$Thing;)Z"⟩
abbrev cX4_lots : ByteArray := prog_6_method_8_code
def yX4_lots : MethodName := ⟨RX4, "lots", "(LPictureDesk$Land;I)J"⟩
def RX5 : String := "PictureDesk$Picture"
def TX5 : u_T := fun k => match k with
  | 0 => ("PictureDesk$Picture", "from", "I", true)
  | 1 => ("PictureDesk$Picture", "to", "I", true)
  | 2 => ("PictureDesk$Picture", "day", "I", true)
  | 3 => ("PictureDesk$Picture", "sun", "I", true)
  | 4 => ("PictureDesk$Picture", "slope", "I", true)
  | 5 => ("PictureDesk$Picture", "clouds", "LPictureDesk$Ticks;", true)
  | 6 => ("PictureDesk$Picture", "counting", "[I", true)
  | _ => ("PictureDesk$Picture", "looks", "[I", true)
def tyX5 : Nat → FieldType := fun k => match k with
  | 0 => .int
  | 1 => .int
  | 2 => .int
  | 3 => .int
  | 4 => .int
  | 5 => .object "PictureDesk$Ticks"
  | 6 => .array .int
  | _ => .array .int
abbrev wsX50 : List Cond := u_ws RX5 TX5 8
theorem nmX5 : ∀ a, a < 8 → ∀ b, b < 8 → a ≠ b → (TX5 a).2.1 ≠ (TX5 b).2.1 := by decide +kernel
theorem tyX5_ok : ∀ k, k < 8 → parseFieldDescriptor (TX5 k).2.2.1 = some (tyX5 k) := by decide +kernel
abbrev cX5_init : ByteArray := prog_7_method_1_code
def yX5_init : MethodName := ⟨RX5, "<init>", "(IIIII)V"⟩
abbrev cX5_develop : ByteArray := prog_7_method_2_code
def yX5_develop : MethodName := ⟨RX5, "develop", "(LPictureDesk$Land;)V"⟩
abbrev cX5_shadowOf : ByteArray := prog_7_method_3_code
def yX5_shadowOf : MethodName := ⟨RX5, "shadowOf", "(I)I"⟩
abbrev cX5_castShadow : ByteArray := prog_7_method_4_code
def yX5_castShadow : MethodName := ⟨RX5, "castShadow", "(II)V"⟩
abbrev cX5_day : ByteArray := prog_7_method_5_code
def yX5_day : MethodName := ⟨RX5, "day", "()I"⟩
abbrev cX5_tickCloud : ByteArray := prog_7_method_6_code
def yX5_tickCloud : MethodName := ⟨RX5, "tickCloud", "(IZ)Z"⟩
abbrev cX5_covers : ByteArray := prog_7_method_7_code
def yX5_covers : MethodName := ⟨RX5, "covers", "(I)Z"⟩
abbrev cX5_look : ByteArray := prog_7_method_8_code
def yX5_look : MethodName := ⟨RX5, "look", "(I)I"⟩
abbrev cX5_counting : ByteArray := prog_7_method_9_code
def yX5_counting : MethodName := ⟨RX5, "counting", "(I)I"⟩
abbrev cX5_tally : ByteArray := prog_7_method_10_code
def yX5_tally : MethodName := ⟨RX5, "tally", "(I)I"⟩
abbrev cX5_sortOf : ByteArray := prog_7_method_11_code
def yX5_sortOf : MethodName := ⟨RX5, "sortOf", "(I)I"⟩
abbrev cX5_leastHeight : ByteArray := prog_7_method_12_code
def yX5_leastHeight : MethodName := ⟨RX5, "leastHeight", "(I)I"⟩
abbrev cX5_greatestHeight : ByteArray := prog_7_method_13_code
def yX5_greatestHeight : MethodName := ⟨RX5, "greatestHeight", "(I)I"⟩
abbrev cX5_isUnlike : ByteArray := prog_7_method_14_code
def yX5_isUnlike : MethodName := ⟨RX5, "isUnlike", "(LPictureDesk$Picture;I)Z"⟩
abbrev cX5_unlike : ByteArray := prog_7_method_15_code
def yX5_unlike : MethodName := ⟨RX5, "unlike", "(LPictureDesk$Picture;)I"⟩
abbrev cX5_unlikeByHour : ByteArray := prog_7_method_16_code
def yX5_unlikeByHour : MethodName := ⟨RX5, "unlikeByHour", "(LPictureDesk$Picture;)I"⟩
abbrev cX5_firstUnlike : ByteArray := prog_7_method_17_code
def yX5_firstUnlike : MethodName := ⟨RX5, "firstUnlike", "(LPictureDesk$Picture;)I"⟩
def RX6 : String := "PictureDesk$Thing"
def TX6 : u_T := fun k => match k with
  | 0 => ("PictureDesk$Thing", "number", "I", true)
  | 1 => ("PictureDesk$Thing", "marks", "[I", true)
  | _ => ("PictureDesk$Thing", "doings", "LPictureDesk$Ticks;", true)
def tyX6 : Nat → FieldType := fun k => match k with
  | 0 => .int
  | 1 => .array .int
  | _ => .object "PictureDesk$Ticks"
abbrev wsX60 : List Cond := u_ws RX6 TX6 3
theorem nmX6 : ∀ a, a < 3 → ∀ b, b < 3 → a ≠ b → (TX6 a).2.1 ≠ (TX6 b).2.1 := by decide +kernel
theorem tyX6_ok : ∀ k, k < 3 → parseFieldDescriptor (TX6 k).2.2.1 = some (tyX6 k) := by decide +kernel
abbrev cX6_init : ByteArray := prog_8_method_1_code
def yX6_init : MethodName := ⟨RX6, "<init>", "(I[I)V"⟩
abbrev cX6_number : ByteArray := prog_8_method_2_code
def yX6_number : MethodName := ⟨RX6, "number", "()I"⟩
abbrev cX6_mark : ByteArray := prog_8_method_3_code
def yX6_mark : MethodName := ⟨RX6, "mark", "(I)I"⟩
abbrev cX6_remark : ByteArray := prog_8_method_4_code
def yX6_remark : MethodName := ⟨RX6, "remark", "(II)V"⟩
abbrev cX6_isThere : ByteArray := prog_8_method_5_code
def yX6_isThere : MethodName := ⟨RX6, "isThere", "(I)Z"⟩
abbrev cX6_liesOn : ByteArray := prog_8_method_6_code
def yX6_liesOn : MethodName := ⟨RX6, "liesOn", "(II)Z"⟩
abbrev cX6_isAbove : ByteArray := prog_8_method_7_code
def yX6_isAbove : MethodName := ⟨RX6, "isAbove", "(LPictureDesk$Thing;)Z"⟩
abbrev cX6_hasLine : ByteArray := prog_8_method_8_code
def yX6_hasLine : MethodName := ⟨RX6, "hasLine", "(I)Z"⟩
abbrev cX6_distance : ByteArray := prog_8_method_9_code
def yX6_distance : MethodName := ⟨RX6, "distance", "(II)I"⟩
abbrev cX6_tickDoing : ByteArray := prog_8_method_10_code
def yX6_tickDoing : MethodName := ⟨RX6, "tickDoing", "(IZ)Z"⟩
abbrev cX6_daysWithout : ByteArray := prog_8_method_11_code
def yX6_daysWithout : MethodName := ⟨RX6, "daysWithout", "(II)I"⟩
def RX7 : String := "PictureDesk$Ticks"
def TX7 : u_T := fun k => match k with
  | 0 => ("PictureDesk$Ticks", "low", "J", false)
  | _ => ("PictureDesk$Ticks", "high", "J", false)
def tyX7 : Nat → FieldType := fun k => match k with
  | 0 => .long
  | _ => .long
abbrev wsX70 : List Cond := u_ws RX7 TX7 2
theorem nmX7 : ∀ a, a < 2 → ∀ b, b < 2 → a ≠ b → (TX7 a).2.1 ≠ (TX7 b).2.1 := by decide +kernel
theorem tyX7_ok : ∀ k, k < 2 → parseFieldDescriptor (TX7 k).2.2.1 = some (tyX7 k) := by decide +kernel
abbrev cX7_init : ByteArray := prog_9_method_1_code
def yX7_init : MethodName := ⟨RX7, "<init>", "()V"⟩
abbrev cX7_has : ByteArray := prog_9_method_2_code
def yX7_has : MethodName := ⟨RX7, "has", "(I)Z"⟩
abbrev cX7_put : ByteArray := prog_9_method_3_code
def yX7_put : MethodName := ⟨RX7, "put", "(IZ)Z"⟩
def RX8 : String := "PictureDesk$Uses"
def TX8 : u_T := fun k => match k with
  | 0 => ("PictureDesk$Uses", "signs", "[I", true)
  | 1 => ("PictureDesk$Uses", "length", "I", false)
  | 2 => ("PictureDesk$Uses", "texts", "[[I", true)
  | _ => ("PictureDesk$Uses", "lengths", "[I", true)
def tyX8 : Nat → FieldType := fun k => match k with
  | 0 => .array .int
  | 1 => .int
  | 2 => .array (.array .int)
  | _ => .array .int
abbrev wsX80 : List Cond := u_ws RX8 TX8 4
theorem nmX8 : ∀ a, a < 4 → ∀ b, b < 4 → a ≠ b → (TX8 a).2.1 ≠ (TX8 b).2.1 := by decide +kernel
theorem tyX8_ok : ∀ k, k < 4 → parseFieldDescriptor (TX8 k).2.2.1 = some (tyX8 k) := by decide +kernel
abbrev cX8_init : ByteArray := prog_10_method_1_code
def yX8_init : MethodName := ⟨RX8, "<init>", "()V"⟩
abbrev cX8_signs : ByteArray := prog_10_method_2_code
def yX8_signs : MethodName := ⟨RX8, "signs", "()I"⟩
abbrev cX8_append : ByteArray := prog_10_method_3_code
def yX8_append : MethodName := ⟨RX8, "append", "(I)I"⟩
abbrev cX8_clear : ByteArray := prog_10_method_4_code
def yX8_clear : MethodName := ⟨RX8, "clear", "()I"⟩
abbrev cX8_firstFault : ByteArray := prog_10_method_5_code
def yX8_firstFault : MethodName := ⟨RX8, "firstFault", "()I"⟩
abbrev cX8_behind : ByteArray := prog_10_method_6_code
def yX8_behind : MethodName := ⟨RX8, "behind", "(II)I"⟩
abbrev cX8_behindFact : ByteArray := prog_10_method_7_code
def yX8_behindFact : MethodName := ⟨RX8, "behindFact", "(I)I"⟩
abbrev cX8_behindJoint : ByteArray := prog_10_method_8_code
def yX8_behindJoint : MethodName := ⟨RX8, "behindJoint", "(I)I"⟩
abbrev cX8_isDigit : ByteArray := prog_10_method_9_code
def yX8_isDigit : MethodName := ⟨RX8, "isDigit", "(I)Z"⟩
abbrev cX8_isPlace : ByteArray := prog_10_method_10_code
def yX8_isPlace : MethodName := ⟨RX8, "isPlace", "(I)Z"⟩
abbrev cX8_has : ByteArray := prog_10_method_11_code
def yX8_has : MethodName := ⟨RX8, "has", "(I)Z"⟩
abbrev cX8_keep : ByteArray := prog_10_method_12_code
def yX8_keep : MethodName := ⟨RX8, "keep", "(I)V"⟩
abbrev cX8_bits : ByteArray := prog_10_method_13_code
def yX8_bits : MethodName := ⟨RX8, "bits", "()I"⟩
abbrev cX8_judge : ByteArray := prog_10_method_14_code
def yX8_judge : MethodName := ⟨RX8, "judge", "(ILPictureDesk$Facts;)I"⟩
abbrev cX8_signOf : ByteArray := prog_10_method_15_code
def yX8_signOf : MethodName := ⟨RX8, "signOf", "(II)I"⟩
abbrev cX8_test : ByteArray := prog_10_method_16_code
def yX8_test : MethodName := ⟨RX8, "test", "(III)I"⟩
def RX9 : String := "PictureDesk"
def TX9 : u_T := fun k => match k with
  | 0 => ("PictureDesk", "land", "LPictureDesk$Land;", true)
  | 1 => ("PictureDesk", "album", "LPictureDesk$Album;", true)
  | 2 => ("PictureDesk", "facts", "LPictureDesk$Facts;", true)
  | 3 => ("PictureDesk", "uses", "LPictureDesk$Uses;", true)
  | 4 => ("PictureDesk", "lines", "LPictureDesk$Lines;", true)
  | _ => ("PictureDesk", "flights", "LPictureDesk$Flights;", true)
def tyX9 : Nat → FieldType := fun k => match k with
  | 0 => .object "PictureDesk$Land"
  | 1 => .object "PictureDesk$Album"
  | 2 => .object "PictureDesk$Facts"
  | 3 => .object "PictureDesk$Uses"
  | 4 => .object "PictureDesk$Lines"
  | _ => .object "PictureDesk$Flights"
abbrev wsX90 : List Cond := u_ws RX9 TX9 6
theorem nmX9 : ∀ a, a < 6 → ∀ b, b < 6 → a ≠ b → (TX9 a).2.1 ≠ (TX9 b).2.1 := by decide +kernel
theorem tyX9_ok : ∀ k, k < 6 → parseFieldDescriptor (TX9 k).2.2.1 = some (tyX9 k) := by decide +kernel
abbrev cX9_init : ByteArray := prog_1_method_1_code
def yX9_init : MethodName := ⟨RX9, "<init>", "()V"⟩
abbrev cX9_thing : ByteArray := prog_1_method_2_code
def yX9_thing : MethodName := ⟨RX9, "thing", "(IIIIIIII)I"⟩
abbrev cX9_of : ByteArray := prog_1_method_3_code
def yX9_of : MethodName := ⟨RX9, "of", "(II)I"⟩
abbrev cX9_set : ByteArray := prog_1_method_4_code
def yX9_set : MethodName := ⟨RX9, "set", "(III)I"⟩
abbrev cX9_at : ByteArray := prog_1_method_5_code
def yX9_at : MethodName := ⟨RX9, "at", "(II)I"⟩
abbrev cX9_picture : ByteArray := prog_1_method_6_code
def yX9_picture : MethodName := ⟨RX9, "picture", "(IIIII)I"⟩
abbrev cX9_cloud : ByteArray := prog_1_method_7_code
def yX9_cloud : MethodName := ⟨RX9, "cloud", "(IIZ)I"⟩
abbrev cX9_shows : ByteArray := prog_1_method_8_code
def yX9_shows : MethodName := ⟨RX9, "shows", "(II)I"⟩
abbrev cX9_count : ByteArray := prog_1_method_9_code
def yX9_count : MethodName := ⟨RX9, "count", "(II)I"⟩
abbrev cX9_span : ByteArray := prog_1_method_10_code
def yX9_span : MethodName := ⟨RX9, "span", "(III)I"⟩
abbrev cX9_changed : ByteArray := prog_1_method_11_code
def yX9_changed : MethodName := ⟨RX9, "changed", "(III)I"⟩
abbrev cX9_say : ByteArray := prog_1_method_12_code
def yX9_say : MethodName := ⟨RX9, "say", "(I)I"⟩
abbrev cX9_wipe : ByteArray := prog_1_method_13_code
def yX9_wipe : MethodName := ⟨RX9, "wipe", "()I"⟩
abbrev cX9_fault : ByteArray := prog_1_method_14_code
def yX9_fault : MethodName := ⟨RX9, "fault", "()I"⟩
abbrev cX9_use : ByteArray := prog_1_method_15_code
def yX9_use : MethodName := ⟨RX9, "use", "(I)I"⟩
abbrev cX9_fact : ByteArray := prog_1_method_16_code
def yX9_fact : MethodName := ⟨RX9, "fact", "(III)I"⟩
abbrev cX9_fit : ByteArray := prog_1_method_17_code
def yX9_fit : MethodName := ⟨RX9, "fit", "(III)I"⟩
abbrev cX9_could : ByteArray := prog_1_method_18_code
def yX9_could : MethodName := ⟨RX9, "could", "(II)I"⟩
abbrev cX9_all : ByteArray := prog_1_method_19_code
def yX9_all : MethodName := ⟨RX9, "all", "(III)I"⟩
abbrev cX9_meet : ByteArray := prog_1_method_20_code
def yX9_meet : MethodName := ⟨RX9, "meet", "(II)I"⟩
abbrev cX9_chance : ByteArray := prog_1_method_21_code
def yX9_chance : MethodName := ⟨RX9, "chance", "(II)J"⟩
abbrev cX9_did : ByteArray := prog_1_method_22_code
def yX9_did : MethodName := ⟨RX9, "did", "(IIZ)I"⟩
abbrev cX9_decoy : ByteArray := prog_1_method_23_code
def yX9_decoy : MethodName := ⟨RX9, "decoy", "(IIIII)J"⟩
abbrev cX9_sure : ByteArray := prog_1_method_24_code
def yX9_sure : MethodName := ⟨RX9, "sure", "(II)I"⟩
abbrev cX9_flight : ByteArray := prog_1_method_25_code
def yX9_flight : MethodName := ⟨RX9, "flight", "(IIIII)I"⟩
abbrev cX9_worth : ByteArray := prog_1_method_26_code
def yX9_worth : MethodName := ⟨RX9, "worth", "(II)J"⟩
abbrev cX9_best : ByteArray := prog_1_method_27_code
def yX9_best : MethodName := ⟨RX9, "best", "(II)I"⟩
abbrev cX9_lean : ByteArray := prog_1_method_28_code
def yX9_lean : MethodName := ⟨RX9, "lean", "(IIIII)J"⟩
abbrev cX9_told : ByteArray := prog_1_method_29_code
def yX9_told : MethodName := ⟨RX9, "told", "(I)I"⟩
abbrev cX9_judge : ByteArray := prog_1_method_30_code
def yX9_judge : MethodName := ⟨RX9, "judge", "(ILPictureDesk$Thing;I)I"⟩
abbrev cX9_isWithin : ByteArray := prog_1_method_31_code
def yX9_isWithin : MethodName := ⟨RX9, "isWithin", "(III)Z"⟩
abbrev cX9_isOnLand : ByteArray := prog_1_method_32_code
def yX9_isOnLand : MethodName := ⟨RX9, "isOnLand", "(II)Z"⟩
abbrev cX9_isCell : ByteArray := prog_1_method_33_code
def yX9_isCell : MethodName := ⟨RX9, "isCell", "(I)Z"⟩
abbrev cX9_isDay : ByteArray := prog_1_method_34_code
def yX9_isDay : MethodName := ⟨RX9, "isDay", "(I)Z"⟩
abbrev cX9_isStrip : ByteArray := prog_1_method_35_code
def yX9_isStrip : MethodName := ⟨RX9, "isStrip", "(II)Z"⟩
abbrev cX9_isPart : ByteArray := prog_1_method_36_code
def yX9_isPart : MethodName := ⟨RX9, "isPart", "(I)Z"⟩
abbrev cX9_cellOf : ByteArray := prog_1_method_37_code
def yX9_cellOf : MethodName := ⟨RX9, "cellOf", "(II)I"⟩
abbrev cX9_power : ByteArray := prog_1_method_38_code
def yX9_power : MethodName := ⟨RX9, "power", "(JI)J"⟩
abbrev cX9_choices : ByteArray := prog_1_method_39_code
def yX9_choices : MethodName := ⟨RX9, "choices", "(II)J"⟩
abbrev cX9_partOf : ByteArray := prog_1_method_40_code
def yX9_partOf : MethodName := ⟨RX9, "partOf", "(JJI)J"⟩
abbrev cX9_commonDivisor : ByteArray := prog_1_method_41_code
def yX9_commonDivisor : MethodName := ⟨RX9, "commonDivisor", "(JJ)J"⟩
def RX10 : String := "PictureDeskModel"
def TX10 : u_T := fun k => match k with
  | 0 => ("PictureDeskModel", "things", "I", false)
  | 1 => ("PictureDeskModel", "thing", "[I", true)
  | 2 => ("PictureDeskModel", "does", "[Z", true)
  | 3 => ("PictureDeskModel", "pictures", "I", false)
  | 4 => ("PictureDeskModel", "picture", "[I", true)
  | 5 => ("PictureDeskModel", "cloud", "[Z", true)
  | 6 => ("PictureDeskModel", "signs", "I", false)
  | 7 => ("PictureDeskModel", "sign", "[I", true)
  | 8 => ("PictureDeskModel", "useMany", "[I", true)
  | 9 => ("PictureDeskModel", "useSign", "[I", true)
  | 10 => ("PictureDeskModel", "flight", "[I", true)
  | _ => ("PictureDeskModel", "most", "I", false)
def tyX10 : Nat → FieldType := fun k => match k with
  | 0 => .int
  | 1 => .array .int
  | 2 => .array .boolean
  | 3 => .int
  | 4 => .array .int
  | 5 => .array .boolean
  | 6 => .int
  | 7 => .array .int
  | 8 => .array .int
  | 9 => .array .int
  | 10 => .array .int
  | _ => .int
abbrev wsX100 : List Cond := u_ws RX10 TX10 12
theorem nmX10 : ∀ a, a < 12 → ∀ b, b < 12 → a ≠ b → (TX10 a).2.1 ≠ (TX10 b).2.1 := by decide +kernel
theorem tyX10_ok : ∀ k, k < 12 → parseFieldDescriptor (TX10 k).2.2.1 = some (tyX10 k) := by decide +kernel
abbrev cX10_init : ByteArray := prog_12_method_1_code
def yX10_init : MethodName := ⟨RX10, "<init>", "()V"⟩
abbrev cX10_in : ByteArray := prog_12_method_2_code
def yX10_in : MethodName := ⟨RX10, "in", "(III)Z"⟩
abbrev cX10_isDay : ByteArray := prog_12_method_3_code
def yX10_isDay : MethodName := ⟨RX10, "isDay", "(I)Z"⟩
abbrev cX10_isCell : ByteArray := prog_12_method_4_code
def yX10_isCell : MethodName := ⟨RX10, "isCell", "(I)Z"⟩
abbrev cX10_isPart : ByteArray := prog_12_method_5_code
def yX10_isPart : MethodName := ⟨RX10, "isPart", "(I)Z"⟩
abbrev cX10_isThing : ByteArray := prog_12_method_6_code
def yX10_isThing : MethodName := ⟨RX10, "isThing", "(I)Z"⟩
abbrev cX10_isPicture : ByteArray := prog_12_method_7_code
def yX10_isPicture : MethodName := ⟨RX10, "isPicture", "(I)Z"⟩
abbrev cX10_thing : ByteArray := prog_12_method_8_code
def yX10_thing : MethodName := ⟨RX10, "thing", "(IIIIIIII)I"⟩
abbrev cX10_of : ByteArray := prog_12_method_9_code
def yX10_of : MethodName := ⟨RX10, "of", "(II)I"⟩
abbrev cX10_set : ByteArray := prog_12_method_10_code
def yX10_set : MethodName := ⟨RX10, "set", "(III)I"⟩
abbrev cX10_isThere : ByteArray := prog_12_method_11_code
def yX10_isThere : MethodName := ⟨RX10, "isThere", "(II)Z"⟩
abbrev cX10_isOwn : ByteArray := prog_12_method_12_code
def yX10_isOwn : MethodName := ⟨RX10, "isOwn", "(III)Z"⟩
abbrev cX10_thingAt : ByteArray := prog_12_method_13_code
def yX10_thingAt : MethodName := ⟨RX10, "thingAt", "(III)I"⟩
abbrev cX10_at : ByteArray := prog_12_method_14_code
def yX10_at : MethodName := ⟨RX10, "at", "(II)I"⟩
abbrev cX10_picture : ByteArray := prog_12_method_15_code
def yX10_picture : MethodName := ⟨RX10, "picture", "(IIIII)I"⟩
abbrev cX10_cloud : ByteArray := prog_12_method_16_code
def yX10_cloud : MethodName := ⟨RX10, "cloud", "(IIZ)I"⟩
abbrev cX10_covers : ByteArray := prog_12_method_17_code
def yX10_covers : MethodName := ⟨RX10, "covers", "(II)Z"⟩
abbrev cX10_showsOf : ByteArray := prog_12_method_18_code
def yX10_showsOf : MethodName := ⟨RX10, "showsOf", "(II)I"⟩
abbrev cX10_shows : ByteArray := prog_12_method_19_code
def yX10_shows : MethodName := ⟨RX10, "shows", "(II)I"⟩
abbrev cX10_count : ByteArray := prog_12_method_20_code
def yX10_count : MethodName := ⟨RX10, "count", "(II)I"⟩
abbrev cX10_span : ByteArray := prog_12_method_21_code
def yX10_span : MethodName := ⟨RX10, "span", "(III)I"⟩
abbrev cX10_changed : ByteArray := prog_12_method_22_code
def yX10_changed : MethodName := ⟨RX10, "changed", "(III)I"⟩
abbrev cX10_say : ByteArray := prog_12_method_23_code
def yX10_say : MethodName := ⟨RX10, "say", "(I)I"⟩
abbrev cX10_wipe : ByteArray := prog_12_method_24_code
def yX10_wipe : MethodName := ⟨RX10, "wipe", "()I"⟩
abbrev cX10_faultOf : ByteArray := prog_12_method_25_code
def yX10_faultOf : MethodName := ⟨RX10, "faultOf", "()I"⟩
abbrev cX10_fault : ByteArray := prog_12_method_26_code
def yX10_fault : MethodName := ⟨RX10, "fault", "()I"⟩
abbrev cX10_use : ByteArray := prog_12_method_27_code
def yX10_use : MethodName := ⟨RX10, "use", "(I)I"⟩
abbrev cX10_isSeen : ByteArray := prog_12_method_28_code
def yX10_isSeen : MethodName := ⟨RX10, "isSeen", "(II)Z"⟩
abbrev cX10_isShown : ByteArray := prog_12_method_29_code
def yX10_isShown : MethodName := ⟨RX10, "isShown", "(IIIIZ)Z"⟩
abbrev cX10_shownOf : ByteArray := prog_12_method_30_code
def yX10_shownOf : MethodName := ⟨RX10, "shownOf", "(II)I"⟩
abbrev cX10_farOf : ByteArray := prog_12_method_31_code
def yX10_farOf : MethodName := ⟨RX10, "farOf", "(II)I"⟩
abbrev cX10_nearOf : ByteArray := prog_12_method_32_code
def yX10_nearOf : MethodName := ⟨RX10, "nearOf", "(III)I"⟩
abbrev cX10_factOf : ByteArray := prog_12_method_33_code
def yX10_factOf : MethodName := ⟨RX10, "factOf", "(III)I"⟩
abbrev cX10_fact : ByteArray := prog_12_method_34_code
def yX10_fact : MethodName := ⟨RX10, "fact", "(III)I"⟩
abbrev cX10_fitOf : ByteArray := prog_12_method_35_code
def yX10_fitOf : MethodName := ⟨RX10, "fitOf", "(III)I"⟩
abbrev cX10_isUse : ByteArray := prog_12_method_36_code
def yX10_isUse : MethodName := ⟨RX10, "isUse", "(I)Z"⟩
abbrev cX10_fit : ByteArray := prog_12_method_37_code
def yX10_fit : MethodName := ⟨RX10, "fit", "(III)I"⟩
abbrev cX10_could : ByteArray := prog_12_method_38_code
def yX10_could : MethodName := ⟨RX10, "could", "(II)I"⟩
abbrev cX10_all : ByteArray := prog_12_method_39_code
def yX10_all : MethodName := ⟨RX10, "all", "(III)I"⟩
abbrev cX10_eastOf : ByteArray := prog_12_method_40_code
def yX10_eastOf : MethodName := ⟨RX10, "eastOf", "(I)I"⟩
abbrev cX10_southOf : ByteArray := prog_12_method_41_code
def yX10_southOf : MethodName := ⟨RX10, "southOf", "(I)I"⟩
abbrev cX10_faces : ByteArray := prog_12_method_42_code
def yX10_faces : MethodName := ⟨RX10, "faces", "(II)Z"⟩
abbrev cX10_isOn : ByteArray := prog_12_method_43_code
def yX10_isOn : MethodName := ⟨RX10, "isOn", "(III)Z"⟩
abbrev cX10_meetOf : ByteArray := prog_12_method_44_code
def yX10_meetOf : MethodName := ⟨RX10, "meetOf", "(I)I"⟩
abbrev cX10_meet : ByteArray := prog_12_method_45_code
def yX10_meet : MethodName := ⟨RX10, "meet", "(II)I"⟩
abbrev cX10_term : ByteArray := prog_12_method_46_code
def yX10_term : MethodName := ⟨RX10, "term", "(JJI)J"⟩
abbrev cX10_chance : ByteArray := prog_12_method_47_code
def yX10_chance : MethodName := ⟨RX10, "chance", "(II)J"⟩
abbrev cX10_did : ByteArray := prog_12_method_48_code
def yX10_did : MethodName := ⟨RX10, "did", "(IIZ)I"⟩
abbrev cX10_decoy : ByteArray := prog_12_method_49_code
def yX10_decoy : MethodName := ⟨RX10, "decoy", "(IIIII)J"⟩
abbrev cX10_sure : ByteArray := prog_12_method_50_code
def yX10_sure : MethodName := ⟨RX10, "sure", "(II)I"⟩
abbrev cX10_flight : ByteArray := prog_12_method_51_code
def yX10_flight : MethodName := ⟨RX10, "flight", "(IIIII)I"⟩
abbrev cX10_worthOf : ByteArray := prog_12_method_52_code
def yX10_worthOf : MethodName := ⟨RX10, "worthOf", "(I)J"⟩
abbrev cX10_worth : ByteArray := prog_12_method_53_code
def yX10_worth : MethodName := ⟨RX10, "worth", "(II)J"⟩
abbrev cX10_riskOf : ByteArray := prog_12_method_54_code
def yX10_riskOf : MethodName := ⟨RX10, "riskOf", "(I)I"⟩
abbrev cX10_best : ByteArray := prog_12_method_55_code
def yX10_best : MethodName := ⟨RX10, "best", "(II)I"⟩
abbrev cX10_choose : ByteArray := prog_12_method_56_code
def yX10_choose : MethodName := ⟨RX10, "choose", "(II)J"⟩
abbrev cX10_lean : ByteArray := prog_12_method_57_code
def yX10_lean : MethodName := ⟨RX10, "lean", "(IIIII)J"⟩
abbrev cX10_told : ByteArray := prog_12_method_58_code
def yX10_told : MethodName := ⟨RX10, "told", "(I)I"⟩
def RJ9 : String := "java/lang/Math"
def TJ9 : u_T := fun k => match k with
  | _ => ("", "", "", false)
def tyJ9 : Nat → FieldType := fun k => match k with
  | _ => .int
abbrev wsJ90 : List Cond := u_ws RJ9 TJ9 0
theorem nmJ9 : ∀ a, a < 0 → ∀ b, b < 0 → a ≠ b → (TJ9 a).2.1 ≠ (TJ9 b).2.1 := by decide +kernel
theorem tyJ9_ok : ∀ k, k < 0 → parseFieldDescriptor (TJ9 k).2.2.1 = some (tyJ9 k) := by decide +kernel
abbrev cJ9_abs_0f7a4 : ByteArray := prog_13_method_59_code
def yJ9_abs_0f7a4 : MethodName := ⟨RJ9, "abs", "(I)I"⟩
abbrev cJ9_max_7cf53 : ByteArray := prog_13_method_65_code
def yJ9_max_7cf53 : MethodName := ⟨RJ9, "max", "(II)I"⟩
abbrev cJ9_min_7cf53 : ByteArray := prog_13_method_69_code
def yJ9_min_7cf53 : MethodName := ⟨RJ9, "min", "(II)I"⟩
def RL : String := "PictureDeskLaw"
abbrev cL_law : ByteArray := code
def yL_law : MethodName := ⟨RL, "law", "([I)Z"⟩
abbrev vwCl : List vw_C := [(RX0, TX0, 2), (RX1, TX1, 3), (RX2, TX2, 6), (RX3, TX3, 2), (RX4, TX4, 3), (RX5, TX5, 8), (RX6, TX6, 3), (RX7, TX7, 2), (RX8, TX8, 4), (RX9, TX9, 6), (RX10, TX10, 12)]
end
section
/-- the words of the tables that stay as the machine goes on -/
def okWord : Cond → Bool
  | .methodLinkNest _ _ _ _ => true
  | .fieldLinkNest _ _ _ _ _ _ => true
  | .arrayOver (.object _) => true
  | .arrayOver (.array .int) => true
  | w => goodWord w
def tbl : List Cond := lw_tbl.filter okWord
theorem tb_ok {w : Cond} (h : w ∈ tbl) : okWord w = true := (List.mem_filter.mp h).2
theorem tb_lw {w : Cond} (h : w ∈ tbl) : w ∈ lw_tbl := (List.mem_filter.mp h).1
theorem tb_0 {w : Cond} (i : Nat) (h : (k2_sels lw_privs)[i]? = some w) (ho : okWord w = true) : w ∈ tbl := List.mem_filter.mpr ⟨List.mem_append_left _ (List.mem_of_getElem? h), ho⟩
theorem tb_t {w : Cond} (h : w ∈ tables_1) (ho : okWord w = true) : w ∈ tbl := List.mem_filter.mpr ⟨List.mem_append_right _ h, ho⟩
theorem tb_1 {w : Cond} (i : Nat) (h : tables_1_1[i]? = some w) (ho : okWord w = true) : w ∈ tbl := tb_t (List.mem_append_left _ (List.mem_of_getElem? h)) ho
theorem tb_2 {w : Cond} (i : Nat) (h : tables_1_2[i]? = some w) (ho : okWord w = true) : w ∈ tbl := tb_t (List.mem_append_right _ (List.mem_append_left _ (List.mem_of_getElem? h))) ho
theorem tb_3 {w : Cond} (i : Nat) (h : tables_1_3[i]? = some w) (ho : okWord w = true) : w ∈ tbl := tb_t (List.mem_append_right _ (List.mem_append_right _ (List.mem_append_left _ (List.mem_of_getElem? h)))) ho
theorem tb_4 {w : Cond} (i : Nat) (h : tables_1_4[i]? = some w) (ho : okWord w = true) : w ∈ tbl := tb_t (List.mem_append_right _ (List.mem_append_right _ (List.mem_append_right _ (List.mem_append_left _ (List.mem_of_getElem? h))))) ho
theorem tb_5 {w : Cond} (i : Nat) (h : tables_1_5[i]? = some w) (ho : okWord w = true) : w ∈ tbl := tb_t (List.mem_append_right _ (List.mem_append_right _ (List.mem_append_right _ (List.mem_append_right _ (List.mem_of_getElem? h))))) ho
theorem wN_L : (Jvm.Cond.initialized "PictureDeskLaw") ∈ tbl := tb_1 0 rfl rfl
theorem wN_X9 : (Jvm.Cond.initialized "PictureDesk") ∈ tbl := tb_1 1 rfl rfl
theorem wN_X3 : (Jvm.Cond.initialized "PictureDesk$Land") ∈ tbl := tb_1 2 rfl rfl
theorem wN_X0 : (Jvm.Cond.initialized "PictureDesk$Album") ∈ tbl := tb_1 3 rfl rfl
theorem wN_X1 : (Jvm.Cond.initialized "PictureDesk$Facts") ∈ tbl := tb_1 4 rfl rfl
theorem wN_X8 : (Jvm.Cond.initialized "PictureDesk$Uses") ∈ tbl := tb_1 5 rfl rfl
theorem wN_X4 : (Jvm.Cond.initialized "PictureDesk$Lines") ∈ tbl := tb_1 6 rfl rfl
theorem wN_X2 : (Jvm.Cond.initialized "PictureDesk$Flights") ∈ tbl := tb_1 7 rfl rfl
theorem wN_X10 : (Jvm.Cond.initialized "PictureDeskModel") ∈ tbl := tb_1 8 rfl rfl
theorem wN_X6 : (Jvm.Cond.initialized "PictureDesk$Thing") ∈ tbl := tb_1 9 rfl rfl
theorem wN_X7 : (Jvm.Cond.initialized "PictureDesk$Ticks") ∈ tbl := tb_1 10 rfl rfl
theorem wN_X5 : (Jvm.Cond.initialized "PictureDesk$Picture") ∈ tbl := tb_1 11 rfl rfl
theorem wN_J9 : (Jvm.Cond.initialized "java/lang/Math") ∈ tbl := tb_1 12 rfl rfl
theorem wL_L_7 : (Jvm.Cond.classLink "PictureDeskLaw" (7 : Nat) "PictureDesk") ∈ tbl := tb_1 13 rfl rfl
theorem wB_X9 : (Jvm.Cond.instantiable "PictureDesk" (6 : Nat)) ∈ tbl := tb_1 14 rfl rfl
theorem wM_L_9 : (Jvm.Cond.methodLink "PictureDeskLaw" (9 : Nat) ({ cls := "PictureDesk", name := "<init>", desc := "()V" } : Jvm.MethodName)) ∈ tbl := tb_1 15 rfl rfl
theorem wI_X9_init : (Jvm.Cond.instanceMethod ({ cls := "PictureDesk", name := "<init>", desc := "()V" } : Jvm.MethodName)) ∈ tbl := tb_1 16 rfl rfl
theorem wC_X9_init : (Jvm.Cond.code ({ cls := "PictureDesk", name := "<init>", desc := "()V" } : Jvm.MethodName) prog_1_method_1_code (1 : Nat) (Option.none : Option Jvm.ClassFile.FieldType)) ∈ tbl := tb_1 17 rfl rfl
theorem wM_X9_1 : (Jvm.Cond.methodLink "PictureDesk" (1 : Nat) ({ cls := "java/lang/Object", name := "<init>", desc := "()V" } : Jvm.MethodName)) ∈ tbl := tb_1 18 rfl rfl
theorem wI_java_lang_Object__init____V : (Jvm.Cond.instanceMethod ({ cls := "java/lang/Object", name := "<init>", desc := "()V" } : Jvm.MethodName)) ∈ tbl := tb_1 19 rfl rfl
theorem wC_java_lang_Object__init____V : (Jvm.Cond.code ({ cls := "java/lang/Object", name := "<init>", desc := "()V" } : Jvm.MethodName) object_method_1_code (1 : Nat) (Option.none : Option Jvm.ClassFile.FieldType)) ∈ tbl := tb_1 20 rfl rfl
theorem wL_X9_7 : (Jvm.Cond.classLink "PictureDesk" (7 : Nat) "PictureDesk$Land") ∈ tbl := tb_1 21 rfl rfl
theorem wB_X3 : (Jvm.Cond.instantiable "PictureDesk$Land" (2 : Nat)) ∈ tbl := tb_1 22 rfl rfl
theorem wMN_X9_9 : (Jvm.Cond.methodLinkNest "PictureDesk" (9 : Nat) ({ cls := "PictureDesk$Land", name := "<init>", desc := "()V" } : Jvm.MethodName) "PictureDesk") ∈ tbl := tb_1 23 rfl rfl
theorem wI_X3_init : (Jvm.Cond.instanceMethod ({ cls := "PictureDesk$Land", name := "<init>", desc := "()V" } : Jvm.MethodName)) ∈ tbl := tb_1 24 rfl rfl
theorem wC_X3_init : (Jvm.Cond.code ({ cls := "PictureDesk$Land", name := "<init>", desc := "()V" } : Jvm.MethodName) prog_5_method_1_code (1 : Nat) (Option.none : Option Jvm.ClassFile.FieldType)) ∈ tbl := tb_1 25 rfl rfl
theorem wM_X3_3 : (Jvm.Cond.methodLink "PictureDesk$Land" (3 : Nat) ({ cls := "java/lang/Object", name := "<init>", desc := "()V" } : Jvm.MethodName)) ∈ tbl := tb_1 26 rfl rfl
theorem wL_X3_9 : (Jvm.Cond.classLink "PictureDesk$Land" (9 : Nat) "PictureDesk$Thing") ∈ tbl := tb_1 27 rfl rfl
theorem wO_Jvm_ClassFile_FieldType_object_PictureDesk_Thing : (Jvm.Cond.arrayOver (Jvm.ClassFile.FieldType.object "PictureDesk$Thing")) ∈ tbl := tb_1 28 rfl rfl
theorem wF_X3_11 : (Jvm.Cond.fieldLink "PictureDesk$Land" (11 : Nat) "PictureDesk$Land" "things" "[LPictureDesk$Thing;") ∈ tbl := tb_1 29 rfl rfl
theorem wF_X3_17 : (Jvm.Cond.fieldLink "PictureDesk$Land" (17 : Nat) "PictureDesk$Land" "size" "I") ∈ tbl := tb_1 30 rfl rfl
theorem wL_X9_16 : (Jvm.Cond.classLink "PictureDesk" (16 : Nat) "PictureDesk$Album") ∈ tbl := tb_1 36 rfl rfl
theorem wB_X0 : (Jvm.Cond.instantiable "PictureDesk$Album" (2 : Nat)) ∈ tbl := tb_1 37 rfl rfl
theorem wMN_X9_18 : (Jvm.Cond.methodLinkNest "PictureDesk" (18 : Nat) ({ cls := "PictureDesk$Album", name := "<init>", desc := "()V" } : Jvm.MethodName) "PictureDesk") ∈ tbl := tb_1 38 rfl rfl
theorem wI_X0_init : (Jvm.Cond.instanceMethod ({ cls := "PictureDesk$Album", name := "<init>", desc := "()V" } : Jvm.MethodName)) ∈ tbl := tb_1 39 rfl rfl
theorem wC_X0_init : (Jvm.Cond.code ({ cls := "PictureDesk$Album", name := "<init>", desc := "()V" } : Jvm.MethodName) prog_2_method_1_code (1 : Nat) (Option.none : Option Jvm.ClassFile.FieldType)) ∈ tbl := tb_1 40 rfl rfl
theorem wM_X0_3 : (Jvm.Cond.methodLink "PictureDesk$Album" (3 : Nat) ({ cls := "java/lang/Object", name := "<init>", desc := "()V" } : Jvm.MethodName)) ∈ tbl := tb_1 41 rfl rfl
theorem wL_X0_9 : (Jvm.Cond.classLink "PictureDesk$Album" (9 : Nat) "PictureDesk$Picture") ∈ tbl := tb_1 42 rfl rfl
theorem wO_Jvm_ClassFile_FieldType_object_PictureDesk_Picture : (Jvm.Cond.arrayOver (Jvm.ClassFile.FieldType.object "PictureDesk$Picture")) ∈ tbl := tb_1 43 rfl rfl
theorem wF_X0_11 : (Jvm.Cond.fieldLink "PictureDesk$Album" (11 : Nat) "PictureDesk$Album" "pictures" "[LPictureDesk$Picture;") ∈ tbl := tb_1 44 rfl rfl
theorem wF_X0_17 : (Jvm.Cond.fieldLink "PictureDesk$Album" (17 : Nat) "PictureDesk$Album" "size" "I") ∈ tbl := tb_1 45 rfl rfl
theorem wL_X9_23 : (Jvm.Cond.classLink "PictureDesk" (23 : Nat) "PictureDesk$Facts") ∈ tbl := tb_1 51 rfl rfl
theorem wB_X1 : (Jvm.Cond.instantiable "PictureDesk$Facts" (3 : Nat)) ∈ tbl := tb_1 52 rfl rfl
theorem wMN_X9_25 : (Jvm.Cond.methodLinkNest "PictureDesk" (25 : Nat) ({ cls := "PictureDesk$Facts", name := "<init>", desc := "()V" } : Jvm.MethodName) "PictureDesk") ∈ tbl := tb_1 53 rfl rfl
theorem wI_X1_init : (Jvm.Cond.instanceMethod ({ cls := "PictureDesk$Facts", name := "<init>", desc := "()V" } : Jvm.MethodName)) ∈ tbl := tb_1 54 rfl rfl
theorem wC_X1_init : (Jvm.Cond.code ({ cls := "PictureDesk$Facts", name := "<init>", desc := "()V" } : Jvm.MethodName) prog_3_method_1_code (1 : Nat) (Option.none : Option Jvm.ClassFile.FieldType)) ∈ tbl := tb_1 55 rfl rfl
theorem wM_X1_3 : (Jvm.Cond.methodLink "PictureDesk$Facts" (3 : Nat) ({ cls := "java/lang/Object", name := "<init>", desc := "()V" } : Jvm.MethodName)) ∈ tbl := tb_1 56 rfl rfl
theorem wF_X1_11 : (Jvm.Cond.fieldLink "PictureDesk$Facts" (11 : Nat) "PictureDesk$Facts" "values" "[I") ∈ tbl := tb_1 57 rfl rfl
theorem wF_X1_29 : (Jvm.Cond.fieldLink "PictureDesk$Facts" (29 : Nat) "PictureDesk$Facts" "isCovered" "Z") ∈ tbl := tb_1 58 rfl rfl
theorem wF_X1_25 : (Jvm.Cond.fieldLink "PictureDesk$Facts" (25 : Nat) "PictureDesk$Facts" "isSeen" "Z") ∈ tbl := tb_1 59 rfl rfl
theorem wA_Jvm_ClassFile_FieldType_int : (Jvm.Cond.arrayClass Jvm.ClassFile.FieldType.int) ∈ tbl := tb_1 67 rfl rfl
theorem wL_X9_30 : (Jvm.Cond.classLink "PictureDesk" (30 : Nat) "PictureDesk$Uses") ∈ tbl := tb_1 68 rfl rfl
theorem wB_X8 : (Jvm.Cond.instantiable "PictureDesk$Uses" (4 : Nat)) ∈ tbl := tb_1 69 rfl rfl
theorem wMN_X9_32 : (Jvm.Cond.methodLinkNest "PictureDesk" (32 : Nat) ({ cls := "PictureDesk$Uses", name := "<init>", desc := "()V" } : Jvm.MethodName) "PictureDesk") ∈ tbl := tb_1 70 rfl rfl
theorem wI_X8_init : (Jvm.Cond.instanceMethod ({ cls := "PictureDesk$Uses", name := "<init>", desc := "()V" } : Jvm.MethodName)) ∈ tbl := tb_1 71 rfl rfl
theorem wC_X8_init : (Jvm.Cond.code ({ cls := "PictureDesk$Uses", name := "<init>", desc := "()V" } : Jvm.MethodName) prog_10_method_1_code (1 : Nat) (Option.none : Option Jvm.ClassFile.FieldType)) ∈ tbl := tb_1 72 rfl rfl
theorem wM_X8_3 : (Jvm.Cond.methodLink "PictureDesk$Uses" (3 : Nat) ({ cls := "java/lang/Object", name := "<init>", desc := "()V" } : Jvm.MethodName)) ∈ tbl := tb_1 73 rfl rfl
theorem wL_X8_15 : (Jvm.Cond.classLink "PictureDesk$Uses" (15 : Nat) "[[I") ∈ tbl := tb_1 74 rfl rfl
theorem wO_Jvm_ClassFile_FieldType_array_Jvm_ClassFile_FieldType_int : (Jvm.Cond.arrayOver (Jvm.ClassFile.FieldType.array Jvm.ClassFile.FieldType.int)) ∈ tbl := tb_1 75 rfl rfl
theorem wF_X8_11 : (Jvm.Cond.fieldLink "PictureDesk$Uses" (11 : Nat) "PictureDesk$Uses" "signs" "[I") ∈ tbl := tb_1 76 rfl rfl
theorem wF_X8_23 : (Jvm.Cond.fieldLink "PictureDesk$Uses" (23 : Nat) "PictureDesk$Uses" "length" "I") ∈ tbl := tb_1 77 rfl rfl
theorem wF_X8_17 : (Jvm.Cond.fieldLink "PictureDesk$Uses" (17 : Nat) "PictureDesk$Uses" "texts" "[[I") ∈ tbl := tb_1 78 rfl rfl
theorem wF_X8_20 : (Jvm.Cond.fieldLink "PictureDesk$Uses" (20 : Nat) "PictureDesk$Uses" "lengths" "[I") ∈ tbl := tb_1 79 rfl rfl
theorem wL_X9_37 : (Jvm.Cond.classLink "PictureDesk" (37 : Nat) "PictureDesk$Lines") ∈ tbl := tb_1 89 rfl rfl
theorem wB_X4 : (Jvm.Cond.instantiable "PictureDesk$Lines" (3 : Nat)) ∈ tbl := tb_1 90 rfl rfl
theorem wMN_X9_39 : (Jvm.Cond.methodLinkNest "PictureDesk" (39 : Nat) ({ cls := "PictureDesk$Lines", name := "<init>", desc := "()V" } : Jvm.MethodName) "PictureDesk") ∈ tbl := tb_1 91 rfl rfl
theorem wI_X4_init : (Jvm.Cond.instanceMethod ({ cls := "PictureDesk$Lines", name := "<init>", desc := "()V" } : Jvm.MethodName)) ∈ tbl := tb_1 92 rfl rfl
theorem wC_X4_init : (Jvm.Cond.code ({ cls := "PictureDesk$Lines", name := "<init>", desc := "()V" } : Jvm.MethodName) prog_6_method_1_code (1 : Nat) (Option.none : Option Jvm.ClassFile.FieldType)) ∈ tbl := tb_1 93 rfl rfl
theorem wM_X4_3 : (Jvm.Cond.methodLink "PictureDesk$Lines" (3 : Nat) ({ cls := "java/lang/Object", name := "<init>", desc := "()V" } : Jvm.MethodName)) ∈ tbl := tb_1 94 rfl rfl
theorem wF_X4_9 : (Jvm.Cond.fieldLink "PictureDesk$Lines" (9 : Nat) "PictureDesk$Lines" "crossings" "[I") ∈ tbl := tb_1 95 rfl rfl
theorem wF_X4_15 : (Jvm.Cond.fieldLink "PictureDesk$Lines" (15 : Nat) "PictureDesk$Lines" "cell" "I") ∈ tbl := tb_1 96 rfl rfl
theorem wF_X4_19 : (Jvm.Cond.fieldLink "PictureDesk$Lines" (19 : Nat) "PictureDesk$Lines" "most" "I") ∈ tbl := tb_1 97 rfl rfl
theorem wL_X9_44 : (Jvm.Cond.classLink "PictureDesk" (44 : Nat) "PictureDesk$Flights") ∈ tbl := tb_1 105 rfl rfl
theorem wB_X2 : (Jvm.Cond.instantiable "PictureDesk$Flights" (6 : Nat)) ∈ tbl := tb_1 106 rfl rfl
theorem wMN_X9_46 : (Jvm.Cond.methodLinkNest "PictureDesk" (46 : Nat) ({ cls := "PictureDesk$Flights", name := "<init>", desc := "()V" } : Jvm.MethodName) "PictureDesk") ∈ tbl := tb_1 107 rfl rfl
theorem wI_X2_init : (Jvm.Cond.instanceMethod ({ cls := "PictureDesk$Flights", name := "<init>", desc := "()V" } : Jvm.MethodName)) ∈ tbl := tb_1 108 rfl rfl
theorem wC_X2_init : (Jvm.Cond.code ({ cls := "PictureDesk$Flights", name := "<init>", desc := "()V" } : Jvm.MethodName) prog_4_method_1_code (1 : Nat) (Option.none : Option Jvm.ClassFile.FieldType)) ∈ tbl := tb_1 109 rfl rfl
theorem wM_X2_3 : (Jvm.Cond.methodLink "PictureDesk$Flights" (3 : Nat) ({ cls := "java/lang/Object", name := "<init>", desc := "()V" } : Jvm.MethodName)) ∈ tbl := tb_1 110 rfl rfl
theorem wF_X2_11 : (Jvm.Cond.fieldLink "PictureDesk$Flights" (11 : Nat) "PictureDesk$Flights" "from" "[I") ∈ tbl := tb_1 111 rfl rfl
theorem wF_X2_15 : (Jvm.Cond.fieldLink "PictureDesk$Flights" (15 : Nat) "PictureDesk$Flights" "to" "[I") ∈ tbl := tb_1 112 rfl rfl
theorem wF_X2_18 : (Jvm.Cond.fieldLink "PictureDesk$Flights" (18 : Nat) "PictureDesk$Flights" "weather" "[I") ∈ tbl := tb_1 113 rfl rfl
theorem wF_X2_21 : (Jvm.Cond.fieldLink "PictureDesk$Flights" (21 : Nat) "PictureDesk$Flights" "risk" "[I") ∈ tbl := tb_1 114 rfl rfl
theorem wF_X2_24 : (Jvm.Cond.fieldLink "PictureDesk$Flights" (24 : Nat) "PictureDesk$Flights" "missing" "[J") ∈ tbl := tb_1 115 rfl rfl
theorem wF_X2_28 : (Jvm.Cond.fieldLink "PictureDesk$Flights" (28 : Nat) "PictureDesk$Flights" "weights" "[J") ∈ tbl := tb_1 116 rfl rfl
theorem wA_Jvm_ClassFile_FieldType_long : (Jvm.Cond.arrayClass Jvm.ClassFile.FieldType.long) ∈ tbl := tb_1 130 rfl rfl
theorem wF_X9_10 : (Jvm.Cond.fieldLink "PictureDesk" (10 : Nat) "PictureDesk" "land" "LPictureDesk$Land;") ∈ tbl := tb_1 131 rfl rfl
theorem wF_X9_19 : (Jvm.Cond.fieldLink "PictureDesk" (19 : Nat) "PictureDesk" "album" "LPictureDesk$Album;") ∈ tbl := tb_1 132 rfl rfl
theorem wF_X9_26 : (Jvm.Cond.fieldLink "PictureDesk" (26 : Nat) "PictureDesk" "facts" "LPictureDesk$Facts;") ∈ tbl := tb_1 133 rfl rfl
theorem wF_X9_33 : (Jvm.Cond.fieldLink "PictureDesk" (33 : Nat) "PictureDesk" "uses" "LPictureDesk$Uses;") ∈ tbl := tb_1 134 rfl rfl
theorem wF_X9_40 : (Jvm.Cond.fieldLink "PictureDesk" (40 : Nat) "PictureDesk" "lines" "LPictureDesk$Lines;") ∈ tbl := tb_1 135 rfl rfl
theorem wF_X9_47 : (Jvm.Cond.fieldLink "PictureDesk" (47 : Nat) "PictureDesk" "flights" "LPictureDesk$Flights;") ∈ tbl := tb_1 136 rfl rfl
theorem wM_L_13 : (Jvm.Cond.methodLink "PictureDeskLaw" (13 : Nat) ({ cls := "PictureDesk", name := "thing", desc := "(IIIIIIII)I" } : Jvm.MethodName)) ∈ tbl := tb_1 150 rfl rfl
theorem wI_X9_thing : (Jvm.Cond.instanceMethod ({ cls := "PictureDesk", name := "thing", desc := "(IIIIIIII)I" } : Jvm.MethodName)) ∈ tbl := tb_1 151 rfl rfl
theorem wS_X9_thing : (Jvm.Cond.selects "PictureDesk" ({ cls := "PictureDesk", name := "thing", desc := "(IIIIIIII)I" } : Jvm.MethodName) ({ cls := "PictureDesk", name := "thing", desc := "(IIIIIIII)I" } : Jvm.MethodName)) ∈ tbl := tb_1 152 rfl rfl
theorem wC_X9_thing : (Jvm.Cond.code ({ cls := "PictureDesk", name := "thing", desc := "(IIIIIIII)I" } : Jvm.MethodName) prog_1_method_2_code (11 : Nat) (Option.some Jvm.ClassFile.FieldType.int)) ∈ tbl := tb_1 153 rfl rfl
theorem wM_X9_51 : (Jvm.Cond.methodLink "PictureDesk" (51 : Nat) ({ cls := "PictureDesk", name := "isOnLand", desc := "(II)Z" } : Jvm.MethodName)) ∈ tbl := tb_1 154 rfl rfl
theorem wT_X9_isOnLand : (Jvm.Cond.static ({ cls := "PictureDesk", name := "isOnLand", desc := "(II)Z" } : Jvm.MethodName)) ∈ tbl := tb_1 155 rfl rfl
theorem wC_X9_isOnLand : (Jvm.Cond.code ({ cls := "PictureDesk", name := "isOnLand", desc := "(II)Z" } : Jvm.MethodName) prog_1_method_32_code (2 : Nat) (Option.some Jvm.ClassFile.FieldType.boolean)) ∈ tbl := tb_1 156 rfl rfl
theorem wM_X9_55 : (Jvm.Cond.methodLink "PictureDesk" (55 : Nat) ({ cls := "PictureDesk", name := "isWithin", desc := "(III)Z" } : Jvm.MethodName)) ∈ tbl := tb_1 157 rfl rfl
theorem wT_X9_isWithin : (Jvm.Cond.static ({ cls := "PictureDesk", name := "isWithin", desc := "(III)Z" } : Jvm.MethodName)) ∈ tbl := tb_1 158 rfl rfl
theorem wC_X9_isWithin : (Jvm.Cond.code ({ cls := "PictureDesk", name := "isWithin", desc := "(III)Z" } : Jvm.MethodName) prog_1_method_31_code (3 : Nat) (Option.some Jvm.ClassFile.FieldType.boolean)) ∈ tbl := tb_1 159 rfl rfl
theorem wM_X9_59 : (Jvm.Cond.methodLink "PictureDesk" (59 : Nat) ({ cls := "PictureDesk", name := "isDay", desc := "(I)Z" } : Jvm.MethodName)) ∈ tbl := tb_1 160 rfl rfl
theorem wT_X9_isDay : (Jvm.Cond.static ({ cls := "PictureDesk", name := "isDay", desc := "(I)Z" } : Jvm.MethodName)) ∈ tbl := tb_1 161 rfl rfl
theorem wC_X9_isDay : (Jvm.Cond.code ({ cls := "PictureDesk", name := "isDay", desc := "(I)Z" } : Jvm.MethodName) prog_1_method_34_code (1 : Nat) (Option.some Jvm.ClassFile.FieldType.boolean)) ∈ tbl := tb_1 162 rfl rfl
theorem wM_X9_63 : (Jvm.Cond.methodLink "PictureDesk" (63 : Nat) ({ cls := "PictureDesk$Land", name := "isFull", desc := "()Z" } : Jvm.MethodName)) ∈ tbl := tb_1 163 rfl rfl
theorem wI_X3_isFull : (Jvm.Cond.instanceMethod ({ cls := "PictureDesk$Land", name := "isFull", desc := "()Z" } : Jvm.MethodName)) ∈ tbl := tb_1 164 rfl rfl
theorem wS_X3_isFull : (Jvm.Cond.selects "PictureDesk$Land" ({ cls := "PictureDesk$Land", name := "isFull", desc := "()Z" } : Jvm.MethodName) ({ cls := "PictureDesk$Land", name := "isFull", desc := "()Z" } : Jvm.MethodName)) ∈ tbl := tb_1 165 rfl rfl
theorem wC_X3_isFull : (Jvm.Cond.code ({ cls := "PictureDesk$Land", name := "isFull", desc := "()Z" } : Jvm.MethodName) prog_5_method_3_code (1 : Nat) (Option.some Jvm.ClassFile.FieldType.boolean)) ∈ tbl := tb_1 166 rfl rfl
theorem wM_X9_67 : (Jvm.Cond.methodLink "PictureDesk" (67 : Nat) ({ cls := "PictureDesk$Land", name := "add", desc := "([I)I" } : Jvm.MethodName)) ∈ tbl := tb_1 167 rfl rfl
theorem wI_X3_add : (Jvm.Cond.instanceMethod ({ cls := "PictureDesk$Land", name := "add", desc := "([I)I" } : Jvm.MethodName)) ∈ tbl := tb_1 168 rfl rfl
theorem wS_X3_add : (Jvm.Cond.selects "PictureDesk$Land" ({ cls := "PictureDesk$Land", name := "add", desc := "([I)I" } : Jvm.MethodName) ({ cls := "PictureDesk$Land", name := "add", desc := "([I)I" } : Jvm.MethodName)) ∈ tbl := tb_1 169 rfl rfl
theorem wC_X3_add : (Jvm.Cond.code ({ cls := "PictureDesk$Land", name := "add", desc := "([I)I" } : Jvm.MethodName) prog_5_method_4_code (2 : Nat) (Option.some Jvm.ClassFile.FieldType.int)) ∈ tbl := tb_1 170 rfl rfl
theorem wM_X3_21 : (Jvm.Cond.methodLink "PictureDesk$Land" (21 : Nat) ({ cls := "PictureDesk$Land", name := "isFull", desc := "()Z" } : Jvm.MethodName)) ∈ tbl := tb_1 171 rfl rfl
theorem wB_X6 : (Jvm.Cond.instantiable "PictureDesk$Thing" (3 : Nat)) ∈ tbl := tb_1 172 rfl rfl
theorem wM_X3_25 : (Jvm.Cond.methodLink "PictureDesk$Land" (25 : Nat) ({ cls := "PictureDesk$Thing", name := "<init>", desc := "(I[I)V" } : Jvm.MethodName)) ∈ tbl := tb_1 173 rfl rfl
theorem wI_X6_init : (Jvm.Cond.instanceMethod ({ cls := "PictureDesk$Thing", name := "<init>", desc := "(I[I)V" } : Jvm.MethodName)) ∈ tbl := tb_1 174 rfl rfl
theorem wC_X6_init : (Jvm.Cond.code ({ cls := "PictureDesk$Thing", name := "<init>", desc := "(I[I)V" } : Jvm.MethodName) prog_8_method_1_code (3 : Nat) (Option.none : Option Jvm.ClassFile.FieldType)) ∈ tbl := tb_1 175 rfl rfl
theorem wM_X6_3 : (Jvm.Cond.methodLink "PictureDesk$Thing" (3 : Nat) ({ cls := "java/lang/Object", name := "<init>", desc := "()V" } : Jvm.MethodName)) ∈ tbl := tb_1 176 rfl rfl
theorem wL_X6_9 : (Jvm.Cond.classLink "PictureDesk$Thing" (9 : Nat) "PictureDesk$Ticks") ∈ tbl := tb_1 177 rfl rfl
theorem wB_X7 : (Jvm.Cond.instantiable "PictureDesk$Ticks" (2 : Nat)) ∈ tbl := tb_1 178 rfl rfl
theorem wMN_X6_11 : (Jvm.Cond.methodLinkNest "PictureDesk$Thing" (11 : Nat) ({ cls := "PictureDesk$Ticks", name := "<init>", desc := "()V" } : Jvm.MethodName) "PictureDesk") ∈ tbl := tb_1 179 rfl rfl
theorem wI_X7_init : (Jvm.Cond.instanceMethod ({ cls := "PictureDesk$Ticks", name := "<init>", desc := "()V" } : Jvm.MethodName)) ∈ tbl := tb_1 180 rfl rfl
theorem wC_X7_init : (Jvm.Cond.code ({ cls := "PictureDesk$Ticks", name := "<init>", desc := "()V" } : Jvm.MethodName) prog_9_method_1_code (1 : Nat) (Option.none : Option Jvm.ClassFile.FieldType)) ∈ tbl := tb_1 181 rfl rfl
theorem wM_X7_1 : (Jvm.Cond.methodLink "PictureDesk$Ticks" (1 : Nat) ({ cls := "java/lang/Object", name := "<init>", desc := "()V" } : Jvm.MethodName)) ∈ tbl := tb_1 182 rfl rfl
theorem wF_X7_7 : (Jvm.Cond.fieldLink "PictureDesk$Ticks" (7 : Nat) "PictureDesk$Ticks" "low" "J") ∈ tbl := tb_1 183 rfl rfl
theorem wF_X7_13 : (Jvm.Cond.fieldLink "PictureDesk$Ticks" (13 : Nat) "PictureDesk$Ticks" "high" "J") ∈ tbl := tb_1 184 rfl rfl
theorem wF_X6_18 : (Jvm.Cond.fieldLink "PictureDesk$Thing" (18 : Nat) "PictureDesk$Thing" "number" "I") ∈ tbl := tb_1 190 rfl rfl
theorem wF_X6_22 : (Jvm.Cond.fieldLink "PictureDesk$Thing" (22 : Nat) "PictureDesk$Thing" "marks" "[I") ∈ tbl := tb_1 191 rfl rfl
theorem wF_X6_12 : (Jvm.Cond.fieldLink "PictureDesk$Thing" (12 : Nat) "PictureDesk$Thing" "doings" "LPictureDesk$Ticks;") ∈ tbl := tb_1 192 rfl rfl
theorem wM_X9_71 : (Jvm.Cond.methodLink "PictureDesk" (71 : Nat) ({ cls := "PictureDesk$Album", name := "develop", desc := "(LPictureDesk$Land;)V" } : Jvm.MethodName)) ∈ tbl := tb_1 200 rfl rfl
theorem wI_X0_develop : (Jvm.Cond.instanceMethod ({ cls := "PictureDesk$Album", name := "develop", desc := "(LPictureDesk$Land;)V" } : Jvm.MethodName)) ∈ tbl := tb_1 201 rfl rfl
theorem wS_X0_develop : (Jvm.Cond.selects "PictureDesk$Album" ({ cls := "PictureDesk$Album", name := "develop", desc := "(LPictureDesk$Land;)V" } : Jvm.MethodName) ({ cls := "PictureDesk$Album", name := "develop", desc := "(LPictureDesk$Land;)V" } : Jvm.MethodName)) ∈ tbl := tb_1 202 rfl rfl
theorem wC_X0_develop : (Jvm.Cond.code ({ cls := "PictureDesk$Album", name := "develop", desc := "(LPictureDesk$Land;)V" } : Jvm.MethodName) prog_2_method_7_code (4 : Nat) (Option.none : Option Jvm.ClassFile.FieldType)) ∈ tbl := tb_1 203 rfl rfl
theorem wM_X0_29 : (Jvm.Cond.methodLink "PictureDesk$Album" (29 : Nat) ({ cls := "PictureDesk$Album", name := "find", desc := "(I)LPictureDesk$Picture;" } : Jvm.MethodName)) ∈ tbl := tb_1 204 rfl rfl
theorem wI_X0_find : (Jvm.Cond.instanceMethod ({ cls := "PictureDesk$Album", name := "find", desc := "(I)LPictureDesk$Picture;" } : Jvm.MethodName)) ∈ tbl := tb_1 205 rfl rfl
theorem wS_X0_find : (Jvm.Cond.selects "PictureDesk$Album" ({ cls := "PictureDesk$Album", name := "find", desc := "(I)LPictureDesk$Picture;" } : Jvm.MethodName) ({ cls := "PictureDesk$Album", name := "find", desc := "(I)LPictureDesk$Picture;" } : Jvm.MethodName)) ∈ tbl := tb_1 206 rfl rfl
theorem wC_X0_find : (Jvm.Cond.code ({ cls := "PictureDesk$Album", name := "find", desc := "(I)LPictureDesk$Picture;" } : Jvm.MethodName) prog_2_method_5_code (2 : Nat) (Option.some (Jvm.ClassFile.FieldType.object "PictureDesk$Picture"))) ∈ tbl := tb_1 207 rfl rfl
theorem wMN_X0_25 : (Jvm.Cond.methodLinkNest "PictureDesk$Album" (25 : Nat) ({ cls := "PictureDesk", name := "isWithin", desc := "(III)Z" } : Jvm.MethodName) "PictureDesk") ∈ tbl := tb_1 208 rfl rfl
theorem wM_X0_37 : (Jvm.Cond.methodLink "PictureDesk$Album" (37 : Nat) ({ cls := "PictureDesk$Picture", name := "develop", desc := "(LPictureDesk$Land;)V" } : Jvm.MethodName)) ∈ tbl := tb_1 209 rfl rfl
theorem wI_X5_develop : (Jvm.Cond.instanceMethod ({ cls := "PictureDesk$Picture", name := "develop", desc := "(LPictureDesk$Land;)V" } : Jvm.MethodName)) ∈ tbl := tb_1 210 rfl rfl
theorem wS_X5_develop : (Jvm.Cond.selects "PictureDesk$Picture" ({ cls := "PictureDesk$Picture", name := "develop", desc := "(LPictureDesk$Land;)V" } : Jvm.MethodName) ({ cls := "PictureDesk$Picture", name := "develop", desc := "(LPictureDesk$Land;)V" } : Jvm.MethodName)) ∈ tbl := tb_1 211 rfl rfl
theorem wC_X5_develop : (Jvm.Cond.code ({ cls := "PictureDesk$Picture", name := "develop", desc := "(LPictureDesk$Land;)V" } : Jvm.MethodName) prog_7_method_2_code (4 : Nat) (Option.none : Option Jvm.ClassFile.FieldType)) ∈ tbl := tb_1 212 rfl rfl
theorem wM_X5_41 : (Jvm.Cond.methodLink "PictureDesk$Picture" (41 : Nat) ({ cls := "PictureDesk$Land", name := "fillCounting", desc := "([II)V" } : Jvm.MethodName)) ∈ tbl := tb_1 213 rfl rfl
theorem wI_X3_fillCounting : (Jvm.Cond.instanceMethod ({ cls := "PictureDesk$Land", name := "fillCounting", desc := "([II)V" } : Jvm.MethodName)) ∈ tbl := tb_1 214 rfl rfl
theorem wS_X3_fillCounting : (Jvm.Cond.selects "PictureDesk$Land" ({ cls := "PictureDesk$Land", name := "fillCounting", desc := "([II)V" } : Jvm.MethodName) ({ cls := "PictureDesk$Land", name := "fillCounting", desc := "([II)V" } : Jvm.MethodName)) ∈ tbl := tb_1 215 rfl rfl
theorem wC_X3_fillCounting : (Jvm.Cond.code ({ cls := "PictureDesk$Land", name := "fillCounting", desc := "([II)V" } : Jvm.MethodName) prog_5_method_7_code (5 : Nat) (Option.none : Option Jvm.ClassFile.FieldType)) ∈ tbl := tb_1 216 rfl rfl
theorem wM_X3_32 : (Jvm.Cond.methodLink "PictureDesk$Land" (32 : Nat) ({ cls := "PictureDesk$Land", name := "find", desc := "(I)LPictureDesk$Thing;" } : Jvm.MethodName)) ∈ tbl := tb_1 217 rfl rfl
theorem wI_X3_find : (Jvm.Cond.instanceMethod ({ cls := "PictureDesk$Land", name := "find", desc := "(I)LPictureDesk$Thing;" } : Jvm.MethodName)) ∈ tbl := tb_1 218 rfl rfl
theorem wS_X3_find : (Jvm.Cond.selects "PictureDesk$Land" ({ cls := "PictureDesk$Land", name := "find", desc := "(I)LPictureDesk$Thing;" } : Jvm.MethodName) ({ cls := "PictureDesk$Land", name := "find", desc := "(I)LPictureDesk$Thing;" } : Jvm.MethodName)) ∈ tbl := tb_1 219 rfl rfl
theorem wC_X3_find : (Jvm.Cond.code ({ cls := "PictureDesk$Land", name := "find", desc := "(I)LPictureDesk$Thing;" } : Jvm.MethodName) prog_5_method_5_code (2 : Nat) (Option.some (Jvm.ClassFile.FieldType.object "PictureDesk$Thing"))) ∈ tbl := tb_1 220 rfl rfl
theorem wMN_X3_28 : (Jvm.Cond.methodLinkNest "PictureDesk$Land" (28 : Nat) ({ cls := "PictureDesk", name := "isWithin", desc := "(III)Z" } : Jvm.MethodName) "PictureDesk") ∈ tbl := tb_1 221 rfl rfl
theorem wM_X3_36 : (Jvm.Cond.methodLink "PictureDesk$Land" (36 : Nat) ({ cls := "PictureDesk$Thing", name := "isThere", desc := "(I)Z" } : Jvm.MethodName)) ∈ tbl := tb_1 222 rfl rfl
theorem wI_X6_isThere : (Jvm.Cond.instanceMethod ({ cls := "PictureDesk$Thing", name := "isThere", desc := "(I)Z" } : Jvm.MethodName)) ∈ tbl := tb_1 223 rfl rfl
theorem wS_X6_isThere : (Jvm.Cond.selects "PictureDesk$Thing" ({ cls := "PictureDesk$Thing", name := "isThere", desc := "(I)Z" } : Jvm.MethodName) ({ cls := "PictureDesk$Thing", name := "isThere", desc := "(I)Z" } : Jvm.MethodName)) ∈ tbl := tb_1 224 rfl rfl
theorem wC_X6_isThere : (Jvm.Cond.code ({ cls := "PictureDesk$Thing", name := "isThere", desc := "(I)Z" } : Jvm.MethodName) prog_8_method_5_code (2 : Nat) (Option.some Jvm.ClassFile.FieldType.boolean)) ∈ tbl := tb_1 225 rfl rfl
theorem wM_X6_26 : (Jvm.Cond.methodLink "PictureDesk$Thing" (26 : Nat) ({ cls := "PictureDesk$Thing", name := "mark", desc := "(I)I" } : Jvm.MethodName)) ∈ tbl := tb_1 226 rfl rfl
theorem wI_X6_mark : (Jvm.Cond.instanceMethod ({ cls := "PictureDesk$Thing", name := "mark", desc := "(I)I" } : Jvm.MethodName)) ∈ tbl := tb_1 227 rfl rfl
theorem wS_X6_mark : (Jvm.Cond.selects "PictureDesk$Thing" ({ cls := "PictureDesk$Thing", name := "mark", desc := "(I)I" } : Jvm.MethodName) ({ cls := "PictureDesk$Thing", name := "mark", desc := "(I)I" } : Jvm.MethodName)) ∈ tbl := tb_1 228 rfl rfl
theorem wC_X6_mark : (Jvm.Cond.code ({ cls := "PictureDesk$Thing", name := "mark", desc := "(I)I" } : Jvm.MethodName) prog_8_method_3_code (2 : Nat) (Option.some Jvm.ClassFile.FieldType.int)) ∈ tbl := tb_1 229 rfl rfl
theorem wMN_X6_30 : (Jvm.Cond.methodLinkNest "PictureDesk$Thing" (30 : Nat) ({ cls := "PictureDesk", name := "isWithin", desc := "(III)Z" } : Jvm.MethodName) "PictureDesk") ∈ tbl := tb_1 230 rfl rfl
theorem wM_X3_52 : (Jvm.Cond.methodLink "PictureDesk$Land" (52 : Nat) ({ cls := "PictureDesk$Land", name := "lay", desc := "(LPictureDesk$Thing;[I)V" } : Jvm.MethodName)) ∈ tbl := tb_1 231 rfl rfl
theorem wI_X3_lay : (Jvm.Cond.instanceMethod ({ cls := "PictureDesk$Land", name := "lay", desc := "(LPictureDesk$Thing;[I)V" } : Jvm.MethodName)) ∈ tbl := tb_1 233 rfl rfl
theorem wC_X3_lay : (Jvm.Cond.code ({ cls := "PictureDesk$Land", name := "lay", desc := "(LPictureDesk$Thing;[I)V" } : Jvm.MethodName) prog_5_method_8_code (7 : Nat) (Option.none : Option Jvm.ClassFile.FieldType)) ∈ tbl := tb_1 234 rfl rfl
theorem wM_X3_56 : (Jvm.Cond.methodLink "PictureDesk$Land" (56 : Nat) ({ cls := "PictureDesk$Thing", name := "mark", desc := "(I)I" } : Jvm.MethodName)) ∈ tbl := tb_1 235 rfl rfl
theorem wMN_X3_60 : (Jvm.Cond.methodLinkNest "PictureDesk$Land" (60 : Nat) ({ cls := "PictureDesk", name := "cellOf", desc := "(II)I" } : Jvm.MethodName) "PictureDesk") ∈ tbl := tb_1 236 rfl rfl
theorem wT_X9_cellOf : (Jvm.Cond.static ({ cls := "PictureDesk", name := "cellOf", desc := "(II)I" } : Jvm.MethodName)) ∈ tbl := tb_1 237 rfl rfl
theorem wC_X9_cellOf : (Jvm.Cond.code ({ cls := "PictureDesk", name := "cellOf", desc := "(II)I" } : Jvm.MethodName) prog_1_method_37_code (2 : Nat) (Option.some Jvm.ClassFile.FieldType.int)) ∈ tbl := tb_1 238 rfl rfl
theorem wM_X3_44 : (Jvm.Cond.methodLink "PictureDesk$Land" (44 : Nat) ({ cls := "PictureDesk$Thing", name := "isAbove", desc := "(LPictureDesk$Thing;)Z" } : Jvm.MethodName)) ∈ tbl := tb_1 239 rfl rfl
theorem wI_X6_isAbove : (Jvm.Cond.instanceMethod ({ cls := "PictureDesk$Thing", name := "isAbove", desc := "(LPictureDesk$Thing;)Z" } : Jvm.MethodName)) ∈ tbl := tb_2 0 rfl rfl
theorem wS_X6_isAbove : (Jvm.Cond.selects "PictureDesk$Thing" ({ cls := "PictureDesk$Thing", name := "isAbove", desc := "(LPictureDesk$Thing;)Z" } : Jvm.MethodName) ({ cls := "PictureDesk$Thing", name := "isAbove", desc := "(LPictureDesk$Thing;)Z" } : Jvm.MethodName)) ∈ tbl := tb_2 1 rfl rfl
theorem wC_X6_isAbove : (Jvm.Cond.code ({ cls := "PictureDesk$Thing", name := "isAbove", desc := "(LPictureDesk$Thing;)Z" } : Jvm.MethodName) prog_8_method_7_code (2 : Nat) (Option.some Jvm.ClassFile.FieldType.boolean)) ∈ tbl := tb_2 2 rfl rfl
theorem wM_X3_48 : (Jvm.Cond.methodLink "PictureDesk$Land" (48 : Nat) ({ cls := "PictureDesk$Thing", name := "number", desc := "()I" } : Jvm.MethodName)) ∈ tbl := tb_2 3 rfl rfl
theorem wI_X6_number : (Jvm.Cond.instanceMethod ({ cls := "PictureDesk$Thing", name := "number", desc := "()I" } : Jvm.MethodName)) ∈ tbl := tb_2 4 rfl rfl
theorem wS_X6_number : (Jvm.Cond.selects "PictureDesk$Thing" ({ cls := "PictureDesk$Thing", name := "number", desc := "()I" } : Jvm.MethodName) ({ cls := "PictureDesk$Thing", name := "number", desc := "()I" } : Jvm.MethodName)) ∈ tbl := tb_2 5 rfl rfl
theorem wC_X6_number : (Jvm.Cond.code ({ cls := "PictureDesk$Thing", name := "number", desc := "()I" } : Jvm.MethodName) prog_8_method_2_code (1 : Nat) (Option.some Jvm.ClassFile.FieldType.int)) ∈ tbl := tb_2 6 rfl rfl
theorem wM_X5_47 : (Jvm.Cond.methodLink "PictureDesk$Picture" (47 : Nat) ({ cls := "PictureDesk$Land", name := "find", desc := "(I)LPictureDesk$Thing;" } : Jvm.MethodName)) ∈ tbl := tb_2 7 rfl rfl
theorem wM_X5_51 : (Jvm.Cond.methodLink "PictureDesk$Picture" (51 : Nat) ({ cls := "PictureDesk$Thing", name := "mark", desc := "(I)I" } : Jvm.MethodName)) ∈ tbl := tb_2 8 rfl rfl
theorem wM_X5_57 : (Jvm.Cond.methodLink "PictureDesk$Picture" (57 : Nat) ({ cls := "PictureDesk$Picture", name := "shadowOf", desc := "(I)I" } : Jvm.MethodName)) ∈ tbl := tb_2 9 rfl rfl
theorem wI_X5_shadowOf : (Jvm.Cond.instanceMethod ({ cls := "PictureDesk$Picture", name := "shadowOf", desc := "(I)I" } : Jvm.MethodName)) ∈ tbl := tb_2 11 rfl rfl
theorem wB_X5 : (Jvm.Cond.instantiable "PictureDesk$Picture" (8 : Nat)) ∈ tbl := tb_2 12 rfl rfl
theorem wC_X5_shadowOf : (Jvm.Cond.code ({ cls := "PictureDesk$Picture", name := "shadowOf", desc := "(I)I" } : Jvm.MethodName) prog_7_method_3_code (2 : Nat) (Option.some Jvm.ClassFile.FieldType.int)) ∈ tbl := tb_2 13 rfl rfl
theorem wM_X5_60 : (Jvm.Cond.methodLink "PictureDesk$Picture" (60 : Nat) ({ cls := "PictureDesk$Picture", name := "castShadow", desc := "(II)V" } : Jvm.MethodName)) ∈ tbl := tb_2 14 rfl rfl
theorem wI_X5_castShadow : (Jvm.Cond.instanceMethod ({ cls := "PictureDesk$Picture", name := "castShadow", desc := "(II)V" } : Jvm.MethodName)) ∈ tbl := tb_2 16 rfl rfl
theorem wC_X5_castShadow : (Jvm.Cond.code ({ cls := "PictureDesk$Picture", name := "castShadow", desc := "(II)V" } : Jvm.MethodName) prog_7_method_4_code (7 : Nat) (Option.none : Option Jvm.ClassFile.FieldType)) ∈ tbl := tb_2 17 rfl rfl
theorem wMN_X5_64 : (Jvm.Cond.methodLinkNest "PictureDesk$Picture" (64 : Nat) ({ cls := "PictureDesk", name := "isWithin", desc := "(III)Z" } : Jvm.MethodName) "PictureDesk") ∈ tbl := tb_2 18 rfl rfl
theorem wFN_X5_68 : (Jvm.Cond.fieldLinkNest "PictureDesk$Picture" (68 : Nat) "PictureDesk" "EAST_STEP" "[I" "PictureDesk") ∈ tbl := tb_2 19 rfl rfl
theorem wY_EAST_STEP : (Jvm.Cond.laysStatic "PictureDesk" "EAST_STEP" "[I") ∈ lw_tbl := List.mem_append_right _ (List.mem_append_right _ (List.mem_append_left _ (List.mem_of_getElem? (i := 20) rfl)))
theorem wFN_X5_71 : (Jvm.Cond.fieldLinkNest "PictureDesk$Picture" (71 : Nat) "PictureDesk" "SOUTH_STEP" "[I" "PictureDesk") ∈ tbl := tb_2 21 rfl rfl
theorem wY_SOUTH_STEP : (Jvm.Cond.laysStatic "PictureDesk" "SOUTH_STEP" "[I") ∈ lw_tbl := List.mem_append_right _ (List.mem_append_right _ (List.mem_append_left _ (List.mem_of_getElem? (i := 22) rfl)))
theorem wMN_X5_74 : (Jvm.Cond.methodLinkNest "PictureDesk$Picture" (74 : Nat) ({ cls := "PictureDesk", name := "isOnLand", desc := "(II)Z" } : Jvm.MethodName) "PictureDesk") ∈ tbl := tb_2 23 rfl rfl
theorem wMN_X5_78 : (Jvm.Cond.methodLinkNest "PictureDesk$Picture" (78 : Nat) ({ cls := "PictureDesk", name := "cellOf", desc := "(II)I" } : Jvm.MethodName) "PictureDesk") ∈ tbl := tb_2 24 rfl rfl
theorem wM_L_18 : (Jvm.Cond.methodLink "PictureDeskLaw" (18 : Nat) ({ cls := "PictureDesk", name := "of", desc := "(II)I" } : Jvm.MethodName)) ∈ tbl := tb_2 25 rfl rfl
theorem wI_X9_of : (Jvm.Cond.instanceMethod ({ cls := "PictureDesk", name := "of", desc := "(II)I" } : Jvm.MethodName)) ∈ tbl := tb_2 26 rfl rfl
theorem wS_X9_of : (Jvm.Cond.selects "PictureDesk" ({ cls := "PictureDesk", name := "of", desc := "(II)I" } : Jvm.MethodName) ({ cls := "PictureDesk", name := "of", desc := "(II)I" } : Jvm.MethodName)) ∈ tbl := tb_2 27 rfl rfl
theorem wC_X9_of : (Jvm.Cond.code ({ cls := "PictureDesk", name := "of", desc := "(II)I" } : Jvm.MethodName) prog_1_method_3_code (4 : Nat) (Option.some Jvm.ClassFile.FieldType.int)) ∈ tbl := tb_2 28 rfl rfl
theorem wM_X9_75 : (Jvm.Cond.methodLink "PictureDesk" (75 : Nat) ({ cls := "PictureDesk$Land", name := "find", desc := "(I)LPictureDesk$Thing;" } : Jvm.MethodName)) ∈ tbl := tb_2 29 rfl rfl
theorem wM_X9_79 : (Jvm.Cond.methodLink "PictureDesk" (79 : Nat) ({ cls := "PictureDesk$Thing", name := "mark", desc := "(I)I" } : Jvm.MethodName)) ∈ tbl := tb_2 30 rfl rfl
theorem wM_L_23 : (Jvm.Cond.methodLink "PictureDeskLaw" (23 : Nat) ({ cls := "PictureDesk", name := "set", desc := "(III)I" } : Jvm.MethodName)) ∈ tbl := tb_2 31 rfl rfl
theorem wI_X9_set : (Jvm.Cond.instanceMethod ({ cls := "PictureDesk", name := "set", desc := "(III)I" } : Jvm.MethodName)) ∈ tbl := tb_2 32 rfl rfl
theorem wS_X9_set : (Jvm.Cond.selects "PictureDesk" ({ cls := "PictureDesk", name := "set", desc := "(III)I" } : Jvm.MethodName) ({ cls := "PictureDesk", name := "set", desc := "(III)I" } : Jvm.MethodName)) ∈ tbl := tb_2 33 rfl rfl
theorem wC_X9_set : (Jvm.Cond.code ({ cls := "PictureDesk", name := "set", desc := "(III)I" } : Jvm.MethodName) prog_1_method_4_code (6 : Nat) (Option.some Jvm.ClassFile.FieldType.int)) ∈ tbl := tb_2 34 rfl rfl
theorem wM_X9_85 : (Jvm.Cond.methodLink "PictureDesk" (85 : Nat) ({ cls := "PictureDesk$Thing", name := "remark", desc := "(II)V" } : Jvm.MethodName)) ∈ tbl := tb_2 35 rfl rfl
theorem wI_X6_remark : (Jvm.Cond.instanceMethod ({ cls := "PictureDesk$Thing", name := "remark", desc := "(II)V" } : Jvm.MethodName)) ∈ tbl := tb_2 36 rfl rfl
theorem wS_X6_remark : (Jvm.Cond.selects "PictureDesk$Thing" ({ cls := "PictureDesk$Thing", name := "remark", desc := "(II)V" } : Jvm.MethodName) ({ cls := "PictureDesk$Thing", name := "remark", desc := "(II)V" } : Jvm.MethodName)) ∈ tbl := tb_2 37 rfl rfl
theorem wC_X6_remark : (Jvm.Cond.code ({ cls := "PictureDesk$Thing", name := "remark", desc := "(II)V" } : Jvm.MethodName) prog_8_method_4_code (3 : Nat) (Option.none : Option Jvm.ClassFile.FieldType)) ∈ tbl := tb_2 38 rfl rfl
theorem wM_L_28 : (Jvm.Cond.methodLink "PictureDeskLaw" (28 : Nat) ({ cls := "PictureDesk", name := "at", desc := "(II)I" } : Jvm.MethodName)) ∈ tbl := tb_2 39 rfl rfl
theorem wI_X9_at : (Jvm.Cond.instanceMethod ({ cls := "PictureDesk", name := "at", desc := "(II)I" } : Jvm.MethodName)) ∈ tbl := tb_2 40 rfl rfl
theorem wS_X9_at : (Jvm.Cond.selects "PictureDesk" ({ cls := "PictureDesk", name := "at", desc := "(II)I" } : Jvm.MethodName) ({ cls := "PictureDesk", name := "at", desc := "(II)I" } : Jvm.MethodName)) ∈ tbl := tb_2 41 rfl rfl
theorem wC_X9_at : (Jvm.Cond.code ({ cls := "PictureDesk", name := "at", desc := "(II)I" } : Jvm.MethodName) prog_1_method_5_code (3 : Nat) (Option.some Jvm.ClassFile.FieldType.int)) ∈ tbl := tb_2 42 rfl rfl
theorem wM_X9_89 : (Jvm.Cond.methodLink "PictureDesk" (89 : Nat) ({ cls := "PictureDesk", name := "isCell", desc := "(I)Z" } : Jvm.MethodName)) ∈ tbl := tb_2 43 rfl rfl
theorem wT_X9_isCell : (Jvm.Cond.static ({ cls := "PictureDesk", name := "isCell", desc := "(I)Z" } : Jvm.MethodName)) ∈ tbl := tb_2 44 rfl rfl
theorem wC_X9_isCell : (Jvm.Cond.code ({ cls := "PictureDesk", name := "isCell", desc := "(I)Z" } : Jvm.MethodName) prog_1_method_33_code (1 : Nat) (Option.some Jvm.ClassFile.FieldType.boolean)) ∈ tbl := tb_2 45 rfl rfl
theorem wM_X9_92 : (Jvm.Cond.methodLink "PictureDesk" (92 : Nat) ({ cls := "PictureDesk$Land", name := "counting", desc := "(II)I" } : Jvm.MethodName)) ∈ tbl := tb_2 46 rfl rfl
theorem wI_X3_counting : (Jvm.Cond.instanceMethod ({ cls := "PictureDesk$Land", name := "counting", desc := "(II)I" } : Jvm.MethodName)) ∈ tbl := tb_2 47 rfl rfl
theorem wS_X3_counting : (Jvm.Cond.selects "PictureDesk$Land" ({ cls := "PictureDesk$Land", name := "counting", desc := "(II)I" } : Jvm.MethodName) ({ cls := "PictureDesk$Land", name := "counting", desc := "(II)I" } : Jvm.MethodName)) ∈ tbl := tb_2 48 rfl rfl
theorem wC_X3_counting : (Jvm.Cond.code ({ cls := "PictureDesk$Land", name := "counting", desc := "(II)I" } : Jvm.MethodName) prog_5_method_6_code (6 : Nat) (Option.some Jvm.ClassFile.FieldType.int)) ∈ tbl := tb_2 49 rfl rfl
theorem wM_X3_40 : (Jvm.Cond.methodLink "PictureDesk$Land" (40 : Nat) ({ cls := "PictureDesk$Thing", name := "liesOn", desc := "(II)Z" } : Jvm.MethodName)) ∈ tbl := tb_2 50 rfl rfl
theorem wI_X6_liesOn : (Jvm.Cond.instanceMethod ({ cls := "PictureDesk$Thing", name := "liesOn", desc := "(II)Z" } : Jvm.MethodName)) ∈ tbl := tb_2 51 rfl rfl
theorem wS_X6_liesOn : (Jvm.Cond.selects "PictureDesk$Thing" ({ cls := "PictureDesk$Thing", name := "liesOn", desc := "(II)Z" } : Jvm.MethodName) ({ cls := "PictureDesk$Thing", name := "liesOn", desc := "(II)Z" } : Jvm.MethodName)) ∈ tbl := tb_2 52 rfl rfl
theorem wC_X6_liesOn : (Jvm.Cond.code ({ cls := "PictureDesk$Thing", name := "liesOn", desc := "(II)Z" } : Jvm.MethodName) prog_8_method_6_code (5 : Nat) (Option.some Jvm.ClassFile.FieldType.boolean)) ∈ tbl := tb_2 53 rfl rfl
theorem wM_L_32 : (Jvm.Cond.methodLink "PictureDeskLaw" (32 : Nat) ({ cls := "PictureDesk", name := "picture", desc := "(IIIII)I" } : Jvm.MethodName)) ∈ tbl := tb_2 54 rfl rfl
theorem wI_X9_picture : (Jvm.Cond.instanceMethod ({ cls := "PictureDesk", name := "picture", desc := "(IIIII)I" } : Jvm.MethodName)) ∈ tbl := tb_2 55 rfl rfl
theorem wS_X9_picture : (Jvm.Cond.selects "PictureDesk" ({ cls := "PictureDesk", name := "picture", desc := "(IIIII)I" } : Jvm.MethodName) ({ cls := "PictureDesk", name := "picture", desc := "(IIIII)I" } : Jvm.MethodName)) ∈ tbl := tb_2 56 rfl rfl
theorem wC_X9_picture : (Jvm.Cond.code ({ cls := "PictureDesk", name := "picture", desc := "(IIIII)I" } : Jvm.MethodName) prog_1_method_6_code (7 : Nat) (Option.some Jvm.ClassFile.FieldType.int)) ∈ tbl := tb_2 57 rfl rfl
theorem wM_X9_96 : (Jvm.Cond.methodLink "PictureDesk" (96 : Nat) ({ cls := "PictureDesk", name := "isStrip", desc := "(II)Z" } : Jvm.MethodName)) ∈ tbl := tb_2 58 rfl rfl
theorem wT_X9_isStrip : (Jvm.Cond.static ({ cls := "PictureDesk", name := "isStrip", desc := "(II)Z" } : Jvm.MethodName)) ∈ tbl := tb_2 59 rfl rfl
theorem wC_X9_isStrip : (Jvm.Cond.code ({ cls := "PictureDesk", name := "isStrip", desc := "(II)Z" } : Jvm.MethodName) prog_1_method_35_code (2 : Nat) (Option.some Jvm.ClassFile.FieldType.boolean)) ∈ tbl := tb_2 60 rfl rfl
theorem wM_X9_99 : (Jvm.Cond.methodLink "PictureDesk" (99 : Nat) ({ cls := "PictureDesk$Album", name := "isFull", desc := "()Z" } : Jvm.MethodName)) ∈ tbl := tb_2 61 rfl rfl
theorem wI_X0_isFull : (Jvm.Cond.instanceMethod ({ cls := "PictureDesk$Album", name := "isFull", desc := "()Z" } : Jvm.MethodName)) ∈ tbl := tb_2 62 rfl rfl
theorem wS_X0_isFull : (Jvm.Cond.selects "PictureDesk$Album" ({ cls := "PictureDesk$Album", name := "isFull", desc := "()Z" } : Jvm.MethodName) ({ cls := "PictureDesk$Album", name := "isFull", desc := "()Z" } : Jvm.MethodName)) ∈ tbl := tb_2 63 rfl rfl
theorem wC_X0_isFull : (Jvm.Cond.code ({ cls := "PictureDesk$Album", name := "isFull", desc := "()Z" } : Jvm.MethodName) prog_2_method_3_code (1 : Nat) (Option.some Jvm.ClassFile.FieldType.boolean)) ∈ tbl := tb_2 64 rfl rfl
theorem wL_X9_100 : (Jvm.Cond.classLink "PictureDesk" (100 : Nat) "PictureDesk$Picture") ∈ tbl := tb_2 65 rfl rfl
theorem wM_X9_102 : (Jvm.Cond.methodLink "PictureDesk" (102 : Nat) ({ cls := "PictureDesk$Picture", name := "<init>", desc := "(IIIII)V" } : Jvm.MethodName)) ∈ tbl := tb_2 66 rfl rfl
theorem wI_X5_init : (Jvm.Cond.instanceMethod ({ cls := "PictureDesk$Picture", name := "<init>", desc := "(IIIII)V" } : Jvm.MethodName)) ∈ tbl := tb_2 67 rfl rfl
theorem wC_X5_init : (Jvm.Cond.code ({ cls := "PictureDesk$Picture", name := "<init>", desc := "(IIIII)V" } : Jvm.MethodName) prog_7_method_1_code (6 : Nat) (Option.none : Option Jvm.ClassFile.FieldType)) ∈ tbl := tb_2 68 rfl rfl
theorem wM_X5_3 : (Jvm.Cond.methodLink "PictureDesk$Picture" (3 : Nat) ({ cls := "java/lang/Object", name := "<init>", desc := "()V" } : Jvm.MethodName)) ∈ tbl := tb_2 69 rfl rfl
theorem wL_X5_9 : (Jvm.Cond.classLink "PictureDesk$Picture" (9 : Nat) "PictureDesk$Ticks") ∈ tbl := tb_2 70 rfl rfl
theorem wMN_X5_11 : (Jvm.Cond.methodLinkNest "PictureDesk$Picture" (11 : Nat) ({ cls := "PictureDesk$Ticks", name := "<init>", desc := "()V" } : Jvm.MethodName) "PictureDesk") ∈ tbl := tb_2 71 rfl rfl
theorem wF_X5_25 : (Jvm.Cond.fieldLink "PictureDesk$Picture" (25 : Nat) "PictureDesk$Picture" "from" "I") ∈ tbl := tb_2 72 rfl rfl
theorem wF_X5_29 : (Jvm.Cond.fieldLink "PictureDesk$Picture" (29 : Nat) "PictureDesk$Picture" "to" "I") ∈ tbl := tb_2 73 rfl rfl
theorem wF_X5_32 : (Jvm.Cond.fieldLink "PictureDesk$Picture" (32 : Nat) "PictureDesk$Picture" "day" "I") ∈ tbl := tb_2 74 rfl rfl
theorem wF_X5_35 : (Jvm.Cond.fieldLink "PictureDesk$Picture" (35 : Nat) "PictureDesk$Picture" "sun" "I") ∈ tbl := tb_2 75 rfl rfl
theorem wF_X5_38 : (Jvm.Cond.fieldLink "PictureDesk$Picture" (38 : Nat) "PictureDesk$Picture" "slope" "I") ∈ tbl := tb_2 76 rfl rfl
theorem wF_X5_12 : (Jvm.Cond.fieldLink "PictureDesk$Picture" (12 : Nat) "PictureDesk$Picture" "clouds" "LPictureDesk$Ticks;") ∈ tbl := tb_2 77 rfl rfl
theorem wF_X5_18 : (Jvm.Cond.fieldLink "PictureDesk$Picture" (18 : Nat) "PictureDesk$Picture" "counting" "[I") ∈ tbl := tb_2 78 rfl rfl
theorem wF_X5_22 : (Jvm.Cond.fieldLink "PictureDesk$Picture" (22 : Nat) "PictureDesk$Picture" "looks" "[I") ∈ tbl := tb_2 79 rfl rfl
theorem wM_X9_105 : (Jvm.Cond.methodLink "PictureDesk" (105 : Nat) ({ cls := "PictureDesk$Picture", name := "develop", desc := "(LPictureDesk$Land;)V" } : Jvm.MethodName)) ∈ tbl := tb_2 97 rfl rfl
theorem wM_X9_106 : (Jvm.Cond.methodLink "PictureDesk" (106 : Nat) ({ cls := "PictureDesk$Album", name := "add", desc := "(LPictureDesk$Picture;)I" } : Jvm.MethodName)) ∈ tbl := tb_2 98 rfl rfl
theorem wI_X0_add : (Jvm.Cond.instanceMethod ({ cls := "PictureDesk$Album", name := "add", desc := "(LPictureDesk$Picture;)I" } : Jvm.MethodName)) ∈ tbl := tb_2 99 rfl rfl
theorem wS_X0_add : (Jvm.Cond.selects "PictureDesk$Album" ({ cls := "PictureDesk$Album", name := "add", desc := "(LPictureDesk$Picture;)I" } : Jvm.MethodName) ({ cls := "PictureDesk$Album", name := "add", desc := "(LPictureDesk$Picture;)I" } : Jvm.MethodName)) ∈ tbl := tb_2 100 rfl rfl
theorem wC_X0_add : (Jvm.Cond.code ({ cls := "PictureDesk$Album", name := "add", desc := "(LPictureDesk$Picture;)I" } : Jvm.MethodName) prog_2_method_4_code (2 : Nat) (Option.some Jvm.ClassFile.FieldType.int)) ∈ tbl := tb_2 101 rfl rfl
theorem wM_X0_21 : (Jvm.Cond.methodLink "PictureDesk$Album" (21 : Nat) ({ cls := "PictureDesk$Album", name := "isFull", desc := "()Z" } : Jvm.MethodName)) ∈ tbl := tb_2 102 rfl rfl
theorem wM_L_37 : (Jvm.Cond.methodLink "PictureDeskLaw" (37 : Nat) ({ cls := "PictureDesk", name := "cloud", desc := "(IIZ)I" } : Jvm.MethodName)) ∈ tbl := tb_2 103 rfl rfl
theorem wI_X9_cloud : (Jvm.Cond.instanceMethod ({ cls := "PictureDesk", name := "cloud", desc := "(IIZ)I" } : Jvm.MethodName)) ∈ tbl := tb_2 104 rfl rfl
theorem wS_X9_cloud : (Jvm.Cond.selects "PictureDesk" ({ cls := "PictureDesk", name := "cloud", desc := "(IIZ)I" } : Jvm.MethodName) ({ cls := "PictureDesk", name := "cloud", desc := "(IIZ)I" } : Jvm.MethodName)) ∈ tbl := tb_2 105 rfl rfl
theorem wC_X9_cloud : (Jvm.Cond.code ({ cls := "PictureDesk", name := "cloud", desc := "(IIZ)I" } : Jvm.MethodName) prog_1_method_7_code (5 : Nat) (Option.some Jvm.ClassFile.FieldType.int)) ∈ tbl := tb_2 106 rfl rfl
theorem wM_X9_109 : (Jvm.Cond.methodLink "PictureDesk" (109 : Nat) ({ cls := "PictureDesk$Album", name := "find", desc := "(I)LPictureDesk$Picture;" } : Jvm.MethodName)) ∈ tbl := tb_2 107 rfl rfl
theorem wM_X9_112 : (Jvm.Cond.methodLink "PictureDesk" (112 : Nat) ({ cls := "PictureDesk$Picture", name := "tickCloud", desc := "(IZ)Z" } : Jvm.MethodName)) ∈ tbl := tb_2 108 rfl rfl
theorem wI_X5_tickCloud : (Jvm.Cond.instanceMethod ({ cls := "PictureDesk$Picture", name := "tickCloud", desc := "(IZ)Z" } : Jvm.MethodName)) ∈ tbl := tb_2 109 rfl rfl
theorem wS_X5_tickCloud : (Jvm.Cond.selects "PictureDesk$Picture" ({ cls := "PictureDesk$Picture", name := "tickCloud", desc := "(IZ)Z" } : Jvm.MethodName) ({ cls := "PictureDesk$Picture", name := "tickCloud", desc := "(IZ)Z" } : Jvm.MethodName)) ∈ tbl := tb_2 110 rfl rfl
theorem wC_X5_tickCloud : (Jvm.Cond.code ({ cls := "PictureDesk$Picture", name := "tickCloud", desc := "(IZ)Z" } : Jvm.MethodName) prog_7_method_6_code (3 : Nat) (Option.some Jvm.ClassFile.FieldType.boolean)) ∈ tbl := tb_2 111 rfl rfl
theorem wM_X5_82 : (Jvm.Cond.methodLink "PictureDesk$Picture" (82 : Nat) ({ cls := "PictureDesk$Ticks", name := "put", desc := "(IZ)Z" } : Jvm.MethodName)) ∈ tbl := tb_2 112 rfl rfl
theorem wI_X7_put : (Jvm.Cond.instanceMethod ({ cls := "PictureDesk$Ticks", name := "put", desc := "(IZ)Z" } : Jvm.MethodName)) ∈ tbl := tb_2 113 rfl rfl
theorem wS_X7_put : (Jvm.Cond.selects "PictureDesk$Ticks" ({ cls := "PictureDesk$Ticks", name := "put", desc := "(IZ)Z" } : Jvm.MethodName) ({ cls := "PictureDesk$Ticks", name := "put", desc := "(IZ)Z" } : Jvm.MethodName)) ∈ tbl := tb_2 114 rfl rfl
theorem wC_X7_put : (Jvm.Cond.code ({ cls := "PictureDesk$Ticks", name := "put", desc := "(IZ)Z" } : Jvm.MethodName) prog_9_method_3_code (6 : Nat) (Option.some Jvm.ClassFile.FieldType.boolean)) ∈ tbl := tb_2 115 rfl rfl
theorem wM_X7_16 : (Jvm.Cond.methodLink "PictureDesk$Ticks" (16 : Nat) ({ cls := "PictureDesk$Ticks", name := "has", desc := "(I)Z" } : Jvm.MethodName)) ∈ tbl := tb_2 116 rfl rfl
theorem wI_X7_has : (Jvm.Cond.instanceMethod ({ cls := "PictureDesk$Ticks", name := "has", desc := "(I)Z" } : Jvm.MethodName)) ∈ tbl := tb_2 117 rfl rfl
theorem wS_X7_has : (Jvm.Cond.selects "PictureDesk$Ticks" ({ cls := "PictureDesk$Ticks", name := "has", desc := "(I)Z" } : Jvm.MethodName) ({ cls := "PictureDesk$Ticks", name := "has", desc := "(I)Z" } : Jvm.MethodName)) ∈ tbl := tb_2 118 rfl rfl
theorem wC_X7_has : (Jvm.Cond.code ({ cls := "PictureDesk$Ticks", name := "has", desc := "(I)Z" } : Jvm.MethodName) prog_9_method_2_code (4 : Nat) (Option.some Jvm.ClassFile.FieldType.boolean)) ∈ tbl := tb_2 119 rfl rfl
theorem wM_L_42 : (Jvm.Cond.methodLink "PictureDeskLaw" (42 : Nat) ({ cls := "PictureDesk", name := "shows", desc := "(II)I" } : Jvm.MethodName)) ∈ tbl := tb_2 120 rfl rfl
theorem wI_X9_shows : (Jvm.Cond.instanceMethod ({ cls := "PictureDesk", name := "shows", desc := "(II)I" } : Jvm.MethodName)) ∈ tbl := tb_2 121 rfl rfl
theorem wS_X9_shows : (Jvm.Cond.selects "PictureDesk" ({ cls := "PictureDesk", name := "shows", desc := "(II)I" } : Jvm.MethodName) ({ cls := "PictureDesk", name := "shows", desc := "(II)I" } : Jvm.MethodName)) ∈ tbl := tb_2 122 rfl rfl
theorem wC_X9_shows : (Jvm.Cond.code ({ cls := "PictureDesk", name := "shows", desc := "(II)I" } : Jvm.MethodName) prog_1_method_8_code (4 : Nat) (Option.some Jvm.ClassFile.FieldType.int)) ∈ tbl := tb_2 123 rfl rfl
theorem wM_X9_116 : (Jvm.Cond.methodLink "PictureDesk" (116 : Nat) ({ cls := "PictureDesk$Picture", name := "look", desc := "(I)I" } : Jvm.MethodName)) ∈ tbl := tb_2 124 rfl rfl
theorem wI_X5_look : (Jvm.Cond.instanceMethod ({ cls := "PictureDesk$Picture", name := "look", desc := "(I)I" } : Jvm.MethodName)) ∈ tbl := tb_2 125 rfl rfl
theorem wS_X5_look : (Jvm.Cond.selects "PictureDesk$Picture" ({ cls := "PictureDesk$Picture", name := "look", desc := "(I)I" } : Jvm.MethodName) ({ cls := "PictureDesk$Picture", name := "look", desc := "(I)I" } : Jvm.MethodName)) ∈ tbl := tb_2 126 rfl rfl
theorem wC_X5_look : (Jvm.Cond.code ({ cls := "PictureDesk$Picture", name := "look", desc := "(I)I" } : Jvm.MethodName) prog_7_method_8_code (2 : Nat) (Option.some Jvm.ClassFile.FieldType.int)) ∈ tbl := tb_2 127 rfl rfl
theorem wM_X5_93 : (Jvm.Cond.methodLink "PictureDesk$Picture" (93 : Nat) ({ cls := "PictureDesk$Picture", name := "covers", desc := "(I)Z" } : Jvm.MethodName)) ∈ tbl := tb_2 128 rfl rfl
theorem wI_X5_covers : (Jvm.Cond.instanceMethod ({ cls := "PictureDesk$Picture", name := "covers", desc := "(I)Z" } : Jvm.MethodName)) ∈ tbl := tb_2 129 rfl rfl
theorem wS_X5_covers : (Jvm.Cond.selects "PictureDesk$Picture" ({ cls := "PictureDesk$Picture", name := "covers", desc := "(I)Z" } : Jvm.MethodName) ({ cls := "PictureDesk$Picture", name := "covers", desc := "(I)Z" } : Jvm.MethodName)) ∈ tbl := tb_2 130 rfl rfl
theorem wC_X5_covers : (Jvm.Cond.code ({ cls := "PictureDesk$Picture", name := "covers", desc := "(I)Z" } : Jvm.MethodName) prog_7_method_7_code (2 : Nat) (Option.some Jvm.ClassFile.FieldType.boolean)) ∈ tbl := tb_2 131 rfl rfl
theorem wMN_X5_86 : (Jvm.Cond.methodLinkNest "PictureDesk$Picture" (86 : Nat) ({ cls := "PictureDesk", name := "isCell", desc := "(I)Z" } : Jvm.MethodName) "PictureDesk") ∈ tbl := tb_2 132 rfl rfl
theorem wM_X5_90 : (Jvm.Cond.methodLink "PictureDesk$Picture" (90 : Nat) ({ cls := "PictureDesk$Ticks", name := "has", desc := "(I)Z" } : Jvm.MethodName)) ∈ tbl := tb_2 133 rfl rfl
theorem wM_L_46 : (Jvm.Cond.methodLink "PictureDeskLaw" (46 : Nat) ({ cls := "PictureDesk", name := "count", desc := "(II)I" } : Jvm.MethodName)) ∈ tbl := tb_2 134 rfl rfl
theorem wI_X9_count : (Jvm.Cond.instanceMethod ({ cls := "PictureDesk", name := "count", desc := "(II)I" } : Jvm.MethodName)) ∈ tbl := tb_2 135 rfl rfl
theorem wS_X9_count : (Jvm.Cond.selects "PictureDesk" ({ cls := "PictureDesk", name := "count", desc := "(II)I" } : Jvm.MethodName) ({ cls := "PictureDesk", name := "count", desc := "(II)I" } : Jvm.MethodName)) ∈ tbl := tb_2 136 rfl rfl
theorem wC_X9_count : (Jvm.Cond.code ({ cls := "PictureDesk", name := "count", desc := "(II)I" } : Jvm.MethodName) prog_1_method_9_code (4 : Nat) (Option.some Jvm.ClassFile.FieldType.int)) ∈ tbl := tb_2 137 rfl rfl
theorem wM_X9_119 : (Jvm.Cond.methodLink "PictureDesk" (119 : Nat) ({ cls := "PictureDesk$Picture", name := "tally", desc := "(I)I" } : Jvm.MethodName)) ∈ tbl := tb_2 138 rfl rfl
theorem wI_X5_tally : (Jvm.Cond.instanceMethod ({ cls := "PictureDesk$Picture", name := "tally", desc := "(I)I" } : Jvm.MethodName)) ∈ tbl := tb_2 139 rfl rfl
theorem wS_X5_tally : (Jvm.Cond.selects "PictureDesk$Picture" ({ cls := "PictureDesk$Picture", name := "tally", desc := "(I)I" } : Jvm.MethodName) ({ cls := "PictureDesk$Picture", name := "tally", desc := "(I)I" } : Jvm.MethodName)) ∈ tbl := tb_2 140 rfl rfl
theorem wC_X5_tally : (Jvm.Cond.code ({ cls := "PictureDesk$Picture", name := "tally", desc := "(I)I" } : Jvm.MethodName) prog_7_method_10_code (4 : Nat) (Option.some Jvm.ClassFile.FieldType.int)) ∈ tbl := tb_2 141 rfl rfl
theorem wM_X5_96 : (Jvm.Cond.methodLink "PictureDesk$Picture" (96 : Nat) ({ cls := "PictureDesk$Picture", name := "look", desc := "(I)I" } : Jvm.MethodName)) ∈ tbl := tb_2 142 rfl rfl
theorem wM_X5_99 : (Jvm.Cond.methodLink "PictureDesk$Picture" (99 : Nat) ({ cls := "PictureDesk$Picture", name := "sortOf", desc := "(I)I" } : Jvm.MethodName)) ∈ tbl := tb_2 143 rfl rfl
theorem wT_X5_sortOf : (Jvm.Cond.static ({ cls := "PictureDesk$Picture", name := "sortOf", desc := "(I)I" } : Jvm.MethodName)) ∈ tbl := tb_2 144 rfl rfl
theorem wC_X5_sortOf : (Jvm.Cond.code ({ cls := "PictureDesk$Picture", name := "sortOf", desc := "(I)I" } : Jvm.MethodName) prog_7_method_11_code (1 : Nat) (Option.some Jvm.ClassFile.FieldType.int)) ∈ tbl := tb_2 145 rfl rfl
theorem wM_L_50 : (Jvm.Cond.methodLink "PictureDeskLaw" (50 : Nat) ({ cls := "PictureDesk", name := "span", desc := "(III)I" } : Jvm.MethodName)) ∈ tbl := tb_2 146 rfl rfl
theorem wI_X9_span : (Jvm.Cond.instanceMethod ({ cls := "PictureDesk", name := "span", desc := "(III)I" } : Jvm.MethodName)) ∈ tbl := tb_2 147 rfl rfl
theorem wS_X9_span : (Jvm.Cond.selects "PictureDesk" ({ cls := "PictureDesk", name := "span", desc := "(III)I" } : Jvm.MethodName) ({ cls := "PictureDesk", name := "span", desc := "(III)I" } : Jvm.MethodName)) ∈ tbl := tb_2 148 rfl rfl
theorem wC_X9_span : (Jvm.Cond.code ({ cls := "PictureDesk", name := "span", desc := "(III)I" } : Jvm.MethodName) prog_1_method_10_code (5 : Nat) (Option.some Jvm.ClassFile.FieldType.int)) ∈ tbl := tb_2 149 rfl rfl
theorem wM_X9_122 : (Jvm.Cond.methodLink "PictureDesk" (122 : Nat) ({ cls := "PictureDesk$Picture", name := "leastHeight", desc := "(I)I" } : Jvm.MethodName)) ∈ tbl := tb_2 150 rfl rfl
theorem wI_X5_leastHeight : (Jvm.Cond.instanceMethod ({ cls := "PictureDesk$Picture", name := "leastHeight", desc := "(I)I" } : Jvm.MethodName)) ∈ tbl := tb_2 151 rfl rfl
theorem wS_X5_leastHeight : (Jvm.Cond.selects "PictureDesk$Picture" ({ cls := "PictureDesk$Picture", name := "leastHeight", desc := "(I)I" } : Jvm.MethodName) ({ cls := "PictureDesk$Picture", name := "leastHeight", desc := "(I)I" } : Jvm.MethodName)) ∈ tbl := tb_2 152 rfl rfl
theorem wC_X5_leastHeight : (Jvm.Cond.code ({ cls := "PictureDesk$Picture", name := "leastHeight", desc := "(I)I" } : Jvm.MethodName) prog_7_method_12_code (3 : Nat) (Option.some Jvm.ClassFile.FieldType.int)) ∈ tbl := tb_2 153 rfl rfl
theorem wM_X9_125 : (Jvm.Cond.methodLink "PictureDesk" (125 : Nat) ({ cls := "PictureDesk$Picture", name := "greatestHeight", desc := "(I)I" } : Jvm.MethodName)) ∈ tbl := tb_2 154 rfl rfl
theorem wI_X5_greatestHeight : (Jvm.Cond.instanceMethod ({ cls := "PictureDesk$Picture", name := "greatestHeight", desc := "(I)I" } : Jvm.MethodName)) ∈ tbl := tb_2 155 rfl rfl
theorem wS_X5_greatestHeight : (Jvm.Cond.selects "PictureDesk$Picture" ({ cls := "PictureDesk$Picture", name := "greatestHeight", desc := "(I)I" } : Jvm.MethodName) ({ cls := "PictureDesk$Picture", name := "greatestHeight", desc := "(I)I" } : Jvm.MethodName)) ∈ tbl := tb_2 156 rfl rfl
theorem wC_X5_greatestHeight : (Jvm.Cond.code ({ cls := "PictureDesk$Picture", name := "greatestHeight", desc := "(I)I" } : Jvm.MethodName) prog_7_method_13_code (3 : Nat) (Option.some Jvm.ClassFile.FieldType.int)) ∈ tbl := tb_2 157 rfl rfl
theorem wM_L_54 : (Jvm.Cond.methodLink "PictureDeskLaw" (54 : Nat) ({ cls := "PictureDesk", name := "changed", desc := "(III)I" } : Jvm.MethodName)) ∈ tbl := tb_2 158 rfl rfl
theorem wI_X9_changed : (Jvm.Cond.instanceMethod ({ cls := "PictureDesk", name := "changed", desc := "(III)I" } : Jvm.MethodName)) ∈ tbl := tb_2 159 rfl rfl
theorem wS_X9_changed : (Jvm.Cond.selects "PictureDesk" ({ cls := "PictureDesk", name := "changed", desc := "(III)I" } : Jvm.MethodName) ({ cls := "PictureDesk", name := "changed", desc := "(III)I" } : Jvm.MethodName)) ∈ tbl := tb_2 160 rfl rfl
theorem wC_X9_changed : (Jvm.Cond.code ({ cls := "PictureDesk", name := "changed", desc := "(III)I" } : Jvm.MethodName) prog_1_method_11_code (6 : Nat) (Option.some Jvm.ClassFile.FieldType.int)) ∈ tbl := tb_2 161 rfl rfl
theorem wM_X9_128 : (Jvm.Cond.methodLink "PictureDesk" (128 : Nat) ({ cls := "PictureDesk$Picture", name := "firstUnlike", desc := "(LPictureDesk$Picture;)I" } : Jvm.MethodName)) ∈ tbl := tb_2 162 rfl rfl
theorem wI_X5_firstUnlike : (Jvm.Cond.instanceMethod ({ cls := "PictureDesk$Picture", name := "firstUnlike", desc := "(LPictureDesk$Picture;)I" } : Jvm.MethodName)) ∈ tbl := tb_2 163 rfl rfl
theorem wS_X5_firstUnlike : (Jvm.Cond.selects "PictureDesk$Picture" ({ cls := "PictureDesk$Picture", name := "firstUnlike", desc := "(LPictureDesk$Picture;)I" } : Jvm.MethodName) ({ cls := "PictureDesk$Picture", name := "firstUnlike", desc := "(LPictureDesk$Picture;)I" } : Jvm.MethodName)) ∈ tbl := tb_2 164 rfl rfl
theorem wC_X5_firstUnlike : (Jvm.Cond.code ({ cls := "PictureDesk$Picture", name := "firstUnlike", desc := "(LPictureDesk$Picture;)I" } : Jvm.MethodName) prog_7_method_17_code (3 : Nat) (Option.some Jvm.ClassFile.FieldType.int)) ∈ tbl := tb_2 165 rfl rfl
theorem wM_X5_102 : (Jvm.Cond.methodLink "PictureDesk$Picture" (102 : Nat) ({ cls := "PictureDesk$Picture", name := "isUnlike", desc := "(LPictureDesk$Picture;I)Z" } : Jvm.MethodName)) ∈ tbl := tb_2 166 rfl rfl
theorem wI_X5_isUnlike : (Jvm.Cond.instanceMethod ({ cls := "PictureDesk$Picture", name := "isUnlike", desc := "(LPictureDesk$Picture;I)Z" } : Jvm.MethodName)) ∈ tbl := tb_2 168 rfl rfl
theorem wC_X5_isUnlike : (Jvm.Cond.code ({ cls := "PictureDesk$Picture", name := "isUnlike", desc := "(LPictureDesk$Picture;I)Z" } : Jvm.MethodName) prog_7_method_14_code (3 : Nat) (Option.some Jvm.ClassFile.FieldType.boolean)) ∈ tbl := tb_2 169 rfl rfl
theorem wM_X9_131 : (Jvm.Cond.methodLink "PictureDesk" (131 : Nat) ({ cls := "PictureDesk$Picture", name := "unlike", desc := "(LPictureDesk$Picture;)I" } : Jvm.MethodName)) ∈ tbl := tb_2 170 rfl rfl
theorem wI_X5_unlike : (Jvm.Cond.instanceMethod ({ cls := "PictureDesk$Picture", name := "unlike", desc := "(LPictureDesk$Picture;)I" } : Jvm.MethodName)) ∈ tbl := tb_2 171 rfl rfl
theorem wS_X5_unlike : (Jvm.Cond.selects "PictureDesk$Picture" ({ cls := "PictureDesk$Picture", name := "unlike", desc := "(LPictureDesk$Picture;)I" } : Jvm.MethodName) ({ cls := "PictureDesk$Picture", name := "unlike", desc := "(LPictureDesk$Picture;)I" } : Jvm.MethodName)) ∈ tbl := tb_2 172 rfl rfl
theorem wC_X5_unlike : (Jvm.Cond.code ({ cls := "PictureDesk$Picture", name := "unlike", desc := "(LPictureDesk$Picture;)I" } : Jvm.MethodName) prog_7_method_15_code (4 : Nat) (Option.some Jvm.ClassFile.FieldType.int)) ∈ tbl := tb_2 173 rfl rfl
theorem wM_X9_134 : (Jvm.Cond.methodLink "PictureDesk" (134 : Nat) ({ cls := "PictureDesk$Picture", name := "unlikeByHour", desc := "(LPictureDesk$Picture;)I" } : Jvm.MethodName)) ∈ tbl := tb_2 174 rfl rfl
theorem wI_X5_unlikeByHour : (Jvm.Cond.instanceMethod ({ cls := "PictureDesk$Picture", name := "unlikeByHour", desc := "(LPictureDesk$Picture;)I" } : Jvm.MethodName)) ∈ tbl := tb_2 175 rfl rfl
theorem wS_X5_unlikeByHour : (Jvm.Cond.selects "PictureDesk$Picture" ({ cls := "PictureDesk$Picture", name := "unlikeByHour", desc := "(LPictureDesk$Picture;)I" } : Jvm.MethodName) ({ cls := "PictureDesk$Picture", name := "unlikeByHour", desc := "(LPictureDesk$Picture;)I" } : Jvm.MethodName)) ∈ tbl := tb_2 176 rfl rfl
theorem wC_X5_unlikeByHour : (Jvm.Cond.code ({ cls := "PictureDesk$Picture", name := "unlikeByHour", desc := "(LPictureDesk$Picture;)I" } : Jvm.MethodName) prog_7_method_16_code (5 : Nat) (Option.some Jvm.ClassFile.FieldType.int)) ∈ tbl := tb_2 177 rfl rfl
theorem wM_L_58 : (Jvm.Cond.methodLink "PictureDeskLaw" (58 : Nat) ({ cls := "PictureDesk", name := "say", desc := "(I)I" } : Jvm.MethodName)) ∈ tbl := tb_2 178 rfl rfl
theorem wI_X9_say : (Jvm.Cond.instanceMethod ({ cls := "PictureDesk", name := "say", desc := "(I)I" } : Jvm.MethodName)) ∈ tbl := tb_2 179 rfl rfl
theorem wS_X9_say : (Jvm.Cond.selects "PictureDesk" ({ cls := "PictureDesk", name := "say", desc := "(I)I" } : Jvm.MethodName) ({ cls := "PictureDesk", name := "say", desc := "(I)I" } : Jvm.MethodName)) ∈ tbl := tb_2 180 rfl rfl
theorem wC_X9_say : (Jvm.Cond.code ({ cls := "PictureDesk", name := "say", desc := "(I)I" } : Jvm.MethodName) prog_1_method_12_code (2 : Nat) (Option.some Jvm.ClassFile.FieldType.int)) ∈ tbl := tb_2 181 rfl rfl
theorem wM_X9_137 : (Jvm.Cond.methodLink "PictureDesk" (137 : Nat) ({ cls := "PictureDesk$Uses", name := "append", desc := "(I)I" } : Jvm.MethodName)) ∈ tbl := tb_2 182 rfl rfl
theorem wI_X8_append : (Jvm.Cond.instanceMethod ({ cls := "PictureDesk$Uses", name := "append", desc := "(I)I" } : Jvm.MethodName)) ∈ tbl := tb_2 183 rfl rfl
theorem wS_X8_append : (Jvm.Cond.selects "PictureDesk$Uses" ({ cls := "PictureDesk$Uses", name := "append", desc := "(I)I" } : Jvm.MethodName) ({ cls := "PictureDesk$Uses", name := "append", desc := "(I)I" } : Jvm.MethodName)) ∈ tbl := tb_2 184 rfl rfl
theorem wC_X8_append : (Jvm.Cond.code ({ cls := "PictureDesk$Uses", name := "append", desc := "(I)I" } : Jvm.MethodName) prog_10_method_3_code (2 : Nat) (Option.some Jvm.ClassFile.FieldType.int)) ∈ tbl := tb_2 185 rfl rfl
theorem wM_L_63 : (Jvm.Cond.methodLink "PictureDeskLaw" (63 : Nat) ({ cls := "PictureDesk", name := "wipe", desc := "()I" } : Jvm.MethodName)) ∈ tbl := tb_2 186 rfl rfl
theorem wI_X9_wipe : (Jvm.Cond.instanceMethod ({ cls := "PictureDesk", name := "wipe", desc := "()I" } : Jvm.MethodName)) ∈ tbl := tb_2 187 rfl rfl
theorem wS_X9_wipe : (Jvm.Cond.selects "PictureDesk" ({ cls := "PictureDesk", name := "wipe", desc := "()I" } : Jvm.MethodName) ({ cls := "PictureDesk", name := "wipe", desc := "()I" } : Jvm.MethodName)) ∈ tbl := tb_2 188 rfl rfl
theorem wC_X9_wipe : (Jvm.Cond.code ({ cls := "PictureDesk", name := "wipe", desc := "()I" } : Jvm.MethodName) prog_1_method_13_code (1 : Nat) (Option.some Jvm.ClassFile.FieldType.int)) ∈ tbl := tb_2 189 rfl rfl
theorem wM_X9_140 : (Jvm.Cond.methodLink "PictureDesk" (140 : Nat) ({ cls := "PictureDesk$Uses", name := "clear", desc := "()I" } : Jvm.MethodName)) ∈ tbl := tb_2 190 rfl rfl
theorem wI_X8_clear : (Jvm.Cond.instanceMethod ({ cls := "PictureDesk$Uses", name := "clear", desc := "()I" } : Jvm.MethodName)) ∈ tbl := tb_2 191 rfl rfl
theorem wS_X8_clear : (Jvm.Cond.selects "PictureDesk$Uses" ({ cls := "PictureDesk$Uses", name := "clear", desc := "()I" } : Jvm.MethodName) ({ cls := "PictureDesk$Uses", name := "clear", desc := "()I" } : Jvm.MethodName)) ∈ tbl := tb_2 192 rfl rfl
theorem wC_X8_clear : (Jvm.Cond.code ({ cls := "PictureDesk$Uses", name := "clear", desc := "()I" } : Jvm.MethodName) prog_10_method_4_code (2 : Nat) (Option.some Jvm.ClassFile.FieldType.int)) ∈ tbl := tb_2 193 rfl rfl
theorem wM_L_68 : (Jvm.Cond.methodLink "PictureDeskLaw" (68 : Nat) ({ cls := "PictureDesk", name := "fault", desc := "()I" } : Jvm.MethodName)) ∈ tbl := tb_2 194 rfl rfl
theorem wI_X9_fault : (Jvm.Cond.instanceMethod ({ cls := "PictureDesk", name := "fault", desc := "()I" } : Jvm.MethodName)) ∈ tbl := tb_2 195 rfl rfl
theorem wS_X9_fault : (Jvm.Cond.selects "PictureDesk" ({ cls := "PictureDesk", name := "fault", desc := "()I" } : Jvm.MethodName) ({ cls := "PictureDesk", name := "fault", desc := "()I" } : Jvm.MethodName)) ∈ tbl := tb_2 196 rfl rfl
theorem wC_X9_fault : (Jvm.Cond.code ({ cls := "PictureDesk", name := "fault", desc := "()I" } : Jvm.MethodName) prog_1_method_14_code (1 : Nat) (Option.some Jvm.ClassFile.FieldType.int)) ∈ tbl := tb_2 197 rfl rfl
theorem wM_X9_144 : (Jvm.Cond.methodLink "PictureDesk" (144 : Nat) ({ cls := "PictureDesk$Uses", name := "firstFault", desc := "()I" } : Jvm.MethodName)) ∈ tbl := tb_2 198 rfl rfl
theorem wI_X8_firstFault : (Jvm.Cond.instanceMethod ({ cls := "PictureDesk$Uses", name := "firstFault", desc := "()I" } : Jvm.MethodName)) ∈ tbl := tb_2 199 rfl rfl
theorem wS_X8_firstFault : (Jvm.Cond.selects "PictureDesk$Uses" ({ cls := "PictureDesk$Uses", name := "firstFault", desc := "()I" } : Jvm.MethodName) ({ cls := "PictureDesk$Uses", name := "firstFault", desc := "()I" } : Jvm.MethodName)) ∈ tbl := tb_2 200 rfl rfl
theorem wC_X8_firstFault : (Jvm.Cond.code ({ cls := "PictureDesk$Uses", name := "firstFault", desc := "()I" } : Jvm.MethodName) prog_10_method_5_code (3 : Nat) (Option.some Jvm.ClassFile.FieldType.int)) ∈ tbl := tb_2 201 rfl rfl
theorem wM_X8_27 : (Jvm.Cond.methodLink "PictureDesk$Uses" (27 : Nat) ({ cls := "PictureDesk$Uses", name := "behind", desc := "(II)I" } : Jvm.MethodName)) ∈ tbl := tb_2 202 rfl rfl
theorem wT_X8_behind : (Jvm.Cond.static ({ cls := "PictureDesk$Uses", name := "behind", desc := "(II)I" } : Jvm.MethodName)) ∈ tbl := tb_2 203 rfl rfl
theorem wC_X8_behind : (Jvm.Cond.code ({ cls := "PictureDesk$Uses", name := "behind", desc := "(II)I" } : Jvm.MethodName) prog_10_method_6_code (2 : Nat) (Option.some Jvm.ClassFile.FieldType.int)) ∈ tbl := tb_2 204 rfl rfl
theorem wM_X8_31 : (Jvm.Cond.methodLink "PictureDesk$Uses" (31 : Nat) ({ cls := "PictureDesk$Uses", name := "behindFact", desc := "(I)I" } : Jvm.MethodName)) ∈ tbl := tb_2 205 rfl rfl
theorem wT_X8_behindFact : (Jvm.Cond.static ({ cls := "PictureDesk$Uses", name := "behindFact", desc := "(I)I" } : Jvm.MethodName)) ∈ tbl := tb_2 206 rfl rfl
theorem wC_X8_behindFact : (Jvm.Cond.code ({ cls := "PictureDesk$Uses", name := "behindFact", desc := "(I)I" } : Jvm.MethodName) prog_10_method_7_code (1 : Nat) (Option.some Jvm.ClassFile.FieldType.int)) ∈ tbl := tb_2 207 rfl rfl
theorem wMN_X8_35 : (Jvm.Cond.methodLinkNest "PictureDesk$Uses" (35 : Nat) ({ cls := "PictureDesk", name := "isWithin", desc := "(III)Z" } : Jvm.MethodName) "PictureDesk") ∈ tbl := tb_2 208 rfl rfl
theorem wM_X8_39 : (Jvm.Cond.methodLink "PictureDesk$Uses" (39 : Nat) ({ cls := "PictureDesk$Uses", name := "isDigit", desc := "(I)Z" } : Jvm.MethodName)) ∈ tbl := tb_2 209 rfl rfl
theorem wT_X8_isDigit : (Jvm.Cond.static ({ cls := "PictureDesk$Uses", name := "isDigit", desc := "(I)Z" } : Jvm.MethodName)) ∈ tbl := tb_2 210 rfl rfl
theorem wC_X8_isDigit : (Jvm.Cond.code ({ cls := "PictureDesk$Uses", name := "isDigit", desc := "(I)Z" } : Jvm.MethodName) prog_10_method_9_code (1 : Nat) (Option.some Jvm.ClassFile.FieldType.boolean)) ∈ tbl := tb_2 211 rfl rfl
theorem wM_X8_43 : (Jvm.Cond.methodLink "PictureDesk$Uses" (43 : Nat) ({ cls := "PictureDesk$Uses", name := "behindJoint", desc := "(I)I" } : Jvm.MethodName)) ∈ tbl := tb_2 212 rfl rfl
theorem wT_X8_behindJoint : (Jvm.Cond.static ({ cls := "PictureDesk$Uses", name := "behindJoint", desc := "(I)I" } : Jvm.MethodName)) ∈ tbl := tb_2 213 rfl rfl
theorem wC_X8_behindJoint : (Jvm.Cond.code ({ cls := "PictureDesk$Uses", name := "behindJoint", desc := "(I)I" } : Jvm.MethodName) prog_10_method_8_code (1 : Nat) (Option.some Jvm.ClassFile.FieldType.int)) ∈ tbl := tb_2 214 rfl rfl
theorem wM_L_72 : (Jvm.Cond.methodLink "PictureDeskLaw" (72 : Nat) ({ cls := "PictureDesk", name := "use", desc := "(I)I" } : Jvm.MethodName)) ∈ tbl := tb_2 215 rfl rfl
theorem wI_X9_use : (Jvm.Cond.instanceMethod ({ cls := "PictureDesk", name := "use", desc := "(I)I" } : Jvm.MethodName)) ∈ tbl := tb_2 216 rfl rfl
theorem wS_X9_use : (Jvm.Cond.selects "PictureDesk" ({ cls := "PictureDesk", name := "use", desc := "(I)I" } : Jvm.MethodName) ({ cls := "PictureDesk", name := "use", desc := "(I)I" } : Jvm.MethodName)) ∈ tbl := tb_2 217 rfl rfl
theorem wC_X9_use : (Jvm.Cond.code ({ cls := "PictureDesk", name := "use", desc := "(I)I" } : Jvm.MethodName) prog_1_method_15_code (3 : Nat) (Option.some Jvm.ClassFile.FieldType.int)) ∈ tbl := tb_2 218 rfl rfl
theorem wM_X9_147 : (Jvm.Cond.methodLink "PictureDesk" (147 : Nat) ({ cls := "PictureDesk$Uses", name := "isPlace", desc := "(I)Z" } : Jvm.MethodName)) ∈ tbl := tb_2 219 rfl rfl
theorem wI_X8_isPlace : (Jvm.Cond.instanceMethod ({ cls := "PictureDesk$Uses", name := "isPlace", desc := "(I)Z" } : Jvm.MethodName)) ∈ tbl := tb_2 220 rfl rfl
theorem wS_X8_isPlace : (Jvm.Cond.selects "PictureDesk$Uses" ({ cls := "PictureDesk$Uses", name := "isPlace", desc := "(I)Z" } : Jvm.MethodName) ({ cls := "PictureDesk$Uses", name := "isPlace", desc := "(I)Z" } : Jvm.MethodName)) ∈ tbl := tb_2 221 rfl rfl
theorem wC_X8_isPlace : (Jvm.Cond.code ({ cls := "PictureDesk$Uses", name := "isPlace", desc := "(I)Z" } : Jvm.MethodName) prog_10_method_10_code (2 : Nat) (Option.some Jvm.ClassFile.FieldType.boolean)) ∈ tbl := tb_2 222 rfl rfl
theorem wM_X9_150 : (Jvm.Cond.methodLink "PictureDesk" (150 : Nat) ({ cls := "PictureDesk$Uses", name := "has", desc := "(I)Z" } : Jvm.MethodName)) ∈ tbl := tb_2 223 rfl rfl
theorem wI_X8_has : (Jvm.Cond.instanceMethod ({ cls := "PictureDesk$Uses", name := "has", desc := "(I)Z" } : Jvm.MethodName)) ∈ tbl := tb_2 224 rfl rfl
theorem wS_X8_has : (Jvm.Cond.selects "PictureDesk$Uses" ({ cls := "PictureDesk$Uses", name := "has", desc := "(I)Z" } : Jvm.MethodName) ({ cls := "PictureDesk$Uses", name := "has", desc := "(I)Z" } : Jvm.MethodName)) ∈ tbl := tb_2 225 rfl rfl
theorem wC_X8_has : (Jvm.Cond.code ({ cls := "PictureDesk$Uses", name := "has", desc := "(I)Z" } : Jvm.MethodName) prog_10_method_11_code (2 : Nat) (Option.some Jvm.ClassFile.FieldType.boolean)) ∈ tbl := tb_2 226 rfl rfl
theorem wM_X8_46 : (Jvm.Cond.methodLink "PictureDesk$Uses" (46 : Nat) ({ cls := "PictureDesk$Uses", name := "isPlace", desc := "(I)Z" } : Jvm.MethodName)) ∈ tbl := tb_2 227 rfl rfl
theorem wM_X9_153 : (Jvm.Cond.methodLink "PictureDesk" (153 : Nat) ({ cls := "PictureDesk$Uses", name := "keep", desc := "(I)V" } : Jvm.MethodName)) ∈ tbl := tb_2 228 rfl rfl
theorem wI_X8_keep : (Jvm.Cond.instanceMethod ({ cls := "PictureDesk$Uses", name := "keep", desc := "(I)V" } : Jvm.MethodName)) ∈ tbl := tb_2 229 rfl rfl
theorem wS_X8_keep : (Jvm.Cond.selects "PictureDesk$Uses" ({ cls := "PictureDesk$Uses", name := "keep", desc := "(I)V" } : Jvm.MethodName) ({ cls := "PictureDesk$Uses", name := "keep", desc := "(I)V" } : Jvm.MethodName)) ∈ tbl := tb_2 230 rfl rfl
theorem wC_X8_keep : (Jvm.Cond.code ({ cls := "PictureDesk$Uses", name := "keep", desc := "(I)V" } : Jvm.MethodName) prog_10_method_12_code (3 : Nat) (Option.none : Option Jvm.ClassFile.FieldType)) ∈ tbl := tb_2 231 rfl rfl
theorem wM_L_76 : (Jvm.Cond.methodLink "PictureDeskLaw" (76 : Nat) ({ cls := "PictureDesk", name := "fact", desc := "(III)I" } : Jvm.MethodName)) ∈ tbl := tb_2 232 rfl rfl
theorem wI_X9_fact : (Jvm.Cond.instanceMethod ({ cls := "PictureDesk", name := "fact", desc := "(III)I" } : Jvm.MethodName)) ∈ tbl := tb_2 233 rfl rfl
theorem wS_X9_fact : (Jvm.Cond.selects "PictureDesk" ({ cls := "PictureDesk", name := "fact", desc := "(III)I" } : Jvm.MethodName) ({ cls := "PictureDesk", name := "fact", desc := "(III)I" } : Jvm.MethodName)) ∈ tbl := tb_2 234 rfl rfl
theorem wC_X9_fact : (Jvm.Cond.code ({ cls := "PictureDesk", name := "fact", desc := "(III)I" } : Jvm.MethodName) prog_1_method_16_code (5 : Nat) (Option.some Jvm.ClassFile.FieldType.int)) ∈ tbl := tb_2 235 rfl rfl
theorem wM_X9_157 : (Jvm.Cond.methodLink "PictureDesk" (157 : Nat) ({ cls := "PictureDesk$Facts", name := "learn", desc := "(LPictureDesk$Thing;LPictureDesk$Album;I)V" } : Jvm.MethodName)) ∈ tbl := tb_2 236 rfl rfl
theorem wI_X1_learn : (Jvm.Cond.instanceMethod ({ cls := "PictureDesk$Facts", name := "learn", desc := "(LPictureDesk$Thing;LPictureDesk$Album;I)V" } : Jvm.MethodName)) ∈ tbl := tb_2 237 rfl rfl
theorem wS_X1_learn : (Jvm.Cond.selects "PictureDesk$Facts" ({ cls := "PictureDesk$Facts", name := "learn", desc := "(LPictureDesk$Thing;LPictureDesk$Album;I)V" } : Jvm.MethodName) ({ cls := "PictureDesk$Facts", name := "learn", desc := "(LPictureDesk$Thing;LPictureDesk$Album;I)V" } : Jvm.MethodName)) ∈ tbl := tb_2 238 rfl rfl
theorem wC_X1_learn : (Jvm.Cond.code ({ cls := "PictureDesk$Facts", name := "learn", desc := "(LPictureDesk$Thing;LPictureDesk$Album;I)V" } : Jvm.MethodName) prog_3_method_3_code (8 : Nat) (Option.none : Option Jvm.ClassFile.FieldType)) ∈ tbl := tb_2 239 rfl rfl
theorem wM_X1_15 : (Jvm.Cond.methodLink "PictureDesk$Facts" (15 : Nat) ({ cls := "PictureDesk$Thing", name := "distance", desc := "(II)I" } : Jvm.MethodName)) ∈ tbl := tb_3 0 rfl rfl
theorem wI_X6_distance : (Jvm.Cond.instanceMethod ({ cls := "PictureDesk$Thing", name := "distance", desc := "(II)I" } : Jvm.MethodName)) ∈ tbl := tb_3 1 rfl rfl
theorem wS_X6_distance : (Jvm.Cond.selects "PictureDesk$Thing" ({ cls := "PictureDesk$Thing", name := "distance", desc := "(II)I" } : Jvm.MethodName) ({ cls := "PictureDesk$Thing", name := "distance", desc := "(II)I" } : Jvm.MethodName)) ∈ tbl := tb_3 2 rfl rfl
theorem wC_X6_distance : (Jvm.Cond.code ({ cls := "PictureDesk$Thing", name := "distance", desc := "(II)I" } : Jvm.MethodName) prog_8_method_9_code (3 : Nat) (Option.some Jvm.ClassFile.FieldType.int)) ∈ tbl := tb_3 3 rfl rfl
theorem wM_X6_38 : (Jvm.Cond.methodLink "PictureDesk$Thing" (38 : Nat) ({ cls := "java/lang/Math", name := "abs", desc := "(I)I" } : Jvm.MethodName)) ∈ tbl := tb_3 4 rfl rfl
theorem wT_J9_abs_0f7a4 : (Jvm.Cond.static ({ cls := "java/lang/Math", name := "abs", desc := "(I)I" } : Jvm.MethodName)) ∈ tbl := tb_3 5 rfl rfl
theorem wC_J9_abs_0f7a4 : (Jvm.Cond.code ({ cls := "java/lang/Math", name := "abs", desc := "(I)I" } : Jvm.MethodName) prog_13_method_59_code (1 : Nat) (Option.some Jvm.ClassFile.FieldType.int)) ∈ tbl := tb_3 6 rfl rfl
theorem wM_X1_21 : (Jvm.Cond.methodLink "PictureDesk$Facts" (21 : Nat) ({ cls := "PictureDesk$Facts", name := "lookAt", desc := "(IILPictureDesk$Thing;LPictureDesk$Album;I)V" } : Jvm.MethodName)) ∈ tbl := tb_3 7 rfl rfl
theorem wI_X1_lookAt : (Jvm.Cond.instanceMethod ({ cls := "PictureDesk$Facts", name := "lookAt", desc := "(IILPictureDesk$Thing;LPictureDesk$Album;I)V" } : Jvm.MethodName)) ∈ tbl := tb_3 9 rfl rfl
theorem wC_X1_lookAt : (Jvm.Cond.code ({ cls := "PictureDesk$Facts", name := "lookAt", desc := "(IILPictureDesk$Thing;LPictureDesk$Album;I)V" } : Jvm.MethodName) prog_3_method_4_code (9 : Nat) (Option.none : Option Jvm.ClassFile.FieldType)) ∈ tbl := tb_3 10 rfl rfl
theorem wM_X1_39 : (Jvm.Cond.methodLink "PictureDesk$Facts" (39 : Nat) ({ cls := "PictureDesk$Album", name := "size", desc := "()I" } : Jvm.MethodName)) ∈ tbl := tb_3 11 rfl rfl
theorem wI_X0_size : (Jvm.Cond.instanceMethod ({ cls := "PictureDesk$Album", name := "size", desc := "()I" } : Jvm.MethodName)) ∈ tbl := tb_3 12 rfl rfl
theorem wS_X0_size : (Jvm.Cond.selects "PictureDesk$Album" ({ cls := "PictureDesk$Album", name := "size", desc := "()I" } : Jvm.MethodName) ({ cls := "PictureDesk$Album", name := "size", desc := "()I" } : Jvm.MethodName)) ∈ tbl := tb_3 13 rfl rfl
theorem wC_X0_size : (Jvm.Cond.code ({ cls := "PictureDesk$Album", name := "size", desc := "()I" } : Jvm.MethodName) prog_2_method_2_code (1 : Nat) (Option.some Jvm.ClassFile.FieldType.int)) ∈ tbl := tb_3 14 rfl rfl
theorem wM_X1_45 : (Jvm.Cond.methodLink "PictureDesk$Facts" (45 : Nat) ({ cls := "PictureDesk$Album", name := "find", desc := "(I)LPictureDesk$Picture;" } : Jvm.MethodName)) ∈ tbl := tb_3 15 rfl rfl
theorem wM_X1_49 : (Jvm.Cond.methodLink "PictureDesk$Facts" (49 : Nat) ({ cls := "PictureDesk$Picture", name := "day", desc := "()I" } : Jvm.MethodName)) ∈ tbl := tb_3 16 rfl rfl
theorem wI_X5_day : (Jvm.Cond.instanceMethod ({ cls := "PictureDesk$Picture", name := "day", desc := "()I" } : Jvm.MethodName)) ∈ tbl := tb_3 17 rfl rfl
theorem wS_X5_day : (Jvm.Cond.selects "PictureDesk$Picture" ({ cls := "PictureDesk$Picture", name := "day", desc := "()I" } : Jvm.MethodName) ({ cls := "PictureDesk$Picture", name := "day", desc := "()I" } : Jvm.MethodName)) ∈ tbl := tb_3 18 rfl rfl
theorem wC_X5_day : (Jvm.Cond.code ({ cls := "PictureDesk$Picture", name := "day", desc := "()I" } : Jvm.MethodName) prog_7_method_5_code (1 : Nat) (Option.some Jvm.ClassFile.FieldType.int)) ∈ tbl := tb_3 19 rfl rfl
theorem wM_X1_54 : (Jvm.Cond.methodLink "PictureDesk$Facts" (54 : Nat) ({ cls := "PictureDesk$Picture", name := "look", desc := "(I)I" } : Jvm.MethodName)) ∈ tbl := tb_3 20 rfl rfl
theorem wM_X1_57 : (Jvm.Cond.methodLink "PictureDesk$Facts" (57 : Nat) ({ cls := "PictureDesk$Picture", name := "counting", desc := "(I)I" } : Jvm.MethodName)) ∈ tbl := tb_3 21 rfl rfl
theorem wI_X5_counting : (Jvm.Cond.instanceMethod ({ cls := "PictureDesk$Picture", name := "counting", desc := "(I)I" } : Jvm.MethodName)) ∈ tbl := tb_3 22 rfl rfl
theorem wS_X5_counting : (Jvm.Cond.selects "PictureDesk$Picture" ({ cls := "PictureDesk$Picture", name := "counting", desc := "(I)I" } : Jvm.MethodName) ({ cls := "PictureDesk$Picture", name := "counting", desc := "(I)I" } : Jvm.MethodName)) ∈ tbl := tb_3 23 rfl rfl
theorem wC_X5_counting : (Jvm.Cond.code ({ cls := "PictureDesk$Picture", name := "counting", desc := "(I)I" } : Jvm.MethodName) prog_7_method_9_code (2 : Nat) (Option.some Jvm.ClassFile.FieldType.int)) ∈ tbl := tb_3 24 rfl rfl
theorem wM_X1_60 : (Jvm.Cond.methodLink "PictureDesk$Facts" (60 : Nat) ({ cls := "PictureDesk$Thing", name := "number", desc := "()I" } : Jvm.MethodName)) ∈ tbl := tb_3 25 rfl rfl
theorem wM_X1_63 : (Jvm.Cond.methodLink "PictureDesk$Facts" (63 : Nat) ({ cls := "PictureDesk$Facts", name := "comeNearer", desc := "(II)V" } : Jvm.MethodName)) ∈ tbl := tb_3 26 rfl rfl
theorem wI_X1_comeNearer : (Jvm.Cond.instanceMethod ({ cls := "PictureDesk$Facts", name := "comeNearer", desc := "(II)V" } : Jvm.MethodName)) ∈ tbl := tb_3 28 rfl rfl
theorem wC_X1_comeNearer : (Jvm.Cond.code ({ cls := "PictureDesk$Facts", name := "comeNearer", desc := "(II)V" } : Jvm.MethodName) prog_3_method_5_code (3 : Nat) (Option.none : Option Jvm.ClassFile.FieldType)) ∈ tbl := tb_3 29 rfl rfl
theorem wM_X1_32 : (Jvm.Cond.methodLink "PictureDesk$Facts" (32 : Nat) ({ cls := "PictureDesk$Thing", name := "mark", desc := "(I)I" } : Jvm.MethodName)) ∈ tbl := tb_3 30 rfl rfl
theorem wM_X1_36 : (Jvm.Cond.methodLink "PictureDesk$Facts" (36 : Nat) ({ cls := "PictureDesk$Facts", name := "ruleOutTheRest", desc := "()V" } : Jvm.MethodName)) ∈ tbl := tb_3 31 rfl rfl
theorem wI_X1_ruleOutTheRest : (Jvm.Cond.instanceMethod ({ cls := "PictureDesk$Facts", name := "ruleOutTheRest", desc := "()V" } : Jvm.MethodName)) ∈ tbl := tb_3 33 rfl rfl
theorem wC_X1_ruleOutTheRest : (Jvm.Cond.code ({ cls := "PictureDesk$Facts", name := "ruleOutTheRest", desc := "()V" } : Jvm.MethodName) prog_3_method_6_code (2 : Nat) (Option.none : Option Jvm.ClassFile.FieldType)) ∈ tbl := tb_3 34 rfl rfl
theorem wM_X9_161 : (Jvm.Cond.methodLink "PictureDesk" (161 : Nat) ({ cls := "PictureDesk$Facts", name := "known", desc := "(I)I" } : Jvm.MethodName)) ∈ tbl := tb_3 35 rfl rfl
theorem wI_X1_known : (Jvm.Cond.instanceMethod ({ cls := "PictureDesk$Facts", name := "known", desc := "(I)I" } : Jvm.MethodName)) ∈ tbl := tb_3 36 rfl rfl
theorem wS_X1_known : (Jvm.Cond.selects "PictureDesk$Facts" ({ cls := "PictureDesk$Facts", name := "known", desc := "(I)I" } : Jvm.MethodName) ({ cls := "PictureDesk$Facts", name := "known", desc := "(I)I" } : Jvm.MethodName)) ∈ tbl := tb_3 37 rfl rfl
theorem wC_X1_known : (Jvm.Cond.code ({ cls := "PictureDesk$Facts", name := "known", desc := "(I)I" } : Jvm.MethodName) prog_3_method_2_code (2 : Nat) (Option.some Jvm.ClassFile.FieldType.int)) ∈ tbl := tb_3 38 rfl rfl
theorem wM_L_80 : (Jvm.Cond.methodLink "PictureDeskLaw" (80 : Nat) ({ cls := "PictureDesk", name := "fit", desc := "(III)I" } : Jvm.MethodName)) ∈ tbl := tb_3 39 rfl rfl
theorem wI_X9_fit : (Jvm.Cond.instanceMethod ({ cls := "PictureDesk", name := "fit", desc := "(III)I" } : Jvm.MethodName)) ∈ tbl := tb_3 40 rfl rfl
theorem wS_X9_fit : (Jvm.Cond.selects "PictureDesk" ({ cls := "PictureDesk", name := "fit", desc := "(III)I" } : Jvm.MethodName) ({ cls := "PictureDesk", name := "fit", desc := "(III)I" } : Jvm.MethodName)) ∈ tbl := tb_3 41 rfl rfl
theorem wC_X9_fit : (Jvm.Cond.code ({ cls := "PictureDesk", name := "fit", desc := "(III)I" } : Jvm.MethodName) prog_1_method_17_code (5 : Nat) (Option.some Jvm.ClassFile.FieldType.int)) ∈ tbl := tb_3 42 rfl rfl
theorem wM_X9_164 : (Jvm.Cond.methodLink "PictureDesk" (164 : Nat) ({ cls := "PictureDesk", name := "judge", desc := "(ILPictureDesk$Thing;I)I" } : Jvm.MethodName)) ∈ tbl := tb_3 43 rfl rfl
theorem wI_X9_judge : (Jvm.Cond.instanceMethod ({ cls := "PictureDesk", name := "judge", desc := "(ILPictureDesk$Thing;I)I" } : Jvm.MethodName)) ∈ tbl := tb_3 45 rfl rfl
theorem wC_X9_judge : (Jvm.Cond.code ({ cls := "PictureDesk", name := "judge", desc := "(ILPictureDesk$Thing;I)I" } : Jvm.MethodName) prog_1_method_30_code (4 : Nat) (Option.some Jvm.ClassFile.FieldType.int)) ∈ tbl := tb_3 46 rfl rfl
theorem wM_X9_248 : (Jvm.Cond.methodLink "PictureDesk" (248 : Nat) ({ cls := "PictureDesk$Uses", name := "judge", desc := "(ILPictureDesk$Facts;)I" } : Jvm.MethodName)) ∈ tbl := tb_3 47 rfl rfl
theorem wI_X8_judge : (Jvm.Cond.instanceMethod ({ cls := "PictureDesk$Uses", name := "judge", desc := "(ILPictureDesk$Facts;)I" } : Jvm.MethodName)) ∈ tbl := tb_3 48 rfl rfl
theorem wS_X8_judge : (Jvm.Cond.selects "PictureDesk$Uses" ({ cls := "PictureDesk$Uses", name := "judge", desc := "(ILPictureDesk$Facts;)I" } : Jvm.MethodName) ({ cls := "PictureDesk$Uses", name := "judge", desc := "(ILPictureDesk$Facts;)I" } : Jvm.MethodName)) ∈ tbl := tb_3 49 rfl rfl
theorem wC_X8_judge : (Jvm.Cond.code ({ cls := "PictureDesk$Uses", name := "judge", desc := "(ILPictureDesk$Facts;)I" } : Jvm.MethodName) prog_10_method_14_code (10 : Nat) (Option.some Jvm.ClassFile.FieldType.int)) ∈ tbl := tb_3 50 rfl rfl
theorem wM_X8_49 : (Jvm.Cond.methodLink "PictureDesk$Uses" (49 : Nat) ({ cls := "PictureDesk$Uses", name := "has", desc := "(I)Z" } : Jvm.MethodName)) ∈ tbl := tb_3 51 rfl rfl
theorem wM_X8_52 : (Jvm.Cond.methodLink "PictureDesk$Uses" (52 : Nat) ({ cls := "PictureDesk$Uses", name := "signOf", desc := "(II)I" } : Jvm.MethodName)) ∈ tbl := tb_3 52 rfl rfl
theorem wI_X8_signOf : (Jvm.Cond.instanceMethod ({ cls := "PictureDesk$Uses", name := "signOf", desc := "(II)I" } : Jvm.MethodName)) ∈ tbl := tb_3 54 rfl rfl
theorem wC_X8_signOf : (Jvm.Cond.code ({ cls := "PictureDesk$Uses", name := "signOf", desc := "(II)I" } : Jvm.MethodName) prog_10_method_15_code (3 : Nat) (Option.some Jvm.ClassFile.FieldType.int)) ∈ tbl := tb_3 55 rfl rfl
theorem wM_X8_55 : (Jvm.Cond.methodLink "PictureDesk$Uses" (55 : Nat) ({ cls := "PictureDesk$Facts", name := "known", desc := "(I)I" } : Jvm.MethodName)) ∈ tbl := tb_3 56 rfl rfl
theorem wM_X8_60 : (Jvm.Cond.methodLink "PictureDesk$Uses" (60 : Nat) ({ cls := "PictureDesk$Uses", name := "test", desc := "(III)I" } : Jvm.MethodName)) ∈ tbl := tb_3 57 rfl rfl
theorem wT_X8_test : (Jvm.Cond.static ({ cls := "PictureDesk$Uses", name := "test", desc := "(III)I" } : Jvm.MethodName)) ∈ tbl := tb_3 58 rfl rfl
theorem wC_X8_test : (Jvm.Cond.code ({ cls := "PictureDesk$Uses", name := "test", desc := "(III)I" } : Jvm.MethodName) prog_10_method_16_code (3 : Nat) (Option.some Jvm.ClassFile.FieldType.int)) ∈ tbl := tb_3 59 rfl rfl
theorem wM_X8_64 : (Jvm.Cond.methodLink "PictureDesk$Uses" (64 : Nat) ({ cls := "java/lang/Math", name := "min", desc := "(II)I" } : Jvm.MethodName)) ∈ tbl := tb_3 60 rfl rfl
theorem wT_J9_min_7cf53 : (Jvm.Cond.static ({ cls := "java/lang/Math", name := "min", desc := "(II)I" } : Jvm.MethodName)) ∈ tbl := tb_3 61 rfl rfl
theorem wC_J9_min_7cf53 : (Jvm.Cond.code ({ cls := "java/lang/Math", name := "min", desc := "(II)I" } : Jvm.MethodName) prog_13_method_69_code (2 : Nat) (Option.some Jvm.ClassFile.FieldType.int)) ∈ tbl := tb_3 62 rfl rfl
theorem wM_X8_69 : (Jvm.Cond.methodLink "PictureDesk$Uses" (69 : Nat) ({ cls := "java/lang/Math", name := "max", desc := "(II)I" } : Jvm.MethodName)) ∈ tbl := tb_3 63 rfl rfl
theorem wT_J9_max_7cf53 : (Jvm.Cond.static ({ cls := "java/lang/Math", name := "max", desc := "(II)I" } : Jvm.MethodName)) ∈ tbl := tb_3 64 rfl rfl
theorem wC_J9_max_7cf53 : (Jvm.Cond.code ({ cls := "java/lang/Math", name := "max", desc := "(II)I" } : Jvm.MethodName) prog_13_method_65_code (2 : Nat) (Option.some Jvm.ClassFile.FieldType.int)) ∈ tbl := tb_3 65 rfl rfl
theorem wM_L_84 : (Jvm.Cond.methodLink "PictureDeskLaw" (84 : Nat) ({ cls := "PictureDesk", name := "could", desc := "(II)I" } : Jvm.MethodName)) ∈ tbl := tb_3 66 rfl rfl
theorem wI_X9_could : (Jvm.Cond.instanceMethod ({ cls := "PictureDesk", name := "could", desc := "(II)I" } : Jvm.MethodName)) ∈ tbl := tb_3 67 rfl rfl
theorem wS_X9_could : (Jvm.Cond.selects "PictureDesk" ({ cls := "PictureDesk", name := "could", desc := "(II)I" } : Jvm.MethodName) ({ cls := "PictureDesk", name := "could", desc := "(II)I" } : Jvm.MethodName)) ∈ tbl := tb_3 68 rfl rfl
theorem wC_X9_could : (Jvm.Cond.code ({ cls := "PictureDesk", name := "could", desc := "(II)I" } : Jvm.MethodName) prog_1_method_18_code (6 : Nat) (Option.some Jvm.ClassFile.FieldType.int)) ∈ tbl := tb_3 69 rfl rfl
theorem wM_X9_168 : (Jvm.Cond.methodLink "PictureDesk" (168 : Nat) ({ cls := "PictureDesk$Album", name := "hasDay", desc := "(I)Z" } : Jvm.MethodName)) ∈ tbl := tb_3 70 rfl rfl
theorem wI_X0_hasDay : (Jvm.Cond.instanceMethod ({ cls := "PictureDesk$Album", name := "hasDay", desc := "(I)Z" } : Jvm.MethodName)) ∈ tbl := tb_3 71 rfl rfl
theorem wS_X0_hasDay : (Jvm.Cond.selects "PictureDesk$Album" ({ cls := "PictureDesk$Album", name := "hasDay", desc := "(I)Z" } : Jvm.MethodName) ({ cls := "PictureDesk$Album", name := "hasDay", desc := "(I)Z" } : Jvm.MethodName)) ∈ tbl := tb_3 72 rfl rfl
theorem wC_X0_hasDay : (Jvm.Cond.code ({ cls := "PictureDesk$Album", name := "hasDay", desc := "(I)Z" } : Jvm.MethodName) prog_2_method_6_code (4 : Nat) (Option.some Jvm.ClassFile.FieldType.boolean)) ∈ tbl := tb_3 73 rfl rfl
theorem wM_X0_33 : (Jvm.Cond.methodLink "PictureDesk$Album" (33 : Nat) ({ cls := "PictureDesk$Picture", name := "day", desc := "()I" } : Jvm.MethodName)) ∈ tbl := tb_3 74 rfl rfl
theorem wM_L_88 : (Jvm.Cond.methodLink "PictureDeskLaw" (88 : Nat) ({ cls := "PictureDesk", name := "all", desc := "(III)I" } : Jvm.MethodName)) ∈ tbl := tb_3 75 rfl rfl
theorem wI_X9_all : (Jvm.Cond.instanceMethod ({ cls := "PictureDesk", name := "all", desc := "(III)I" } : Jvm.MethodName)) ∈ tbl := tb_3 76 rfl rfl
theorem wS_X9_all : (Jvm.Cond.selects "PictureDesk" ({ cls := "PictureDesk", name := "all", desc := "(III)I" } : Jvm.MethodName) ({ cls := "PictureDesk", name := "all", desc := "(III)I" } : Jvm.MethodName)) ∈ tbl := tb_3 77 rfl rfl
theorem wC_X9_all : (Jvm.Cond.code ({ cls := "PictureDesk", name := "all", desc := "(III)I" } : Jvm.MethodName) prog_1_method_19_code (7 : Nat) (Option.some Jvm.ClassFile.FieldType.int)) ∈ tbl := tb_3 78 rfl rfl
theorem wM_X9_171 : (Jvm.Cond.methodLink "PictureDesk" (171 : Nat) ({ cls := "PictureDesk$Land", name := "size", desc := "()I" } : Jvm.MethodName)) ∈ tbl := tb_3 79 rfl rfl
theorem wI_X3_size : (Jvm.Cond.instanceMethod ({ cls := "PictureDesk$Land", name := "size", desc := "()I" } : Jvm.MethodName)) ∈ tbl := tb_3 80 rfl rfl
theorem wS_X3_size : (Jvm.Cond.selects "PictureDesk$Land" ({ cls := "PictureDesk$Land", name := "size", desc := "()I" } : Jvm.MethodName) ({ cls := "PictureDesk$Land", name := "size", desc := "()I" } : Jvm.MethodName)) ∈ tbl := tb_3 81 rfl rfl
theorem wC_X3_size : (Jvm.Cond.code ({ cls := "PictureDesk$Land", name := "size", desc := "()I" } : Jvm.MethodName) prog_5_method_2_code (1 : Nat) (Option.some Jvm.ClassFile.FieldType.int)) ∈ tbl := tb_3 82 rfl rfl
theorem wM_L_92 : (Jvm.Cond.methodLink "PictureDeskLaw" (92 : Nat) ({ cls := "PictureDesk", name := "meet", desc := "(II)I" } : Jvm.MethodName)) ∈ tbl := tb_3 83 rfl rfl
theorem wI_X9_meet : (Jvm.Cond.instanceMethod ({ cls := "PictureDesk", name := "meet", desc := "(II)I" } : Jvm.MethodName)) ∈ tbl := tb_3 84 rfl rfl
theorem wS_X9_meet : (Jvm.Cond.selects "PictureDesk" ({ cls := "PictureDesk", name := "meet", desc := "(II)I" } : Jvm.MethodName) ({ cls := "PictureDesk", name := "meet", desc := "(II)I" } : Jvm.MethodName)) ∈ tbl := tb_3 85 rfl rfl
theorem wC_X9_meet : (Jvm.Cond.code ({ cls := "PictureDesk", name := "meet", desc := "(II)I" } : Jvm.MethodName) prog_1_method_20_code (3 : Nat) (Option.some Jvm.ClassFile.FieldType.int)) ∈ tbl := tb_3 86 rfl rfl
theorem wM_X9_174 : (Jvm.Cond.methodLink "PictureDesk" (174 : Nat) ({ cls := "PictureDesk$Lines", name := "draw", desc := "(LPictureDesk$Land;I)V" } : Jvm.MethodName)) ∈ tbl := tb_3 87 rfl rfl
theorem wI_X4_draw : (Jvm.Cond.instanceMethod ({ cls := "PictureDesk$Lines", name := "draw", desc := "(LPictureDesk$Land;I)V" } : Jvm.MethodName)) ∈ tbl := tb_3 88 rfl rfl
theorem wS_X4_draw : (Jvm.Cond.selects "PictureDesk$Lines" ({ cls := "PictureDesk$Lines", name := "draw", desc := "(LPictureDesk$Land;I)V" } : Jvm.MethodName) ({ cls := "PictureDesk$Lines", name := "draw", desc := "(LPictureDesk$Land;I)V" } : Jvm.MethodName)) ∈ tbl := tb_3 89 rfl rfl
theorem wC_X4_draw : (Jvm.Cond.code ({ cls := "PictureDesk$Lines", name := "draw", desc := "(LPictureDesk$Land;I)V" } : Jvm.MethodName) prog_6_method_4_code (5 : Nat) (Option.none : Option Jvm.ClassFile.FieldType)) ∈ tbl := tb_3 90 rfl rfl
theorem wM_X4_22 : (Jvm.Cond.methodLink "PictureDesk$Lines" (22 : Nat) ({ cls := "PictureDesk$Land", name := "size", desc := "()I" } : Jvm.MethodName)) ∈ tbl := tb_3 91 rfl rfl
theorem wM_X4_28 : (Jvm.Cond.methodLink "PictureDesk$Lines" (28 : Nat) ({ cls := "PictureDesk$Land", name := "find", desc := "(I)LPictureDesk$Thing;" } : Jvm.MethodName)) ∈ tbl := tb_3 92 rfl rfl
theorem wM_X4_32 : (Jvm.Cond.methodLink "PictureDesk$Lines" (32 : Nat) ({ cls := "PictureDesk$Thing", name := "hasLine", desc := "(I)Z" } : Jvm.MethodName)) ∈ tbl := tb_3 93 rfl rfl
theorem wI_X6_hasLine : (Jvm.Cond.instanceMethod ({ cls := "PictureDesk$Thing", name := "hasLine", desc := "(I)Z" } : Jvm.MethodName)) ∈ tbl := tb_3 94 rfl rfl
theorem wS_X6_hasLine : (Jvm.Cond.selects "PictureDesk$Thing" ({ cls := "PictureDesk$Thing", name := "hasLine", desc := "(I)Z" } : Jvm.MethodName) ({ cls := "PictureDesk$Thing", name := "hasLine", desc := "(I)Z" } : Jvm.MethodName)) ∈ tbl := tb_3 95 rfl rfl
theorem wC_X6_hasLine : (Jvm.Cond.code ({ cls := "PictureDesk$Thing", name := "hasLine", desc := "(I)Z" } : Jvm.MethodName) prog_8_method_8_code (2 : Nat) (Option.some Jvm.ClassFile.FieldType.boolean)) ∈ tbl := tb_3 96 rfl rfl
theorem wM_X6_34 : (Jvm.Cond.methodLink "PictureDesk$Thing" (34 : Nat) ({ cls := "PictureDesk$Thing", name := "isThere", desc := "(I)Z" } : Jvm.MethodName)) ∈ tbl := tb_3 97 rfl rfl
theorem wM_X4_38 : (Jvm.Cond.methodLink "PictureDesk$Lines" (38 : Nat) ({ cls := "PictureDesk$Lines", name := "drawFrom", desc := "(LPictureDesk$Thing;)V" } : Jvm.MethodName)) ∈ tbl := tb_3 98 rfl rfl
theorem wI_X4_drawFrom : (Jvm.Cond.instanceMethod ({ cls := "PictureDesk$Lines", name := "drawFrom", desc := "(LPictureDesk$Thing;)V" } : Jvm.MethodName)) ∈ tbl := tb_3 100 rfl rfl
theorem wC_X4_drawFrom : (Jvm.Cond.code ({ cls := "PictureDesk$Lines", name := "drawFrom", desc := "(LPictureDesk$Thing;)V" } : Jvm.MethodName) prog_6_method_5_code (6 : Nat) (Option.none : Option Jvm.ClassFile.FieldType)) ∈ tbl := tb_3 101 rfl rfl
theorem wM_X4_42 : (Jvm.Cond.methodLink "PictureDesk$Lines" (42 : Nat) ({ cls := "PictureDesk$Thing", name := "mark", desc := "(I)I" } : Jvm.MethodName)) ∈ tbl := tb_3 102 rfl rfl
theorem wMN_X4_46 : (Jvm.Cond.methodLinkNest "PictureDesk$Lines" (46 : Nat) ({ cls := "PictureDesk", name := "isWithin", desc := "(III)Z" } : Jvm.MethodName) "PictureDesk") ∈ tbl := tb_3 103 rfl rfl
theorem wMN_X4_50 : (Jvm.Cond.methodLinkNest "PictureDesk$Lines" (50 : Nat) ({ cls := "PictureDesk", name := "isOnLand", desc := "(II)Z" } : Jvm.MethodName) "PictureDesk") ∈ tbl := tb_3 104 rfl rfl
theorem wM_X4_54 : (Jvm.Cond.methodLink "PictureDesk$Lines" (54 : Nat) ({ cls := "PictureDesk$Thing", name := "liesOn", desc := "(II)Z" } : Jvm.MethodName)) ∈ tbl := tb_3 105 rfl rfl
theorem wMN_X4_57 : (Jvm.Cond.methodLinkNest "PictureDesk$Lines" (57 : Nat) ({ cls := "PictureDesk", name := "cellOf", desc := "(II)I" } : Jvm.MethodName) "PictureDesk") ∈ tbl := tb_3 106 rfl rfl
theorem wFN_X4_61 : (Jvm.Cond.fieldLinkNest "PictureDesk$Lines" (61 : Nat) "PictureDesk" "EAST_STEP" "[I" "PictureDesk") ∈ tbl := tb_3 107 rfl rfl
theorem wFN_X4_64 : (Jvm.Cond.fieldLinkNest "PictureDesk$Lines" (64 : Nat) "PictureDesk" "SOUTH_STEP" "[I" "PictureDesk") ∈ tbl := tb_3 108 rfl rfl
theorem wM_X9_178 : (Jvm.Cond.methodLink "PictureDesk" (178 : Nat) ({ cls := "PictureDesk$Lines", name := "cell", desc := "()I" } : Jvm.MethodName)) ∈ tbl := tb_3 109 rfl rfl
theorem wI_X4_cell : (Jvm.Cond.instanceMethod ({ cls := "PictureDesk$Lines", name := "cell", desc := "()I" } : Jvm.MethodName)) ∈ tbl := tb_3 110 rfl rfl
theorem wS_X4_cell : (Jvm.Cond.selects "PictureDesk$Lines" ({ cls := "PictureDesk$Lines", name := "cell", desc := "()I" } : Jvm.MethodName) ({ cls := "PictureDesk$Lines", name := "cell", desc := "()I" } : Jvm.MethodName)) ∈ tbl := tb_3 111 rfl rfl
theorem wC_X4_cell : (Jvm.Cond.code ({ cls := "PictureDesk$Lines", name := "cell", desc := "()I" } : Jvm.MethodName) prog_6_method_2_code (1 : Nat) (Option.some Jvm.ClassFile.FieldType.int)) ∈ tbl := tb_3 112 rfl rfl
theorem wM_X9_181 : (Jvm.Cond.methodLink "PictureDesk" (181 : Nat) ({ cls := "PictureDesk$Lines", name := "most", desc := "()I" } : Jvm.MethodName)) ∈ tbl := tb_3 113 rfl rfl
theorem wI_X4_most : (Jvm.Cond.instanceMethod ({ cls := "PictureDesk$Lines", name := "most", desc := "()I" } : Jvm.MethodName)) ∈ tbl := tb_3 114 rfl rfl
theorem wS_X4_most : (Jvm.Cond.selects "PictureDesk$Lines" ({ cls := "PictureDesk$Lines", name := "most", desc := "()I" } : Jvm.MethodName) ({ cls := "PictureDesk$Lines", name := "most", desc := "()I" } : Jvm.MethodName)) ∈ tbl := tb_3 115 rfl rfl
theorem wC_X4_most : (Jvm.Cond.code ({ cls := "PictureDesk$Lines", name := "most", desc := "()I" } : Jvm.MethodName) prog_6_method_3_code (1 : Nat) (Option.some Jvm.ClassFile.FieldType.int)) ∈ tbl := tb_3 116 rfl rfl
theorem wM_L_96 : (Jvm.Cond.methodLink "PictureDeskLaw" (96 : Nat) ({ cls := "PictureDesk", name := "chance", desc := "(II)J" } : Jvm.MethodName)) ∈ tbl := tb_3 117 rfl rfl
theorem wI_X9_chance : (Jvm.Cond.instanceMethod ({ cls := "PictureDesk", name := "chance", desc := "(II)J" } : Jvm.MethodName)) ∈ tbl := tb_3 118 rfl rfl
theorem wS_X9_chance : (Jvm.Cond.selects "PictureDesk" ({ cls := "PictureDesk", name := "chance", desc := "(II)J" } : Jvm.MethodName) ({ cls := "PictureDesk", name := "chance", desc := "(II)J" } : Jvm.MethodName)) ∈ tbl := tb_3 119 rfl rfl
theorem wC_X9_chance : (Jvm.Cond.code ({ cls := "PictureDesk", name := "chance", desc := "(II)J" } : Jvm.MethodName) prog_1_method_21_code (5 : Nat) (Option.some Jvm.ClassFile.FieldType.long)) ∈ tbl := tb_3 120 rfl rfl
theorem wM_X9_184 : (Jvm.Cond.methodLink "PictureDesk" (184 : Nat) ({ cls := "PictureDesk", name := "isPart", desc := "(I)Z" } : Jvm.MethodName)) ∈ tbl := tb_3 121 rfl rfl
theorem wT_X9_isPart : (Jvm.Cond.static ({ cls := "PictureDesk", name := "isPart", desc := "(I)Z" } : Jvm.MethodName)) ∈ tbl := tb_3 122 rfl rfl
theorem wC_X9_isPart : (Jvm.Cond.code ({ cls := "PictureDesk", name := "isPart", desc := "(I)Z" } : Jvm.MethodName) prog_1_method_36_code (1 : Nat) (Option.some Jvm.ClassFile.FieldType.boolean)) ∈ tbl := tb_3 123 rfl rfl
theorem wJ_X9_187 : (Jvm.Cond.constantLong "PictureDesk" (187 : Nat) (-1000000000000000002 : Int64)) ∈ tbl := tb_3 124 rfl rfl
theorem wJ_X9_189 : (Jvm.Cond.constantLong "PictureDesk" (189 : Nat) (-1000000000000000003 : Int64)) ∈ tbl := tb_3 125 rfl rfl
theorem wM_X9_191 : (Jvm.Cond.methodLink "PictureDesk" (191 : Nat) ({ cls := "PictureDesk$Lines", name := "allMayCross", desc := "(LPictureDesk$Land;I)Z" } : Jvm.MethodName)) ∈ tbl := tb_3 126 rfl rfl
theorem wI_X4_allMayCross : (Jvm.Cond.instanceMethod ({ cls := "PictureDesk$Lines", name := "allMayCross", desc := "(LPictureDesk$Land;I)Z" } : Jvm.MethodName)) ∈ tbl := tb_3 127 rfl rfl
theorem wS_X4_allMayCross : (Jvm.Cond.selects "PictureDesk$Lines" ({ cls := "PictureDesk$Lines", name := "allMayCross", desc := "(LPictureDesk$Land;I)Z" } : Jvm.MethodName) ({ cls := "PictureDesk$Lines", name := "allMayCross", desc := "(LPictureDesk$Land;I)Z" } : Jvm.MethodName)) ∈ tbl := tb_3 128 rfl rfl
theorem wC_X4_allMayCross : (Jvm.Cond.code ({ cls := "PictureDesk$Lines", name := "allMayCross", desc := "(LPictureDesk$Land;I)Z" } : Jvm.MethodName) prog_6_method_6_code (5 : Nat) (Option.some Jvm.ClassFile.FieldType.boolean)) ∈ tbl := tb_3 129 rfl rfl
theorem wM_X4_67 : (Jvm.Cond.methodLink "PictureDesk$Lines" (67 : Nat) ({ cls := "PictureDesk$Lines", name := "mayCross", desc := "(LPictureDesk$Thing;)Z" } : Jvm.MethodName)) ∈ tbl := tb_3 130 rfl rfl
theorem wI_X4_mayCross : (Jvm.Cond.instanceMethod ({ cls := "PictureDesk$Lines", name := "mayCross", desc := "(LPictureDesk$Thing;)Z" } : Jvm.MethodName)) ∈ tbl := tb_3 132 rfl rfl
theorem wC_X4_mayCross : (Jvm.Cond.code ({ cls := "PictureDesk$Lines", name := "mayCross", desc := "(LPictureDesk$Thing;)Z" } : Jvm.MethodName) prog_6_method_7_code (6 : Nat) (Option.some Jvm.ClassFile.FieldType.boolean)) ∈ tbl := tb_3 133 rfl rfl
theorem wM_X4_71 : (Jvm.Cond.methodLink "PictureDesk$Lines" (71 : Nat) ({ cls := "java/lang/Math", name := "abs", desc := "(I)I" } : Jvm.MethodName)) ∈ tbl := tb_3 134 rfl rfl
theorem wM_X9_195 : (Jvm.Cond.methodLink "PictureDesk" (195 : Nat) ({ cls := "PictureDesk$Lines", name := "lots", desc := "(LPictureDesk$Land;I)J" } : Jvm.MethodName)) ∈ tbl := tb_3 135 rfl rfl
theorem wI_X4_lots : (Jvm.Cond.instanceMethod ({ cls := "PictureDesk$Lines", name := "lots", desc := "(LPictureDesk$Land;I)J" } : Jvm.MethodName)) ∈ tbl := tb_3 136 rfl rfl
theorem wS_X4_lots : (Jvm.Cond.selects "PictureDesk$Lines" ({ cls := "PictureDesk$Lines", name := "lots", desc := "(LPictureDesk$Land;I)J" } : Jvm.MethodName) ({ cls := "PictureDesk$Lines", name := "lots", desc := "(LPictureDesk$Land;I)J" } : Jvm.MethodName)) ∈ tbl := tb_3 137 rfl rfl
theorem wC_X4_lots : (Jvm.Cond.code ({ cls := "PictureDesk$Lines", name := "lots", desc := "(LPictureDesk$Land;I)J" } : Jvm.MethodName) prog_6_method_8_code (7 : Nat) (Option.some Jvm.ClassFile.FieldType.long)) ∈ tbl := tb_3 138 rfl rfl
theorem wJ_X4_76 : (Jvm.Cond.constantLong "PictureDesk$Lines" (76 : Nat) (8 : Int64)) ∈ tbl := tb_3 139 rfl rfl
theorem wM_X9_199 : (Jvm.Cond.methodLink "PictureDesk" (199 : Nat) ({ cls := "PictureDesk", name := "partOf", desc := "(JJI)J" } : Jvm.MethodName)) ∈ tbl := tb_3 140 rfl rfl
theorem wT_X9_partOf : (Jvm.Cond.static ({ cls := "PictureDesk", name := "partOf", desc := "(JJI)J" } : Jvm.MethodName)) ∈ tbl := tb_3 141 rfl rfl
theorem wC_X9_partOf : (Jvm.Cond.code ({ cls := "PictureDesk", name := "partOf", desc := "(JJI)J" } : Jvm.MethodName) prog_1_method_40_code (7 : Nat) (Option.some Jvm.ClassFile.FieldType.long)) ∈ tbl := tb_3 142 rfl rfl
theorem wM_X9_251 : (Jvm.Cond.methodLink "PictureDesk" (251 : Nat) ({ cls := "PictureDesk", name := "commonDivisor", desc := "(JJ)J" } : Jvm.MethodName)) ∈ tbl := tb_3 143 rfl rfl
theorem wT_X9_commonDivisor : (Jvm.Cond.static ({ cls := "PictureDesk", name := "commonDivisor", desc := "(JJ)J" } : Jvm.MethodName)) ∈ tbl := tb_3 144 rfl rfl
theorem wC_X9_commonDivisor : (Jvm.Cond.code ({ cls := "PictureDesk", name := "commonDivisor", desc := "(JJ)J" } : Jvm.MethodName) prog_1_method_41_code (11 : Nat) (Option.some Jvm.ClassFile.FieldType.long)) ∈ tbl := tb_3 145 rfl rfl
theorem wM_L_101 : (Jvm.Cond.methodLink "PictureDeskLaw" (101 : Nat) ({ cls := "PictureDesk", name := "did", desc := "(IIZ)I" } : Jvm.MethodName)) ∈ tbl := tb_3 146 rfl rfl
theorem wI_X9_did : (Jvm.Cond.instanceMethod ({ cls := "PictureDesk", name := "did", desc := "(IIZ)I" } : Jvm.MethodName)) ∈ tbl := tb_3 147 rfl rfl
theorem wS_X9_did : (Jvm.Cond.selects "PictureDesk" ({ cls := "PictureDesk", name := "did", desc := "(IIZ)I" } : Jvm.MethodName) ({ cls := "PictureDesk", name := "did", desc := "(IIZ)I" } : Jvm.MethodName)) ∈ tbl := tb_3 148 rfl rfl
theorem wC_X9_did : (Jvm.Cond.code ({ cls := "PictureDesk", name := "did", desc := "(IIZ)I" } : Jvm.MethodName) prog_1_method_22_code (5 : Nat) (Option.some Jvm.ClassFile.FieldType.int)) ∈ tbl := tb_3 149 rfl rfl
theorem wM_X9_203 : (Jvm.Cond.methodLink "PictureDesk" (203 : Nat) ({ cls := "PictureDesk$Thing", name := "tickDoing", desc := "(IZ)Z" } : Jvm.MethodName)) ∈ tbl := tb_3 150 rfl rfl
theorem wI_X6_tickDoing : (Jvm.Cond.instanceMethod ({ cls := "PictureDesk$Thing", name := "tickDoing", desc := "(IZ)Z" } : Jvm.MethodName)) ∈ tbl := tb_3 151 rfl rfl
theorem wS_X6_tickDoing : (Jvm.Cond.selects "PictureDesk$Thing" ({ cls := "PictureDesk$Thing", name := "tickDoing", desc := "(IZ)Z" } : Jvm.MethodName) ({ cls := "PictureDesk$Thing", name := "tickDoing", desc := "(IZ)Z" } : Jvm.MethodName)) ∈ tbl := tb_3 152 rfl rfl
theorem wC_X6_tickDoing : (Jvm.Cond.code ({ cls := "PictureDesk$Thing", name := "tickDoing", desc := "(IZ)Z" } : Jvm.MethodName) prog_8_method_10_code (3 : Nat) (Option.some Jvm.ClassFile.FieldType.boolean)) ∈ tbl := tb_3 153 rfl rfl
theorem wM_X6_43 : (Jvm.Cond.methodLink "PictureDesk$Thing" (43 : Nat) ({ cls := "PictureDesk$Ticks", name := "put", desc := "(IZ)Z" } : Jvm.MethodName)) ∈ tbl := tb_3 154 rfl rfl
theorem wM_L_105 : (Jvm.Cond.methodLink "PictureDeskLaw" (105 : Nat) ({ cls := "PictureDesk", name := "decoy", desc := "(IIIII)J" } : Jvm.MethodName)) ∈ tbl := tb_3 155 rfl rfl
theorem wI_X9_decoy : (Jvm.Cond.instanceMethod ({ cls := "PictureDesk", name := "decoy", desc := "(IIIII)J" } : Jvm.MethodName)) ∈ tbl := tb_3 156 rfl rfl
theorem wS_X9_decoy : (Jvm.Cond.selects "PictureDesk" ({ cls := "PictureDesk", name := "decoy", desc := "(IIIII)J" } : Jvm.MethodName) ({ cls := "PictureDesk", name := "decoy", desc := "(IIIII)J" } : Jvm.MethodName)) ∈ tbl := tb_3 157 rfl rfl
theorem wC_X9_decoy : (Jvm.Cond.code ({ cls := "PictureDesk", name := "decoy", desc := "(IIIII)J" } : Jvm.MethodName) prog_1_method_23_code (8 : Nat) (Option.some Jvm.ClassFile.FieldType.long)) ∈ tbl := tb_3 158 rfl rfl
theorem wJ_X9_206 : (Jvm.Cond.constantLong "PictureDesk" (206 : Nat) (-1000000000000000001 : Int64)) ∈ tbl := tb_3 159 rfl rfl
theorem wM_X9_208 : (Jvm.Cond.methodLink "PictureDesk" (208 : Nat) ({ cls := "PictureDesk$Thing", name := "daysWithout", desc := "(II)I" } : Jvm.MethodName)) ∈ tbl := tb_3 160 rfl rfl
theorem wI_X6_daysWithout : (Jvm.Cond.instanceMethod ({ cls := "PictureDesk$Thing", name := "daysWithout", desc := "(II)I" } : Jvm.MethodName)) ∈ tbl := tb_3 161 rfl rfl
theorem wS_X6_daysWithout : (Jvm.Cond.selects "PictureDesk$Thing" ({ cls := "PictureDesk$Thing", name := "daysWithout", desc := "(II)I" } : Jvm.MethodName) ({ cls := "PictureDesk$Thing", name := "daysWithout", desc := "(II)I" } : Jvm.MethodName)) ∈ tbl := tb_3 162 rfl rfl
theorem wC_X6_daysWithout : (Jvm.Cond.code ({ cls := "PictureDesk$Thing", name := "daysWithout", desc := "(II)I" } : Jvm.MethodName) prog_8_method_11_code (5 : Nat) (Option.some Jvm.ClassFile.FieldType.int)) ∈ tbl := tb_3 163 rfl rfl
theorem wM_X6_47 : (Jvm.Cond.methodLink "PictureDesk$Thing" (47 : Nat) ({ cls := "PictureDesk$Ticks", name := "has", desc := "(I)Z" } : Jvm.MethodName)) ∈ tbl := tb_3 164 rfl rfl
theorem wM_X9_211 : (Jvm.Cond.methodLink "PictureDesk" (211 : Nat) ({ cls := "PictureDesk", name := "power", desc := "(JI)J" } : Jvm.MethodName)) ∈ tbl := tb_3 165 rfl rfl
theorem wT_X9_power : (Jvm.Cond.static ({ cls := "PictureDesk", name := "power", desc := "(JI)J" } : Jvm.MethodName)) ∈ tbl := tb_3 166 rfl rfl
theorem wC_X9_power : (Jvm.Cond.code ({ cls := "PictureDesk", name := "power", desc := "(JI)J" } : Jvm.MethodName) prog_1_method_38_code (6 : Nat) (Option.some Jvm.ClassFile.FieldType.long)) ∈ tbl := tb_3 167 rfl rfl
theorem wJ_X9_215 : (Jvm.Cond.constantLong "PictureDesk" (215 : Nat) (20 : Int64)) ∈ tbl := tb_3 168 rfl rfl
theorem wM_L_110 : (Jvm.Cond.methodLink "PictureDeskLaw" (110 : Nat) ({ cls := "PictureDesk", name := "sure", desc := "(II)I" } : Jvm.MethodName)) ∈ tbl := tb_3 169 rfl rfl
theorem wI_X9_sure : (Jvm.Cond.instanceMethod ({ cls := "PictureDesk", name := "sure", desc := "(II)I" } : Jvm.MethodName)) ∈ tbl := tb_3 170 rfl rfl
theorem wS_X9_sure : (Jvm.Cond.selects "PictureDesk" ({ cls := "PictureDesk", name := "sure", desc := "(II)I" } : Jvm.MethodName) ({ cls := "PictureDesk", name := "sure", desc := "(II)I" } : Jvm.MethodName)) ∈ tbl := tb_3 171 rfl rfl
theorem wC_X9_sure : (Jvm.Cond.code ({ cls := "PictureDesk", name := "sure", desc := "(II)I" } : Jvm.MethodName) prog_1_method_24_code (4 : Nat) (Option.some Jvm.ClassFile.FieldType.int)) ∈ tbl := tb_3 172 rfl rfl
theorem wJ_X9_217 : (Jvm.Cond.constantLong "PictureDesk" (217 : Nat) (100 : Int64)) ∈ tbl := tb_3 173 rfl rfl
theorem wM_L_114 : (Jvm.Cond.methodLink "PictureDeskLaw" (114 : Nat) ({ cls := "PictureDesk", name := "flight", desc := "(IIIII)I" } : Jvm.MethodName)) ∈ tbl := tb_3 174 rfl rfl
theorem wI_X9_flight : (Jvm.Cond.instanceMethod ({ cls := "PictureDesk", name := "flight", desc := "(IIIII)I" } : Jvm.MethodName)) ∈ tbl := tb_3 175 rfl rfl
theorem wS_X9_flight : (Jvm.Cond.selects "PictureDesk" ({ cls := "PictureDesk", name := "flight", desc := "(IIIII)I" } : Jvm.MethodName) ({ cls := "PictureDesk", name := "flight", desc := "(IIIII)I" } : Jvm.MethodName)) ∈ tbl := tb_3 176 rfl rfl
theorem wC_X9_flight : (Jvm.Cond.code ({ cls := "PictureDesk", name := "flight", desc := "(IIIII)I" } : Jvm.MethodName) prog_1_method_25_code (6 : Nat) (Option.some Jvm.ClassFile.FieldType.int)) ∈ tbl := tb_3 177 rfl rfl
theorem wM_X9_219 : (Jvm.Cond.methodLink "PictureDesk" (219 : Nat) ({ cls := "PictureDesk$Flights", name := "plan", desc := "(IIIII)V" } : Jvm.MethodName)) ∈ tbl := tb_3 178 rfl rfl
theorem wI_X2_plan : (Jvm.Cond.instanceMethod ({ cls := "PictureDesk$Flights", name := "plan", desc := "(IIIII)V" } : Jvm.MethodName)) ∈ tbl := tb_3 179 rfl rfl
theorem wS_X2_plan : (Jvm.Cond.selects "PictureDesk$Flights" ({ cls := "PictureDesk$Flights", name := "plan", desc := "(IIIII)V" } : Jvm.MethodName) ({ cls := "PictureDesk$Flights", name := "plan", desc := "(IIIII)V" } : Jvm.MethodName)) ∈ tbl := tb_3 180 rfl rfl
theorem wC_X2_plan : (Jvm.Cond.code ({ cls := "PictureDesk$Flights", name := "plan", desc := "(IIIII)V" } : Jvm.MethodName) prog_4_method_2_code (6 : Nat) (Option.none : Option Jvm.ClassFile.FieldType)) ∈ tbl := tb_3 181 rfl rfl
theorem wMN_X2_31 : (Jvm.Cond.methodLinkNest "PictureDesk$Flights" (31 : Nat) ({ cls := "PictureDesk", name := "isWithin", desc := "(III)Z" } : Jvm.MethodName) "PictureDesk") ∈ tbl := tb_3 182 rfl rfl
theorem wM_L_118 : (Jvm.Cond.methodLink "PictureDeskLaw" (118 : Nat) ({ cls := "PictureDesk", name := "worth", desc := "(II)J" } : Jvm.MethodName)) ∈ tbl := tb_3 183 rfl rfl
theorem wI_X9_worth : (Jvm.Cond.instanceMethod ({ cls := "PictureDesk", name := "worth", desc := "(II)J" } : Jvm.MethodName)) ∈ tbl := tb_3 184 rfl rfl
theorem wS_X9_worth : (Jvm.Cond.selects "PictureDesk" ({ cls := "PictureDesk", name := "worth", desc := "(II)J" } : Jvm.MethodName) ({ cls := "PictureDesk", name := "worth", desc := "(II)J" } : Jvm.MethodName)) ∈ tbl := tb_3 185 rfl rfl
theorem wC_X9_worth : (Jvm.Cond.code ({ cls := "PictureDesk", name := "worth", desc := "(II)J" } : Jvm.MethodName) prog_1_method_26_code (3 : Nat) (Option.some Jvm.ClassFile.FieldType.long)) ∈ tbl := tb_3 186 rfl rfl
theorem wM_X9_222 : (Jvm.Cond.methodLink "PictureDesk" (222 : Nat) ({ cls := "PictureDesk$Flights", name := "weigh", desc := "(LPictureDesk$Land;)V" } : Jvm.MethodName)) ∈ tbl := tb_3 187 rfl rfl
theorem wI_X2_weigh : (Jvm.Cond.instanceMethod ({ cls := "PictureDesk$Flights", name := "weigh", desc := "(LPictureDesk$Land;)V" } : Jvm.MethodName)) ∈ tbl := tb_3 188 rfl rfl
theorem wS_X2_weigh : (Jvm.Cond.selects "PictureDesk$Flights" ({ cls := "PictureDesk$Flights", name := "weigh", desc := "(LPictureDesk$Land;)V" } : Jvm.MethodName) ({ cls := "PictureDesk$Flights", name := "weigh", desc := "(LPictureDesk$Land;)V" } : Jvm.MethodName)) ∈ tbl := tb_3 189 rfl rfl
theorem wC_X2_weigh : (Jvm.Cond.code ({ cls := "PictureDesk$Flights", name := "weigh", desc := "(LPictureDesk$Land;)V" } : Jvm.MethodName) prog_4_method_3_code (4 : Nat) (Option.none : Option Jvm.ClassFile.FieldType)) ∈ tbl := tb_3 190 rfl rfl
theorem wM_X2_35 : (Jvm.Cond.methodLink "PictureDesk$Flights" (35 : Nat) ({ cls := "PictureDesk$Land", name := "size", desc := "()I" } : Jvm.MethodName)) ∈ tbl := tb_3 191 rfl rfl
theorem wM_X2_41 : (Jvm.Cond.methodLink "PictureDesk$Flights" (41 : Nat) ({ cls := "PictureDesk$Land", name := "find", desc := "(I)LPictureDesk$Thing;" } : Jvm.MethodName)) ∈ tbl := tb_3 192 rfl rfl
theorem wM_X2_45 : (Jvm.Cond.methodLink "PictureDesk$Flights" (45 : Nat) ({ cls := "PictureDesk$Thing", name := "mark", desc := "(I)I" } : Jvm.MethodName)) ∈ tbl := tb_3 193 rfl rfl
theorem wM_X2_51 : (Jvm.Cond.methodLink "PictureDesk$Flights" (51 : Nat) ({ cls := "PictureDesk$Flights", name := "weighColumn", desc := "(I)V" } : Jvm.MethodName)) ∈ tbl := tb_3 194 rfl rfl
theorem wI_X2_weighColumn : (Jvm.Cond.instanceMethod ({ cls := "PictureDesk$Flights", name := "weighColumn", desc := "(I)V" } : Jvm.MethodName)) ∈ tbl := tb_3 196 rfl rfl
theorem wC_X2_weighColumn : (Jvm.Cond.code ({ cls := "PictureDesk$Flights", name := "weighColumn", desc := "(I)V" } : Jvm.MethodName) prog_4_method_4_code (6 : Nat) (Option.none : Option Jvm.ClassFile.FieldType)) ∈ tbl := tb_3 197 rfl rfl
theorem wJ_X2_55 : (Jvm.Cond.constantLong "PictureDesk$Flights" (55 : Nat) (100000000 : Int64)) ∈ tbl := tb_3 198 rfl rfl
theorem wM_X2_57 : (Jvm.Cond.methodLink "PictureDesk$Flights" (57 : Nat) ({ cls := "PictureDesk$Flights", name := "tenthsMissing", desc := "(II)I" } : Jvm.MethodName)) ∈ tbl := tb_3 199 rfl rfl
theorem wI_X2_tenthsMissing : (Jvm.Cond.instanceMethod ({ cls := "PictureDesk$Flights", name := "tenthsMissing", desc := "(II)I" } : Jvm.MethodName)) ∈ tbl := tb_3 201 rfl rfl
theorem wC_X2_tenthsMissing : (Jvm.Cond.code ({ cls := "PictureDesk$Flights", name := "tenthsMissing", desc := "(II)I" } : Jvm.MethodName) prog_4_method_5_code (3 : Nat) (Option.some Jvm.ClassFile.FieldType.int)) ∈ tbl := tb_3 202 rfl rfl
theorem wJ_X2_61 : (Jvm.Cond.constantLong "PictureDesk$Flights" (61 : Nat) (10 : Int64)) ∈ tbl := tb_3 203 rfl rfl
theorem wM_X9_225 : (Jvm.Cond.methodLink "PictureDesk" (225 : Nat) ({ cls := "PictureDesk$Flights", name := "weight", desc := "(I)J" } : Jvm.MethodName)) ∈ tbl := tb_3 204 rfl rfl
theorem wI_X2_weight : (Jvm.Cond.instanceMethod ({ cls := "PictureDesk$Flights", name := "weight", desc := "(I)J" } : Jvm.MethodName)) ∈ tbl := tb_3 205 rfl rfl
theorem wS_X2_weight : (Jvm.Cond.selects "PictureDesk$Flights" ({ cls := "PictureDesk$Flights", name := "weight", desc := "(I)J" } : Jvm.MethodName) ({ cls := "PictureDesk$Flights", name := "weight", desc := "(I)J" } : Jvm.MethodName)) ∈ tbl := tb_3 206 rfl rfl
theorem wC_X2_weight : (Jvm.Cond.code ({ cls := "PictureDesk$Flights", name := "weight", desc := "(I)J" } : Jvm.MethodName) prog_4_method_6_code (2 : Nat) (Option.some Jvm.ClassFile.FieldType.long)) ∈ tbl := tb_3 207 rfl rfl
theorem wJ_X9_229 : (Jvm.Cond.constantLong "PictureDesk" (229 : Nat) (100000000 : Int64)) ∈ tbl := tb_3 208 rfl rfl
theorem wM_L_122 : (Jvm.Cond.methodLink "PictureDeskLaw" (122 : Nat) ({ cls := "PictureDesk", name := "best", desc := "(II)I" } : Jvm.MethodName)) ∈ tbl := tb_3 209 rfl rfl
theorem wI_X9_best : (Jvm.Cond.instanceMethod ({ cls := "PictureDesk", name := "best", desc := "(II)I" } : Jvm.MethodName)) ∈ tbl := tb_3 210 rfl rfl
theorem wS_X9_best : (Jvm.Cond.selects "PictureDesk" ({ cls := "PictureDesk", name := "best", desc := "(II)I" } : Jvm.MethodName) ({ cls := "PictureDesk", name := "best", desc := "(II)I" } : Jvm.MethodName)) ∈ tbl := tb_3 211 rfl rfl
theorem wC_X9_best : (Jvm.Cond.code ({ cls := "PictureDesk", name := "best", desc := "(II)I" } : Jvm.MethodName) prog_1_method_27_code (4 : Nat) (Option.some Jvm.ClassFile.FieldType.int)) ∈ tbl := tb_3 212 rfl rfl
theorem wM_X9_231 : (Jvm.Cond.methodLink "PictureDesk" (231 : Nat) ({ cls := "PictureDesk$Flights", name := "choose", desc := "(I)I" } : Jvm.MethodName)) ∈ tbl := tb_3 213 rfl rfl
theorem wI_X2_choose : (Jvm.Cond.instanceMethod ({ cls := "PictureDesk$Flights", name := "choose", desc := "(I)I" } : Jvm.MethodName)) ∈ tbl := tb_3 214 rfl rfl
theorem wS_X2_choose : (Jvm.Cond.selects "PictureDesk$Flights" ({ cls := "PictureDesk$Flights", name := "choose", desc := "(I)I" } : Jvm.MethodName) ({ cls := "PictureDesk$Flights", name := "choose", desc := "(I)I" } : Jvm.MethodName)) ∈ tbl := tb_3 215 rfl rfl
theorem wC_X2_choose : (Jvm.Cond.code ({ cls := "PictureDesk$Flights", name := "choose", desc := "(I)I" } : Jvm.MethodName) prog_4_method_8_code (8 : Nat) (Option.some Jvm.ClassFile.FieldType.int)) ∈ tbl := tb_3 216 rfl rfl
theorem wM_X2_63 : (Jvm.Cond.methodLink "PictureDesk$Flights" (63 : Nat) ({ cls := "PictureDesk$Flights", name := "riskOf", desc := "(I)I" } : Jvm.MethodName)) ∈ tbl := tb_3 217 rfl rfl
theorem wI_X2_riskOf : (Jvm.Cond.instanceMethod ({ cls := "PictureDesk$Flights", name := "riskOf", desc := "(I)I" } : Jvm.MethodName)) ∈ tbl := tb_3 218 rfl rfl
theorem wS_X2_riskOf : (Jvm.Cond.selects "PictureDesk$Flights" ({ cls := "PictureDesk$Flights", name := "riskOf", desc := "(I)I" } : Jvm.MethodName) ({ cls := "PictureDesk$Flights", name := "riskOf", desc := "(I)I" } : Jvm.MethodName)) ∈ tbl := tb_3 219 rfl rfl
theorem wC_X2_riskOf : (Jvm.Cond.code ({ cls := "PictureDesk$Flights", name := "riskOf", desc := "(I)I" } : Jvm.MethodName) prog_4_method_7_code (4 : Nat) (Option.some Jvm.ClassFile.FieldType.int)) ∈ tbl := tb_3 220 rfl rfl
theorem wM_X9_234 : (Jvm.Cond.methodLink "PictureDesk" (234 : Nat) ({ cls := "PictureDesk$Flights", name := "riskOf", desc := "(I)I" } : Jvm.MethodName)) ∈ tbl := tb_3 221 rfl rfl
theorem wM_L_126 : (Jvm.Cond.methodLink "PictureDeskLaw" (126 : Nat) ({ cls := "PictureDesk", name := "lean", desc := "(IIIII)J" } : Jvm.MethodName)) ∈ tbl := tb_3 222 rfl rfl
theorem wI_X9_lean : (Jvm.Cond.instanceMethod ({ cls := "PictureDesk", name := "lean", desc := "(IIIII)J" } : Jvm.MethodName)) ∈ tbl := tb_3 223 rfl rfl
theorem wS_X9_lean : (Jvm.Cond.selects "PictureDesk" ({ cls := "PictureDesk", name := "lean", desc := "(IIIII)J" } : Jvm.MethodName) ({ cls := "PictureDesk", name := "lean", desc := "(IIIII)J" } : Jvm.MethodName)) ∈ tbl := tb_3 224 rfl rfl
theorem wC_X9_lean : (Jvm.Cond.code ({ cls := "PictureDesk", name := "lean", desc := "(IIIII)J" } : Jvm.MethodName) prog_1_method_28_code (10 : Nat) (Option.some Jvm.ClassFile.FieldType.long)) ∈ tbl := tb_3 225 rfl rfl
theorem wM_X9_237 : (Jvm.Cond.methodLink "PictureDesk" (237 : Nat) ({ cls := "PictureDesk", name := "choices", desc := "(II)J" } : Jvm.MethodName)) ∈ tbl := tb_3 226 rfl rfl
theorem wT_X9_choices : (Jvm.Cond.static ({ cls := "PictureDesk", name := "choices", desc := "(II)J" } : Jvm.MethodName)) ∈ tbl := tb_3 227 rfl rfl
theorem wC_X9_choices : (Jvm.Cond.code ({ cls := "PictureDesk", name := "choices", desc := "(II)J" } : Jvm.MethodName) prog_1_method_39_code (5 : Nat) (Option.some Jvm.ClassFile.FieldType.long)) ∈ tbl := tb_3 228 rfl rfl
theorem wM_L_130 : (Jvm.Cond.methodLink "PictureDeskLaw" (130 : Nat) ({ cls := "PictureDesk", name := "told", desc := "(I)I" } : Jvm.MethodName)) ∈ tbl := tb_3 229 rfl rfl
theorem wI_X9_told : (Jvm.Cond.instanceMethod ({ cls := "PictureDesk", name := "told", desc := "(I)I" } : Jvm.MethodName)) ∈ tbl := tb_3 230 rfl rfl
theorem wS_X9_told : (Jvm.Cond.selects "PictureDesk" ({ cls := "PictureDesk", name := "told", desc := "(I)I" } : Jvm.MethodName) ({ cls := "PictureDesk", name := "told", desc := "(I)I" } : Jvm.MethodName)) ∈ tbl := tb_3 231 rfl rfl
theorem wC_X9_told : (Jvm.Cond.code ({ cls := "PictureDesk", name := "told", desc := "(I)I" } : Jvm.MethodName) prog_1_method_29_code (2 : Nat) (Option.some Jvm.ClassFile.FieldType.int)) ∈ tbl := tb_3 232 rfl rfl
theorem wM_X9_241 : (Jvm.Cond.methodLink "PictureDesk" (241 : Nat) ({ cls := "PictureDesk$Album", name := "size", desc := "()I" } : Jvm.MethodName)) ∈ tbl := tb_3 233 rfl rfl
theorem wM_X9_242 : (Jvm.Cond.methodLink "PictureDesk" (242 : Nat) ({ cls := "PictureDesk$Uses", name := "signs", desc := "()I" } : Jvm.MethodName)) ∈ tbl := tb_3 234 rfl rfl
theorem wI_X8_signs : (Jvm.Cond.instanceMethod ({ cls := "PictureDesk$Uses", name := "signs", desc := "()I" } : Jvm.MethodName)) ∈ tbl := tb_3 235 rfl rfl
theorem wS_X8_signs : (Jvm.Cond.selects "PictureDesk$Uses" ({ cls := "PictureDesk$Uses", name := "signs", desc := "()I" } : Jvm.MethodName) ({ cls := "PictureDesk$Uses", name := "signs", desc := "()I" } : Jvm.MethodName)) ∈ tbl := tb_3 236 rfl rfl
theorem wC_X8_signs : (Jvm.Cond.code ({ cls := "PictureDesk$Uses", name := "signs", desc := "()I" } : Jvm.MethodName) prog_10_method_2_code (1 : Nat) (Option.some Jvm.ClassFile.FieldType.int)) ∈ tbl := tb_3 237 rfl rfl
theorem wM_X9_245 : (Jvm.Cond.methodLink "PictureDesk" (245 : Nat) ({ cls := "PictureDesk$Uses", name := "bits", desc := "()I" } : Jvm.MethodName)) ∈ tbl := tb_3 238 rfl rfl
theorem wI_X8_bits : (Jvm.Cond.instanceMethod ({ cls := "PictureDesk$Uses", name := "bits", desc := "()I" } : Jvm.MethodName)) ∈ tbl := tb_3 239 rfl rfl
theorem wS_X8_bits : (Jvm.Cond.selects "PictureDesk$Uses" ({ cls := "PictureDesk$Uses", name := "bits", desc := "()I" } : Jvm.MethodName) ({ cls := "PictureDesk$Uses", name := "bits", desc := "()I" } : Jvm.MethodName)) ∈ tbl := tb_4 0 rfl rfl
theorem wC_X8_bits : (Jvm.Cond.code ({ cls := "PictureDesk$Uses", name := "bits", desc := "()I" } : Jvm.MethodName) prog_10_method_13_code (3 : Nat) (Option.some Jvm.ClassFile.FieldType.int)) ∈ tbl := tb_4 1 rfl rfl
theorem wL_L_10 : (Jvm.Cond.classLink "PictureDeskLaw" (10 : Nat) "PictureDeskModel") ∈ tbl := tb_4 2 rfl rfl
theorem wB_X10 : (Jvm.Cond.instantiable "PictureDeskModel" (12 : Nat)) ∈ tbl := tb_4 3 rfl rfl
theorem wM_L_12 : (Jvm.Cond.methodLink "PictureDeskLaw" (12 : Nat) ({ cls := "PictureDeskModel", name := "<init>", desc := "()V" } : Jvm.MethodName)) ∈ tbl := tb_4 4 rfl rfl
theorem wI_X10_init : (Jvm.Cond.instanceMethod ({ cls := "PictureDeskModel", name := "<init>", desc := "()V" } : Jvm.MethodName)) ∈ tbl := tb_4 5 rfl rfl
theorem wC_X10_init : (Jvm.Cond.code ({ cls := "PictureDeskModel", name := "<init>", desc := "()V" } : Jvm.MethodName) prog_12_method_1_code (1 : Nat) (Option.none : Option Jvm.ClassFile.FieldType)) ∈ tbl := tb_4 6 rfl rfl
theorem wM_X10_1 : (Jvm.Cond.methodLink "PictureDeskModel" (1 : Nat) ({ cls := "java/lang/Object", name := "<init>", desc := "()V" } : Jvm.MethodName)) ∈ tbl := tb_4 7 rfl rfl
theorem wF_X10_39 : (Jvm.Cond.fieldLink "PictureDeskModel" (39 : Nat) "PictureDeskModel" "things" "I") ∈ tbl := tb_4 8 rfl rfl
theorem wF_X10_7 : (Jvm.Cond.fieldLink "PictureDeskModel" (7 : Nat) "PictureDeskModel" "thing" "[I") ∈ tbl := tb_4 9 rfl rfl
theorem wF_X10_13 : (Jvm.Cond.fieldLink "PictureDeskModel" (13 : Nat) "PictureDeskModel" "does" "[Z") ∈ tbl := tb_4 10 rfl rfl
theorem wF_X10_43 : (Jvm.Cond.fieldLink "PictureDeskModel" (43 : Nat) "PictureDeskModel" "pictures" "I") ∈ tbl := tb_4 11 rfl rfl
theorem wF_X10_17 : (Jvm.Cond.fieldLink "PictureDeskModel" (17 : Nat) "PictureDeskModel" "picture" "[I") ∈ tbl := tb_4 12 rfl rfl
theorem wF_X10_20 : (Jvm.Cond.fieldLink "PictureDeskModel" (20 : Nat) "PictureDeskModel" "cloud" "[Z") ∈ tbl := tb_4 13 rfl rfl
theorem wF_X10_80 : (Jvm.Cond.fieldLink "PictureDeskModel" (80 : Nat) "PictureDeskModel" "signs" "I") ∈ tbl := tb_4 14 rfl rfl
theorem wF_X10_23 : (Jvm.Cond.fieldLink "PictureDeskModel" (23 : Nat) "PictureDeskModel" "sign" "[I") ∈ tbl := tb_4 15 rfl rfl
theorem wF_X10_26 : (Jvm.Cond.fieldLink "PictureDeskModel" (26 : Nat) "PictureDeskModel" "useMany" "[I") ∈ tbl := tb_4 16 rfl rfl
theorem wF_X10_29 : (Jvm.Cond.fieldLink "PictureDeskModel" (29 : Nat) "PictureDeskModel" "useSign" "[I") ∈ tbl := tb_4 17 rfl rfl
theorem wF_X10_32 : (Jvm.Cond.fieldLink "PictureDeskModel" (32 : Nat) "PictureDeskModel" "flight" "[I") ∈ tbl := tb_4 18 rfl rfl
theorem wF_X10_119 : (Jvm.Cond.fieldLink "PictureDeskModel" (119 : Nat) "PictureDeskModel" "most" "I") ∈ tbl := tb_4 19 rfl rfl
theorem wA_Jvm_ClassFile_FieldType_boolean : (Jvm.Cond.arrayClass Jvm.ClassFile.FieldType.boolean) ∈ tbl := tb_4 45 rfl rfl
theorem wM_L_17 : (Jvm.Cond.methodLink "PictureDeskLaw" (17 : Nat) ({ cls := "PictureDeskModel", name := "thing", desc := "(IIIIIIII)I" } : Jvm.MethodName)) ∈ tbl := tb_4 46 rfl rfl
theorem wI_X10_thing : (Jvm.Cond.instanceMethod ({ cls := "PictureDeskModel", name := "thing", desc := "(IIIIIIII)I" } : Jvm.MethodName)) ∈ tbl := tb_4 47 rfl rfl
theorem wS_X10_thing : (Jvm.Cond.selects "PictureDeskModel" ({ cls := "PictureDeskModel", name := "thing", desc := "(IIIIIIII)I" } : Jvm.MethodName) ({ cls := "PictureDeskModel", name := "thing", desc := "(IIIIIIII)I" } : Jvm.MethodName)) ∈ tbl := tb_4 48 rfl rfl
theorem wC_X10_thing : (Jvm.Cond.code ({ cls := "PictureDeskModel", name := "thing", desc := "(IIIIIIII)I" } : Jvm.MethodName) prog_12_method_8_code (11 : Nat) (Option.some Jvm.ClassFile.FieldType.int)) ∈ tbl := tb_4 49 rfl rfl
theorem wM_X10_35 : (Jvm.Cond.methodLink "PictureDeskModel" (35 : Nat) ({ cls := "PictureDeskModel", name := "in", desc := "(III)Z" } : Jvm.MethodName)) ∈ tbl := tb_4 50 rfl rfl
theorem wT_X10_in : (Jvm.Cond.static ({ cls := "PictureDeskModel", name := "in", desc := "(III)Z" } : Jvm.MethodName)) ∈ tbl := tb_4 51 rfl rfl
theorem wC_X10_in : (Jvm.Cond.code ({ cls := "PictureDeskModel", name := "in", desc := "(III)Z" } : Jvm.MethodName) prog_12_method_2_code (3 : Nat) (Option.some Jvm.ClassFile.FieldType.boolean)) ∈ tbl := tb_4 52 rfl rfl
theorem wM_X10_46 : (Jvm.Cond.methodLink "PictureDeskModel" (46 : Nat) ({ cls := "PictureDeskModel", name := "isDay", desc := "(I)Z" } : Jvm.MethodName)) ∈ tbl := tb_4 53 rfl rfl
theorem wT_X10_isDay : (Jvm.Cond.static ({ cls := "PictureDeskModel", name := "isDay", desc := "(I)Z" } : Jvm.MethodName)) ∈ tbl := tb_4 54 rfl rfl
theorem wC_X10_isDay : (Jvm.Cond.code ({ cls := "PictureDeskModel", name := "isDay", desc := "(I)Z" } : Jvm.MethodName) prog_12_method_3_code (1 : Nat) (Option.some Jvm.ClassFile.FieldType.boolean)) ∈ tbl := tb_4 55 rfl rfl
theorem wM_L_22 : (Jvm.Cond.methodLink "PictureDeskLaw" (22 : Nat) ({ cls := "PictureDeskModel", name := "of", desc := "(II)I" } : Jvm.MethodName)) ∈ tbl := tb_4 56 rfl rfl
theorem wI_X10_of : (Jvm.Cond.instanceMethod ({ cls := "PictureDeskModel", name := "of", desc := "(II)I" } : Jvm.MethodName)) ∈ tbl := tb_4 57 rfl rfl
theorem wS_X10_of : (Jvm.Cond.selects "PictureDeskModel" ({ cls := "PictureDeskModel", name := "of", desc := "(II)I" } : Jvm.MethodName) ({ cls := "PictureDeskModel", name := "of", desc := "(II)I" } : Jvm.MethodName)) ∈ tbl := tb_4 58 rfl rfl
theorem wC_X10_of : (Jvm.Cond.code ({ cls := "PictureDeskModel", name := "of", desc := "(II)I" } : Jvm.MethodName) prog_12_method_9_code (3 : Nat) (Option.some Jvm.ClassFile.FieldType.int)) ∈ tbl := tb_4 59 rfl rfl
theorem wM_X10_50 : (Jvm.Cond.methodLink "PictureDeskModel" (50 : Nat) ({ cls := "PictureDeskModel", name := "isThing", desc := "(I)Z" } : Jvm.MethodName)) ∈ tbl := tb_4 60 rfl rfl
theorem wI_X10_isThing : (Jvm.Cond.instanceMethod ({ cls := "PictureDeskModel", name := "isThing", desc := "(I)Z" } : Jvm.MethodName)) ∈ tbl := tb_4 62 rfl rfl
theorem wC_X10_isThing : (Jvm.Cond.code ({ cls := "PictureDeskModel", name := "isThing", desc := "(I)Z" } : Jvm.MethodName) prog_12_method_6_code (2 : Nat) (Option.some Jvm.ClassFile.FieldType.boolean)) ∈ tbl := tb_4 63 rfl rfl
theorem wM_L_27 : (Jvm.Cond.methodLink "PictureDeskLaw" (27 : Nat) ({ cls := "PictureDeskModel", name := "set", desc := "(III)I" } : Jvm.MethodName)) ∈ tbl := tb_4 64 rfl rfl
theorem wI_X10_set : (Jvm.Cond.instanceMethod ({ cls := "PictureDeskModel", name := "set", desc := "(III)I" } : Jvm.MethodName)) ∈ tbl := tb_4 65 rfl rfl
theorem wS_X10_set : (Jvm.Cond.selects "PictureDeskModel" ({ cls := "PictureDeskModel", name := "set", desc := "(III)I" } : Jvm.MethodName) ({ cls := "PictureDeskModel", name := "set", desc := "(III)I" } : Jvm.MethodName)) ∈ tbl := tb_4 66 rfl rfl
theorem wC_X10_set : (Jvm.Cond.code ({ cls := "PictureDeskModel", name := "set", desc := "(III)I" } : Jvm.MethodName) prog_12_method_10_code (5 : Nat) (Option.some Jvm.ClassFile.FieldType.int)) ∈ tbl := tb_4 67 rfl rfl
theorem wM_L_31 : (Jvm.Cond.methodLink "PictureDeskLaw" (31 : Nat) ({ cls := "PictureDeskModel", name := "at", desc := "(II)I" } : Jvm.MethodName)) ∈ tbl := tb_4 68 rfl rfl
theorem wI_X10_at : (Jvm.Cond.instanceMethod ({ cls := "PictureDeskModel", name := "at", desc := "(II)I" } : Jvm.MethodName)) ∈ tbl := tb_4 69 rfl rfl
theorem wS_X10_at : (Jvm.Cond.selects "PictureDeskModel" ({ cls := "PictureDeskModel", name := "at", desc := "(II)I" } : Jvm.MethodName) ({ cls := "PictureDeskModel", name := "at", desc := "(II)I" } : Jvm.MethodName)) ∈ tbl := tb_4 70 rfl rfl
theorem wC_X10_at : (Jvm.Cond.code ({ cls := "PictureDeskModel", name := "at", desc := "(II)I" } : Jvm.MethodName) prog_12_method_14_code (3 : Nat) (Option.some Jvm.ClassFile.FieldType.int)) ∈ tbl := tb_4 71 rfl rfl
theorem wM_X10_60 : (Jvm.Cond.methodLink "PictureDeskModel" (60 : Nat) ({ cls := "PictureDeskModel", name := "isCell", desc := "(I)Z" } : Jvm.MethodName)) ∈ tbl := tb_4 72 rfl rfl
theorem wT_X10_isCell : (Jvm.Cond.static ({ cls := "PictureDeskModel", name := "isCell", desc := "(I)Z" } : Jvm.MethodName)) ∈ tbl := tb_4 73 rfl rfl
theorem wC_X10_isCell : (Jvm.Cond.code ({ cls := "PictureDeskModel", name := "isCell", desc := "(I)Z" } : Jvm.MethodName) prog_12_method_4_code (1 : Nat) (Option.some Jvm.ClassFile.FieldType.boolean)) ∈ tbl := tb_4 74 rfl rfl
theorem wM_X10_63 : (Jvm.Cond.methodLink "PictureDeskModel" (63 : Nat) ({ cls := "PictureDeskModel", name := "thingAt", desc := "(III)I" } : Jvm.MethodName)) ∈ tbl := tb_4 75 rfl rfl
theorem wI_X10_thingAt : (Jvm.Cond.instanceMethod ({ cls := "PictureDeskModel", name := "thingAt", desc := "(III)I" } : Jvm.MethodName)) ∈ tbl := tb_4 77 rfl rfl
theorem wC_X10_thingAt : (Jvm.Cond.code ({ cls := "PictureDeskModel", name := "thingAt", desc := "(III)I" } : Jvm.MethodName) prog_12_method_13_code (6 : Nat) (Option.some Jvm.ClassFile.FieldType.int)) ∈ tbl := tb_4 78 rfl rfl
theorem wM_X10_53 : (Jvm.Cond.methodLink "PictureDeskModel" (53 : Nat) ({ cls := "PictureDeskModel", name := "isThere", desc := "(II)Z" } : Jvm.MethodName)) ∈ tbl := tb_4 79 rfl rfl
theorem wI_X10_isThere : (Jvm.Cond.instanceMethod ({ cls := "PictureDeskModel", name := "isThere", desc := "(II)Z" } : Jvm.MethodName)) ∈ tbl := tb_4 81 rfl rfl
theorem wC_X10_isThere : (Jvm.Cond.code ({ cls := "PictureDeskModel", name := "isThere", desc := "(II)Z" } : Jvm.MethodName) prog_12_method_11_code (3 : Nat) (Option.some Jvm.ClassFile.FieldType.boolean)) ∈ tbl := tb_4 82 rfl rfl
theorem wM_X10_57 : (Jvm.Cond.methodLink "PictureDeskModel" (57 : Nat) ({ cls := "PictureDeskModel", name := "isOwn", desc := "(III)Z" } : Jvm.MethodName)) ∈ tbl := tb_4 83 rfl rfl
theorem wI_X10_isOwn : (Jvm.Cond.instanceMethod ({ cls := "PictureDeskModel", name := "isOwn", desc := "(III)Z" } : Jvm.MethodName)) ∈ tbl := tb_4 85 rfl rfl
theorem wC_X10_isOwn : (Jvm.Cond.code ({ cls := "PictureDeskModel", name := "isOwn", desc := "(III)Z" } : Jvm.MethodName) prog_12_method_12_code (5 : Nat) (Option.some Jvm.ClassFile.FieldType.boolean)) ∈ tbl := tb_4 86 rfl rfl
theorem wM_L_36 : (Jvm.Cond.methodLink "PictureDeskLaw" (36 : Nat) ({ cls := "PictureDeskModel", name := "picture", desc := "(IIIII)I" } : Jvm.MethodName)) ∈ tbl := tb_4 87 rfl rfl
theorem wI_X10_picture : (Jvm.Cond.instanceMethod ({ cls := "PictureDeskModel", name := "picture", desc := "(IIIII)I" } : Jvm.MethodName)) ∈ tbl := tb_4 88 rfl rfl
theorem wS_X10_picture : (Jvm.Cond.selects "PictureDeskModel" ({ cls := "PictureDeskModel", name := "picture", desc := "(IIIII)I" } : Jvm.MethodName) ({ cls := "PictureDeskModel", name := "picture", desc := "(IIIII)I" } : Jvm.MethodName)) ∈ tbl := tb_4 89 rfl rfl
theorem wC_X10_picture : (Jvm.Cond.code ({ cls := "PictureDeskModel", name := "picture", desc := "(IIIII)I" } : Jvm.MethodName) prog_12_method_15_code (7 : Nat) (Option.some Jvm.ClassFile.FieldType.int)) ∈ tbl := tb_4 90 rfl rfl
theorem wM_L_41 : (Jvm.Cond.methodLink "PictureDeskLaw" (41 : Nat) ({ cls := "PictureDeskModel", name := "cloud", desc := "(IIZ)I" } : Jvm.MethodName)) ∈ tbl := tb_4 91 rfl rfl
theorem wI_X10_cloud : (Jvm.Cond.instanceMethod ({ cls := "PictureDeskModel", name := "cloud", desc := "(IIZ)I" } : Jvm.MethodName)) ∈ tbl := tb_4 92 rfl rfl
theorem wS_X10_cloud : (Jvm.Cond.selects "PictureDeskModel" ({ cls := "PictureDeskModel", name := "cloud", desc := "(IIZ)I" } : Jvm.MethodName) ({ cls := "PictureDeskModel", name := "cloud", desc := "(IIZ)I" } : Jvm.MethodName)) ∈ tbl := tb_4 93 rfl rfl
theorem wC_X10_cloud : (Jvm.Cond.code ({ cls := "PictureDeskModel", name := "cloud", desc := "(IIZ)I" } : Jvm.MethodName) prog_12_method_16_code (5 : Nat) (Option.some Jvm.ClassFile.FieldType.int)) ∈ tbl := tb_4 94 rfl rfl
theorem wM_X10_67 : (Jvm.Cond.methodLink "PictureDeskModel" (67 : Nat) ({ cls := "PictureDeskModel", name := "isPicture", desc := "(I)Z" } : Jvm.MethodName)) ∈ tbl := tb_4 95 rfl rfl
theorem wI_X10_isPicture : (Jvm.Cond.instanceMethod ({ cls := "PictureDeskModel", name := "isPicture", desc := "(I)Z" } : Jvm.MethodName)) ∈ tbl := tb_4 97 rfl rfl
theorem wC_X10_isPicture : (Jvm.Cond.code ({ cls := "PictureDeskModel", name := "isPicture", desc := "(I)Z" } : Jvm.MethodName) prog_12_method_7_code (2 : Nat) (Option.some Jvm.ClassFile.FieldType.boolean)) ∈ tbl := tb_4 98 rfl rfl
theorem wM_L_45 : (Jvm.Cond.methodLink "PictureDeskLaw" (45 : Nat) ({ cls := "PictureDeskModel", name := "shows", desc := "(II)I" } : Jvm.MethodName)) ∈ tbl := tb_4 99 rfl rfl
theorem wI_X10_shows : (Jvm.Cond.instanceMethod ({ cls := "PictureDeskModel", name := "shows", desc := "(II)I" } : Jvm.MethodName)) ∈ tbl := tb_4 100 rfl rfl
theorem wS_X10_shows : (Jvm.Cond.selects "PictureDeskModel" ({ cls := "PictureDeskModel", name := "shows", desc := "(II)I" } : Jvm.MethodName) ({ cls := "PictureDeskModel", name := "shows", desc := "(II)I" } : Jvm.MethodName)) ∈ tbl := tb_4 101 rfl rfl
theorem wC_X10_shows : (Jvm.Cond.code ({ cls := "PictureDeskModel", name := "shows", desc := "(II)I" } : Jvm.MethodName) prog_12_method_19_code (3 : Nat) (Option.some Jvm.ClassFile.FieldType.int)) ∈ tbl := tb_4 102 rfl rfl
theorem wM_X10_73 : (Jvm.Cond.methodLink "PictureDeskModel" (73 : Nat) ({ cls := "PictureDeskModel", name := "showsOf", desc := "(II)I" } : Jvm.MethodName)) ∈ tbl := tb_4 103 rfl rfl
theorem wI_X10_showsOf : (Jvm.Cond.instanceMethod ({ cls := "PictureDeskModel", name := "showsOf", desc := "(II)I" } : Jvm.MethodName)) ∈ tbl := tb_4 105 rfl rfl
theorem wC_X10_showsOf : (Jvm.Cond.code ({ cls := "PictureDeskModel", name := "showsOf", desc := "(II)I" } : Jvm.MethodName) prog_12_method_18_code (15 : Nat) (Option.some Jvm.ClassFile.FieldType.int)) ∈ tbl := tb_4 106 rfl rfl
theorem wM_X10_70 : (Jvm.Cond.methodLink "PictureDeskModel" (70 : Nat) ({ cls := "PictureDeskModel", name := "covers", desc := "(II)Z" } : Jvm.MethodName)) ∈ tbl := tb_4 107 rfl rfl
theorem wI_X10_covers : (Jvm.Cond.instanceMethod ({ cls := "PictureDeskModel", name := "covers", desc := "(II)Z" } : Jvm.MethodName)) ∈ tbl := tb_4 109 rfl rfl
theorem wC_X10_covers : (Jvm.Cond.code ({ cls := "PictureDeskModel", name := "covers", desc := "(II)Z" } : Jvm.MethodName) prog_12_method_17_code (3 : Nat) (Option.some Jvm.ClassFile.FieldType.boolean)) ∈ tbl := tb_4 110 rfl rfl
theorem wM_L_49 : (Jvm.Cond.methodLink "PictureDeskLaw" (49 : Nat) ({ cls := "PictureDeskModel", name := "count", desc := "(II)I" } : Jvm.MethodName)) ∈ tbl := tb_4 111 rfl rfl
theorem wI_X10_count : (Jvm.Cond.instanceMethod ({ cls := "PictureDeskModel", name := "count", desc := "(II)I" } : Jvm.MethodName)) ∈ tbl := tb_4 112 rfl rfl
theorem wS_X10_count : (Jvm.Cond.selects "PictureDeskModel" ({ cls := "PictureDeskModel", name := "count", desc := "(II)I" } : Jvm.MethodName) ({ cls := "PictureDeskModel", name := "count", desc := "(II)I" } : Jvm.MethodName)) ∈ tbl := tb_4 113 rfl rfl
theorem wC_X10_count : (Jvm.Cond.code ({ cls := "PictureDeskModel", name := "count", desc := "(II)I" } : Jvm.MethodName) prog_12_method_20_code (7 : Nat) (Option.some Jvm.ClassFile.FieldType.int)) ∈ tbl := tb_4 114 rfl rfl
theorem wM_L_53 : (Jvm.Cond.methodLink "PictureDeskLaw" (53 : Nat) ({ cls := "PictureDeskModel", name := "span", desc := "(III)I" } : Jvm.MethodName)) ∈ tbl := tb_4 115 rfl rfl
theorem wI_X10_span : (Jvm.Cond.instanceMethod ({ cls := "PictureDeskModel", name := "span", desc := "(III)I" } : Jvm.MethodName)) ∈ tbl := tb_4 116 rfl rfl
theorem wS_X10_span : (Jvm.Cond.selects "PictureDeskModel" ({ cls := "PictureDeskModel", name := "span", desc := "(III)I" } : Jvm.MethodName) ({ cls := "PictureDeskModel", name := "span", desc := "(III)I" } : Jvm.MethodName)) ∈ tbl := tb_4 117 rfl rfl
theorem wC_X10_span : (Jvm.Cond.code ({ cls := "PictureDeskModel", name := "span", desc := "(III)I" } : Jvm.MethodName) prog_12_method_21_code (7 : Nat) (Option.some Jvm.ClassFile.FieldType.int)) ∈ tbl := tb_4 118 rfl rfl
theorem wM_X10_77 : (Jvm.Cond.methodLink "PictureDeskModel" (77 : Nat) ({ cls := "PictureDeskModel", name := "isPart", desc := "(I)Z" } : Jvm.MethodName)) ∈ tbl := tb_4 119 rfl rfl
theorem wT_X10_isPart : (Jvm.Cond.static ({ cls := "PictureDeskModel", name := "isPart", desc := "(I)Z" } : Jvm.MethodName)) ∈ tbl := tb_4 120 rfl rfl
theorem wC_X10_isPart : (Jvm.Cond.code ({ cls := "PictureDeskModel", name := "isPart", desc := "(I)Z" } : Jvm.MethodName) prog_12_method_5_code (1 : Nat) (Option.some Jvm.ClassFile.FieldType.boolean)) ∈ tbl := tb_4 121 rfl rfl
theorem wM_L_57 : (Jvm.Cond.methodLink "PictureDeskLaw" (57 : Nat) ({ cls := "PictureDeskModel", name := "changed", desc := "(III)I" } : Jvm.MethodName)) ∈ tbl := tb_4 122 rfl rfl
theorem wI_X10_changed : (Jvm.Cond.instanceMethod ({ cls := "PictureDeskModel", name := "changed", desc := "(III)I" } : Jvm.MethodName)) ∈ tbl := tb_4 123 rfl rfl
theorem wS_X10_changed : (Jvm.Cond.selects "PictureDeskModel" ({ cls := "PictureDeskModel", name := "changed", desc := "(III)I" } : Jvm.MethodName) ({ cls := "PictureDeskModel", name := "changed", desc := "(III)I" } : Jvm.MethodName)) ∈ tbl := tb_4 124 rfl rfl
theorem wC_X10_changed : (Jvm.Cond.code ({ cls := "PictureDeskModel", name := "changed", desc := "(III)I" } : Jvm.MethodName) prog_12_method_22_code (10 : Nat) (Option.some Jvm.ClassFile.FieldType.int)) ∈ tbl := tb_4 125 rfl rfl
theorem wM_L_62 : (Jvm.Cond.methodLink "PictureDeskLaw" (62 : Nat) ({ cls := "PictureDeskModel", name := "say", desc := "(I)I" } : Jvm.MethodName)) ∈ tbl := tb_4 126 rfl rfl
theorem wI_X10_say : (Jvm.Cond.instanceMethod ({ cls := "PictureDeskModel", name := "say", desc := "(I)I" } : Jvm.MethodName)) ∈ tbl := tb_4 127 rfl rfl
theorem wS_X10_say : (Jvm.Cond.selects "PictureDeskModel" ({ cls := "PictureDeskModel", name := "say", desc := "(I)I" } : Jvm.MethodName) ({ cls := "PictureDeskModel", name := "say", desc := "(I)I" } : Jvm.MethodName)) ∈ tbl := tb_4 128 rfl rfl
theorem wC_X10_say : (Jvm.Cond.code ({ cls := "PictureDeskModel", name := "say", desc := "(I)I" } : Jvm.MethodName) prog_12_method_23_code (2 : Nat) (Option.some Jvm.ClassFile.FieldType.int)) ∈ tbl := tb_4 129 rfl rfl
theorem wM_L_67 : (Jvm.Cond.methodLink "PictureDeskLaw" (67 : Nat) ({ cls := "PictureDeskModel", name := "wipe", desc := "()I" } : Jvm.MethodName)) ∈ tbl := tb_4 130 rfl rfl
theorem wI_X10_wipe : (Jvm.Cond.instanceMethod ({ cls := "PictureDeskModel", name := "wipe", desc := "()I" } : Jvm.MethodName)) ∈ tbl := tb_4 131 rfl rfl
theorem wS_X10_wipe : (Jvm.Cond.selects "PictureDeskModel" ({ cls := "PictureDeskModel", name := "wipe", desc := "()I" } : Jvm.MethodName) ({ cls := "PictureDeskModel", name := "wipe", desc := "()I" } : Jvm.MethodName)) ∈ tbl := tb_4 132 rfl rfl
theorem wC_X10_wipe : (Jvm.Cond.code ({ cls := "PictureDeskModel", name := "wipe", desc := "()I" } : Jvm.MethodName) prog_12_method_24_code (2 : Nat) (Option.some Jvm.ClassFile.FieldType.int)) ∈ tbl := tb_4 133 rfl rfl
theorem wM_L_71 : (Jvm.Cond.methodLink "PictureDeskLaw" (71 : Nat) ({ cls := "PictureDeskModel", name := "fault", desc := "()I" } : Jvm.MethodName)) ∈ tbl := tb_4 134 rfl rfl
theorem wI_X10_fault : (Jvm.Cond.instanceMethod ({ cls := "PictureDeskModel", name := "fault", desc := "()I" } : Jvm.MethodName)) ∈ tbl := tb_4 135 rfl rfl
theorem wS_X10_fault : (Jvm.Cond.selects "PictureDeskModel" ({ cls := "PictureDeskModel", name := "fault", desc := "()I" } : Jvm.MethodName) ({ cls := "PictureDeskModel", name := "fault", desc := "()I" } : Jvm.MethodName)) ∈ tbl := tb_4 136 rfl rfl
theorem wC_X10_fault : (Jvm.Cond.code ({ cls := "PictureDeskModel", name := "fault", desc := "()I" } : Jvm.MethodName) prog_12_method_26_code (1 : Nat) (Option.some Jvm.ClassFile.FieldType.int)) ∈ tbl := tb_4 137 rfl rfl
theorem wM_X10_83 : (Jvm.Cond.methodLink "PictureDeskModel" (83 : Nat) ({ cls := "PictureDeskModel", name := "faultOf", desc := "()I" } : Jvm.MethodName)) ∈ tbl := tb_4 138 rfl rfl
theorem wI_X10_faultOf : (Jvm.Cond.instanceMethod ({ cls := "PictureDeskModel", name := "faultOf", desc := "()I" } : Jvm.MethodName)) ∈ tbl := tb_4 140 rfl rfl
theorem wC_X10_faultOf : (Jvm.Cond.code ({ cls := "PictureDeskModel", name := "faultOf", desc := "()I" } : Jvm.MethodName) prog_12_method_25_code (6 : Nat) (Option.some Jvm.ClassFile.FieldType.int)) ∈ tbl := tb_4 141 rfl rfl
theorem wM_L_75 : (Jvm.Cond.methodLink "PictureDeskLaw" (75 : Nat) ({ cls := "PictureDeskModel", name := "use", desc := "(I)I" } : Jvm.MethodName)) ∈ tbl := tb_4 142 rfl rfl
theorem wI_X10_use : (Jvm.Cond.instanceMethod ({ cls := "PictureDeskModel", name := "use", desc := "(I)I" } : Jvm.MethodName)) ∈ tbl := tb_4 143 rfl rfl
theorem wS_X10_use : (Jvm.Cond.selects "PictureDeskModel" ({ cls := "PictureDeskModel", name := "use", desc := "(I)I" } : Jvm.MethodName) ({ cls := "PictureDeskModel", name := "use", desc := "(I)I" } : Jvm.MethodName)) ∈ tbl := tb_4 144 rfl rfl
theorem wC_X10_use : (Jvm.Cond.code ({ cls := "PictureDeskModel", name := "use", desc := "(I)I" } : Jvm.MethodName) prog_12_method_27_code (4 : Nat) (Option.some Jvm.ClassFile.FieldType.int)) ∈ tbl := tb_4 145 rfl rfl
theorem wM_L_79 : (Jvm.Cond.methodLink "PictureDeskLaw" (79 : Nat) ({ cls := "PictureDeskModel", name := "fact", desc := "(III)I" } : Jvm.MethodName)) ∈ tbl := tb_4 146 rfl rfl
theorem wI_X10_fact : (Jvm.Cond.instanceMethod ({ cls := "PictureDeskModel", name := "fact", desc := "(III)I" } : Jvm.MethodName)) ∈ tbl := tb_4 147 rfl rfl
theorem wS_X10_fact : (Jvm.Cond.selects "PictureDeskModel" ({ cls := "PictureDeskModel", name := "fact", desc := "(III)I" } : Jvm.MethodName) ({ cls := "PictureDeskModel", name := "fact", desc := "(III)I" } : Jvm.MethodName)) ∈ tbl := tb_4 148 rfl rfl
theorem wC_X10_fact : (Jvm.Cond.code ({ cls := "PictureDeskModel", name := "fact", desc := "(III)I" } : Jvm.MethodName) prog_12_method_34_code (4 : Nat) (Option.some Jvm.ClassFile.FieldType.int)) ∈ tbl := tb_4 149 rfl rfl
theorem wM_X10_103 : (Jvm.Cond.methodLink "PictureDeskModel" (103 : Nat) ({ cls := "PictureDeskModel", name := "factOf", desc := "(III)I" } : Jvm.MethodName)) ∈ tbl := tb_4 150 rfl rfl
theorem wI_X10_factOf : (Jvm.Cond.instanceMethod ({ cls := "PictureDeskModel", name := "factOf", desc := "(III)I" } : Jvm.MethodName)) ∈ tbl := tb_4 152 rfl rfl
theorem wC_X10_factOf : (Jvm.Cond.code ({ cls := "PictureDeskModel", name := "factOf", desc := "(III)I" } : Jvm.MethodName) prog_12_method_33_code (5 : Nat) (Option.some Jvm.ClassFile.FieldType.int)) ∈ tbl := tb_4 153 rfl rfl
theorem wM_X10_97 : (Jvm.Cond.methodLink "PictureDeskModel" (97 : Nat) ({ cls := "PictureDeskModel", name := "nearOf", desc := "(III)I" } : Jvm.MethodName)) ∈ tbl := tb_4 154 rfl rfl
theorem wI_X10_nearOf : (Jvm.Cond.instanceMethod ({ cls := "PictureDeskModel", name := "nearOf", desc := "(III)I" } : Jvm.MethodName)) ∈ tbl := tb_4 156 rfl rfl
theorem wC_X10_nearOf : (Jvm.Cond.code ({ cls := "PictureDeskModel", name := "nearOf", desc := "(III)I" } : Jvm.MethodName) prog_12_method_32_code (8 : Nat) (Option.some Jvm.ClassFile.FieldType.int)) ∈ tbl := tb_4 157 rfl rfl
theorem wM_X10_94 : (Jvm.Cond.methodLink "PictureDeskModel" (94 : Nat) ({ cls := "PictureDeskModel", name := "farOf", desc := "(II)I" } : Jvm.MethodName)) ∈ tbl := tb_4 158 rfl rfl
theorem wI_X10_farOf : (Jvm.Cond.instanceMethod ({ cls := "PictureDeskModel", name := "farOf", desc := "(II)I" } : Jvm.MethodName)) ∈ tbl := tb_4 160 rfl rfl
theorem wC_X10_farOf : (Jvm.Cond.code ({ cls := "PictureDeskModel", name := "farOf", desc := "(II)I" } : Jvm.MethodName) prog_12_method_31_code (5 : Nat) (Option.some Jvm.ClassFile.FieldType.int)) ∈ tbl := tb_4 161 rfl rfl
theorem wM_X10_90 : (Jvm.Cond.methodLink "PictureDeskModel" (90 : Nat) ({ cls := "PictureDeskModel", name := "isShown", desc := "(IIIIZ)Z" } : Jvm.MethodName)) ∈ tbl := tb_4 162 rfl rfl
theorem wI_X10_isShown : (Jvm.Cond.instanceMethod ({ cls := "PictureDeskModel", name := "isShown", desc := "(IIIIZ)Z" } : Jvm.MethodName)) ∈ tbl := tb_4 164 rfl rfl
theorem wC_X10_isShown : (Jvm.Cond.code ({ cls := "PictureDeskModel", name := "isShown", desc := "(IIIIZ)Z" } : Jvm.MethodName) prog_12_method_29_code (8 : Nat) (Option.some Jvm.ClassFile.FieldType.boolean)) ∈ tbl := tb_4 165 rfl rfl
theorem wM_X10_87 : (Jvm.Cond.methodLink "PictureDeskModel" (87 : Nat) ({ cls := "PictureDeskModel", name := "isSeen", desc := "(II)Z" } : Jvm.MethodName)) ∈ tbl := tb_4 166 rfl rfl
theorem wI_X10_isSeen : (Jvm.Cond.instanceMethod ({ cls := "PictureDeskModel", name := "isSeen", desc := "(II)Z" } : Jvm.MethodName)) ∈ tbl := tb_4 168 rfl rfl
theorem wC_X10_isSeen : (Jvm.Cond.code ({ cls := "PictureDeskModel", name := "isSeen", desc := "(II)Z" } : Jvm.MethodName) prog_12_method_28_code (3 : Nat) (Option.some Jvm.ClassFile.FieldType.boolean)) ∈ tbl := tb_4 169 rfl rfl
theorem wM_X10_100 : (Jvm.Cond.methodLink "PictureDeskModel" (100 : Nat) ({ cls := "PictureDeskModel", name := "shownOf", desc := "(II)I" } : Jvm.MethodName)) ∈ tbl := tb_4 170 rfl rfl
theorem wI_X10_shownOf : (Jvm.Cond.instanceMethod ({ cls := "PictureDeskModel", name := "shownOf", desc := "(II)I" } : Jvm.MethodName)) ∈ tbl := tb_4 172 rfl rfl
theorem wC_X10_shownOf : (Jvm.Cond.code ({ cls := "PictureDeskModel", name := "shownOf", desc := "(II)I" } : Jvm.MethodName) prog_12_method_30_code (5 : Nat) (Option.some Jvm.ClassFile.FieldType.int)) ∈ tbl := tb_4 173 rfl rfl
theorem wM_L_83 : (Jvm.Cond.methodLink "PictureDeskLaw" (83 : Nat) ({ cls := "PictureDeskModel", name := "fit", desc := "(III)I" } : Jvm.MethodName)) ∈ tbl := tb_4 174 rfl rfl
theorem wI_X10_fit : (Jvm.Cond.instanceMethod ({ cls := "PictureDeskModel", name := "fit", desc := "(III)I" } : Jvm.MethodName)) ∈ tbl := tb_4 175 rfl rfl
theorem wS_X10_fit : (Jvm.Cond.selects "PictureDeskModel" ({ cls := "PictureDeskModel", name := "fit", desc := "(III)I" } : Jvm.MethodName) ({ cls := "PictureDeskModel", name := "fit", desc := "(III)I" } : Jvm.MethodName)) ∈ tbl := tb_4 176 rfl rfl
theorem wC_X10_fit : (Jvm.Cond.code ({ cls := "PictureDeskModel", name := "fit", desc := "(III)I" } : Jvm.MethodName) prog_12_method_37_code (4 : Nat) (Option.some Jvm.ClassFile.FieldType.int)) ∈ tbl := tb_4 177 rfl rfl
theorem wM_X10_106 : (Jvm.Cond.methodLink "PictureDeskModel" (106 : Nat) ({ cls := "PictureDeskModel", name := "isUse", desc := "(I)Z" } : Jvm.MethodName)) ∈ tbl := tb_4 178 rfl rfl
theorem wI_X10_isUse : (Jvm.Cond.instanceMethod ({ cls := "PictureDeskModel", name := "isUse", desc := "(I)Z" } : Jvm.MethodName)) ∈ tbl := tb_4 180 rfl rfl
theorem wC_X10_isUse : (Jvm.Cond.code ({ cls := "PictureDeskModel", name := "isUse", desc := "(I)Z" } : Jvm.MethodName) prog_12_method_36_code (2 : Nat) (Option.some Jvm.ClassFile.FieldType.boolean)) ∈ tbl := tb_4 181 rfl rfl
theorem wM_X10_109 : (Jvm.Cond.methodLink "PictureDeskModel" (109 : Nat) ({ cls := "PictureDeskModel", name := "fitOf", desc := "(III)I" } : Jvm.MethodName)) ∈ tbl := tb_4 182 rfl rfl
theorem wI_X10_fitOf : (Jvm.Cond.instanceMethod ({ cls := "PictureDeskModel", name := "fitOf", desc := "(III)I" } : Jvm.MethodName)) ∈ tbl := tb_4 184 rfl rfl
theorem wC_X10_fitOf : (Jvm.Cond.code ({ cls := "PictureDeskModel", name := "fitOf", desc := "(III)I" } : Jvm.MethodName) prog_12_method_35_code (14 : Nat) (Option.some Jvm.ClassFile.FieldType.int)) ∈ tbl := tb_4 185 rfl rfl
theorem wM_L_87 : (Jvm.Cond.methodLink "PictureDeskLaw" (87 : Nat) ({ cls := "PictureDeskModel", name := "could", desc := "(II)I" } : Jvm.MethodName)) ∈ tbl := tb_4 186 rfl rfl
theorem wI_X10_could : (Jvm.Cond.instanceMethod ({ cls := "PictureDeskModel", name := "could", desc := "(II)I" } : Jvm.MethodName)) ∈ tbl := tb_4 187 rfl rfl
theorem wS_X10_could : (Jvm.Cond.selects "PictureDeskModel" ({ cls := "PictureDeskModel", name := "could", desc := "(II)I" } : Jvm.MethodName) ({ cls := "PictureDeskModel", name := "could", desc := "(II)I" } : Jvm.MethodName)) ∈ tbl := tb_4 188 rfl rfl
theorem wC_X10_could : (Jvm.Cond.code ({ cls := "PictureDeskModel", name := "could", desc := "(II)I" } : Jvm.MethodName) prog_12_method_38_code (6 : Nat) (Option.some Jvm.ClassFile.FieldType.int)) ∈ tbl := tb_4 189 rfl rfl
theorem wM_L_91 : (Jvm.Cond.methodLink "PictureDeskLaw" (91 : Nat) ({ cls := "PictureDeskModel", name := "all", desc := "(III)I" } : Jvm.MethodName)) ∈ tbl := tb_4 190 rfl rfl
theorem wI_X10_all : (Jvm.Cond.instanceMethod ({ cls := "PictureDeskModel", name := "all", desc := "(III)I" } : Jvm.MethodName)) ∈ tbl := tb_4 191 rfl rfl
theorem wS_X10_all : (Jvm.Cond.selects "PictureDeskModel" ({ cls := "PictureDeskModel", name := "all", desc := "(III)I" } : Jvm.MethodName) ({ cls := "PictureDeskModel", name := "all", desc := "(III)I" } : Jvm.MethodName)) ∈ tbl := tb_4 192 rfl rfl
theorem wC_X10_all : (Jvm.Cond.code ({ cls := "PictureDeskModel", name := "all", desc := "(III)I" } : Jvm.MethodName) prog_12_method_39_code (6 : Nat) (Option.some Jvm.ClassFile.FieldType.int)) ∈ tbl := tb_4 193 rfl rfl
theorem wM_L_95 : (Jvm.Cond.methodLink "PictureDeskLaw" (95 : Nat) ({ cls := "PictureDeskModel", name := "meet", desc := "(II)I" } : Jvm.MethodName)) ∈ tbl := tb_4 194 rfl rfl
theorem wI_X10_meet : (Jvm.Cond.instanceMethod ({ cls := "PictureDeskModel", name := "meet", desc := "(II)I" } : Jvm.MethodName)) ∈ tbl := tb_4 195 rfl rfl
theorem wS_X10_meet : (Jvm.Cond.selects "PictureDeskModel" ({ cls := "PictureDeskModel", name := "meet", desc := "(II)I" } : Jvm.MethodName) ({ cls := "PictureDeskModel", name := "meet", desc := "(II)I" } : Jvm.MethodName)) ∈ tbl := tb_4 196 rfl rfl
theorem wC_X10_meet : (Jvm.Cond.code ({ cls := "PictureDeskModel", name := "meet", desc := "(II)I" } : Jvm.MethodName) prog_12_method_45_code (4 : Nat) (Option.some Jvm.ClassFile.FieldType.int)) ∈ tbl := tb_4 197 rfl rfl
theorem wM_X10_128 : (Jvm.Cond.methodLink "PictureDeskModel" (128 : Nat) ({ cls := "PictureDeskModel", name := "meetOf", desc := "(I)I" } : Jvm.MethodName)) ∈ tbl := tb_4 198 rfl rfl
theorem wI_X10_meetOf : (Jvm.Cond.instanceMethod ({ cls := "PictureDeskModel", name := "meetOf", desc := "(I)I" } : Jvm.MethodName)) ∈ tbl := tb_4 200 rfl rfl
theorem wC_X10_meetOf : (Jvm.Cond.code ({ cls := "PictureDeskModel", name := "meetOf", desc := "(I)I" } : Jvm.MethodName) prog_12_method_44_code (6 : Nat) (Option.some Jvm.ClassFile.FieldType.int)) ∈ tbl := tb_4 201 rfl rfl
theorem wM_X10_122 : (Jvm.Cond.methodLink "PictureDeskModel" (122 : Nat) ({ cls := "PictureDeskModel", name := "faces", desc := "(II)Z" } : Jvm.MethodName)) ∈ tbl := tb_4 202 rfl rfl
theorem wI_X10_faces : (Jvm.Cond.instanceMethod ({ cls := "PictureDeskModel", name := "faces", desc := "(II)Z" } : Jvm.MethodName)) ∈ tbl := tb_4 204 rfl rfl
theorem wC_X10_faces : (Jvm.Cond.code ({ cls := "PictureDeskModel", name := "faces", desc := "(II)Z" } : Jvm.MethodName) prog_12_method_42_code (3 : Nat) (Option.some Jvm.ClassFile.FieldType.boolean)) ∈ tbl := tb_4 205 rfl rfl
theorem wM_X10_125 : (Jvm.Cond.methodLink "PictureDeskModel" (125 : Nat) ({ cls := "PictureDeskModel", name := "isOn", desc := "(III)Z" } : Jvm.MethodName)) ∈ tbl := tb_4 206 rfl rfl
theorem wI_X10_isOn : (Jvm.Cond.instanceMethod ({ cls := "PictureDeskModel", name := "isOn", desc := "(III)Z" } : Jvm.MethodName)) ∈ tbl := tb_4 208 rfl rfl
theorem wC_X10_isOn : (Jvm.Cond.code ({ cls := "PictureDeskModel", name := "isOn", desc := "(III)Z" } : Jvm.MethodName) prog_12_method_43_code (7 : Nat) (Option.some Jvm.ClassFile.FieldType.boolean)) ∈ tbl := tb_4 209 rfl rfl
theorem wM_X10_112 : (Jvm.Cond.methodLink "PictureDeskModel" (112 : Nat) ({ cls := "PictureDeskModel", name := "eastOf", desc := "(I)I" } : Jvm.MethodName)) ∈ tbl := tb_4 210 rfl rfl
theorem wT_X10_eastOf : (Jvm.Cond.static ({ cls := "PictureDeskModel", name := "eastOf", desc := "(I)I" } : Jvm.MethodName)) ∈ tbl := tb_4 211 rfl rfl
theorem wC_X10_eastOf : (Jvm.Cond.code ({ cls := "PictureDeskModel", name := "eastOf", desc := "(I)I" } : Jvm.MethodName) prog_12_method_40_code (1 : Nat) (Option.some Jvm.ClassFile.FieldType.int)) ∈ tbl := tb_4 212 rfl rfl
theorem wM_X10_116 : (Jvm.Cond.methodLink "PictureDeskModel" (116 : Nat) ({ cls := "PictureDeskModel", name := "southOf", desc := "(I)I" } : Jvm.MethodName)) ∈ tbl := tb_4 213 rfl rfl
theorem wT_X10_southOf : (Jvm.Cond.static ({ cls := "PictureDeskModel", name := "southOf", desc := "(I)I" } : Jvm.MethodName)) ∈ tbl := tb_4 214 rfl rfl
theorem wC_X10_southOf : (Jvm.Cond.code ({ cls := "PictureDeskModel", name := "southOf", desc := "(I)I" } : Jvm.MethodName) prog_12_method_41_code (1 : Nat) (Option.some Jvm.ClassFile.FieldType.int)) ∈ tbl := tb_4 215 rfl rfl
theorem wM_L_100 : (Jvm.Cond.methodLink "PictureDeskLaw" (100 : Nat) ({ cls := "PictureDeskModel", name := "chance", desc := "(II)J" } : Jvm.MethodName)) ∈ tbl := tb_4 216 rfl rfl
theorem wI_X10_chance : (Jvm.Cond.instanceMethod ({ cls := "PictureDeskModel", name := "chance", desc := "(II)J" } : Jvm.MethodName)) ∈ tbl := tb_4 217 rfl rfl
theorem wS_X10_chance : (Jvm.Cond.selects "PictureDeskModel" ({ cls := "PictureDeskModel", name := "chance", desc := "(II)J" } : Jvm.MethodName) ({ cls := "PictureDeskModel", name := "chance", desc := "(II)J" } : Jvm.MethodName)) ∈ tbl := tb_4 218 rfl rfl
theorem wC_X10_chance : (Jvm.Cond.code ({ cls := "PictureDeskModel", name := "chance", desc := "(II)J" } : Jvm.MethodName) prog_12_method_47_code (12 : Nat) (Option.some Jvm.ClassFile.FieldType.long)) ∈ tbl := tb_4 219 rfl rfl
theorem wJ_X10_131 : (Jvm.Cond.constantLong "PictureDeskModel" (131 : Nat) (-1000000000000000002 : Int64)) ∈ tbl := tb_4 220 rfl rfl
theorem wJ_X10_133 : (Jvm.Cond.constantLong "PictureDeskModel" (133 : Nat) (-1000000000000000003 : Int64)) ∈ tbl := tb_4 221 rfl rfl
theorem wJ_X10_135 : (Jvm.Cond.constantLong "PictureDeskModel" (135 : Nat) (8 : Int64)) ∈ tbl := tb_4 222 rfl rfl
theorem wM_X10_137 : (Jvm.Cond.methodLink "PictureDeskModel" (137 : Nat) ({ cls := "PictureDeskModel", name := "term", desc := "(JJI)J" } : Jvm.MethodName)) ∈ tbl := tb_4 223 rfl rfl
theorem wT_X10_term : (Jvm.Cond.static ({ cls := "PictureDeskModel", name := "term", desc := "(JJI)J" } : Jvm.MethodName)) ∈ tbl := tb_4 224 rfl rfl
theorem wC_X10_term : (Jvm.Cond.code ({ cls := "PictureDeskModel", name := "term", desc := "(JJI)J" } : Jvm.MethodName) prog_12_method_46_code (11 : Nat) (Option.some Jvm.ClassFile.FieldType.long)) ∈ tbl := tb_4 225 rfl rfl
theorem wM_L_104 : (Jvm.Cond.methodLink "PictureDeskLaw" (104 : Nat) ({ cls := "PictureDeskModel", name := "did", desc := "(IIZ)I" } : Jvm.MethodName)) ∈ tbl := tb_4 226 rfl rfl
theorem wI_X10_did : (Jvm.Cond.instanceMethod ({ cls := "PictureDeskModel", name := "did", desc := "(IIZ)I" } : Jvm.MethodName)) ∈ tbl := tb_4 227 rfl rfl
theorem wS_X10_did : (Jvm.Cond.selects "PictureDeskModel" ({ cls := "PictureDeskModel", name := "did", desc := "(IIZ)I" } : Jvm.MethodName) ({ cls := "PictureDeskModel", name := "did", desc := "(IIZ)I" } : Jvm.MethodName)) ∈ tbl := tb_4 228 rfl rfl
theorem wC_X10_did : (Jvm.Cond.code ({ cls := "PictureDeskModel", name := "did", desc := "(IIZ)I" } : Jvm.MethodName) prog_12_method_48_code (5 : Nat) (Option.some Jvm.ClassFile.FieldType.int)) ∈ tbl := tb_4 229 rfl rfl
theorem wM_L_109 : (Jvm.Cond.methodLink "PictureDeskLaw" (109 : Nat) ({ cls := "PictureDeskModel", name := "decoy", desc := "(IIIII)J" } : Jvm.MethodName)) ∈ tbl := tb_4 230 rfl rfl
theorem wI_X10_decoy : (Jvm.Cond.instanceMethod ({ cls := "PictureDeskModel", name := "decoy", desc := "(IIIII)J" } : Jvm.MethodName)) ∈ tbl := tb_4 231 rfl rfl
theorem wS_X10_decoy : (Jvm.Cond.selects "PictureDeskModel" ({ cls := "PictureDeskModel", name := "decoy", desc := "(IIIII)J" } : Jvm.MethodName) ({ cls := "PictureDeskModel", name := "decoy", desc := "(IIIII)J" } : Jvm.MethodName)) ∈ tbl := tb_4 232 rfl rfl
theorem wC_X10_decoy : (Jvm.Cond.code ({ cls := "PictureDeskModel", name := "decoy", desc := "(IIIII)J" } : Jvm.MethodName) prog_12_method_49_code (12 : Nat) (Option.some Jvm.ClassFile.FieldType.long)) ∈ tbl := tb_4 233 rfl rfl
theorem wJ_X10_141 : (Jvm.Cond.constantLong "PictureDeskModel" (141 : Nat) (-1000000000000000001 : Int64)) ∈ tbl := tb_4 234 rfl rfl
theorem wJ_X10_143 : (Jvm.Cond.constantLong "PictureDeskModel" (143 : Nat) (20 : Int64)) ∈ tbl := tb_4 235 rfl rfl
theorem wM_L_113 : (Jvm.Cond.methodLink "PictureDeskLaw" (113 : Nat) ({ cls := "PictureDeskModel", name := "sure", desc := "(II)I" } : Jvm.MethodName)) ∈ tbl := tb_4 236 rfl rfl
theorem wI_X10_sure : (Jvm.Cond.instanceMethod ({ cls := "PictureDeskModel", name := "sure", desc := "(II)I" } : Jvm.MethodName)) ∈ tbl := tb_4 237 rfl rfl
theorem wS_X10_sure : (Jvm.Cond.selects "PictureDeskModel" ({ cls := "PictureDeskModel", name := "sure", desc := "(II)I" } : Jvm.MethodName) ({ cls := "PictureDeskModel", name := "sure", desc := "(II)I" } : Jvm.MethodName)) ∈ tbl := tb_4 238 rfl rfl
theorem wC_X10_sure : (Jvm.Cond.code ({ cls := "PictureDeskModel", name := "sure", desc := "(II)I" } : Jvm.MethodName) prog_12_method_50_code (8 : Nat) (Option.some Jvm.ClassFile.FieldType.int)) ∈ tbl := tb_4 239 rfl rfl
theorem wJ_X10_145 : (Jvm.Cond.constantLong "PictureDeskModel" (145 : Nat) (100 : Int64)) ∈ tbl := tb_5 0 rfl rfl
theorem wM_L_117 : (Jvm.Cond.methodLink "PictureDeskLaw" (117 : Nat) ({ cls := "PictureDeskModel", name := "flight", desc := "(IIIII)I" } : Jvm.MethodName)) ∈ tbl := tb_5 1 rfl rfl
theorem wI_X10_flight : (Jvm.Cond.instanceMethod ({ cls := "PictureDeskModel", name := "flight", desc := "(IIIII)I" } : Jvm.MethodName)) ∈ tbl := tb_5 2 rfl rfl
theorem wS_X10_flight : (Jvm.Cond.selects "PictureDeskModel" ({ cls := "PictureDeskModel", name := "flight", desc := "(IIIII)I" } : Jvm.MethodName) ({ cls := "PictureDeskModel", name := "flight", desc := "(IIIII)I" } : Jvm.MethodName)) ∈ tbl := tb_5 3 rfl rfl
theorem wC_X10_flight : (Jvm.Cond.code ({ cls := "PictureDeskModel", name := "flight", desc := "(IIIII)I" } : Jvm.MethodName) prog_12_method_51_code (6 : Nat) (Option.some Jvm.ClassFile.FieldType.int)) ∈ tbl := tb_5 4 rfl rfl
theorem wM_L_121 : (Jvm.Cond.methodLink "PictureDeskLaw" (121 : Nat) ({ cls := "PictureDeskModel", name := "worth", desc := "(II)J" } : Jvm.MethodName)) ∈ tbl := tb_5 5 rfl rfl
theorem wI_X10_worth : (Jvm.Cond.instanceMethod ({ cls := "PictureDeskModel", name := "worth", desc := "(II)J" } : Jvm.MethodName)) ∈ tbl := tb_5 6 rfl rfl
theorem wS_X10_worth : (Jvm.Cond.selects "PictureDeskModel" ({ cls := "PictureDeskModel", name := "worth", desc := "(II)J" } : Jvm.MethodName) ({ cls := "PictureDeskModel", name := "worth", desc := "(II)J" } : Jvm.MethodName)) ∈ tbl := tb_5 7 rfl rfl
theorem wC_X10_worth : (Jvm.Cond.code ({ cls := "PictureDeskModel", name := "worth", desc := "(II)J" } : Jvm.MethodName) prog_12_method_53_code (3 : Nat) (Option.some Jvm.ClassFile.FieldType.long)) ∈ tbl := tb_5 8 rfl rfl
theorem wM_X10_151 : (Jvm.Cond.methodLink "PictureDeskModel" (151 : Nat) ({ cls := "PictureDeskModel", name := "worthOf", desc := "(I)J" } : Jvm.MethodName)) ∈ tbl := tb_5 9 rfl rfl
theorem wI_X10_worthOf : (Jvm.Cond.instanceMethod ({ cls := "PictureDeskModel", name := "worthOf", desc := "(I)J" } : Jvm.MethodName)) ∈ tbl := tb_5 11 rfl rfl
theorem wC_X10_worthOf : (Jvm.Cond.code ({ cls := "PictureDeskModel", name := "worthOf", desc := "(I)J" } : Jvm.MethodName) prog_12_method_52_code (9 : Nat) (Option.some Jvm.ClassFile.FieldType.long)) ∈ tbl := tb_5 12 rfl rfl
theorem wJ_X10_147 : (Jvm.Cond.constantLong "PictureDeskModel" (147 : Nat) (10 : Int64)) ∈ tbl := tb_5 13 rfl rfl
theorem wJ_X10_149 : (Jvm.Cond.constantLong "PictureDeskModel" (149 : Nat) (100000000 : Int64)) ∈ tbl := tb_5 14 rfl rfl
theorem wM_L_125 : (Jvm.Cond.methodLink "PictureDeskLaw" (125 : Nat) ({ cls := "PictureDeskModel", name := "best", desc := "(II)I" } : Jvm.MethodName)) ∈ tbl := tb_5 15 rfl rfl
theorem wI_X10_best : (Jvm.Cond.instanceMethod ({ cls := "PictureDeskModel", name := "best", desc := "(II)I" } : Jvm.MethodName)) ∈ tbl := tb_5 16 rfl rfl
theorem wS_X10_best : (Jvm.Cond.selects "PictureDeskModel" ({ cls := "PictureDeskModel", name := "best", desc := "(II)I" } : Jvm.MethodName) ({ cls := "PictureDeskModel", name := "best", desc := "(II)I" } : Jvm.MethodName)) ∈ tbl := tb_5 17 rfl rfl
theorem wC_X10_best : (Jvm.Cond.code ({ cls := "PictureDeskModel", name := "best", desc := "(II)I" } : Jvm.MethodName) prog_12_method_55_code (8 : Nat) (Option.some Jvm.ClassFile.FieldType.int)) ∈ tbl := tb_5 18 rfl rfl
theorem wM_X10_155 : (Jvm.Cond.methodLink "PictureDeskModel" (155 : Nat) ({ cls := "PictureDeskModel", name := "riskOf", desc := "(I)I" } : Jvm.MethodName)) ∈ tbl := tb_5 19 rfl rfl
theorem wI_X10_riskOf : (Jvm.Cond.instanceMethod ({ cls := "PictureDeskModel", name := "riskOf", desc := "(I)I" } : Jvm.MethodName)) ∈ tbl := tb_5 21 rfl rfl
theorem wC_X10_riskOf : (Jvm.Cond.code ({ cls := "PictureDeskModel", name := "riskOf", desc := "(I)I" } : Jvm.MethodName) prog_12_method_54_code (4 : Nat) (Option.some Jvm.ClassFile.FieldType.int)) ∈ tbl := tb_5 22 rfl rfl
theorem wM_L_129 : (Jvm.Cond.methodLink "PictureDeskLaw" (129 : Nat) ({ cls := "PictureDeskModel", name := "lean", desc := "(IIIII)J" } : Jvm.MethodName)) ∈ tbl := tb_5 23 rfl rfl
theorem wI_X10_lean : (Jvm.Cond.instanceMethod ({ cls := "PictureDeskModel", name := "lean", desc := "(IIIII)J" } : Jvm.MethodName)) ∈ tbl := tb_5 24 rfl rfl
theorem wS_X10_lean : (Jvm.Cond.selects "PictureDeskModel" ({ cls := "PictureDeskModel", name := "lean", desc := "(IIIII)J" } : Jvm.MethodName) ({ cls := "PictureDeskModel", name := "lean", desc := "(IIIII)J" } : Jvm.MethodName)) ∈ tbl := tb_5 25 rfl rfl
theorem wC_X10_lean : (Jvm.Cond.code ({ cls := "PictureDeskModel", name := "lean", desc := "(IIIII)J" } : Jvm.MethodName) prog_12_method_57_code (9 : Nat) (Option.some Jvm.ClassFile.FieldType.long)) ∈ tbl := tb_5 26 rfl rfl
theorem wM_X10_158 : (Jvm.Cond.methodLink "PictureDeskModel" (158 : Nat) ({ cls := "PictureDeskModel", name := "choose", desc := "(II)J" } : Jvm.MethodName)) ∈ tbl := tb_5 27 rfl rfl
theorem wT_X10_choose : (Jvm.Cond.static ({ cls := "PictureDeskModel", name := "choose", desc := "(II)J" } : Jvm.MethodName)) ∈ tbl := tb_5 28 rfl rfl
theorem wC_X10_choose : (Jvm.Cond.code ({ cls := "PictureDeskModel", name := "choose", desc := "(II)J" } : Jvm.MethodName) prog_12_method_56_code (5 : Nat) (Option.some Jvm.ClassFile.FieldType.long)) ∈ tbl := tb_5 29 rfl rfl
theorem wM_L_133 : (Jvm.Cond.methodLink "PictureDeskLaw" (133 : Nat) ({ cls := "PictureDeskModel", name := "told", desc := "(I)I" } : Jvm.MethodName)) ∈ tbl := tb_5 30 rfl rfl
theorem wI_X10_told : (Jvm.Cond.instanceMethod ({ cls := "PictureDeskModel", name := "told", desc := "(I)I" } : Jvm.MethodName)) ∈ tbl := tb_5 31 rfl rfl
theorem wS_X10_told : (Jvm.Cond.selects "PictureDeskModel" ({ cls := "PictureDeskModel", name := "told", desc := "(I)I" } : Jvm.MethodName) ({ cls := "PictureDeskModel", name := "told", desc := "(I)I" } : Jvm.MethodName)) ∈ tbl := tb_5 32 rfl rfl
theorem wC_X10_told : (Jvm.Cond.code ({ cls := "PictureDeskModel", name := "told", desc := "(I)I" } : Jvm.MethodName) prog_12_method_58_code (4 : Nat) (Option.some Jvm.ClassFile.FieldType.int)) ∈ tbl := tb_5 33 rfl rfl
theorem wS_X3_lay : (Jvm.Cond.selects "PictureDesk$Land" ({ cls := "PictureDesk$Land", name := "lay", desc := "(LPictureDesk$Thing;[I)V" } : Jvm.MethodName) ({ cls := "PictureDesk$Land", name := "lay", desc := "(LPictureDesk$Thing;[I)V" } : Jvm.MethodName)) ∈ tbl := tb_0 0 rfl rfl
theorem wS_X5_shadowOf : (Jvm.Cond.selects "PictureDesk$Picture" ({ cls := "PictureDesk$Picture", name := "shadowOf", desc := "(I)I" } : Jvm.MethodName) ({ cls := "PictureDesk$Picture", name := "shadowOf", desc := "(I)I" } : Jvm.MethodName)) ∈ tbl := tb_0 1 rfl rfl
theorem wS_X5_castShadow : (Jvm.Cond.selects "PictureDesk$Picture" ({ cls := "PictureDesk$Picture", name := "castShadow", desc := "(II)V" } : Jvm.MethodName) ({ cls := "PictureDesk$Picture", name := "castShadow", desc := "(II)V" } : Jvm.MethodName)) ∈ tbl := tb_0 2 rfl rfl
theorem wS_X5_isUnlike : (Jvm.Cond.selects "PictureDesk$Picture" ({ cls := "PictureDesk$Picture", name := "isUnlike", desc := "(LPictureDesk$Picture;I)Z" } : Jvm.MethodName) ({ cls := "PictureDesk$Picture", name := "isUnlike", desc := "(LPictureDesk$Picture;I)Z" } : Jvm.MethodName)) ∈ tbl := tb_0 3 rfl rfl
theorem wS_X1_lookAt : (Jvm.Cond.selects "PictureDesk$Facts" ({ cls := "PictureDesk$Facts", name := "lookAt", desc := "(IILPictureDesk$Thing;LPictureDesk$Album;I)V" } : Jvm.MethodName) ({ cls := "PictureDesk$Facts", name := "lookAt", desc := "(IILPictureDesk$Thing;LPictureDesk$Album;I)V" } : Jvm.MethodName)) ∈ tbl := tb_0 4 rfl rfl
theorem wS_X1_comeNearer : (Jvm.Cond.selects "PictureDesk$Facts" ({ cls := "PictureDesk$Facts", name := "comeNearer", desc := "(II)V" } : Jvm.MethodName) ({ cls := "PictureDesk$Facts", name := "comeNearer", desc := "(II)V" } : Jvm.MethodName)) ∈ tbl := tb_0 5 rfl rfl
theorem wS_X1_ruleOutTheRest : (Jvm.Cond.selects "PictureDesk$Facts" ({ cls := "PictureDesk$Facts", name := "ruleOutTheRest", desc := "()V" } : Jvm.MethodName) ({ cls := "PictureDesk$Facts", name := "ruleOutTheRest", desc := "()V" } : Jvm.MethodName)) ∈ tbl := tb_0 6 rfl rfl
theorem wS_X9_judge : (Jvm.Cond.selects "PictureDesk" ({ cls := "PictureDesk", name := "judge", desc := "(ILPictureDesk$Thing;I)I" } : Jvm.MethodName) ({ cls := "PictureDesk", name := "judge", desc := "(ILPictureDesk$Thing;I)I" } : Jvm.MethodName)) ∈ tbl := tb_0 7 rfl rfl
theorem wS_X8_signOf : (Jvm.Cond.selects "PictureDesk$Uses" ({ cls := "PictureDesk$Uses", name := "signOf", desc := "(II)I" } : Jvm.MethodName) ({ cls := "PictureDesk$Uses", name := "signOf", desc := "(II)I" } : Jvm.MethodName)) ∈ tbl := tb_0 8 rfl rfl
theorem wS_X4_drawFrom : (Jvm.Cond.selects "PictureDesk$Lines" ({ cls := "PictureDesk$Lines", name := "drawFrom", desc := "(LPictureDesk$Thing;)V" } : Jvm.MethodName) ({ cls := "PictureDesk$Lines", name := "drawFrom", desc := "(LPictureDesk$Thing;)V" } : Jvm.MethodName)) ∈ tbl := tb_0 9 rfl rfl
theorem wS_X4_mayCross : (Jvm.Cond.selects "PictureDesk$Lines" ({ cls := "PictureDesk$Lines", name := "mayCross", desc := "(LPictureDesk$Thing;)Z" } : Jvm.MethodName) ({ cls := "PictureDesk$Lines", name := "mayCross", desc := "(LPictureDesk$Thing;)Z" } : Jvm.MethodName)) ∈ tbl := tb_0 10 rfl rfl
theorem wS_X2_weighColumn : (Jvm.Cond.selects "PictureDesk$Flights" ({ cls := "PictureDesk$Flights", name := "weighColumn", desc := "(I)V" } : Jvm.MethodName) ({ cls := "PictureDesk$Flights", name := "weighColumn", desc := "(I)V" } : Jvm.MethodName)) ∈ tbl := tb_0 11 rfl rfl
theorem wS_X2_tenthsMissing : (Jvm.Cond.selects "PictureDesk$Flights" ({ cls := "PictureDesk$Flights", name := "tenthsMissing", desc := "(II)I" } : Jvm.MethodName) ({ cls := "PictureDesk$Flights", name := "tenthsMissing", desc := "(II)I" } : Jvm.MethodName)) ∈ tbl := tb_0 12 rfl rfl
theorem wS_X10_isThing : (Jvm.Cond.selects "PictureDeskModel" ({ cls := "PictureDeskModel", name := "isThing", desc := "(I)Z" } : Jvm.MethodName) ({ cls := "PictureDeskModel", name := "isThing", desc := "(I)Z" } : Jvm.MethodName)) ∈ tbl := tb_0 13 rfl rfl
theorem wS_X10_thingAt : (Jvm.Cond.selects "PictureDeskModel" ({ cls := "PictureDeskModel", name := "thingAt", desc := "(III)I" } : Jvm.MethodName) ({ cls := "PictureDeskModel", name := "thingAt", desc := "(III)I" } : Jvm.MethodName)) ∈ tbl := tb_0 14 rfl rfl
theorem wS_X10_isThere : (Jvm.Cond.selects "PictureDeskModel" ({ cls := "PictureDeskModel", name := "isThere", desc := "(II)Z" } : Jvm.MethodName) ({ cls := "PictureDeskModel", name := "isThere", desc := "(II)Z" } : Jvm.MethodName)) ∈ tbl := tb_0 15 rfl rfl
theorem wS_X10_isOwn : (Jvm.Cond.selects "PictureDeskModel" ({ cls := "PictureDeskModel", name := "isOwn", desc := "(III)Z" } : Jvm.MethodName) ({ cls := "PictureDeskModel", name := "isOwn", desc := "(III)Z" } : Jvm.MethodName)) ∈ tbl := tb_0 16 rfl rfl
theorem wS_X10_isPicture : (Jvm.Cond.selects "PictureDeskModel" ({ cls := "PictureDeskModel", name := "isPicture", desc := "(I)Z" } : Jvm.MethodName) ({ cls := "PictureDeskModel", name := "isPicture", desc := "(I)Z" } : Jvm.MethodName)) ∈ tbl := tb_0 17 rfl rfl
theorem wS_X10_showsOf : (Jvm.Cond.selects "PictureDeskModel" ({ cls := "PictureDeskModel", name := "showsOf", desc := "(II)I" } : Jvm.MethodName) ({ cls := "PictureDeskModel", name := "showsOf", desc := "(II)I" } : Jvm.MethodName)) ∈ tbl := tb_0 18 rfl rfl
theorem wS_X10_covers : (Jvm.Cond.selects "PictureDeskModel" ({ cls := "PictureDeskModel", name := "covers", desc := "(II)Z" } : Jvm.MethodName) ({ cls := "PictureDeskModel", name := "covers", desc := "(II)Z" } : Jvm.MethodName)) ∈ tbl := tb_0 19 rfl rfl
theorem wS_X10_faultOf : (Jvm.Cond.selects "PictureDeskModel" ({ cls := "PictureDeskModel", name := "faultOf", desc := "()I" } : Jvm.MethodName) ({ cls := "PictureDeskModel", name := "faultOf", desc := "()I" } : Jvm.MethodName)) ∈ tbl := tb_0 20 rfl rfl
theorem wS_X10_factOf : (Jvm.Cond.selects "PictureDeskModel" ({ cls := "PictureDeskModel", name := "factOf", desc := "(III)I" } : Jvm.MethodName) ({ cls := "PictureDeskModel", name := "factOf", desc := "(III)I" } : Jvm.MethodName)) ∈ tbl := tb_0 21 rfl rfl
theorem wS_X10_nearOf : (Jvm.Cond.selects "PictureDeskModel" ({ cls := "PictureDeskModel", name := "nearOf", desc := "(III)I" } : Jvm.MethodName) ({ cls := "PictureDeskModel", name := "nearOf", desc := "(III)I" } : Jvm.MethodName)) ∈ tbl := tb_0 22 rfl rfl
theorem wS_X10_farOf : (Jvm.Cond.selects "PictureDeskModel" ({ cls := "PictureDeskModel", name := "farOf", desc := "(II)I" } : Jvm.MethodName) ({ cls := "PictureDeskModel", name := "farOf", desc := "(II)I" } : Jvm.MethodName)) ∈ tbl := tb_0 23 rfl rfl
theorem wS_X10_isShown : (Jvm.Cond.selects "PictureDeskModel" ({ cls := "PictureDeskModel", name := "isShown", desc := "(IIIIZ)Z" } : Jvm.MethodName) ({ cls := "PictureDeskModel", name := "isShown", desc := "(IIIIZ)Z" } : Jvm.MethodName)) ∈ tbl := tb_0 24 rfl rfl
theorem wS_X10_isSeen : (Jvm.Cond.selects "PictureDeskModel" ({ cls := "PictureDeskModel", name := "isSeen", desc := "(II)Z" } : Jvm.MethodName) ({ cls := "PictureDeskModel", name := "isSeen", desc := "(II)Z" } : Jvm.MethodName)) ∈ tbl := tb_0 25 rfl rfl
theorem wS_X10_shownOf : (Jvm.Cond.selects "PictureDeskModel" ({ cls := "PictureDeskModel", name := "shownOf", desc := "(II)I" } : Jvm.MethodName) ({ cls := "PictureDeskModel", name := "shownOf", desc := "(II)I" } : Jvm.MethodName)) ∈ tbl := tb_0 26 rfl rfl
theorem wS_X10_isUse : (Jvm.Cond.selects "PictureDeskModel" ({ cls := "PictureDeskModel", name := "isUse", desc := "(I)Z" } : Jvm.MethodName) ({ cls := "PictureDeskModel", name := "isUse", desc := "(I)Z" } : Jvm.MethodName)) ∈ tbl := tb_0 27 rfl rfl
theorem wS_X10_fitOf : (Jvm.Cond.selects "PictureDeskModel" ({ cls := "PictureDeskModel", name := "fitOf", desc := "(III)I" } : Jvm.MethodName) ({ cls := "PictureDeskModel", name := "fitOf", desc := "(III)I" } : Jvm.MethodName)) ∈ tbl := tb_0 28 rfl rfl
theorem wS_X10_meetOf : (Jvm.Cond.selects "PictureDeskModel" ({ cls := "PictureDeskModel", name := "meetOf", desc := "(I)I" } : Jvm.MethodName) ({ cls := "PictureDeskModel", name := "meetOf", desc := "(I)I" } : Jvm.MethodName)) ∈ tbl := tb_0 29 rfl rfl
theorem wS_X10_faces : (Jvm.Cond.selects "PictureDeskModel" ({ cls := "PictureDeskModel", name := "faces", desc := "(II)Z" } : Jvm.MethodName) ({ cls := "PictureDeskModel", name := "faces", desc := "(II)Z" } : Jvm.MethodName)) ∈ tbl := tb_0 30 rfl rfl
theorem wS_X10_isOn : (Jvm.Cond.selects "PictureDeskModel" ({ cls := "PictureDeskModel", name := "isOn", desc := "(III)Z" } : Jvm.MethodName) ({ cls := "PictureDeskModel", name := "isOn", desc := "(III)Z" } : Jvm.MethodName)) ∈ tbl := tb_0 31 rfl rfl
theorem wS_X10_worthOf : (Jvm.Cond.selects "PictureDeskModel" ({ cls := "PictureDeskModel", name := "worthOf", desc := "(I)J" } : Jvm.MethodName) ({ cls := "PictureDeskModel", name := "worthOf", desc := "(I)J" } : Jvm.MethodName)) ∈ tbl := tb_0 32 rfl rfl
theorem wS_X10_riskOf : (Jvm.Cond.selects "PictureDeskModel" ({ cls := "PictureDeskModel", name := "riskOf", desc := "(I)I" } : Jvm.MethodName) ({ cls := "PictureDeskModel", name := "riskOf", desc := "(I)I" } : Jvm.MethodName)) ∈ tbl := tb_0 33 rfl rfl
end
section
theorem dX0_init_0 : decode cX0_init 0 = .ok (.aload_n 0, 1) := by decide +kernel
theorem dX0_init_1 : decode cX0_init 1 = .ok (.invokespecial 3, 3) := by decide +kernel
theorem dX0_init_4 : decode cX0_init 4 = .ok (.aload_n 0, 1) := by decide +kernel
theorem dX0_init_5 : decode cX0_init 5 = .ok (.bipush 10, 2) := by decide +kernel
theorem dX0_init_7 : decode cX0_init 7 = .ok (.anewarray 9, 3) := by decide +kernel
theorem dX0_init_10 : decode cX0_init 10 = .ok (.putfield 11, 3) := by decide +kernel
theorem dX0_init_13 : decode cX0_init 13 = .ok (.return_, 1) := by decide +kernel
theorem dX0_size_0 : decode cX0_size 0 = .ok (.aload_n 0, 1) := by decide +kernel
theorem dX0_size_1 : decode cX0_size 1 = .ok (.getfield 17, 3) := by decide +kernel
theorem dX0_size_4 : decode cX0_size 4 = .ok (.ireturn, 1) := by decide +kernel
theorem dX0_isFull_0 : decode cX0_isFull 0 = .ok (.aload_n 0, 1) := by decide +kernel
theorem dX0_isFull_1 : decode cX0_isFull 1 = .ok (.getfield 17, 3) := by decide +kernel
theorem dX0_isFull_4 : decode cX0_isFull 4 = .ok (.bipush 10, 2) := by decide +kernel
theorem dX0_isFull_6 : decode cX0_isFull 6 = .ok (.if_icmp .lt 7, 3) := by decide +kernel
theorem dX0_isFull_9 : decode cX0_isFull 9 = .ok (.iconst 1, 1) := by decide +kernel
theorem dX0_isFull_10 : decode cX0_isFull 10 = .ok (.goto 4, 3) := by decide +kernel
theorem dX0_isFull_13 : decode cX0_isFull 13 = .ok (.iconst 0, 1) := by decide +kernel
theorem dX0_isFull_14 : decode cX0_isFull 14 = .ok (.ireturn, 1) := by decide +kernel
theorem dX0_add_0 : decode cX0_add 0 = .ok (.aload_n 0, 1) := by decide +kernel
theorem dX0_add_1 : decode cX0_add 1 = .ok (.invokevirtual 21, 3) := by decide +kernel
theorem dX0_add_4 : decode cX0_add 4 = .ok (.ifCond .eq 6, 3) := by decide +kernel
theorem dX0_add_7 : decode cX0_add 7 = .ok (.bipush (-4), 2) := by decide +kernel
theorem dX0_add_9 : decode cX0_add 9 = .ok (.ireturn, 1) := by decide +kernel
theorem dX0_add_10 : decode cX0_add 10 = .ok (.aload_n 0, 1) := by decide +kernel
theorem dX0_add_11 : decode cX0_add 11 = .ok (.getfield 11, 3) := by decide +kernel
theorem dX0_add_14 : decode cX0_add 14 = .ok (.aload_n 0, 1) := by decide +kernel
theorem dX0_add_15 : decode cX0_add 15 = .ok (.getfield 17, 3) := by decide +kernel
theorem dX0_add_18 : decode cX0_add 18 = .ok (.aload_n 1, 1) := by decide +kernel
theorem dX0_add_19 : decode cX0_add 19 = .ok (.aastore, 1) := by decide +kernel
theorem dX0_add_20 : decode cX0_add 20 = .ok (.aload_n 0, 1) := by decide +kernel
theorem dX0_add_21 : decode cX0_add 21 = .ok (.dup, 1) := by decide +kernel
theorem dX0_add_22 : decode cX0_add 22 = .ok (.getfield 17, 3) := by decide +kernel
theorem dX0_add_25 : decode cX0_add 25 = .ok (.iconst 1, 1) := by decide +kernel
theorem dX0_add_26 : decode cX0_add 26 = .ok (.iadd, 1) := by decide +kernel
theorem dX0_add_27 : decode cX0_add 27 = .ok (.putfield 17, 3) := by decide +kernel
theorem dX0_add_30 : decode cX0_add 30 = .ok (.aload_n 0, 1) := by decide +kernel
theorem dX0_add_31 : decode cX0_add 31 = .ok (.getfield 17, 3) := by decide +kernel
theorem dX0_add_34 : decode cX0_add 34 = .ok (.iconst 1, 1) := by decide +kernel
theorem dX0_add_35 : decode cX0_add 35 = .ok (.isub, 1) := by decide +kernel
theorem dX0_add_36 : decode cX0_add 36 = .ok (.ireturn, 1) := by decide +kernel
theorem dX0_find_0 : decode cX0_find 0 = .ok (.iload_n 1, 1) := by decide +kernel
theorem dX0_find_1 : decode cX0_find 1 = .ok (.iconst 0, 1) := by decide +kernel
theorem dX0_find_2 : decode cX0_find 2 = .ok (.bipush 9, 2) := by decide +kernel
theorem dX0_find_4 : decode cX0_find 4 = .ok (.invokestatic 25, 3) := by decide +kernel
theorem dX0_find_7 : decode cX0_find 7 = .ok (.ifCond .eq 12, 3) := by decide +kernel
theorem dX0_find_10 : decode cX0_find 10 = .ok (.aload_n 0, 1) := by decide +kernel
theorem dX0_find_11 : decode cX0_find 11 = .ok (.getfield 11, 3) := by decide +kernel
theorem dX0_find_14 : decode cX0_find 14 = .ok (.iload_n 1, 1) := by decide +kernel
theorem dX0_find_15 : decode cX0_find 15 = .ok (.aaload, 1) := by decide +kernel
theorem dX0_find_16 : decode cX0_find 16 = .ok (.goto 4, 3) := by decide +kernel
theorem dX0_find_19 : decode cX0_find 19 = .ok (.aconst_null, 1) := by decide +kernel
theorem dX0_find_20 : decode cX0_find 20 = .ok (.areturn, 1) := by decide +kernel
theorem dX0_hasDay_0 : decode cX0_hasDay 0 = .ok (.iconst 0, 1) := by decide +kernel
theorem dX0_hasDay_1 : decode cX0_hasDay 1 = .ok (.istore_n 2, 1) := by decide +kernel
theorem dX0_hasDay_2 : decode cX0_hasDay 2 = .ok (.iload_n 2, 1) := by decide +kernel
theorem dX0_hasDay_3 : decode cX0_hasDay 3 = .ok (.aload_n 0, 1) := by decide +kernel
theorem dX0_hasDay_4 : decode cX0_hasDay 4 = .ok (.getfield 17, 3) := by decide +kernel
theorem dX0_hasDay_7 : decode cX0_hasDay 7 = .ok (.if_icmp .ge 29, 3) := by decide +kernel
theorem dX0_hasDay_10 : decode cX0_hasDay 10 = .ok (.aload_n 0, 1) := by decide +kernel
theorem dX0_hasDay_11 : decode cX0_hasDay 11 = .ok (.iload_n 2, 1) := by decide +kernel
theorem dX0_hasDay_12 : decode cX0_hasDay 12 = .ok (.invokevirtual 29, 3) := by decide +kernel
theorem dX0_hasDay_15 : decode cX0_hasDay 15 = .ok (.astore_n 3, 1) := by decide +kernel
theorem dX0_hasDay_16 : decode cX0_hasDay 16 = .ok (.aload_n 3, 1) := by decide +kernel
theorem dX0_hasDay_17 : decode cX0_hasDay 17 = .ok (.ifnull 13, 3) := by decide +kernel
theorem dX0_hasDay_20 : decode cX0_hasDay 20 = .ok (.aload_n 3, 1) := by decide +kernel
theorem dX0_hasDay_21 : decode cX0_hasDay 21 = .ok (.invokevirtual 33, 3) := by decide +kernel
theorem dX0_hasDay_24 : decode cX0_hasDay 24 = .ok (.iload_n 1, 1) := by decide +kernel
theorem dX0_hasDay_25 : decode cX0_hasDay 25 = .ok (.if_icmp .ne 5, 3) := by decide +kernel
theorem dX0_hasDay_28 : decode cX0_hasDay 28 = .ok (.iconst 1, 1) := by decide +kernel
theorem dX0_hasDay_29 : decode cX0_hasDay 29 = .ok (.ireturn, 1) := by decide +kernel
theorem dX0_hasDay_30 : decode cX0_hasDay 30 = .ok (.iinc 2 1, 3) := by decide +kernel
theorem dX0_hasDay_33 : decode cX0_hasDay 33 = .ok (.goto (-31), 3) := by decide +kernel
theorem dX0_hasDay_36 : decode cX0_hasDay 36 = .ok (.iconst 0, 1) := by decide +kernel
theorem dX0_hasDay_37 : decode cX0_hasDay 37 = .ok (.ireturn, 1) := by decide +kernel
theorem dX0_develop_0 : decode cX0_develop 0 = .ok (.iconst 0, 1) := by decide +kernel
theorem dX0_develop_1 : decode cX0_develop 1 = .ok (.istore_n 2, 1) := by decide +kernel
theorem dX0_develop_2 : decode cX0_develop 2 = .ok (.iload_n 2, 1) := by decide +kernel
theorem dX0_develop_3 : decode cX0_develop 3 = .ok (.aload_n 0, 1) := by decide +kernel
theorem dX0_develop_4 : decode cX0_develop 4 = .ok (.getfield 17, 3) := by decide +kernel
theorem dX0_develop_7 : decode cX0_develop 7 = .ok (.if_icmp .ge 24, 3) := by decide +kernel
theorem dX0_develop_10 : decode cX0_develop 10 = .ok (.aload_n 0, 1) := by decide +kernel
theorem dX0_develop_11 : decode cX0_develop 11 = .ok (.iload_n 2, 1) := by decide +kernel
theorem dX0_develop_12 : decode cX0_develop 12 = .ok (.invokevirtual 29, 3) := by decide +kernel
theorem dX0_develop_15 : decode cX0_develop 15 = .ok (.astore_n 3, 1) := by decide +kernel
theorem dX0_develop_16 : decode cX0_develop 16 = .ok (.aload_n 3, 1) := by decide +kernel
theorem dX0_develop_17 : decode cX0_develop 17 = .ok (.ifnull 8, 3) := by decide +kernel
theorem dX0_develop_20 : decode cX0_develop 20 = .ok (.aload_n 3, 1) := by decide +kernel
theorem dX0_develop_21 : decode cX0_develop 21 = .ok (.aload_n 1, 1) := by decide +kernel
theorem dX0_develop_22 : decode cX0_develop 22 = .ok (.invokevirtual 37, 3) := by decide +kernel
theorem dX0_develop_25 : decode cX0_develop 25 = .ok (.iinc 2 1, 3) := by decide +kernel
theorem dX0_develop_28 : decode cX0_develop 28 = .ok (.goto (-26), 3) := by decide +kernel
theorem dX0_develop_31 : decode cX0_develop 31 = .ok (.return_, 1) := by decide +kernel
theorem dX1_init_0 : decode cX1_init 0 = .ok (.aload_n 0, 1) := by decide +kernel
theorem dX1_init_1 : decode cX1_init 1 = .ok (.invokespecial 3, 3) := by decide +kernel
theorem dX1_init_4 : decode cX1_init 4 = .ok (.aload_n 0, 1) := by decide +kernel
theorem dX1_init_5 : decode cX1_init 5 = .ok (.bipush 9, 2) := by decide +kernel
theorem dX1_init_7 : decode cX1_init 7 = .ok (.newarray .int, 2) := by decide +kernel
theorem dX1_init_9 : decode cX1_init 9 = .ok (.putfield 11, 3) := by decide +kernel
theorem dX1_init_12 : decode cX1_init 12 = .ok (.return_, 1) := by decide +kernel
theorem dX1_known_0 : decode cX1_known 0 = .ok (.iload_n 1, 1) := by decide +kernel
theorem dX1_known_1 : decode cX1_known 1 = .ok (.ifCond .lt 18, 3) := by decide +kernel
theorem dX1_known_4 : decode cX1_known 4 = .ok (.iload_n 1, 1) := by decide +kernel
theorem dX1_known_5 : decode cX1_known 5 = .ok (.bipush 9, 2) := by decide +kernel
theorem dX1_known_7 : decode cX1_known 7 = .ok (.if_icmp .ge 12, 3) := by decide +kernel
theorem dX1_known_10 : decode cX1_known 10 = .ok (.aload_n 0, 1) := by decide +kernel
theorem dX1_known_11 : decode cX1_known 11 = .ok (.getfield 11, 3) := by decide +kernel
theorem dX1_known_14 : decode cX1_known 14 = .ok (.iload_n 1, 1) := by decide +kernel
theorem dX1_known_15 : decode cX1_known 15 = .ok (.iaload, 1) := by decide +kernel
theorem dX1_known_16 : decode cX1_known 16 = .ok (.goto 5, 3) := by decide +kernel
theorem dX1_known_19 : decode cX1_known 19 = .ok (.bipush (-6), 2) := by decide +kernel
theorem dX1_known_21 : decode cX1_known 21 = .ok (.ireturn, 1) := by decide +kernel
theorem dX1_learn_0 : decode cX1_learn 0 = .ok (.iconst 0, 1) := by decide +kernel
theorem dX1_learn_1 : decode cX1_learn 1 = .ok (.istore 4, 2) := by decide +kernel
theorem dX1_learn_3 : decode cX1_learn 3 = .ok (.iload 4, 2) := by decide +kernel
theorem dX1_learn_5 : decode cX1_learn 5 = .ok (.bipush 9, 2) := by decide +kernel
theorem dX1_learn_7 : decode cX1_learn 7 = .ok (.if_icmp .ge 18, 3) := by decide +kernel
theorem dX1_learn_10 : decode cX1_learn 10 = .ok (.aload_n 0, 1) := by decide +kernel
theorem dX1_learn_11 : decode cX1_learn 11 = .ok (.getfield 11, 3) := by decide +kernel
theorem dX1_learn_14 : decode cX1_learn 14 = .ok (.iload 4, 2) := by decide +kernel
theorem dX1_learn_16 : decode cX1_learn 16 = .ok (.bipush (-6), 2) := by decide +kernel
theorem dX1_learn_18 : decode cX1_learn 18 = .ok (.iastore, 1) := by decide +kernel
theorem dX1_learn_19 : decode cX1_learn 19 = .ok (.iinc 4 1, 3) := by decide +kernel
theorem dX1_learn_22 : decode cX1_learn 22 = .ok (.goto (-19), 3) := by decide +kernel
theorem dX1_learn_25 : decode cX1_learn 25 = .ok (.iconst 0, 1) := by decide +kernel
theorem dX1_learn_26 : decode cX1_learn 26 = .ok (.istore 4, 2) := by decide +kernel
theorem dX1_learn_28 : decode cX1_learn 28 = .ok (.iconst 0, 1) := by decide +kernel
theorem dX1_learn_29 : decode cX1_learn 29 = .ok (.istore 5, 2) := by decide +kernel
theorem dX1_learn_31 : decode cX1_learn 31 = .ok (.iconst 0, 1) := by decide +kernel
theorem dX1_learn_32 : decode cX1_learn 32 = .ok (.istore 6, 2) := by decide +kernel
theorem dX1_learn_34 : decode cX1_learn 34 = .ok (.iload 6, 2) := by decide +kernel
theorem dX1_learn_36 : decode cX1_learn 36 = .ok (.bipush 96, 2) := by decide +kernel
theorem dX1_learn_38 : decode cX1_learn 38 = .ok (.if_icmp .ge 62, 3) := by decide +kernel
theorem dX1_learn_41 : decode cX1_learn 41 = .ok (.aload_n 1, 1) := by decide +kernel
theorem dX1_learn_42 : decode cX1_learn 42 = .ok (.iload 6, 2) := by decide +kernel
theorem dX1_learn_44 : decode cX1_learn 44 = .ok (.bipush 12, 2) := by decide +kernel
theorem dX1_learn_46 : decode cX1_learn 46 = .ok (.irem, 1) := by decide +kernel
theorem dX1_learn_47 : decode cX1_learn 47 = .ok (.iload 6, 2) := by decide +kernel
theorem dX1_learn_49 : decode cX1_learn 49 = .ok (.bipush 12, 2) := by decide +kernel
theorem dX1_learn_51 : decode cX1_learn 51 = .ok (.idiv, 1) := by decide +kernel
theorem dX1_learn_52 : decode cX1_learn 52 = .ok (.invokevirtual 15, 3) := by decide +kernel
theorem dX1_learn_55 : decode cX1_learn 55 = .ok (.istore 7, 2) := by decide +kernel
theorem dX1_learn_57 : decode cX1_learn 57 = .ok (.aload_n 0, 1) := by decide +kernel
theorem dX1_learn_58 : decode cX1_learn 58 = .ok (.iload 6, 2) := by decide +kernel
theorem dX1_learn_60 : decode cX1_learn 60 = .ok (.iload 7, 2) := by decide +kernel
theorem dX1_learn_62 : decode cX1_learn 62 = .ok (.aload_n 1, 1) := by decide +kernel
theorem dX1_learn_63 : decode cX1_learn 63 = .ok (.aload_n 2, 1) := by decide +kernel
theorem dX1_learn_64 : decode cX1_learn 64 = .ok (.iload_n 3, 1) := by decide +kernel
theorem dX1_learn_65 : decode cX1_learn 65 = .ok (.invokevirtual 21, 3) := by decide +kernel
theorem dX1_learn_68 : decode cX1_learn 68 = .ok (.aload_n 0, 1) := by decide +kernel
theorem dX1_learn_69 : decode cX1_learn 69 = .ok (.getfield 25, 3) := by decide +kernel
theorem dX1_learn_72 : decode cX1_learn 72 = .ok (.ifCond .eq 6, 3) := by decide +kernel
theorem dX1_learn_75 : decode cX1_learn 75 = .ok (.iinc 4 1, 3) := by decide +kernel
theorem dX1_learn_78 : decode cX1_learn 78 = .ok (.aload_n 0, 1) := by decide +kernel
theorem dX1_learn_79 : decode cX1_learn 79 = .ok (.getfield 29, 3) := by decide +kernel
theorem dX1_learn_82 : decode cX1_learn 82 = .ok (.ifCond .ne 12, 3) := by decide +kernel
theorem dX1_learn_85 : decode cX1_learn 85 = .ok (.iload 7, 2) := by decide +kernel
theorem dX1_learn_87 : decode cX1_learn 87 = .ok (.iconst 5, 1) := by decide +kernel
theorem dX1_learn_88 : decode cX1_learn 88 = .ok (.if_icmp .gt 6, 3) := by decide +kernel
theorem dX1_learn_91 : decode cX1_learn 91 = .ok (.iconst 1, 1) := by decide +kernel
theorem dX1_learn_92 : decode cX1_learn 92 = .ok (.istore 5, 2) := by decide +kernel
theorem dX1_learn_94 : decode cX1_learn 94 = .ok (.iinc 6 1, 3) := by decide +kernel
theorem dX1_learn_97 : decode cX1_learn 97 = .ok (.goto (-63), 3) := by decide +kernel
theorem dX1_learn_100 : decode cX1_learn 100 = .ok (.aload_n 0, 1) := by decide +kernel
theorem dX1_learn_101 : decode cX1_learn 101 = .ok (.getfield 11, 3) := by decide +kernel
theorem dX1_learn_104 : decode cX1_learn 104 = .ok (.iconst 0, 1) := by decide +kernel
theorem dX1_learn_105 : decode cX1_learn 105 = .ok (.iload 4, 2) := by decide +kernel
theorem dX1_learn_107 : decode cX1_learn 107 = .ok (.iastore, 1) := by decide +kernel
theorem dX1_learn_108 : decode cX1_learn 108 = .ok (.iload 4, 2) := by decide +kernel
theorem dX1_learn_110 : decode cX1_learn 110 = .ok (.ifCond .le 25, 3) := by decide +kernel
theorem dX1_learn_113 : decode cX1_learn 113 = .ok (.aload_n 0, 1) := by decide +kernel
theorem dX1_learn_114 : decode cX1_learn 114 = .ok (.getfield 11, 3) := by decide +kernel
theorem dX1_learn_117 : decode cX1_learn 117 = .ok (.iconst 1, 1) := by decide +kernel
theorem dX1_learn_118 : decode cX1_learn 118 = .ok (.aload_n 1, 1) := by decide +kernel
theorem dX1_learn_119 : decode cX1_learn 119 = .ok (.iconst 5, 1) := by decide +kernel
theorem dX1_learn_120 : decode cX1_learn 120 = .ok (.invokevirtual 32, 3) := by decide +kernel
theorem dX1_learn_123 : decode cX1_learn 123 = .ok (.iastore, 1) := by decide +kernel
theorem dX1_learn_124 : decode cX1_learn 124 = .ok (.aload_n 0, 1) := by decide +kernel
theorem dX1_learn_125 : decode cX1_learn 125 = .ok (.getfield 11, 3) := by decide +kernel
theorem dX1_learn_128 : decode cX1_learn 128 = .ok (.iconst 2, 1) := by decide +kernel
theorem dX1_learn_129 : decode cX1_learn 129 = .ok (.aload_n 1, 1) := by decide +kernel
theorem dX1_learn_130 : decode cX1_learn 130 = .ok (.iconst 4, 1) := by decide +kernel
theorem dX1_learn_131 : decode cX1_learn 131 = .ok (.invokevirtual 32, 3) := by decide +kernel
theorem dX1_learn_134 : decode cX1_learn 134 = .ok (.iastore, 1) := by decide +kernel
theorem dX1_learn_135 : decode cX1_learn 135 = .ok (.iload 5, 2) := by decide +kernel
theorem dX1_learn_137 : decode cX1_learn 137 = .ok (.ifCond .ne 7, 3) := by decide +kernel
theorem dX1_learn_140 : decode cX1_learn 140 = .ok (.aload_n 0, 1) := by decide +kernel
theorem dX1_learn_141 : decode cX1_learn 141 = .ok (.invokevirtual 36, 3) := by decide +kernel
theorem dX1_learn_144 : decode cX1_learn 144 = .ok (.return_, 1) := by decide +kernel
theorem dX1_lookAt_0 : decode cX1_lookAt 0 = .ok (.aload_n 0, 1) := by decide +kernel
theorem dX1_lookAt_1 : decode cX1_lookAt 1 = .ok (.iconst 0, 1) := by decide +kernel
theorem dX1_lookAt_2 : decode cX1_lookAt 2 = .ok (.putfield 29, 3) := by decide +kernel
theorem dX1_lookAt_5 : decode cX1_lookAt 5 = .ok (.aload_n 0, 1) := by decide +kernel
theorem dX1_lookAt_6 : decode cX1_lookAt 6 = .ok (.iconst 0, 1) := by decide +kernel
theorem dX1_lookAt_7 : decode cX1_lookAt 7 = .ok (.putfield 25, 3) := by decide +kernel
theorem dX1_lookAt_10 : decode cX1_lookAt 10 = .ok (.iconst 0, 1) := by decide +kernel
theorem dX1_lookAt_11 : decode cX1_lookAt 11 = .ok (.istore 6, 2) := by decide +kernel
theorem dX1_lookAt_13 : decode cX1_lookAt 13 = .ok (.iload 6, 2) := by decide +kernel
theorem dX1_lookAt_15 : decode cX1_lookAt 15 = .ok (.aload 4, 2) := by decide +kernel
theorem dX1_lookAt_17 : decode cX1_lookAt 17 = .ok (.invokevirtual 39, 3) := by decide +kernel
theorem dX1_lookAt_20 : decode cX1_lookAt 20 = .ok (.if_icmp .ge 104, 3) := by decide +kernel
theorem dX1_lookAt_23 : decode cX1_lookAt 23 = .ok (.aload 4, 2) := by decide +kernel
theorem dX1_lookAt_25 : decode cX1_lookAt 25 = .ok (.iload 6, 2) := by decide +kernel
theorem dX1_lookAt_27 : decode cX1_lookAt 27 = .ok (.invokevirtual 45, 3) := by decide +kernel
theorem dX1_lookAt_30 : decode cX1_lookAt 30 = .ok (.astore 7, 2) := by decide +kernel
theorem dX1_lookAt_32 : decode cX1_lookAt 32 = .ok (.aload 7, 2) := by decide +kernel
theorem dX1_lookAt_34 : decode cX1_lookAt 34 = .ok (.ifnull 13, 3) := by decide +kernel
theorem dX1_lookAt_37 : decode cX1_lookAt 37 = .ok (.aload 7, 2) := by decide +kernel
theorem dX1_lookAt_39 : decode cX1_lookAt 39 = .ok (.invokevirtual 49, 3) := by decide +kernel
theorem dX1_lookAt_42 : decode cX1_lookAt 42 = .ok (.iload 5, 2) := by decide +kernel
theorem dX1_lookAt_44 : decode cX1_lookAt 44 = .ok (.if_icmp .le 8, 3) := by decide +kernel
theorem dX1_lookAt_47 : decode cX1_lookAt 47 = .ok (.bipush (-6), 2) := by decide +kernel
theorem dX1_lookAt_49 : decode cX1_lookAt 49 = .ok (.goto 9, 3) := by decide +kernel
theorem dX1_lookAt_52 : decode cX1_lookAt 52 = .ok (.aload 7, 2) := by decide +kernel
theorem dX1_lookAt_54 : decode cX1_lookAt 54 = .ok (.iload_n 1, 1) := by decide +kernel
theorem dX1_lookAt_55 : decode cX1_lookAt 55 = .ok (.invokevirtual 54, 3) := by decide +kernel
theorem dX1_lookAt_58 : decode cX1_lookAt 58 = .ok (.istore 8, 2) := by decide +kernel
theorem dX1_lookAt_60 : decode cX1_lookAt 60 = .ok (.iload 8, 2) := by decide +kernel
theorem dX1_lookAt_62 : decode cX1_lookAt 62 = .ok (.bipush (-6), 2) := by decide +kernel
theorem dX1_lookAt_64 : decode cX1_lookAt 64 = .ok (.if_icmp .ne 6, 3) := by decide +kernel
theorem dX1_lookAt_67 : decode cX1_lookAt 67 = .ok (.goto 51, 3) := by decide +kernel
theorem dX1_lookAt_70 : decode cX1_lookAt 70 = .ok (.aload_n 0, 1) := by decide +kernel
theorem dX1_lookAt_71 : decode cX1_lookAt 71 = .ok (.iconst 1, 1) := by decide +kernel
theorem dX1_lookAt_72 : decode cX1_lookAt 72 = .ok (.putfield 29, 3) := by decide +kernel
theorem dX1_lookAt_75 : decode cX1_lookAt 75 = .ok (.iload 8, 2) := by decide +kernel
theorem dX1_lookAt_77 : decode cX1_lookAt 77 = .ok (.bipush 10, 2) := by decide +kernel
theorem dX1_lookAt_79 : decode cX1_lookAt 79 = .ok (.if_icmp .ge 6, 3) := by decide +kernel
theorem dX1_lookAt_82 : decode cX1_lookAt 82 = .ok (.goto 36, 3) := by decide +kernel
theorem dX1_lookAt_85 : decode cX1_lookAt 85 = .ok (.aload 7, 2) := by decide +kernel
theorem dX1_lookAt_87 : decode cX1_lookAt 87 = .ok (.iload_n 1, 1) := by decide +kernel
theorem dX1_lookAt_88 : decode cX1_lookAt 88 = .ok (.invokevirtual 57, 3) := by decide +kernel
theorem dX1_lookAt_91 : decode cX1_lookAt 91 = .ok (.aload_n 3, 1) := by decide +kernel
theorem dX1_lookAt_92 : decode cX1_lookAt 92 = .ok (.invokevirtual 60, 3) := by decide +kernel
theorem dX1_lookAt_95 : decode cX1_lookAt 95 = .ok (.if_icmp .ne 11, 3) := by decide +kernel
theorem dX1_lookAt_98 : decode cX1_lookAt 98 = .ok (.aload_n 0, 1) := by decide +kernel
theorem dX1_lookAt_99 : decode cX1_lookAt 99 = .ok (.iconst 1, 1) := by decide +kernel
theorem dX1_lookAt_100 : decode cX1_lookAt 100 = .ok (.putfield 25, 3) := by decide +kernel
theorem dX1_lookAt_103 : decode cX1_lookAt 103 = .ok (.goto 15, 3) := by decide +kernel
theorem dX1_lookAt_106 : decode cX1_lookAt 106 = .ok (.aload_n 0, 1) := by decide +kernel
theorem dX1_lookAt_107 : decode cX1_lookAt 107 = .ok (.iconst 3, 1) := by decide +kernel
theorem dX1_lookAt_108 : decode cX1_lookAt 108 = .ok (.iload 8, 2) := by decide +kernel
theorem dX1_lookAt_110 : decode cX1_lookAt 110 = .ok (.iadd, 1) := by decide +kernel
theorem dX1_lookAt_111 : decode cX1_lookAt 111 = .ok (.bipush 10, 2) := by decide +kernel
theorem dX1_lookAt_113 : decode cX1_lookAt 113 = .ok (.isub, 1) := by decide +kernel
theorem dX1_lookAt_114 : decode cX1_lookAt 114 = .ok (.iload_n 2, 1) := by decide +kernel
theorem dX1_lookAt_115 : decode cX1_lookAt 115 = .ok (.invokevirtual 63, 3) := by decide +kernel
theorem dX1_lookAt_118 : decode cX1_lookAt 118 = .ok (.iinc 6 1, 3) := by decide +kernel
theorem dX1_lookAt_121 : decode cX1_lookAt 121 = .ok (.goto (-108), 3) := by decide +kernel
theorem dX1_lookAt_124 : decode cX1_lookAt 124 = .ok (.return_, 1) := by decide +kernel
theorem dX1_comeNearer_0 : decode cX1_comeNearer 0 = .ok (.iload_n 1, 1) := by decide +kernel
theorem dX1_comeNearer_1 : decode cX1_comeNearer 1 = .ok (.iconst 3, 1) := by decide +kernel
theorem dX1_comeNearer_2 : decode cX1_comeNearer 2 = .ok (.if_icmp .lt 9, 3) := by decide +kernel
theorem dX1_comeNearer_5 : decode cX1_comeNearer 5 = .ok (.iload_n 1, 1) := by decide +kernel
theorem dX1_comeNearer_6 : decode cX1_comeNearer 6 = .ok (.bipush 9, 2) := by decide +kernel
theorem dX1_comeNearer_8 : decode cX1_comeNearer 8 = .ok (.if_icmp .lt 4, 3) := by decide +kernel
theorem dX1_comeNearer_11 : decode cX1_comeNearer 11 = .ok (.return_, 1) := by decide +kernel
theorem dX1_comeNearer_12 : decode cX1_comeNearer 12 = .ok (.aload_n 0, 1) := by decide +kernel
theorem dX1_comeNearer_13 : decode cX1_comeNearer 13 = .ok (.getfield 11, 3) := by decide +kernel
theorem dX1_comeNearer_16 : decode cX1_comeNearer 16 = .ok (.iload_n 1, 1) := by decide +kernel
theorem dX1_comeNearer_17 : decode cX1_comeNearer 17 = .ok (.iaload, 1) := by decide +kernel
theorem dX1_comeNearer_18 : decode cX1_comeNearer 18 = .ok (.bipush (-6), 2) := by decide +kernel
theorem dX1_comeNearer_20 : decode cX1_comeNearer 20 = .ok (.if_icmp .eq 13, 3) := by decide +kernel
theorem dX1_comeNearer_23 : decode cX1_comeNearer 23 = .ok (.iload_n 2, 1) := by decide +kernel
theorem dX1_comeNearer_24 : decode cX1_comeNearer 24 = .ok (.aload_n 0, 1) := by decide +kernel
theorem dX1_comeNearer_25 : decode cX1_comeNearer 25 = .ok (.getfield 11, 3) := by decide +kernel
theorem dX1_comeNearer_28 : decode cX1_comeNearer 28 = .ok (.iload_n 1, 1) := by decide +kernel
theorem dX1_comeNearer_29 : decode cX1_comeNearer 29 = .ok (.iaload, 1) := by decide +kernel
theorem dX1_comeNearer_30 : decode cX1_comeNearer 30 = .ok (.if_icmp .ge 10, 3) := by decide +kernel
theorem dX1_comeNearer_33 : decode cX1_comeNearer 33 = .ok (.aload_n 0, 1) := by decide +kernel
theorem dX1_comeNearer_34 : decode cX1_comeNearer 34 = .ok (.getfield 11, 3) := by decide +kernel
theorem dX1_comeNearer_37 : decode cX1_comeNearer 37 = .ok (.iload_n 1, 1) := by decide +kernel
theorem dX1_comeNearer_38 : decode cX1_comeNearer 38 = .ok (.iload_n 2, 1) := by decide +kernel
theorem dX1_comeNearer_39 : decode cX1_comeNearer 39 = .ok (.iastore, 1) := by decide +kernel
theorem dX1_comeNearer_40 : decode cX1_comeNearer 40 = .ok (.return_, 1) := by decide +kernel
theorem dX1_ruleOutTheRest_0 : decode cX1_ruleOutTheRest 0 = .ok (.iconst 3, 1) := by decide +kernel
theorem dX1_ruleOutTheRest_1 : decode cX1_ruleOutTheRest 1 = .ok (.istore_n 1, 1) := by decide +kernel
theorem dX1_ruleOutTheRest_2 : decode cX1_ruleOutTheRest 2 = .ok (.iload_n 1, 1) := by decide +kernel
theorem dX1_ruleOutTheRest_3 : decode cX1_ruleOutTheRest 3 = .ok (.bipush 9, 2) := by decide +kernel
theorem dX1_ruleOutTheRest_5 : decode cX1_ruleOutTheRest 5 = .ok (.if_icmp .ge 28, 3) := by decide +kernel
theorem dX1_ruleOutTheRest_8 : decode cX1_ruleOutTheRest 8 = .ok (.aload_n 0, 1) := by decide +kernel
theorem dX1_ruleOutTheRest_9 : decode cX1_ruleOutTheRest 9 = .ok (.getfield 11, 3) := by decide +kernel
theorem dX1_ruleOutTheRest_12 : decode cX1_ruleOutTheRest 12 = .ok (.iload_n 1, 1) := by decide +kernel
theorem dX1_ruleOutTheRest_13 : decode cX1_ruleOutTheRest 13 = .ok (.iaload, 1) := by decide +kernel
theorem dX1_ruleOutTheRest_14 : decode cX1_ruleOutTheRest 14 = .ok (.bipush (-6), 2) := by decide +kernel
theorem dX1_ruleOutTheRest_16 : decode cX1_ruleOutTheRest 16 = .ok (.if_icmp .ne 11, 3) := by decide +kernel
theorem dX1_ruleOutTheRest_19 : decode cX1_ruleOutTheRest 19 = .ok (.aload_n 0, 1) := by decide +kernel
theorem dX1_ruleOutTheRest_20 : decode cX1_ruleOutTheRest 20 = .ok (.getfield 11, 3) := by decide +kernel
theorem dX1_ruleOutTheRest_23 : decode cX1_ruleOutTheRest 23 = .ok (.iload_n 1, 1) := by decide +kernel
theorem dX1_ruleOutTheRest_24 : decode cX1_ruleOutTheRest 24 = .ok (.bipush 99, 2) := by decide +kernel
theorem dX1_ruleOutTheRest_26 : decode cX1_ruleOutTheRest 26 = .ok (.iastore, 1) := by decide +kernel
theorem dX1_ruleOutTheRest_27 : decode cX1_ruleOutTheRest 27 = .ok (.iinc 1 1, 3) := by decide +kernel
theorem dX1_ruleOutTheRest_30 : decode cX1_ruleOutTheRest 30 = .ok (.goto (-28), 3) := by decide +kernel
theorem dX1_ruleOutTheRest_33 : decode cX1_ruleOutTheRest 33 = .ok (.return_, 1) := by decide +kernel
theorem dX2_init_0 : decode cX2_init 0 = .ok (.aload_n 0, 1) := by decide +kernel
theorem dX2_init_1 : decode cX2_init 1 = .ok (.invokespecial 3, 3) := by decide +kernel
theorem dX2_init_4 : decode cX2_init 4 = .ok (.aload_n 0, 1) := by decide +kernel
theorem dX2_init_5 : decode cX2_init 5 = .ok (.bipush 8, 2) := by decide +kernel
theorem dX2_init_7 : decode cX2_init 7 = .ok (.newarray .int, 2) := by decide +kernel
theorem dX2_init_9 : decode cX2_init 9 = .ok (.putfield 11, 3) := by decide +kernel
theorem dX2_init_12 : decode cX2_init 12 = .ok (.aload_n 0, 1) := by decide +kernel
theorem dX2_init_13 : decode cX2_init 13 = .ok (.bipush 8, 2) := by decide +kernel
theorem dX2_init_15 : decode cX2_init 15 = .ok (.newarray .int, 2) := by decide +kernel
theorem dX2_init_17 : decode cX2_init 17 = .ok (.putfield 15, 3) := by decide +kernel
theorem dX2_init_20 : decode cX2_init 20 = .ok (.aload_n 0, 1) := by decide +kernel
theorem dX2_init_21 : decode cX2_init 21 = .ok (.bipush 8, 2) := by decide +kernel
theorem dX2_init_23 : decode cX2_init 23 = .ok (.newarray .int, 2) := by decide +kernel
theorem dX2_init_25 : decode cX2_init 25 = .ok (.putfield 18, 3) := by decide +kernel
theorem dX2_init_28 : decode cX2_init 28 = .ok (.aload_n 0, 1) := by decide +kernel
theorem dX2_init_29 : decode cX2_init 29 = .ok (.bipush 8, 2) := by decide +kernel
theorem dX2_init_31 : decode cX2_init 31 = .ok (.newarray .int, 2) := by decide +kernel
theorem dX2_init_33 : decode cX2_init 33 = .ok (.putfield 21, 3) := by decide +kernel
theorem dX2_init_36 : decode cX2_init 36 = .ok (.aload_n 0, 1) := by decide +kernel
theorem dX2_init_37 : decode cX2_init 37 = .ok (.sipush 256, 3) := by decide +kernel
theorem dX2_init_40 : decode cX2_init 40 = .ok (.newarray .long, 2) := by decide +kernel
theorem dX2_init_42 : decode cX2_init 42 = .ok (.putfield 24, 3) := by decide +kernel
theorem dX2_init_45 : decode cX2_init 45 = .ok (.aload_n 0, 1) := by decide +kernel
theorem dX2_init_46 : decode cX2_init 46 = .ok (.sipush 256, 3) := by decide +kernel
theorem dX2_init_49 : decode cX2_init 49 = .ok (.newarray .long, 2) := by decide +kernel
theorem dX2_init_51 : decode cX2_init 51 = .ok (.putfield 28, 3) := by decide +kernel
theorem dX2_init_54 : decode cX2_init 54 = .ok (.return_, 1) := by decide +kernel
theorem dX2_plan_0 : decode cX2_plan 0 = .ok (.iload_n 1, 1) := by decide +kernel
theorem dX2_plan_1 : decode cX2_plan 1 = .ok (.iconst 0, 1) := by decide +kernel
theorem dX2_plan_2 : decode cX2_plan 2 = .ok (.bipush 7, 2) := by decide +kernel
theorem dX2_plan_4 : decode cX2_plan 4 = .ok (.invokestatic 31, 3) := by decide +kernel
theorem dX2_plan_7 : decode cX2_plan 7 = .ok (.ifCond .ne 4, 3) := by decide +kernel
theorem dX2_plan_10 : decode cX2_plan 10 = .ok (.return_, 1) := by decide +kernel
theorem dX2_plan_11 : decode cX2_plan 11 = .ok (.aload_n 0, 1) := by decide +kernel
theorem dX2_plan_12 : decode cX2_plan 12 = .ok (.getfield 11, 3) := by decide +kernel
theorem dX2_plan_15 : decode cX2_plan 15 = .ok (.iload_n 1, 1) := by decide +kernel
theorem dX2_plan_16 : decode cX2_plan 16 = .ok (.iload_n 2, 1) := by decide +kernel
theorem dX2_plan_17 : decode cX2_plan 17 = .ok (.iastore, 1) := by decide +kernel
theorem dX2_plan_18 : decode cX2_plan 18 = .ok (.aload_n 0, 1) := by decide +kernel
theorem dX2_plan_19 : decode cX2_plan 19 = .ok (.getfield 15, 3) := by decide +kernel
theorem dX2_plan_22 : decode cX2_plan 22 = .ok (.iload_n 1, 1) := by decide +kernel
theorem dX2_plan_23 : decode cX2_plan 23 = .ok (.iload_n 3, 1) := by decide +kernel
theorem dX2_plan_24 : decode cX2_plan 24 = .ok (.iastore, 1) := by decide +kernel
theorem dX2_plan_25 : decode cX2_plan 25 = .ok (.aload_n 0, 1) := by decide +kernel
theorem dX2_plan_26 : decode cX2_plan 26 = .ok (.getfield 18, 3) := by decide +kernel
theorem dX2_plan_29 : decode cX2_plan 29 = .ok (.iload_n 1, 1) := by decide +kernel
theorem dX2_plan_30 : decode cX2_plan 30 = .ok (.iload 4, 2) := by decide +kernel
theorem dX2_plan_32 : decode cX2_plan 32 = .ok (.iastore, 1) := by decide +kernel
theorem dX2_plan_33 : decode cX2_plan 33 = .ok (.aload_n 0, 1) := by decide +kernel
theorem dX2_plan_34 : decode cX2_plan 34 = .ok (.getfield 21, 3) := by decide +kernel
theorem dX2_plan_37 : decode cX2_plan 37 = .ok (.iload_n 1, 1) := by decide +kernel
theorem dX2_plan_38 : decode cX2_plan 38 = .ok (.iload 5, 2) := by decide +kernel
theorem dX2_plan_40 : decode cX2_plan 40 = .ok (.iastore, 1) := by decide +kernel
theorem dX2_plan_41 : decode cX2_plan 41 = .ok (.return_, 1) := by decide +kernel
theorem dX2_weigh_0 : decode cX2_weigh 0 = .ok (.iconst 0, 1) := by decide +kernel
theorem dX2_weigh_1 : decode cX2_weigh 1 = .ok (.istore_n 2, 1) := by decide +kernel
theorem dX2_weigh_2 : decode cX2_weigh 2 = .ok (.iload_n 2, 1) := by decide +kernel
theorem dX2_weigh_3 : decode cX2_weigh 3 = .ok (.sipush 256, 3) := by decide +kernel
theorem dX2_weigh_6 : decode cX2_weigh 6 = .ok (.if_icmp .ge 16, 3) := by decide +kernel
theorem dX2_weigh_9 : decode cX2_weigh 9 = .ok (.aload_n 0, 1) := by decide +kernel
theorem dX2_weigh_10 : decode cX2_weigh 10 = .ok (.getfield 28, 3) := by decide +kernel
theorem dX2_weigh_13 : decode cX2_weigh 13 = .ok (.iload_n 2, 1) := by decide +kernel
theorem dX2_weigh_14 : decode cX2_weigh 14 = .ok (.lconst 0, 1) := by decide +kernel
theorem dX2_weigh_15 : decode cX2_weigh 15 = .ok (.lastore, 1) := by decide +kernel
theorem dX2_weigh_16 : decode cX2_weigh 16 = .ok (.iinc 2 1, 3) := by decide +kernel
theorem dX2_weigh_19 : decode cX2_weigh 19 = .ok (.goto (-17), 3) := by decide +kernel
theorem dX2_weigh_22 : decode cX2_weigh 22 = .ok (.iconst 0, 1) := by decide +kernel
theorem dX2_weigh_23 : decode cX2_weigh 23 = .ok (.istore_n 2, 1) := by decide +kernel
theorem dX2_weigh_24 : decode cX2_weigh 24 = .ok (.iload_n 2, 1) := by decide +kernel
theorem dX2_weigh_25 : decode cX2_weigh 25 = .ok (.aload_n 1, 1) := by decide +kernel
theorem dX2_weigh_26 : decode cX2_weigh 26 = .ok (.invokevirtual 35, 3) := by decide +kernel
theorem dX2_weigh_29 : decode cX2_weigh 29 = .ok (.if_icmp .ge 38, 3) := by decide +kernel
theorem dX2_weigh_32 : decode cX2_weigh 32 = .ok (.aload_n 1, 1) := by decide +kernel
theorem dX2_weigh_33 : decode cX2_weigh 33 = .ok (.iload_n 2, 1) := by decide +kernel
theorem dX2_weigh_34 : decode cX2_weigh 34 = .ok (.invokevirtual 41, 3) := by decide +kernel
theorem dX2_weigh_37 : decode cX2_weigh 37 = .ok (.astore_n 3, 1) := by decide +kernel
theorem dX2_weigh_38 : decode cX2_weigh 38 = .ok (.aload_n 3, 1) := by decide +kernel
theorem dX2_weigh_39 : decode cX2_weigh 39 = .ok (.ifnull 22, 3) := by decide +kernel
theorem dX2_weigh_42 : decode cX2_weigh 42 = .ok (.aload_n 3, 1) := by decide +kernel
theorem dX2_weigh_43 : decode cX2_weigh 43 = .ok (.bipush 10, 2) := by decide +kernel
theorem dX2_weigh_45 : decode cX2_weigh 45 = .ok (.invokevirtual 45, 3) := by decide +kernel
theorem dX2_weigh_48 : decode cX2_weigh 48 = .ok (.iconst 1, 1) := by decide +kernel
theorem dX2_weigh_49 : decode cX2_weigh 49 = .ok (.if_icmp .ne 12, 3) := by decide +kernel
theorem dX2_weigh_52 : decode cX2_weigh 52 = .ok (.aload_n 0, 1) := by decide +kernel
theorem dX2_weigh_53 : decode cX2_weigh 53 = .ok (.aload_n 3, 1) := by decide +kernel
theorem dX2_weigh_54 : decode cX2_weigh 54 = .ok (.iconst 0, 1) := by decide +kernel
theorem dX2_weigh_55 : decode cX2_weigh 55 = .ok (.invokevirtual 45, 3) := by decide +kernel
theorem dX2_weigh_58 : decode cX2_weigh 58 = .ok (.invokevirtual 51, 3) := by decide +kernel
theorem dX2_weigh_61 : decode cX2_weigh 61 = .ok (.iinc 2 1, 3) := by decide +kernel
theorem dX2_weigh_64 : decode cX2_weigh 64 = .ok (.goto (-40), 3) := by decide +kernel
theorem dX2_weigh_67 : decode cX2_weigh 67 = .ok (.return_, 1) := by decide +kernel
theorem dX2_weighColumn_0 : decode cX2_weighColumn 0 = .ok (.aload_n 0, 1) := by decide +kernel
theorem dX2_weighColumn_1 : decode cX2_weighColumn 1 = .ok (.getfield 24, 3) := by decide +kernel
theorem dX2_weighColumn_4 : decode cX2_weighColumn 4 = .ok (.iconst 0, 1) := by decide +kernel
theorem dX2_weighColumn_5 : decode cX2_weighColumn 5 = .ok (.ldc2_w 55, 3) := by decide +kernel
theorem dX2_weighColumn_8 : decode cX2_weighColumn 8 = .ok (.lastore, 1) := by decide +kernel
theorem dX2_weighColumn_9 : decode cX2_weighColumn 9 = .ok (.iconst 0, 1) := by decide +kernel
theorem dX2_weighColumn_10 : decode cX2_weighColumn 10 = .ok (.istore_n 2, 1) := by decide +kernel
theorem dX2_weighColumn_11 : decode cX2_weighColumn 11 = .ok (.iload_n 2, 1) := by decide +kernel
theorem dX2_weighColumn_12 : decode cX2_weighColumn 12 = .ok (.bipush 8, 2) := by decide +kernel
theorem dX2_weighColumn_14 : decode cX2_weighColumn 14 = .ok (.if_icmp .ge 85, 3) := by decide +kernel
theorem dX2_weighColumn_17 : decode cX2_weighColumn 17 = .ok (.iconst 1, 1) := by decide +kernel
theorem dX2_weighColumn_18 : decode cX2_weighColumn 18 = .ok (.iload_n 2, 1) := by decide +kernel
theorem dX2_weighColumn_19 : decode cX2_weighColumn 19 = .ok (.ishl, 1) := by decide +kernel
theorem dX2_weighColumn_20 : decode cX2_weighColumn 20 = .ok (.istore_n 3, 1) := by decide +kernel
theorem dX2_weighColumn_21 : decode cX2_weighColumn 21 = .ok (.aload_n 0, 1) := by decide +kernel
theorem dX2_weighColumn_22 : decode cX2_weighColumn 22 = .ok (.iload_n 2, 1) := by decide +kernel
theorem dX2_weighColumn_23 : decode cX2_weighColumn 23 = .ok (.iload_n 1, 1) := by decide +kernel
theorem dX2_weighColumn_24 : decode cX2_weighColumn 24 = .ok (.invokevirtual 57, 3) := by decide +kernel
theorem dX2_weighColumn_27 : decode cX2_weighColumn 27 = .ok (.istore 4, 2) := by decide +kernel
theorem dX2_weighColumn_29 : decode cX2_weighColumn 29 = .ok (.iconst 0, 1) := by decide +kernel
theorem dX2_weighColumn_30 : decode cX2_weighColumn 30 = .ok (.istore 5, 2) := by decide +kernel
theorem dX2_weighColumn_32 : decode cX2_weighColumn 32 = .ok (.iload 5, 2) := by decide +kernel
theorem dX2_weighColumn_34 : decode cX2_weighColumn 34 = .ok (.iload_n 3, 1) := by decide +kernel
theorem dX2_weighColumn_35 : decode cX2_weighColumn 35 = .ok (.if_icmp .ge 58, 3) := by decide +kernel
theorem dX2_weighColumn_38 : decode cX2_weighColumn 38 = .ok (.aload_n 0, 1) := by decide +kernel
theorem dX2_weighColumn_39 : decode cX2_weighColumn 39 = .ok (.getfield 24, 3) := by decide +kernel
theorem dX2_weighColumn_42 : decode cX2_weighColumn 42 = .ok (.iload_n 3, 1) := by decide +kernel
theorem dX2_weighColumn_43 : decode cX2_weighColumn 43 = .ok (.iload 5, 2) := by decide +kernel
theorem dX2_weighColumn_45 : decode cX2_weighColumn 45 = .ok (.iadd, 1) := by decide +kernel
theorem dX2_weighColumn_46 : decode cX2_weighColumn 46 = .ok (.aload_n 0, 1) := by decide +kernel
theorem dX2_weighColumn_47 : decode cX2_weighColumn 47 = .ok (.getfield 24, 3) := by decide +kernel
theorem dX2_weighColumn_50 : decode cX2_weighColumn 50 = .ok (.iload 5, 2) := by decide +kernel
theorem dX2_weighColumn_52 : decode cX2_weighColumn 52 = .ok (.laload, 1) := by decide +kernel
theorem dX2_weighColumn_53 : decode cX2_weighColumn 53 = .ok (.ldc2_w 61, 3) := by decide +kernel
theorem dX2_weighColumn_56 : decode cX2_weighColumn 56 = .ok (.ldiv, 1) := by decide +kernel
theorem dX2_weighColumn_57 : decode cX2_weighColumn 57 = .ok (.iload 4, 2) := by decide +kernel
theorem dX2_weighColumn_59 : decode cX2_weighColumn 59 = .ok (.i2l, 1) := by decide +kernel
theorem dX2_weighColumn_60 : decode cX2_weighColumn 60 = .ok (.lmul, 1) := by decide +kernel
theorem dX2_weighColumn_61 : decode cX2_weighColumn 61 = .ok (.lastore, 1) := by decide +kernel
theorem dX2_weighColumn_62 : decode cX2_weighColumn 62 = .ok (.aload_n 0, 1) := by decide +kernel
theorem dX2_weighColumn_63 : decode cX2_weighColumn 63 = .ok (.getfield 28, 3) := by decide +kernel
theorem dX2_weighColumn_66 : decode cX2_weighColumn 66 = .ok (.iload_n 3, 1) := by decide +kernel
theorem dX2_weighColumn_67 : decode cX2_weighColumn 67 = .ok (.iload 5, 2) := by decide +kernel
theorem dX2_weighColumn_69 : decode cX2_weighColumn 69 = .ok (.iadd, 1) := by decide +kernel
theorem dX2_weighColumn_70 : decode cX2_weighColumn 70 = .ok (.dup2, 1) := by decide +kernel
theorem dX2_weighColumn_71 : decode cX2_weighColumn 71 = .ok (.laload, 1) := by decide +kernel
theorem dX2_weighColumn_72 : decode cX2_weighColumn 72 = .ok (.ldc2_w 55, 3) := by decide +kernel
theorem dX2_weighColumn_75 : decode cX2_weighColumn 75 = .ok (.aload_n 0, 1) := by decide +kernel
theorem dX2_weighColumn_76 : decode cX2_weighColumn 76 = .ok (.getfield 24, 3) := by decide +kernel
theorem dX2_weighColumn_79 : decode cX2_weighColumn 79 = .ok (.iload_n 3, 1) := by decide +kernel
theorem dX2_weighColumn_80 : decode cX2_weighColumn 80 = .ok (.iload 5, 2) := by decide +kernel
theorem dX2_weighColumn_82 : decode cX2_weighColumn 82 = .ok (.iadd, 1) := by decide +kernel
theorem dX2_weighColumn_83 : decode cX2_weighColumn 83 = .ok (.laload, 1) := by decide +kernel
theorem dX2_weighColumn_84 : decode cX2_weighColumn 84 = .ok (.lsub, 1) := by decide +kernel
theorem dX2_weighColumn_85 : decode cX2_weighColumn 85 = .ok (.ladd, 1) := by decide +kernel
theorem dX2_weighColumn_86 : decode cX2_weighColumn 86 = .ok (.lastore, 1) := by decide +kernel
theorem dX2_weighColumn_87 : decode cX2_weighColumn 87 = .ok (.iinc 5 1, 3) := by decide +kernel
theorem dX2_weighColumn_90 : decode cX2_weighColumn 90 = .ok (.goto (-58), 3) := by decide +kernel
theorem dX2_weighColumn_93 : decode cX2_weighColumn 93 = .ok (.iinc 2 1, 3) := by decide +kernel
theorem dX2_weighColumn_96 : decode cX2_weighColumn 96 = .ok (.goto (-85), 3) := by decide +kernel
theorem dX2_weighColumn_99 : decode cX2_weighColumn 99 = .ok (.return_, 1) := by decide +kernel
theorem dX2_tenthsMissing_0 : decode cX2_tenthsMissing 0 = .ok (.iload_n 1, 1) := by decide +kernel
theorem dX2_tenthsMissing_1 : decode cX2_tenthsMissing 1 = .ok (.iconst 0, 1) := by decide +kernel
theorem dX2_tenthsMissing_2 : decode cX2_tenthsMissing 2 = .ok (.bipush 7, 2) := by decide +kernel
theorem dX2_tenthsMissing_4 : decode cX2_tenthsMissing 4 = .ok (.invokestatic 31, 3) := by decide +kernel
theorem dX2_tenthsMissing_7 : decode cX2_tenthsMissing 7 = .ok (.ifCond .eq 22, 3) := by decide +kernel
theorem dX2_tenthsMissing_10 : decode cX2_tenthsMissing 10 = .ok (.iload_n 2, 1) := by decide +kernel
theorem dX2_tenthsMissing_11 : decode cX2_tenthsMissing 11 = .ok (.aload_n 0, 1) := by decide +kernel
theorem dX2_tenthsMissing_12 : decode cX2_tenthsMissing 12 = .ok (.getfield 11, 3) := by decide +kernel
theorem dX2_tenthsMissing_15 : decode cX2_tenthsMissing 15 = .ok (.iload_n 1, 1) := by decide +kernel
theorem dX2_tenthsMissing_16 : decode cX2_tenthsMissing 16 = .ok (.iaload, 1) := by decide +kernel
theorem dX2_tenthsMissing_17 : decode cX2_tenthsMissing 17 = .ok (.aload_n 0, 1) := by decide +kernel
theorem dX2_tenthsMissing_18 : decode cX2_tenthsMissing 18 = .ok (.getfield 15, 3) := by decide +kernel
theorem dX2_tenthsMissing_21 : decode cX2_tenthsMissing 21 = .ok (.iload_n 1, 1) := by decide +kernel
theorem dX2_tenthsMissing_22 : decode cX2_tenthsMissing 22 = .ok (.iaload, 1) := by decide +kernel
theorem dX2_tenthsMissing_23 : decode cX2_tenthsMissing 23 = .ok (.invokestatic 31, 3) := by decide +kernel
theorem dX2_tenthsMissing_26 : decode cX2_tenthsMissing 26 = .ok (.ifCond .ne 6, 3) := by decide +kernel
theorem dX2_tenthsMissing_29 : decode cX2_tenthsMissing 29 = .ok (.bipush 10, 2) := by decide +kernel
theorem dX2_tenthsMissing_31 : decode cX2_tenthsMissing 31 = .ok (.ireturn, 1) := by decide +kernel
theorem dX2_tenthsMissing_32 : decode cX2_tenthsMissing 32 = .ok (.bipush 10, 2) := by decide +kernel
theorem dX2_tenthsMissing_34 : decode cX2_tenthsMissing 34 = .ok (.aload_n 0, 1) := by decide +kernel
theorem dX2_tenthsMissing_35 : decode cX2_tenthsMissing 35 = .ok (.getfield 18, 3) := by decide +kernel
theorem dX2_tenthsMissing_38 : decode cX2_tenthsMissing 38 = .ok (.iload_n 1, 1) := by decide +kernel
theorem dX2_tenthsMissing_39 : decode cX2_tenthsMissing 39 = .ok (.iaload, 1) := by decide +kernel
theorem dX2_tenthsMissing_40 : decode cX2_tenthsMissing 40 = .ok (.isub, 1) := by decide +kernel
theorem dX2_tenthsMissing_41 : decode cX2_tenthsMissing 41 = .ok (.ireturn, 1) := by decide +kernel
theorem dX2_weight_0 : decode cX2_weight 0 = .ok (.iload_n 1, 1) := by decide +kernel
theorem dX2_weight_1 : decode cX2_weight 1 = .ok (.iconst 0, 1) := by decide +kernel
theorem dX2_weight_2 : decode cX2_weight 2 = .ok (.sipush 255, 3) := by decide +kernel
theorem dX2_weight_5 : decode cX2_weight 5 = .ok (.invokestatic 31, 3) := by decide +kernel
theorem dX2_weight_8 : decode cX2_weight 8 = .ok (.ifCond .eq 12, 3) := by decide +kernel
theorem dX2_weight_11 : decode cX2_weight 11 = .ok (.aload_n 0, 1) := by decide +kernel
theorem dX2_weight_12 : decode cX2_weight 12 = .ok (.getfield 28, 3) := by decide +kernel
theorem dX2_weight_15 : decode cX2_weight 15 = .ok (.iload_n 1, 1) := by decide +kernel
theorem dX2_weight_16 : decode cX2_weight 16 = .ok (.laload, 1) := by decide +kernel
theorem dX2_weight_17 : decode cX2_weight 17 = .ok (.goto 4, 3) := by decide +kernel
theorem dX2_weight_20 : decode cX2_weight 20 = .ok (.lconst 0, 1) := by decide +kernel
theorem dX2_weight_21 : decode cX2_weight 21 = .ok (.lreturn, 1) := by decide +kernel
theorem dX2_riskOf_0 : decode cX2_riskOf 0 = .ok (.iconst 0, 1) := by decide +kernel
theorem dX2_riskOf_1 : decode cX2_riskOf 1 = .ok (.istore_n 2, 1) := by decide +kernel
theorem dX2_riskOf_2 : decode cX2_riskOf 2 = .ok (.iconst 0, 1) := by decide +kernel
theorem dX2_riskOf_3 : decode cX2_riskOf 3 = .ok (.istore_n 3, 1) := by decide +kernel
theorem dX2_riskOf_4 : decode cX2_riskOf 4 = .ok (.iload_n 3, 1) := by decide +kernel
theorem dX2_riskOf_5 : decode cX2_riskOf 5 = .ok (.bipush 8, 2) := by decide +kernel
theorem dX2_riskOf_7 : decode cX2_riskOf 7 = .ok (.if_icmp .ge 27, 3) := by decide +kernel
theorem dX2_riskOf_10 : decode cX2_riskOf 10 = .ok (.iload_n 1, 1) := by decide +kernel
theorem dX2_riskOf_11 : decode cX2_riskOf 11 = .ok (.iload_n 3, 1) := by decide +kernel
theorem dX2_riskOf_12 : decode cX2_riskOf 12 = .ok (.ishr, 1) := by decide +kernel
theorem dX2_riskOf_13 : decode cX2_riskOf 13 = .ok (.iconst 1, 1) := by decide +kernel
theorem dX2_riskOf_14 : decode cX2_riskOf 14 = .ok (.iand, 1) := by decide +kernel
theorem dX2_riskOf_15 : decode cX2_riskOf 15 = .ok (.iconst 1, 1) := by decide +kernel
theorem dX2_riskOf_16 : decode cX2_riskOf 16 = .ok (.if_icmp .ne 12, 3) := by decide +kernel
theorem dX2_riskOf_19 : decode cX2_riskOf 19 = .ok (.iload_n 2, 1) := by decide +kernel
theorem dX2_riskOf_20 : decode cX2_riskOf 20 = .ok (.aload_n 0, 1) := by decide +kernel
theorem dX2_riskOf_21 : decode cX2_riskOf 21 = .ok (.getfield 21, 3) := by decide +kernel
theorem dX2_riskOf_24 : decode cX2_riskOf 24 = .ok (.iload_n 3, 1) := by decide +kernel
theorem dX2_riskOf_25 : decode cX2_riskOf 25 = .ok (.iaload, 1) := by decide +kernel
theorem dX2_riskOf_26 : decode cX2_riskOf 26 = .ok (.iadd, 1) := by decide +kernel
theorem dX2_riskOf_27 : decode cX2_riskOf 27 = .ok (.istore_n 2, 1) := by decide +kernel
theorem dX2_riskOf_28 : decode cX2_riskOf 28 = .ok (.iinc 3 1, 3) := by decide +kernel
theorem dX2_riskOf_31 : decode cX2_riskOf 31 = .ok (.goto (-27), 3) := by decide +kernel
theorem dX2_riskOf_34 : decode cX2_riskOf 34 = .ok (.iload_n 2, 1) := by decide +kernel
theorem dX2_riskOf_35 : decode cX2_riskOf 35 = .ok (.ireturn, 1) := by decide +kernel
theorem dX2_choose_0 : decode cX2_choose 0 = .ok (.iconst 0, 1) := by decide +kernel
theorem dX2_choose_1 : decode cX2_choose 1 = .ok (.istore_n 2, 1) := by decide +kernel
theorem dX2_choose_2 : decode cX2_choose 2 = .ok (.iconst 0, 1) := by decide +kernel
theorem dX2_choose_3 : decode cX2_choose 3 = .ok (.istore_n 3, 1) := by decide +kernel
theorem dX2_choose_4 : decode cX2_choose 4 = .ok (.iconst 1, 1) := by decide +kernel
theorem dX2_choose_5 : decode cX2_choose 5 = .ok (.istore 4, 2) := by decide +kernel
theorem dX2_choose_7 : decode cX2_choose 7 = .ok (.iload 4, 2) := by decide +kernel
theorem dX2_choose_9 : decode cX2_choose 9 = .ok (.sipush 256, 3) := by decide +kernel
theorem dX2_choose_12 : decode cX2_choose 12 = .ok (.if_icmp .ge 68, 3) := by decide +kernel
theorem dX2_choose_15 : decode cX2_choose 15 = .ok (.aload_n 0, 1) := by decide +kernel
theorem dX2_choose_16 : decode cX2_choose 16 = .ok (.iload 4, 2) := by decide +kernel
theorem dX2_choose_18 : decode cX2_choose 18 = .ok (.invokevirtual 63, 3) := by decide +kernel
theorem dX2_choose_21 : decode cX2_choose 21 = .ok (.istore 5, 2) := by decide +kernel
theorem dX2_choose_23 : decode cX2_choose 23 = .ok (.iload 5, 2) := by decide +kernel
theorem dX2_choose_25 : decode cX2_choose 25 = .ok (.iload_n 1, 1) := by decide +kernel
theorem dX2_choose_26 : decode cX2_choose 26 = .ok (.if_icmp .le 6, 3) := by decide +kernel
theorem dX2_choose_29 : decode cX2_choose 29 = .ok (.goto 45, 3) := by decide +kernel
theorem dX2_choose_32 : decode cX2_choose 32 = .ok (.aload_n 0, 1) := by decide +kernel
theorem dX2_choose_33 : decode cX2_choose 33 = .ok (.getfield 28, 3) := by decide +kernel
theorem dX2_choose_36 : decode cX2_choose 36 = .ok (.iload 4, 2) := by decide +kernel
theorem dX2_choose_38 : decode cX2_choose 38 = .ok (.laload, 1) := by decide +kernel
theorem dX2_choose_39 : decode cX2_choose 39 = .ok (.aload_n 0, 1) := by decide +kernel
theorem dX2_choose_40 : decode cX2_choose 40 = .ok (.getfield 28, 3) := by decide +kernel
theorem dX2_choose_43 : decode cX2_choose 43 = .ok (.iload_n 2, 1) := by decide +kernel
theorem dX2_choose_44 : decode cX2_choose 44 = .ok (.laload, 1) := by decide +kernel
theorem dX2_choose_45 : decode cX2_choose 45 = .ok (.lsub, 1) := by decide +kernel
theorem dX2_choose_46 : decode cX2_choose 46 = .ok (.lstore 6, 2) := by decide +kernel
theorem dX2_choose_48 : decode cX2_choose 48 = .ok (.lload 6, 2) := by decide +kernel
theorem dX2_choose_50 : decode cX2_choose 50 = .ok (.lconst 0, 1) := by decide +kernel
theorem dX2_choose_51 : decode cX2_choose 51 = .ok (.lcmp, 1) := by decide +kernel
theorem dX2_choose_52 : decode cX2_choose 52 = .ok (.ifCond .gt 16, 3) := by decide +kernel
theorem dX2_choose_55 : decode cX2_choose 55 = .ok (.lload 6, 2) := by decide +kernel
theorem dX2_choose_57 : decode cX2_choose 57 = .ok (.lconst 0, 1) := by decide +kernel
theorem dX2_choose_58 : decode cX2_choose 58 = .ok (.lcmp, 1) := by decide +kernel
theorem dX2_choose_59 : decode cX2_choose 59 = .ok (.ifCond .ne 15, 3) := by decide +kernel
theorem dX2_choose_62 : decode cX2_choose 62 = .ok (.iload 5, 2) := by decide +kernel
theorem dX2_choose_64 : decode cX2_choose 64 = .ok (.iload_n 3, 1) := by decide +kernel
theorem dX2_choose_65 : decode cX2_choose 65 = .ok (.if_icmp .ge 9, 3) := by decide +kernel
theorem dX2_choose_68 : decode cX2_choose 68 = .ok (.iload 4, 2) := by decide +kernel
theorem dX2_choose_70 : decode cX2_choose 70 = .ok (.istore_n 2, 1) := by decide +kernel
theorem dX2_choose_71 : decode cX2_choose 71 = .ok (.iload 5, 2) := by decide +kernel
theorem dX2_choose_73 : decode cX2_choose 73 = .ok (.istore_n 3, 1) := by decide +kernel
theorem dX2_choose_74 : decode cX2_choose 74 = .ok (.iinc 4 1, 3) := by decide +kernel
theorem dX2_choose_77 : decode cX2_choose 77 = .ok (.goto (-70), 3) := by decide +kernel
theorem dX2_choose_80 : decode cX2_choose 80 = .ok (.iload_n 2, 1) := by decide +kernel
theorem dX2_choose_81 : decode cX2_choose 81 = .ok (.ireturn, 1) := by decide +kernel
theorem dX3_init_0 : decode cX3_init 0 = .ok (.aload_n 0, 1) := by decide +kernel
theorem dX3_init_1 : decode cX3_init 1 = .ok (.invokespecial 3, 3) := by decide +kernel
theorem dX3_init_4 : decode cX3_init 4 = .ok (.aload_n 0, 1) := by decide +kernel
theorem dX3_init_5 : decode cX3_init 5 = .ok (.bipush 12, 2) := by decide +kernel
theorem dX3_init_7 : decode cX3_init 7 = .ok (.anewarray 9, 3) := by decide +kernel
theorem dX3_init_10 : decode cX3_init 10 = .ok (.putfield 11, 3) := by decide +kernel
theorem dX3_init_13 : decode cX3_init 13 = .ok (.return_, 1) := by decide +kernel
theorem dX3_size_0 : decode cX3_size 0 = .ok (.aload_n 0, 1) := by decide +kernel
theorem dX3_size_1 : decode cX3_size 1 = .ok (.getfield 17, 3) := by decide +kernel
theorem dX3_size_4 : decode cX3_size 4 = .ok (.ireturn, 1) := by decide +kernel
theorem dX3_isFull_0 : decode cX3_isFull 0 = .ok (.aload_n 0, 1) := by decide +kernel
theorem dX3_isFull_1 : decode cX3_isFull 1 = .ok (.getfield 17, 3) := by decide +kernel
theorem dX3_isFull_4 : decode cX3_isFull 4 = .ok (.bipush 12, 2) := by decide +kernel
theorem dX3_isFull_6 : decode cX3_isFull 6 = .ok (.if_icmp .lt 7, 3) := by decide +kernel
theorem dX3_isFull_9 : decode cX3_isFull 9 = .ok (.iconst 1, 1) := by decide +kernel
theorem dX3_isFull_10 : decode cX3_isFull 10 = .ok (.goto 4, 3) := by decide +kernel
theorem dX3_isFull_13 : decode cX3_isFull 13 = .ok (.iconst 0, 1) := by decide +kernel
theorem dX3_isFull_14 : decode cX3_isFull 14 = .ok (.ireturn, 1) := by decide +kernel
theorem dX3_add_0 : decode cX3_add 0 = .ok (.aload_n 0, 1) := by decide +kernel
theorem dX3_add_1 : decode cX3_add 1 = .ok (.invokevirtual 21, 3) := by decide +kernel
theorem dX3_add_4 : decode cX3_add 4 = .ok (.ifCond .eq 6, 3) := by decide +kernel
theorem dX3_add_7 : decode cX3_add 7 = .ok (.bipush (-4), 2) := by decide +kernel
theorem dX3_add_9 : decode cX3_add 9 = .ok (.ireturn, 1) := by decide +kernel
theorem dX3_add_10 : decode cX3_add 10 = .ok (.aload_n 0, 1) := by decide +kernel
theorem dX3_add_11 : decode cX3_add 11 = .ok (.getfield 11, 3) := by decide +kernel
theorem dX3_add_14 : decode cX3_add 14 = .ok (.aload_n 0, 1) := by decide +kernel
theorem dX3_add_15 : decode cX3_add 15 = .ok (.getfield 17, 3) := by decide +kernel
theorem dX3_add_18 : decode cX3_add 18 = .ok (.new 9, 3) := by decide +kernel
theorem dX3_add_21 : decode cX3_add 21 = .ok (.dup, 1) := by decide +kernel
theorem dX3_add_22 : decode cX3_add 22 = .ok (.aload_n 0, 1) := by decide +kernel
theorem dX3_add_23 : decode cX3_add 23 = .ok (.getfield 17, 3) := by decide +kernel
theorem dX3_add_26 : decode cX3_add 26 = .ok (.aload_n 1, 1) := by decide +kernel
theorem dX3_add_27 : decode cX3_add 27 = .ok (.invokespecial 25, 3) := by decide +kernel
theorem dX3_add_30 : decode cX3_add 30 = .ok (.aastore, 1) := by decide +kernel
theorem dX3_add_31 : decode cX3_add 31 = .ok (.aload_n 0, 1) := by decide +kernel
theorem dX3_add_32 : decode cX3_add 32 = .ok (.dup, 1) := by decide +kernel
theorem dX3_add_33 : decode cX3_add 33 = .ok (.getfield 17, 3) := by decide +kernel
theorem dX3_add_36 : decode cX3_add 36 = .ok (.iconst 1, 1) := by decide +kernel
theorem dX3_add_37 : decode cX3_add 37 = .ok (.iadd, 1) := by decide +kernel
theorem dX3_add_38 : decode cX3_add 38 = .ok (.putfield 17, 3) := by decide +kernel
theorem dX3_add_41 : decode cX3_add 41 = .ok (.aload_n 0, 1) := by decide +kernel
theorem dX3_add_42 : decode cX3_add 42 = .ok (.getfield 17, 3) := by decide +kernel
theorem dX3_add_45 : decode cX3_add 45 = .ok (.iconst 1, 1) := by decide +kernel
theorem dX3_add_46 : decode cX3_add 46 = .ok (.isub, 1) := by decide +kernel
theorem dX3_add_47 : decode cX3_add 47 = .ok (.ireturn, 1) := by decide +kernel
theorem dX3_find_0 : decode cX3_find 0 = .ok (.iload_n 1, 1) := by decide +kernel
theorem dX3_find_1 : decode cX3_find 1 = .ok (.iconst 0, 1) := by decide +kernel
theorem dX3_find_2 : decode cX3_find 2 = .ok (.bipush 11, 2) := by decide +kernel
theorem dX3_find_4 : decode cX3_find 4 = .ok (.invokestatic 28, 3) := by decide +kernel
theorem dX3_find_7 : decode cX3_find 7 = .ok (.ifCond .eq 12, 3) := by decide +kernel
theorem dX3_find_10 : decode cX3_find 10 = .ok (.aload_n 0, 1) := by decide +kernel
theorem dX3_find_11 : decode cX3_find 11 = .ok (.getfield 11, 3) := by decide +kernel
theorem dX3_find_14 : decode cX3_find 14 = .ok (.iload_n 1, 1) := by decide +kernel
theorem dX3_find_15 : decode cX3_find 15 = .ok (.aaload, 1) := by decide +kernel
theorem dX3_find_16 : decode cX3_find 16 = .ok (.goto 4, 3) := by decide +kernel
theorem dX3_find_19 : decode cX3_find 19 = .ok (.aconst_null, 1) := by decide +kernel
theorem dX3_find_20 : decode cX3_find 20 = .ok (.areturn, 1) := by decide +kernel
theorem dX3_counting_0 : decode cX3_counting 0 = .ok (.aconst_null, 1) := by decide +kernel
theorem dX3_counting_1 : decode cX3_counting 1 = .ok (.astore_n 3, 1) := by decide +kernel
theorem dX3_counting_2 : decode cX3_counting 2 = .ok (.iconst 0, 1) := by decide +kernel
theorem dX3_counting_3 : decode cX3_counting 3 = .ok (.istore 4, 2) := by decide +kernel
theorem dX3_counting_5 : decode cX3_counting 5 = .ok (.iload 4, 2) := by decide +kernel
theorem dX3_counting_7 : decode cX3_counting 7 = .ok (.aload_n 0, 1) := by decide +kernel
theorem dX3_counting_8 : decode cX3_counting 8 = .ok (.getfield 17, 3) := by decide +kernel
theorem dX3_counting_11 : decode cX3_counting 11 = .ok (.if_icmp .ge 59, 3) := by decide +kernel
theorem dX3_counting_14 : decode cX3_counting 14 = .ok (.aload_n 0, 1) := by decide +kernel
theorem dX3_counting_15 : decode cX3_counting 15 = .ok (.iload 4, 2) := by decide +kernel
theorem dX3_counting_17 : decode cX3_counting 17 = .ok (.invokevirtual 32, 3) := by decide +kernel
theorem dX3_counting_20 : decode cX3_counting 20 = .ok (.astore 5, 2) := by decide +kernel
theorem dX3_counting_22 : decode cX3_counting 22 = .ok (.aload 5, 2) := by decide +kernel
theorem dX3_counting_24 : decode cX3_counting 24 = .ok (.ifnull 40, 3) := by decide +kernel
theorem dX3_counting_27 : decode cX3_counting 27 = .ok (.aload 5, 2) := by decide +kernel
theorem dX3_counting_29 : decode cX3_counting 29 = .ok (.iload_n 2, 1) := by decide +kernel
theorem dX3_counting_30 : decode cX3_counting 30 = .ok (.invokevirtual 36, 3) := by decide +kernel
theorem dX3_counting_33 : decode cX3_counting 33 = .ok (.ifCond .eq 31, 3) := by decide +kernel
theorem dX3_counting_36 : decode cX3_counting 36 = .ok (.aload 5, 2) := by decide +kernel
theorem dX3_counting_38 : decode cX3_counting 38 = .ok (.iload_n 1, 1) := by decide +kernel
theorem dX3_counting_39 : decode cX3_counting 39 = .ok (.bipush 12, 2) := by decide +kernel
theorem dX3_counting_41 : decode cX3_counting 41 = .ok (.irem, 1) := by decide +kernel
theorem dX3_counting_42 : decode cX3_counting 42 = .ok (.iload_n 1, 1) := by decide +kernel
theorem dX3_counting_43 : decode cX3_counting 43 = .ok (.bipush 12, 2) := by decide +kernel
theorem dX3_counting_45 : decode cX3_counting 45 = .ok (.idiv, 1) := by decide +kernel
theorem dX3_counting_46 : decode cX3_counting 46 = .ok (.invokevirtual 40, 3) := by decide +kernel
theorem dX3_counting_49 : decode cX3_counting 49 = .ok (.ifCond .eq 15, 3) := by decide +kernel
theorem dX3_counting_52 : decode cX3_counting 52 = .ok (.aload 5, 2) := by decide +kernel
theorem dX3_counting_54 : decode cX3_counting 54 = .ok (.aload_n 3, 1) := by decide +kernel
theorem dX3_counting_55 : decode cX3_counting 55 = .ok (.invokevirtual 44, 3) := by decide +kernel
theorem dX3_counting_58 : decode cX3_counting 58 = .ok (.ifCond .eq 6, 3) := by decide +kernel
theorem dX3_counting_61 : decode cX3_counting 61 = .ok (.aload 5, 2) := by decide +kernel
theorem dX3_counting_63 : decode cX3_counting 63 = .ok (.astore_n 3, 1) := by decide +kernel
theorem dX3_counting_64 : decode cX3_counting 64 = .ok (.iinc 4 1, 3) := by decide +kernel
theorem dX3_counting_67 : decode cX3_counting 67 = .ok (.goto (-62), 3) := by decide +kernel
theorem dX3_counting_70 : decode cX3_counting 70 = .ok (.aload_n 3, 1) := by decide +kernel
theorem dX3_counting_71 : decode cX3_counting 71 = .ok (.ifnonnull 8, 3) := by decide +kernel
theorem dX3_counting_74 : decode cX3_counting 74 = .ok (.bipush (-6), 2) := by decide +kernel
theorem dX3_counting_76 : decode cX3_counting 76 = .ok (.goto 7, 3) := by decide +kernel
theorem dX3_counting_79 : decode cX3_counting 79 = .ok (.aload_n 3, 1) := by decide +kernel
theorem dX3_counting_80 : decode cX3_counting 80 = .ok (.invokevirtual 48, 3) := by decide +kernel
theorem dX3_counting_83 : decode cX3_counting 83 = .ok (.ireturn, 1) := by decide +kernel
theorem dX3_fillCounting_0 : decode cX3_fillCounting 0 = .ok (.iconst 0, 1) := by decide +kernel
theorem dX3_fillCounting_1 : decode cX3_fillCounting 1 = .ok (.istore_n 3, 1) := by decide +kernel
theorem dX3_fillCounting_2 : decode cX3_fillCounting 2 = .ok (.iload_n 3, 1) := by decide +kernel
theorem dX3_fillCounting_3 : decode cX3_fillCounting 3 = .ok (.aload_n 1, 1) := by decide +kernel
theorem dX3_fillCounting_4 : decode cX3_fillCounting 4 = .ok (.arraylength, 1) := by decide +kernel
theorem dX3_fillCounting_5 : decode cX3_fillCounting 5 = .ok (.if_icmp .ge 14, 3) := by decide +kernel
theorem dX3_fillCounting_8 : decode cX3_fillCounting 8 = .ok (.aload_n 1, 1) := by decide +kernel
theorem dX3_fillCounting_9 : decode cX3_fillCounting 9 = .ok (.iload_n 3, 1) := by decide +kernel
theorem dX3_fillCounting_10 : decode cX3_fillCounting 10 = .ok (.bipush (-6), 2) := by decide +kernel
theorem dX3_fillCounting_12 : decode cX3_fillCounting 12 = .ok (.iastore, 1) := by decide +kernel
theorem dX3_fillCounting_13 : decode cX3_fillCounting 13 = .ok (.iinc 3 1, 3) := by decide +kernel
theorem dX3_fillCounting_16 : decode cX3_fillCounting 16 = .ok (.goto (-14), 3) := by decide +kernel
theorem dX3_fillCounting_19 : decode cX3_fillCounting 19 = .ok (.iconst 0, 1) := by decide +kernel
theorem dX3_fillCounting_20 : decode cX3_fillCounting 20 = .ok (.istore_n 3, 1) := by decide +kernel
theorem dX3_fillCounting_21 : decode cX3_fillCounting 21 = .ok (.iload_n 3, 1) := by decide +kernel
theorem dX3_fillCounting_22 : decode cX3_fillCounting 22 = .ok (.aload_n 0, 1) := by decide +kernel
theorem dX3_fillCounting_23 : decode cX3_fillCounting 23 = .ok (.getfield 17, 3) := by decide +kernel
theorem dX3_fillCounting_26 : decode cX3_fillCounting 26 = .ok (.if_icmp .ge 37, 3) := by decide +kernel
theorem dX3_fillCounting_29 : decode cX3_fillCounting 29 = .ok (.aload_n 0, 1) := by decide +kernel
theorem dX3_fillCounting_30 : decode cX3_fillCounting 30 = .ok (.iload_n 3, 1) := by decide +kernel
theorem dX3_fillCounting_31 : decode cX3_fillCounting 31 = .ok (.invokevirtual 32, 3) := by decide +kernel
theorem dX3_fillCounting_34 : decode cX3_fillCounting 34 = .ok (.astore 4, 2) := by decide +kernel
theorem dX3_fillCounting_36 : decode cX3_fillCounting 36 = .ok (.aload 4, 2) := by decide +kernel
theorem dX3_fillCounting_38 : decode cX3_fillCounting 38 = .ok (.ifnull 19, 3) := by decide +kernel
theorem dX3_fillCounting_41 : decode cX3_fillCounting 41 = .ok (.aload 4, 2) := by decide +kernel
theorem dX3_fillCounting_43 : decode cX3_fillCounting 43 = .ok (.iload_n 2, 1) := by decide +kernel
theorem dX3_fillCounting_44 : decode cX3_fillCounting 44 = .ok (.invokevirtual 36, 3) := by decide +kernel
theorem dX3_fillCounting_47 : decode cX3_fillCounting 47 = .ok (.ifCond .eq 10, 3) := by decide +kernel
theorem dX3_fillCounting_50 : decode cX3_fillCounting 50 = .ok (.aload_n 0, 1) := by decide +kernel
theorem dX3_fillCounting_51 : decode cX3_fillCounting 51 = .ok (.aload 4, 2) := by decide +kernel
theorem dX3_fillCounting_53 : decode cX3_fillCounting 53 = .ok (.aload_n 1, 1) := by decide +kernel
theorem dX3_fillCounting_54 : decode cX3_fillCounting 54 = .ok (.invokevirtual 52, 3) := by decide +kernel
theorem dX3_fillCounting_57 : decode cX3_fillCounting 57 = .ok (.iinc 3 1, 3) := by decide +kernel
theorem dX3_fillCounting_60 : decode cX3_fillCounting 60 = .ok (.goto (-39), 3) := by decide +kernel
theorem dX3_fillCounting_63 : decode cX3_fillCounting 63 = .ok (.return_, 1) := by decide +kernel
theorem dX3_lay_0 : decode cX3_lay 0 = .ok (.aload_n 1, 1) := by decide +kernel
theorem dX3_lay_1 : decode cX3_lay 1 = .ok (.iconst 2, 1) := by decide +kernel
theorem dX3_lay_2 : decode cX3_lay 2 = .ok (.invokevirtual 56, 3) := by decide +kernel
theorem dX3_lay_5 : decode cX3_lay 5 = .ok (.istore_n 3, 1) := by decide +kernel
theorem dX3_lay_6 : decode cX3_lay 6 = .ok (.iload_n 3, 1) := by decide +kernel
theorem dX3_lay_7 : decode cX3_lay 7 = .ok (.aload_n 1, 1) := by decide +kernel
theorem dX3_lay_8 : decode cX3_lay 8 = .ok (.iconst 3, 1) := by decide +kernel
theorem dX3_lay_9 : decode cX3_lay 9 = .ok (.invokevirtual 56, 3) := by decide +kernel
theorem dX3_lay_12 : decode cX3_lay 12 = .ok (.imul, 1) := by decide +kernel
theorem dX3_lay_13 : decode cX3_lay 13 = .ok (.istore 4, 2) := by decide +kernel
theorem dX3_lay_15 : decode cX3_lay 15 = .ok (.iload_n 3, 1) := by decide +kernel
theorem dX3_lay_16 : decode cX3_lay 16 = .ok (.iconst 1, 1) := by decide +kernel
theorem dX3_lay_17 : decode cX3_lay 17 = .ok (.if_icmp .ge 4, 3) := by decide +kernel
theorem dX3_lay_20 : decode cX3_lay 20 = .ok (.return_, 1) := by decide +kernel
theorem dX3_lay_21 : decode cX3_lay 21 = .ok (.iconst 0, 1) := by decide +kernel
theorem dX3_lay_22 : decode cX3_lay 22 = .ok (.istore 5, 2) := by decide +kernel
theorem dX3_lay_24 : decode cX3_lay 24 = .ok (.iload 5, 2) := by decide +kernel
theorem dX3_lay_26 : decode cX3_lay 26 = .ok (.iload 4, 2) := by decide +kernel
theorem dX3_lay_28 : decode cX3_lay 28 = .ok (.if_icmp .ge 69, 3) := by decide +kernel
theorem dX3_lay_31 : decode cX3_lay 31 = .ok (.aload_n 1, 1) := by decide +kernel
theorem dX3_lay_32 : decode cX3_lay 32 = .ok (.iconst 0, 1) := by decide +kernel
theorem dX3_lay_33 : decode cX3_lay 33 = .ok (.invokevirtual 56, 3) := by decide +kernel
theorem dX3_lay_36 : decode cX3_lay 36 = .ok (.iload 5, 2) := by decide +kernel
theorem dX3_lay_38 : decode cX3_lay 38 = .ok (.iload_n 3, 1) := by decide +kernel
theorem dX3_lay_39 : decode cX3_lay 39 = .ok (.irem, 1) := by decide +kernel
theorem dX3_lay_40 : decode cX3_lay 40 = .ok (.iadd, 1) := by decide +kernel
theorem dX3_lay_41 : decode cX3_lay 41 = .ok (.aload_n 1, 1) := by decide +kernel
theorem dX3_lay_42 : decode cX3_lay 42 = .ok (.iconst 1, 1) := by decide +kernel
theorem dX3_lay_43 : decode cX3_lay 43 = .ok (.invokevirtual 56, 3) := by decide +kernel
theorem dX3_lay_46 : decode cX3_lay 46 = .ok (.iload 5, 2) := by decide +kernel
theorem dX3_lay_48 : decode cX3_lay 48 = .ok (.iload_n 3, 1) := by decide +kernel
theorem dX3_lay_49 : decode cX3_lay 49 = .ok (.idiv, 1) := by decide +kernel
theorem dX3_lay_50 : decode cX3_lay 50 = .ok (.iadd, 1) := by decide +kernel
theorem dX3_lay_51 : decode cX3_lay 51 = .ok (.invokestatic 60, 3) := by decide +kernel
theorem dX3_lay_54 : decode cX3_lay 54 = .ok (.istore 6, 2) := by decide +kernel
theorem dX3_lay_56 : decode cX3_lay 56 = .ok (.iload 6, 2) := by decide +kernel
theorem dX3_lay_58 : decode cX3_lay 58 = .ok (.ifCond .lt 33, 3) := by decide +kernel
theorem dX3_lay_61 : decode cX3_lay 61 = .ok (.iload 6, 2) := by decide +kernel
theorem dX3_lay_63 : decode cX3_lay 63 = .ok (.aload_n 2, 1) := by decide +kernel
theorem dX3_lay_64 : decode cX3_lay 64 = .ok (.arraylength, 1) := by decide +kernel
theorem dX3_lay_65 : decode cX3_lay 65 = .ok (.if_icmp .ge 26, 3) := by decide +kernel
theorem dX3_lay_68 : decode cX3_lay 68 = .ok (.aload_n 1, 1) := by decide +kernel
theorem dX3_lay_69 : decode cX3_lay 69 = .ok (.aload_n 0, 1) := by decide +kernel
theorem dX3_lay_70 : decode cX3_lay 70 = .ok (.aload_n 2, 1) := by decide +kernel
theorem dX3_lay_71 : decode cX3_lay 71 = .ok (.iload 6, 2) := by decide +kernel
theorem dX3_lay_73 : decode cX3_lay 73 = .ok (.iaload, 1) := by decide +kernel
theorem dX3_lay_74 : decode cX3_lay 74 = .ok (.invokevirtual 32, 3) := by decide +kernel
theorem dX3_lay_77 : decode cX3_lay 77 = .ok (.invokevirtual 44, 3) := by decide +kernel
theorem dX3_lay_80 : decode cX3_lay 80 = .ok (.ifCond .eq 11, 3) := by decide +kernel
theorem dX3_lay_83 : decode cX3_lay 83 = .ok (.aload_n 2, 1) := by decide +kernel
theorem dX3_lay_84 : decode cX3_lay 84 = .ok (.iload 6, 2) := by decide +kernel
theorem dX3_lay_86 : decode cX3_lay 86 = .ok (.aload_n 1, 1) := by decide +kernel
theorem dX3_lay_87 : decode cX3_lay 87 = .ok (.invokevirtual 48, 3) := by decide +kernel
theorem dX3_lay_90 : decode cX3_lay 90 = .ok (.iastore, 1) := by decide +kernel
theorem dX3_lay_91 : decode cX3_lay 91 = .ok (.iinc 5 1, 3) := by decide +kernel
theorem dX3_lay_94 : decode cX3_lay 94 = .ok (.goto (-70), 3) := by decide +kernel
theorem dX3_lay_97 : decode cX3_lay 97 = .ok (.return_, 1) := by decide +kernel
theorem dX4_init_0 : decode cX4_init 0 = .ok (.aload_n 0, 1) := by decide +kernel
theorem dX4_init_1 : decode cX4_init 1 = .ok (.invokespecial 3, 3) := by decide +kernel
theorem dX4_init_4 : decode cX4_init 4 = .ok (.aload_n 0, 1) := by decide +kernel
theorem dX4_init_5 : decode cX4_init 5 = .ok (.bipush 96, 2) := by decide +kernel
theorem dX4_init_7 : decode cX4_init 7 = .ok (.newarray .int, 2) := by decide +kernel
theorem dX4_init_9 : decode cX4_init 9 = .ok (.putfield 9, 3) := by decide +kernel
theorem dX4_init_12 : decode cX4_init 12 = .ok (.return_, 1) := by decide +kernel
theorem dX4_cell_0 : decode cX4_cell 0 = .ok (.aload_n 0, 1) := by decide +kernel
theorem dX4_cell_1 : decode cX4_cell 1 = .ok (.getfield 15, 3) := by decide +kernel
theorem dX4_cell_4 : decode cX4_cell 4 = .ok (.ireturn, 1) := by decide +kernel
theorem dX4_most_0 : decode cX4_most 0 = .ok (.aload_n 0, 1) := by decide +kernel
theorem dX4_most_1 : decode cX4_most 1 = .ok (.getfield 19, 3) := by decide +kernel
theorem dX4_most_4 : decode cX4_most 4 = .ok (.ireturn, 1) := by decide +kernel
theorem dX4_draw_0 : decode cX4_draw 0 = .ok (.iconst 0, 1) := by decide +kernel
theorem dX4_draw_1 : decode cX4_draw 1 = .ok (.istore_n 3, 1) := by decide +kernel
theorem dX4_draw_2 : decode cX4_draw 2 = .ok (.iload_n 3, 1) := by decide +kernel
theorem dX4_draw_3 : decode cX4_draw 3 = .ok (.bipush 96, 2) := by decide +kernel
theorem dX4_draw_5 : decode cX4_draw 5 = .ok (.if_icmp .ge 16, 3) := by decide +kernel
theorem dX4_draw_8 : decode cX4_draw 8 = .ok (.aload_n 0, 1) := by decide +kernel
theorem dX4_draw_9 : decode cX4_draw 9 = .ok (.getfield 9, 3) := by decide +kernel
theorem dX4_draw_12 : decode cX4_draw 12 = .ok (.iload_n 3, 1) := by decide +kernel
theorem dX4_draw_13 : decode cX4_draw 13 = .ok (.iconst 0, 1) := by decide +kernel
theorem dX4_draw_14 : decode cX4_draw 14 = .ok (.iastore, 1) := by decide +kernel
theorem dX4_draw_15 : decode cX4_draw 15 = .ok (.iinc 3 1, 3) := by decide +kernel
theorem dX4_draw_18 : decode cX4_draw 18 = .ok (.goto (-16), 3) := by decide +kernel
theorem dX4_draw_21 : decode cX4_draw 21 = .ok (.iconst 0, 1) := by decide +kernel
theorem dX4_draw_22 : decode cX4_draw 22 = .ok (.istore_n 3, 1) := by decide +kernel
theorem dX4_draw_23 : decode cX4_draw 23 = .ok (.iload_n 3, 1) := by decide +kernel
theorem dX4_draw_24 : decode cX4_draw 24 = .ok (.aload_n 1, 1) := by decide +kernel
theorem dX4_draw_25 : decode cX4_draw 25 = .ok (.invokevirtual 22, 3) := by decide +kernel
theorem dX4_draw_28 : decode cX4_draw 28 = .ok (.if_icmp .ge 36, 3) := by decide +kernel
theorem dX4_draw_31 : decode cX4_draw 31 = .ok (.aload_n 1, 1) := by decide +kernel
theorem dX4_draw_32 : decode cX4_draw 32 = .ok (.iload_n 3, 1) := by decide +kernel
theorem dX4_draw_33 : decode cX4_draw 33 = .ok (.invokevirtual 28, 3) := by decide +kernel
theorem dX4_draw_36 : decode cX4_draw 36 = .ok (.astore 4, 2) := by decide +kernel
theorem dX4_draw_38 : decode cX4_draw 38 = .ok (.aload 4, 2) := by decide +kernel
theorem dX4_draw_40 : decode cX4_draw 40 = .ok (.ifnull 18, 3) := by decide +kernel
theorem dX4_draw_43 : decode cX4_draw 43 = .ok (.aload 4, 2) := by decide +kernel
theorem dX4_draw_45 : decode cX4_draw 45 = .ok (.iload_n 2, 1) := by decide +kernel
theorem dX4_draw_46 : decode cX4_draw 46 = .ok (.invokevirtual 32, 3) := by decide +kernel
theorem dX4_draw_49 : decode cX4_draw 49 = .ok (.ifCond .eq 9, 3) := by decide +kernel
theorem dX4_draw_52 : decode cX4_draw 52 = .ok (.aload_n 0, 1) := by decide +kernel
theorem dX4_draw_53 : decode cX4_draw 53 = .ok (.aload 4, 2) := by decide +kernel
theorem dX4_draw_55 : decode cX4_draw 55 = .ok (.invokevirtual 38, 3) := by decide +kernel
theorem dX4_draw_58 : decode cX4_draw 58 = .ok (.iinc 3 1, 3) := by decide +kernel
theorem dX4_draw_61 : decode cX4_draw 61 = .ok (.goto (-38), 3) := by decide +kernel
theorem dX4_draw_64 : decode cX4_draw 64 = .ok (.aload_n 0, 1) := by decide +kernel
theorem dX4_draw_65 : decode cX4_draw 65 = .ok (.bipush (-6), 2) := by decide +kernel
theorem dX4_draw_67 : decode cX4_draw 67 = .ok (.putfield 15, 3) := by decide +kernel
theorem dX4_draw_70 : decode cX4_draw 70 = .ok (.aload_n 0, 1) := by decide +kernel
theorem dX4_draw_71 : decode cX4_draw 71 = .ok (.iconst 0, 1) := by decide +kernel
theorem dX4_draw_72 : decode cX4_draw 72 = .ok (.putfield 19, 3) := by decide +kernel
theorem dX4_draw_75 : decode cX4_draw 75 = .ok (.iconst 0, 1) := by decide +kernel
theorem dX4_draw_76 : decode cX4_draw 76 = .ok (.istore_n 3, 1) := by decide +kernel
theorem dX4_draw_77 : decode cX4_draw 77 = .ok (.iload_n 3, 1) := by decide +kernel
theorem dX4_draw_78 : decode cX4_draw 78 = .ok (.bipush 96, 2) := by decide +kernel
theorem dX4_draw_80 : decode cX4_draw 80 = .ok (.if_icmp .ge 37, 3) := by decide +kernel
theorem dX4_draw_83 : decode cX4_draw 83 = .ok (.aload_n 0, 1) := by decide +kernel
theorem dX4_draw_84 : decode cX4_draw 84 = .ok (.getfield 9, 3) := by decide +kernel
theorem dX4_draw_87 : decode cX4_draw 87 = .ok (.iload_n 3, 1) := by decide +kernel
theorem dX4_draw_88 : decode cX4_draw 88 = .ok (.iaload, 1) := by decide +kernel
theorem dX4_draw_89 : decode cX4_draw 89 = .ok (.aload_n 0, 1) := by decide +kernel
theorem dX4_draw_90 : decode cX4_draw 90 = .ok (.getfield 19, 3) := by decide +kernel
theorem dX4_draw_93 : decode cX4_draw 93 = .ok (.if_icmp .le 18, 3) := by decide +kernel
theorem dX4_draw_96 : decode cX4_draw 96 = .ok (.aload_n 0, 1) := by decide +kernel
theorem dX4_draw_97 : decode cX4_draw 97 = .ok (.iload_n 3, 1) := by decide +kernel
theorem dX4_draw_98 : decode cX4_draw 98 = .ok (.putfield 15, 3) := by decide +kernel
theorem dX4_draw_101 : decode cX4_draw 101 = .ok (.aload_n 0, 1) := by decide +kernel
theorem dX4_draw_102 : decode cX4_draw 102 = .ok (.aload_n 0, 1) := by decide +kernel
theorem dX4_draw_103 : decode cX4_draw 103 = .ok (.getfield 9, 3) := by decide +kernel
theorem dX4_draw_106 : decode cX4_draw 106 = .ok (.iload_n 3, 1) := by decide +kernel
theorem dX4_draw_107 : decode cX4_draw 107 = .ok (.iaload, 1) := by decide +kernel
theorem dX4_draw_108 : decode cX4_draw 108 = .ok (.putfield 19, 3) := by decide +kernel
theorem dX4_draw_111 : decode cX4_draw 111 = .ok (.iinc 3 1, 3) := by decide +kernel
theorem dX4_draw_114 : decode cX4_draw 114 = .ok (.goto (-37), 3) := by decide +kernel
theorem dX4_draw_117 : decode cX4_draw 117 = .ok (.return_, 1) := by decide +kernel
theorem dX4_drawFrom_0 : decode cX4_drawFrom 0 = .ok (.aload_n 1, 1) := by decide +kernel
theorem dX4_drawFrom_1 : decode cX4_drawFrom 1 = .ok (.bipush 8, 2) := by decide +kernel
theorem dX4_drawFrom_3 : decode cX4_drawFrom 3 = .ok (.invokevirtual 42, 3) := by decide +kernel
theorem dX4_drawFrom_6 : decode cX4_drawFrom 6 = .ok (.istore_n 2, 1) := by decide +kernel
theorem dX4_drawFrom_7 : decode cX4_drawFrom 7 = .ok (.iload_n 2, 1) := by decide +kernel
theorem dX4_drawFrom_8 : decode cX4_drawFrom 8 = .ok (.iconst 0, 1) := by decide +kernel
theorem dX4_drawFrom_9 : decode cX4_drawFrom 9 = .ok (.bipush 7, 2) := by decide +kernel
theorem dX4_drawFrom_11 : decode cX4_drawFrom 11 = .ok (.invokestatic 46, 3) := by decide +kernel
theorem dX4_drawFrom_14 : decode cX4_drawFrom 14 = .ok (.ifCond .ne 4, 3) := by decide +kernel
theorem dX4_drawFrom_17 : decode cX4_drawFrom 17 = .ok (.return_, 1) := by decide +kernel
theorem dX4_drawFrom_18 : decode cX4_drawFrom 18 = .ok (.aload_n 1, 1) := by decide +kernel
theorem dX4_drawFrom_19 : decode cX4_drawFrom 19 = .ok (.iconst 0, 1) := by decide +kernel
theorem dX4_drawFrom_20 : decode cX4_drawFrom 20 = .ok (.invokevirtual 42, 3) := by decide +kernel
theorem dX4_drawFrom_23 : decode cX4_drawFrom 23 = .ok (.istore_n 3, 1) := by decide +kernel
theorem dX4_drawFrom_24 : decode cX4_drawFrom 24 = .ok (.aload_n 1, 1) := by decide +kernel
theorem dX4_drawFrom_25 : decode cX4_drawFrom 25 = .ok (.iconst 1, 1) := by decide +kernel
theorem dX4_drawFrom_26 : decode cX4_drawFrom 26 = .ok (.invokevirtual 42, 3) := by decide +kernel
theorem dX4_drawFrom_29 : decode cX4_drawFrom 29 = .ok (.istore 4, 2) := by decide +kernel
theorem dX4_drawFrom_31 : decode cX4_drawFrom 31 = .ok (.iconst 0, 1) := by decide +kernel
theorem dX4_drawFrom_32 : decode cX4_drawFrom 32 = .ok (.istore 5, 2) := by decide +kernel
theorem dX4_drawFrom_34 : decode cX4_drawFrom 34 = .ok (.iload 5, 2) := by decide +kernel
theorem dX4_drawFrom_36 : decode cX4_drawFrom 36 = .ok (.bipush 12, 2) := by decide +kernel
theorem dX4_drawFrom_38 : decode cX4_drawFrom 38 = .ok (.if_icmp .ge 61, 3) := by decide +kernel
theorem dX4_drawFrom_41 : decode cX4_drawFrom 41 = .ok (.iload_n 3, 1) := by decide +kernel
theorem dX4_drawFrom_42 : decode cX4_drawFrom 42 = .ok (.iload 4, 2) := by decide +kernel
theorem dX4_drawFrom_44 : decode cX4_drawFrom 44 = .ok (.invokestatic 50, 3) := by decide +kernel
theorem dX4_drawFrom_47 : decode cX4_drawFrom 47 = .ok (.ifCond .eq 52, 3) := by decide +kernel
theorem dX4_drawFrom_50 : decode cX4_drawFrom 50 = .ok (.aload_n 1, 1) := by decide +kernel
theorem dX4_drawFrom_51 : decode cX4_drawFrom 51 = .ok (.iload_n 3, 1) := by decide +kernel
theorem dX4_drawFrom_52 : decode cX4_drawFrom 52 = .ok (.iload 4, 2) := by decide +kernel
theorem dX4_drawFrom_54 : decode cX4_drawFrom 54 = .ok (.invokevirtual 54, 3) := by decide +kernel
theorem dX4_drawFrom_57 : decode cX4_drawFrom 57 = .ok (.ifCond .ne 18, 3) := by decide +kernel
theorem dX4_drawFrom_60 : decode cX4_drawFrom 60 = .ok (.aload_n 0, 1) := by decide +kernel
theorem dX4_drawFrom_61 : decode cX4_drawFrom 61 = .ok (.getfield 9, 3) := by decide +kernel
theorem dX4_drawFrom_64 : decode cX4_drawFrom 64 = .ok (.iload_n 3, 1) := by decide +kernel
theorem dX4_drawFrom_65 : decode cX4_drawFrom 65 = .ok (.iload 4, 2) := by decide +kernel
theorem dX4_drawFrom_67 : decode cX4_drawFrom 67 = .ok (.invokestatic 57, 3) := by decide +kernel
theorem dX4_drawFrom_70 : decode cX4_drawFrom 70 = .ok (.dup2, 1) := by decide +kernel
theorem dX4_drawFrom_71 : decode cX4_drawFrom 71 = .ok (.iaload, 1) := by decide +kernel
theorem dX4_drawFrom_72 : decode cX4_drawFrom 72 = .ok (.iconst 1, 1) := by decide +kernel
theorem dX4_drawFrom_73 : decode cX4_drawFrom 73 = .ok (.iadd, 1) := by decide +kernel
theorem dX4_drawFrom_74 : decode cX4_drawFrom 74 = .ok (.iastore, 1) := by decide +kernel
theorem dX4_drawFrom_75 : decode cX4_drawFrom 75 = .ok (.iload_n 3, 1) := by decide +kernel
theorem dX4_drawFrom_76 : decode cX4_drawFrom 76 = .ok (.getstatic 61, 3) := by decide +kernel
theorem dX4_drawFrom_79 : decode cX4_drawFrom 79 = .ok (.iload_n 2, 1) := by decide +kernel
theorem dX4_drawFrom_80 : decode cX4_drawFrom 80 = .ok (.iaload, 1) := by decide +kernel
theorem dX4_drawFrom_81 : decode cX4_drawFrom 81 = .ok (.iadd, 1) := by decide +kernel
theorem dX4_drawFrom_82 : decode cX4_drawFrom 82 = .ok (.istore_n 3, 1) := by decide +kernel
theorem dX4_drawFrom_83 : decode cX4_drawFrom 83 = .ok (.iload 4, 2) := by decide +kernel
theorem dX4_drawFrom_85 : decode cX4_drawFrom 85 = .ok (.getstatic 64, 3) := by decide +kernel
theorem dX4_drawFrom_88 : decode cX4_drawFrom 88 = .ok (.iload_n 2, 1) := by decide +kernel
theorem dX4_drawFrom_89 : decode cX4_drawFrom 89 = .ok (.iaload, 1) := by decide +kernel
theorem dX4_drawFrom_90 : decode cX4_drawFrom 90 = .ok (.iadd, 1) := by decide +kernel
theorem dX4_drawFrom_91 : decode cX4_drawFrom 91 = .ok (.istore 4, 2) := by decide +kernel
theorem dX4_drawFrom_93 : decode cX4_drawFrom 93 = .ok (.iinc 5 1, 3) := by decide +kernel
theorem dX4_drawFrom_96 : decode cX4_drawFrom 96 = .ok (.goto (-62), 3) := by decide +kernel
theorem dX4_drawFrom_99 : decode cX4_drawFrom 99 = .ok (.return_, 1) := by decide +kernel
theorem dX4_allMayCross_0 : decode cX4_allMayCross 0 = .ok (.iconst 0, 1) := by decide +kernel
theorem dX4_allMayCross_1 : decode cX4_allMayCross 1 = .ok (.istore_n 3, 1) := by decide +kernel
theorem dX4_allMayCross_2 : decode cX4_allMayCross 2 = .ok (.iload_n 3, 1) := by decide +kernel
theorem dX4_allMayCross_3 : decode cX4_allMayCross 3 = .ok (.aload_n 1, 1) := by decide +kernel
theorem dX4_allMayCross_4 : decode cX4_allMayCross 4 = .ok (.invokevirtual 22, 3) := by decide +kernel
theorem dX4_allMayCross_7 : decode cX4_allMayCross 7 = .ok (.if_icmp .ge 41, 3) := by decide +kernel
theorem dX4_allMayCross_10 : decode cX4_allMayCross 10 = .ok (.aload_n 1, 1) := by decide +kernel
theorem dX4_allMayCross_11 : decode cX4_allMayCross 11 = .ok (.iload_n 3, 1) := by decide +kernel
theorem dX4_allMayCross_12 : decode cX4_allMayCross 12 = .ok (.invokevirtual 28, 3) := by decide +kernel
theorem dX4_allMayCross_15 : decode cX4_allMayCross 15 = .ok (.astore 4, 2) := by decide +kernel
theorem dX4_allMayCross_17 : decode cX4_allMayCross 17 = .ok (.aload 4, 2) := by decide +kernel
theorem dX4_allMayCross_19 : decode cX4_allMayCross 19 = .ok (.ifnull 23, 3) := by decide +kernel
theorem dX4_allMayCross_22 : decode cX4_allMayCross 22 = .ok (.aload 4, 2) := by decide +kernel
theorem dX4_allMayCross_24 : decode cX4_allMayCross 24 = .ok (.iload_n 2, 1) := by decide +kernel
theorem dX4_allMayCross_25 : decode cX4_allMayCross 25 = .ok (.invokevirtual 32, 3) := by decide +kernel
theorem dX4_allMayCross_28 : decode cX4_allMayCross 28 = .ok (.ifCond .eq 14, 3) := by decide +kernel
theorem dX4_allMayCross_31 : decode cX4_allMayCross 31 = .ok (.aload_n 0, 1) := by decide +kernel
theorem dX4_allMayCross_32 : decode cX4_allMayCross 32 = .ok (.aload 4, 2) := by decide +kernel
theorem dX4_allMayCross_34 : decode cX4_allMayCross 34 = .ok (.invokevirtual 67, 3) := by decide +kernel
theorem dX4_allMayCross_37 : decode cX4_allMayCross 37 = .ok (.ifCond .ne 5, 3) := by decide +kernel
theorem dX4_allMayCross_40 : decode cX4_allMayCross 40 = .ok (.iconst 0, 1) := by decide +kernel
theorem dX4_allMayCross_41 : decode cX4_allMayCross 41 = .ok (.ireturn, 1) := by decide +kernel
theorem dX4_allMayCross_42 : decode cX4_allMayCross 42 = .ok (.iinc 3 1, 3) := by decide +kernel
theorem dX4_allMayCross_45 : decode cX4_allMayCross 45 = .ok (.goto (-43), 3) := by decide +kernel
theorem dX4_allMayCross_48 : decode cX4_allMayCross 48 = .ok (.iconst 1, 1) := by decide +kernel
theorem dX4_allMayCross_49 : decode cX4_allMayCross 49 = .ok (.ireturn, 1) := by decide +kernel
theorem dX4_mayCross_0 : decode cX4_mayCross 0 = .ok (.aload_n 0, 1) := by decide +kernel
theorem dX4_mayCross_1 : decode cX4_mayCross 1 = .ok (.getfield 15, 3) := by decide +kernel
theorem dX4_mayCross_4 : decode cX4_mayCross 4 = .ok (.bipush 12, 2) := by decide +kernel
theorem dX4_mayCross_6 : decode cX4_mayCross 6 = .ok (.irem, 1) := by decide +kernel
theorem dX4_mayCross_7 : decode cX4_mayCross 7 = .ok (.istore_n 2, 1) := by decide +kernel
theorem dX4_mayCross_8 : decode cX4_mayCross 8 = .ok (.aload_n 0, 1) := by decide +kernel
theorem dX4_mayCross_9 : decode cX4_mayCross 9 = .ok (.getfield 15, 3) := by decide +kernel
theorem dX4_mayCross_12 : decode cX4_mayCross 12 = .ok (.bipush 12, 2) := by decide +kernel
theorem dX4_mayCross_14 : decode cX4_mayCross 14 = .ok (.idiv, 1) := by decide +kernel
theorem dX4_mayCross_15 : decode cX4_mayCross 15 = .ok (.istore_n 3, 1) := by decide +kernel
theorem dX4_mayCross_16 : decode cX4_mayCross 16 = .ok (.iload_n 2, 1) := by decide +kernel
theorem dX4_mayCross_17 : decode cX4_mayCross 17 = .ok (.aload_n 1, 1) := by decide +kernel
theorem dX4_mayCross_18 : decode cX4_mayCross 18 = .ok (.iconst 0, 1) := by decide +kernel
theorem dX4_mayCross_19 : decode cX4_mayCross 19 = .ok (.invokevirtual 42, 3) := by decide +kernel
theorem dX4_mayCross_22 : decode cX4_mayCross 22 = .ok (.isub, 1) := by decide +kernel
theorem dX4_mayCross_23 : decode cX4_mayCross 23 = .ok (.invokestatic 71, 3) := by decide +kernel
theorem dX4_mayCross_26 : decode cX4_mayCross 26 = .ok (.istore 4, 2) := by decide +kernel
theorem dX4_mayCross_28 : decode cX4_mayCross 28 = .ok (.iload_n 3, 1) := by decide +kernel
theorem dX4_mayCross_29 : decode cX4_mayCross 29 = .ok (.aload_n 1, 1) := by decide +kernel
theorem dX4_mayCross_30 : decode cX4_mayCross 30 = .ok (.iconst 1, 1) := by decide +kernel
theorem dX4_mayCross_31 : decode cX4_mayCross 31 = .ok (.invokevirtual 42, 3) := by decide +kernel
theorem dX4_mayCross_34 : decode cX4_mayCross 34 = .ok (.isub, 1) := by decide +kernel
theorem dX4_mayCross_35 : decode cX4_mayCross 35 = .ok (.invokestatic 71, 3) := by decide +kernel
theorem dX4_mayCross_38 : decode cX4_mayCross 38 = .ok (.istore 5, 2) := by decide +kernel
theorem dX4_mayCross_40 : decode cX4_mayCross 40 = .ok (.aload_n 1, 1) := by decide +kernel
theorem dX4_mayCross_41 : decode cX4_mayCross 41 = .ok (.iload_n 2, 1) := by decide +kernel
theorem dX4_mayCross_42 : decode cX4_mayCross 42 = .ok (.iload_n 3, 1) := by decide +kernel
theorem dX4_mayCross_43 : decode cX4_mayCross 43 = .ok (.invokevirtual 54, 3) := by decide +kernel
theorem dX4_mayCross_46 : decode cX4_mayCross 46 = .ok (.ifCond .ne 24, 3) := by decide +kernel
theorem dX4_mayCross_49 : decode cX4_mayCross 49 = .ok (.iload 4, 2) := by decide +kernel
theorem dX4_mayCross_51 : decode cX4_mayCross 51 = .ok (.ifCond .eq 15, 3) := by decide +kernel
theorem dX4_mayCross_54 : decode cX4_mayCross 54 = .ok (.iload 5, 2) := by decide +kernel
theorem dX4_mayCross_56 : decode cX4_mayCross 56 = .ok (.ifCond .eq 10, 3) := by decide +kernel
theorem dX4_mayCross_59 : decode cX4_mayCross 59 = .ok (.iload 4, 2) := by decide +kernel
theorem dX4_mayCross_61 : decode cX4_mayCross 61 = .ok (.iload 5, 2) := by decide +kernel
theorem dX4_mayCross_63 : decode cX4_mayCross 63 = .ok (.if_icmp .ne 7, 3) := by decide +kernel
theorem dX4_mayCross_66 : decode cX4_mayCross 66 = .ok (.iconst 1, 1) := by decide +kernel
theorem dX4_mayCross_67 : decode cX4_mayCross 67 = .ok (.goto 4, 3) := by decide +kernel
theorem dX4_mayCross_70 : decode cX4_mayCross 70 = .ok (.iconst 0, 1) := by decide +kernel
theorem dX4_mayCross_71 : decode cX4_mayCross 71 = .ok (.ireturn, 1) := by decide +kernel
theorem dX4_lots_0 : decode cX4_lots 0 = .ok (.lconst 1, 1) := by decide +kernel
theorem dX4_lots_1 : decode cX4_lots 1 = .ok (.lstore_n 3, 1) := by decide +kernel
theorem dX4_lots_2 : decode cX4_lots 2 = .ok (.iconst 0, 1) := by decide +kernel
theorem dX4_lots_3 : decode cX4_lots 3 = .ok (.istore 5, 2) := by decide +kernel
theorem dX4_lots_5 : decode cX4_lots 5 = .ok (.iload 5, 2) := by decide +kernel
theorem dX4_lots_7 : decode cX4_lots 7 = .ok (.aload_n 1, 1) := by decide +kernel
theorem dX4_lots_8 : decode cX4_lots 8 = .ok (.invokevirtual 22, 3) := by decide +kernel
theorem dX4_lots_11 : decode cX4_lots 11 = .ok (.if_icmp .ge 37, 3) := by decide +kernel
theorem dX4_lots_14 : decode cX4_lots 14 = .ok (.aload_n 1, 1) := by decide +kernel
theorem dX4_lots_15 : decode cX4_lots 15 = .ok (.iload 5, 2) := by decide +kernel
theorem dX4_lots_17 : decode cX4_lots 17 = .ok (.invokevirtual 28, 3) := by decide +kernel
theorem dX4_lots_20 : decode cX4_lots 20 = .ok (.astore 6, 2) := by decide +kernel
theorem dX4_lots_22 : decode cX4_lots 22 = .ok (.aload 6, 2) := by decide +kernel
theorem dX4_lots_24 : decode cX4_lots 24 = .ok (.ifnull 18, 3) := by decide +kernel
theorem dX4_lots_27 : decode cX4_lots 27 = .ok (.aload 6, 2) := by decide +kernel
theorem dX4_lots_29 : decode cX4_lots 29 = .ok (.iload_n 2, 1) := by decide +kernel
theorem dX4_lots_30 : decode cX4_lots 30 = .ok (.invokevirtual 32, 3) := by decide +kernel
theorem dX4_lots_33 : decode cX4_lots 33 = .ok (.ifCond .eq 9, 3) := by decide +kernel
theorem dX4_lots_36 : decode cX4_lots 36 = .ok (.lload_n 3, 1) := by decide +kernel
theorem dX4_lots_37 : decode cX4_lots 37 = .ok (.ldc2_w 76, 3) := by decide +kernel
theorem dX4_lots_40 : decode cX4_lots 40 = .ok (.lmul, 1) := by decide +kernel
theorem dX4_lots_41 : decode cX4_lots 41 = .ok (.lstore_n 3, 1) := by decide +kernel
theorem dX4_lots_42 : decode cX4_lots 42 = .ok (.iinc 5 1, 3) := by decide +kernel
theorem dX4_lots_45 : decode cX4_lots 45 = .ok (.goto (-40), 3) := by decide +kernel
theorem dX4_lots_48 : decode cX4_lots 48 = .ok (.lload_n 3, 1) := by decide +kernel
theorem dX4_lots_49 : decode cX4_lots 49 = .ok (.lreturn, 1) := by decide +kernel
theorem dX5_init_0 : decode cX5_init 0 = .ok (.aload_n 0, 1) := by decide +kernel
theorem dX5_init_1 : decode cX5_init 1 = .ok (.invokespecial 3, 3) := by decide +kernel
theorem dX5_init_4 : decode cX5_init 4 = .ok (.aload_n 0, 1) := by decide +kernel
theorem dX5_init_5 : decode cX5_init 5 = .ok (.new 9, 3) := by decide +kernel
theorem dX5_init_8 : decode cX5_init 8 = .ok (.dup, 1) := by decide +kernel
theorem dX5_init_9 : decode cX5_init 9 = .ok (.invokespecial 11, 3) := by decide +kernel
theorem dX5_init_12 : decode cX5_init 12 = .ok (.putfield 12, 3) := by decide +kernel
theorem dX5_init_15 : decode cX5_init 15 = .ok (.aload_n 0, 1) := by decide +kernel
theorem dX5_init_16 : decode cX5_init 16 = .ok (.bipush 96, 2) := by decide +kernel
theorem dX5_init_18 : decode cX5_init 18 = .ok (.newarray .int, 2) := by decide +kernel
theorem dX5_init_20 : decode cX5_init 20 = .ok (.putfield 18, 3) := by decide +kernel
theorem dX5_init_23 : decode cX5_init 23 = .ok (.aload_n 0, 1) := by decide +kernel
theorem dX5_init_24 : decode cX5_init 24 = .ok (.bipush 96, 2) := by decide +kernel
theorem dX5_init_26 : decode cX5_init 26 = .ok (.newarray .int, 2) := by decide +kernel
theorem dX5_init_28 : decode cX5_init 28 = .ok (.putfield 22, 3) := by decide +kernel
theorem dX5_init_31 : decode cX5_init 31 = .ok (.aload_n 0, 1) := by decide +kernel
theorem dX5_init_32 : decode cX5_init 32 = .ok (.iload_n 1, 1) := by decide +kernel
theorem dX5_init_33 : decode cX5_init 33 = .ok (.putfield 25, 3) := by decide +kernel
theorem dX5_init_36 : decode cX5_init 36 = .ok (.aload_n 0, 1) := by decide +kernel
theorem dX5_init_37 : decode cX5_init 37 = .ok (.iload_n 2, 1) := by decide +kernel
theorem dX5_init_38 : decode cX5_init 38 = .ok (.putfield 29, 3) := by decide +kernel
theorem dX5_init_41 : decode cX5_init 41 = .ok (.aload_n 0, 1) := by decide +kernel
theorem dX5_init_42 : decode cX5_init 42 = .ok (.iload_n 3, 1) := by decide +kernel
theorem dX5_init_43 : decode cX5_init 43 = .ok (.putfield 32, 3) := by decide +kernel
theorem dX5_init_46 : decode cX5_init 46 = .ok (.aload_n 0, 1) := by decide +kernel
theorem dX5_init_47 : decode cX5_init 47 = .ok (.iload 4, 2) := by decide +kernel
theorem dX5_init_49 : decode cX5_init 49 = .ok (.putfield 35, 3) := by decide +kernel
theorem dX5_init_52 : decode cX5_init 52 = .ok (.aload_n 0, 1) := by decide +kernel
theorem dX5_init_53 : decode cX5_init 53 = .ok (.iload 5, 2) := by decide +kernel
theorem dX5_init_55 : decode cX5_init 55 = .ok (.putfield 38, 3) := by decide +kernel
theorem dX5_init_58 : decode cX5_init 58 = .ok (.return_, 1) := by decide +kernel
theorem dX5_develop_0 : decode cX5_develop 0 = .ok (.aload_n 1, 1) := by decide +kernel
theorem dX5_develop_1 : decode cX5_develop 1 = .ok (.aload_n 0, 1) := by decide +kernel
theorem dX5_develop_2 : decode cX5_develop 2 = .ok (.getfield 18, 3) := by decide +kernel
theorem dX5_develop_5 : decode cX5_develop 5 = .ok (.aload_n 0, 1) := by decide +kernel
theorem dX5_develop_6 : decode cX5_develop 6 = .ok (.getfield 32, 3) := by decide +kernel
theorem dX5_develop_9 : decode cX5_develop 9 = .ok (.invokevirtual 41, 3) := by decide +kernel
theorem dX5_develop_12 : decode cX5_develop 12 = .ok (.iconst 0, 1) := by decide +kernel
theorem dX5_develop_13 : decode cX5_develop 13 = .ok (.istore_n 2, 1) := by decide +kernel
theorem dX5_develop_14 : decode cX5_develop 14 = .ok (.iload_n 2, 1) := by decide +kernel
theorem dX5_develop_15 : decode cX5_develop 15 = .ok (.bipush 96, 2) := by decide +kernel
theorem dX5_develop_17 : decode cX5_develop 17 = .ok (.if_icmp .ge 16, 3) := by decide +kernel
theorem dX5_develop_20 : decode cX5_develop 20 = .ok (.aload_n 0, 1) := by decide +kernel
theorem dX5_develop_21 : decode cX5_develop 21 = .ok (.getfield 22, 3) := by decide +kernel
theorem dX5_develop_24 : decode cX5_develop 24 = .ok (.iload_n 2, 1) := by decide +kernel
theorem dX5_develop_25 : decode cX5_develop 25 = .ok (.iconst 0, 1) := by decide +kernel
theorem dX5_develop_26 : decode cX5_develop 26 = .ok (.iastore, 1) := by decide +kernel
theorem dX5_develop_27 : decode cX5_develop 27 = .ok (.iinc 2 1, 3) := by decide +kernel
theorem dX5_develop_30 : decode cX5_develop 30 = .ok (.goto (-16), 3) := by decide +kernel
theorem dX5_develop_33 : decode cX5_develop 33 = .ok (.iconst 0, 1) := by decide +kernel
theorem dX5_develop_34 : decode cX5_develop 34 = .ok (.istore_n 2, 1) := by decide +kernel
theorem dX5_develop_35 : decode cX5_develop 35 = .ok (.iload_n 2, 1) := by decide +kernel
theorem dX5_develop_36 : decode cX5_develop 36 = .ok (.bipush 96, 2) := by decide +kernel
theorem dX5_develop_38 : decode cX5_develop 38 = .ok (.if_icmp .ge 38, 3) := by decide +kernel
theorem dX5_develop_41 : decode cX5_develop 41 = .ok (.aload_n 1, 1) := by decide +kernel
theorem dX5_develop_42 : decode cX5_develop 42 = .ok (.aload_n 0, 1) := by decide +kernel
theorem dX5_develop_43 : decode cX5_develop 43 = .ok (.getfield 18, 3) := by decide +kernel
theorem dX5_develop_46 : decode cX5_develop 46 = .ok (.iload_n 2, 1) := by decide +kernel
theorem dX5_develop_47 : decode cX5_develop 47 = .ok (.iaload, 1) := by decide +kernel
theorem dX5_develop_48 : decode cX5_develop 48 = .ok (.invokevirtual 47, 3) := by decide +kernel
theorem dX5_develop_51 : decode cX5_develop 51 = .ok (.astore_n 3, 1) := by decide +kernel
theorem dX5_develop_52 : decode cX5_develop 52 = .ok (.aload_n 3, 1) := by decide +kernel
theorem dX5_develop_53 : decode cX5_develop 53 = .ok (.ifnull 17, 3) := by decide +kernel
theorem dX5_develop_56 : decode cX5_develop 56 = .ok (.aload_n 0, 1) := by decide +kernel
theorem dX5_develop_57 : decode cX5_develop 57 = .ok (.iload_n 2, 1) := by decide +kernel
theorem dX5_develop_58 : decode cX5_develop 58 = .ok (.aload_n 0, 1) := by decide +kernel
theorem dX5_develop_59 : decode cX5_develop 59 = .ok (.aload_n 3, 1) := by decide +kernel
theorem dX5_develop_60 : decode cX5_develop 60 = .ok (.iconst 4, 1) := by decide +kernel
theorem dX5_develop_61 : decode cX5_develop 61 = .ok (.invokevirtual 51, 3) := by decide +kernel
theorem dX5_develop_64 : decode cX5_develop 64 = .ok (.invokevirtual 57, 3) := by decide +kernel
theorem dX5_develop_67 : decode cX5_develop 67 = .ok (.invokevirtual 60, 3) := by decide +kernel
theorem dX5_develop_70 : decode cX5_develop 70 = .ok (.iinc 2 1, 3) := by decide +kernel
theorem dX5_develop_73 : decode cX5_develop 73 = .ok (.goto (-38), 3) := by decide +kernel
theorem dX5_develop_76 : decode cX5_develop 76 = .ok (.iconst 0, 1) := by decide +kernel
theorem dX5_develop_77 : decode cX5_develop 77 = .ok (.istore_n 2, 1) := by decide +kernel
theorem dX5_develop_78 : decode cX5_develop 78 = .ok (.iload_n 2, 1) := by decide +kernel
theorem dX5_develop_79 : decode cX5_develop 79 = .ok (.bipush 96, 2) := by decide +kernel
theorem dX5_develop_81 : decode cX5_develop 81 = .ok (.if_icmp .ge 47, 3) := by decide +kernel
theorem dX5_develop_84 : decode cX5_develop 84 = .ok (.aload_n 1, 1) := by decide +kernel
theorem dX5_develop_85 : decode cX5_develop 85 = .ok (.aload_n 0, 1) := by decide +kernel
theorem dX5_develop_86 : decode cX5_develop 86 = .ok (.getfield 18, 3) := by decide +kernel
theorem dX5_develop_89 : decode cX5_develop 89 = .ok (.iload_n 2, 1) := by decide +kernel
theorem dX5_develop_90 : decode cX5_develop 90 = .ok (.iaload, 1) := by decide +kernel
theorem dX5_develop_91 : decode cX5_develop 91 = .ok (.invokevirtual 47, 3) := by decide +kernel
theorem dX5_develop_94 : decode cX5_develop 94 = .ok (.astore_n 3, 1) := by decide +kernel
theorem dX5_develop_95 : decode cX5_develop 95 = .ok (.aload_n 3, 1) := by decide +kernel
theorem dX5_develop_96 : decode cX5_develop 96 = .ok (.ifnull 26, 3) := by decide +kernel
theorem dX5_develop_99 : decode cX5_develop 99 = .ok (.aload_n 3, 1) := by decide +kernel
theorem dX5_develop_100 : decode cX5_develop 100 = .ok (.bipush 9, 2) := by decide +kernel
theorem dX5_develop_102 : decode cX5_develop 102 = .ok (.invokevirtual 51, 3) := by decide +kernel
theorem dX5_develop_105 : decode cX5_develop 105 = .ok (.ifCond .ne 17, 3) := by decide +kernel
theorem dX5_develop_108 : decode cX5_develop 108 = .ok (.aload_n 0, 1) := by decide +kernel
theorem dX5_develop_109 : decode cX5_develop 109 = .ok (.getfield 22, 3) := by decide +kernel
theorem dX5_develop_112 : decode cX5_develop 112 = .ok (.iload_n 2, 1) := by decide +kernel
theorem dX5_develop_113 : decode cX5_develop 113 = .ok (.bipush 10, 2) := by decide +kernel
theorem dX5_develop_115 : decode cX5_develop 115 = .ok (.aload_n 3, 1) := by decide +kernel
theorem dX5_develop_116 : decode cX5_develop 116 = .ok (.iconst 5, 1) := by decide +kernel
theorem dX5_develop_117 : decode cX5_develop 117 = .ok (.invokevirtual 51, 3) := by decide +kernel
theorem dX5_develop_120 : decode cX5_develop 120 = .ok (.iadd, 1) := by decide +kernel
theorem dX5_develop_121 : decode cX5_develop 121 = .ok (.iastore, 1) := by decide +kernel
theorem dX5_develop_122 : decode cX5_develop 122 = .ok (.iinc 2 1, 3) := by decide +kernel
theorem dX5_develop_125 : decode cX5_develop 125 = .ok (.goto (-47), 3) := by decide +kernel
theorem dX5_develop_128 : decode cX5_develop 128 = .ok (.return_, 1) := by decide +kernel
theorem dX5_shadowOf_0 : decode cX5_shadowOf 0 = .ok (.iload_n 1, 1) := by decide +kernel
theorem dX5_shadowOf_1 : decode cX5_shadowOf 1 = .ok (.aload_n 0, 1) := by decide +kernel
theorem dX5_shadowOf_2 : decode cX5_shadowOf 2 = .ok (.getfield 38, 3) := by decide +kernel
theorem dX5_shadowOf_5 : decode cX5_shadowOf 5 = .ok (.imul, 1) := by decide +kernel
theorem dX5_shadowOf_6 : decode cX5_shadowOf 6 = .ok (.bipush 10, 2) := by decide +kernel
theorem dX5_shadowOf_8 : decode cX5_shadowOf 8 = .ok (.idiv, 1) := by decide +kernel
theorem dX5_shadowOf_9 : decode cX5_shadowOf 9 = .ok (.ireturn, 1) := by decide +kernel
theorem dX5_castShadow_0 : decode cX5_castShadow 0 = .ok (.iconst 2, 1) := by decide +kernel
theorem dX5_castShadow_1 : decode cX5_castShadow 1 = .ok (.aload_n 0, 1) := by decide +kernel
theorem dX5_castShadow_2 : decode cX5_castShadow 2 = .ok (.getfield 35, 3) := by decide +kernel
theorem dX5_castShadow_5 : decode cX5_castShadow 5 = .ok (.imul, 1) := by decide +kernel
theorem dX5_castShadow_6 : decode cX5_castShadow 6 = .ok (.istore_n 3, 1) := by decide +kernel
theorem dX5_castShadow_7 : decode cX5_castShadow 7 = .ok (.iload_n 3, 1) := by decide +kernel
theorem dX5_castShadow_8 : decode cX5_castShadow 8 = .ok (.iconst 0, 1) := by decide +kernel
theorem dX5_castShadow_9 : decode cX5_castShadow 9 = .ok (.bipush 7, 2) := by decide +kernel
theorem dX5_castShadow_11 : decode cX5_castShadow 11 = .ok (.invokestatic 64, 3) := by decide +kernel
theorem dX5_castShadow_14 : decode cX5_castShadow 14 = .ok (.ifCond .ne 4, 3) := by decide +kernel
theorem dX5_castShadow_17 : decode cX5_castShadow 17 = .ok (.return_, 1) := by decide +kernel
theorem dX5_castShadow_18 : decode cX5_castShadow 18 = .ok (.iload_n 1, 1) := by decide +kernel
theorem dX5_castShadow_19 : decode cX5_castShadow 19 = .ok (.bipush 12, 2) := by decide +kernel
theorem dX5_castShadow_21 : decode cX5_castShadow 21 = .ok (.irem, 1) := by decide +kernel
theorem dX5_castShadow_22 : decode cX5_castShadow 22 = .ok (.getstatic 68, 3) := by decide +kernel
theorem dX5_castShadow_25 : decode cX5_castShadow 25 = .ok (.iload_n 3, 1) := by decide +kernel
theorem dX5_castShadow_26 : decode cX5_castShadow 26 = .ok (.iaload, 1) := by decide +kernel
theorem dX5_castShadow_27 : decode cX5_castShadow 27 = .ok (.iadd, 1) := by decide +kernel
theorem dX5_castShadow_28 : decode cX5_castShadow 28 = .ok (.istore 4, 2) := by decide +kernel
theorem dX5_castShadow_30 : decode cX5_castShadow 30 = .ok (.iload_n 1, 1) := by decide +kernel
theorem dX5_castShadow_31 : decode cX5_castShadow 31 = .ok (.bipush 12, 2) := by decide +kernel
theorem dX5_castShadow_33 : decode cX5_castShadow 33 = .ok (.idiv, 1) := by decide +kernel
theorem dX5_castShadow_34 : decode cX5_castShadow 34 = .ok (.getstatic 71, 3) := by decide +kernel
theorem dX5_castShadow_37 : decode cX5_castShadow 37 = .ok (.iload_n 3, 1) := by decide +kernel
theorem dX5_castShadow_38 : decode cX5_castShadow 38 = .ok (.iaload, 1) := by decide +kernel
theorem dX5_castShadow_39 : decode cX5_castShadow 39 = .ok (.iadd, 1) := by decide +kernel
theorem dX5_castShadow_40 : decode cX5_castShadow 40 = .ok (.istore 5, 2) := by decide +kernel
theorem dX5_castShadow_42 : decode cX5_castShadow 42 = .ok (.iconst 1, 1) := by decide +kernel
theorem dX5_castShadow_43 : decode cX5_castShadow 43 = .ok (.istore 6, 2) := by decide +kernel
theorem dX5_castShadow_45 : decode cX5_castShadow 45 = .ok (.iload 6, 2) := by decide +kernel
theorem dX5_castShadow_47 : decode cX5_castShadow 47 = .ok (.iload_n 2, 1) := by decide +kernel
theorem dX5_castShadow_48 : decode cX5_castShadow 48 = .ok (.if_icmp .gt 52, 3) := by decide +kernel
theorem dX5_castShadow_51 : decode cX5_castShadow 51 = .ok (.iload 4, 2) := by decide +kernel
theorem dX5_castShadow_53 : decode cX5_castShadow 53 = .ok (.iload 5, 2) := by decide +kernel
theorem dX5_castShadow_55 : decode cX5_castShadow 55 = .ok (.invokestatic 74, 3) := by decide +kernel
theorem dX5_castShadow_58 : decode cX5_castShadow 58 = .ok (.ifCond .eq 42, 3) := by decide +kernel
theorem dX5_castShadow_61 : decode cX5_castShadow 61 = .ok (.aload_n 0, 1) := by decide +kernel
theorem dX5_castShadow_62 : decode cX5_castShadow 62 = .ok (.getfield 22, 3) := by decide +kernel
theorem dX5_castShadow_65 : decode cX5_castShadow 65 = .ok (.iload 4, 2) := by decide +kernel
theorem dX5_castShadow_67 : decode cX5_castShadow 67 = .ok (.iload 5, 2) := by decide +kernel
theorem dX5_castShadow_69 : decode cX5_castShadow 69 = .ok (.invokestatic 78, 3) := by decide +kernel
theorem dX5_castShadow_72 : decode cX5_castShadow 72 = .ok (.iconst 1, 1) := by decide +kernel
theorem dX5_castShadow_73 : decode cX5_castShadow 73 = .ok (.iastore, 1) := by decide +kernel
theorem dX5_castShadow_74 : decode cX5_castShadow 74 = .ok (.iload 4, 2) := by decide +kernel
theorem dX5_castShadow_76 : decode cX5_castShadow 76 = .ok (.getstatic 68, 3) := by decide +kernel
theorem dX5_castShadow_79 : decode cX5_castShadow 79 = .ok (.iload_n 3, 1) := by decide +kernel
theorem dX5_castShadow_80 : decode cX5_castShadow 80 = .ok (.iaload, 1) := by decide +kernel
theorem dX5_castShadow_81 : decode cX5_castShadow 81 = .ok (.iadd, 1) := by decide +kernel
theorem dX5_castShadow_82 : decode cX5_castShadow 82 = .ok (.istore 4, 2) := by decide +kernel
theorem dX5_castShadow_84 : decode cX5_castShadow 84 = .ok (.iload 5, 2) := by decide +kernel
theorem dX5_castShadow_86 : decode cX5_castShadow 86 = .ok (.getstatic 71, 3) := by decide +kernel
theorem dX5_castShadow_89 : decode cX5_castShadow 89 = .ok (.iload_n 3, 1) := by decide +kernel
theorem dX5_castShadow_90 : decode cX5_castShadow 90 = .ok (.iaload, 1) := by decide +kernel
theorem dX5_castShadow_91 : decode cX5_castShadow 91 = .ok (.iadd, 1) := by decide +kernel
theorem dX5_castShadow_92 : decode cX5_castShadow 92 = .ok (.istore 5, 2) := by decide +kernel
theorem dX5_castShadow_94 : decode cX5_castShadow 94 = .ok (.iinc 6 1, 3) := by decide +kernel
theorem dX5_castShadow_97 : decode cX5_castShadow 97 = .ok (.goto (-52), 3) := by decide +kernel
theorem dX5_castShadow_100 : decode cX5_castShadow 100 = .ok (.return_, 1) := by decide +kernel
theorem dX5_day_0 : decode cX5_day 0 = .ok (.aload_n 0, 1) := by decide +kernel
theorem dX5_day_1 : decode cX5_day 1 = .ok (.getfield 32, 3) := by decide +kernel
theorem dX5_day_4 : decode cX5_day 4 = .ok (.ireturn, 1) := by decide +kernel
theorem dX5_tickCloud_0 : decode cX5_tickCloud 0 = .ok (.aload_n 0, 1) := by decide +kernel
theorem dX5_tickCloud_1 : decode cX5_tickCloud 1 = .ok (.getfield 12, 3) := by decide +kernel
theorem dX5_tickCloud_4 : decode cX5_tickCloud 4 = .ok (.iload_n 1, 1) := by decide +kernel
theorem dX5_tickCloud_5 : decode cX5_tickCloud 5 = .ok (.iload_n 2, 1) := by decide +kernel
theorem dX5_tickCloud_6 : decode cX5_tickCloud 6 = .ok (.invokevirtual 82, 3) := by decide +kernel
theorem dX5_tickCloud_9 : decode cX5_tickCloud 9 = .ok (.ireturn, 1) := by decide +kernel
theorem dX5_covers_0 : decode cX5_covers 0 = .ok (.iload_n 1, 1) := by decide +kernel
theorem dX5_covers_1 : decode cX5_covers 1 = .ok (.invokestatic 86, 3) := by decide +kernel
theorem dX5_covers_4 : decode cX5_covers 4 = .ok (.ifCond .eq 36, 3) := by decide +kernel
theorem dX5_covers_7 : decode cX5_covers 7 = .ok (.iload_n 1, 1) := by decide +kernel
theorem dX5_covers_8 : decode cX5_covers 8 = .ok (.bipush 12, 2) := by decide +kernel
theorem dX5_covers_10 : decode cX5_covers 10 = .ok (.irem, 1) := by decide +kernel
theorem dX5_covers_11 : decode cX5_covers 11 = .ok (.aload_n 0, 1) := by decide +kernel
theorem dX5_covers_12 : decode cX5_covers 12 = .ok (.getfield 25, 3) := by decide +kernel
theorem dX5_covers_15 : decode cX5_covers 15 = .ok (.aload_n 0, 1) := by decide +kernel
theorem dX5_covers_16 : decode cX5_covers 16 = .ok (.getfield 29, 3) := by decide +kernel
theorem dX5_covers_19 : decode cX5_covers 19 = .ok (.invokestatic 64, 3) := by decide +kernel
theorem dX5_covers_22 : decode cX5_covers 22 = .ok (.ifCond .eq 18, 3) := by decide +kernel
theorem dX5_covers_25 : decode cX5_covers 25 = .ok (.aload_n 0, 1) := by decide +kernel
theorem dX5_covers_26 : decode cX5_covers 26 = .ok (.getfield 12, 3) := by decide +kernel
theorem dX5_covers_29 : decode cX5_covers 29 = .ok (.iload_n 1, 1) := by decide +kernel
theorem dX5_covers_30 : decode cX5_covers 30 = .ok (.invokevirtual 90, 3) := by decide +kernel
theorem dX5_covers_33 : decode cX5_covers 33 = .ok (.ifCond .ne 7, 3) := by decide +kernel
theorem dX5_covers_36 : decode cX5_covers 36 = .ok (.iconst 1, 1) := by decide +kernel
theorem dX5_covers_37 : decode cX5_covers 37 = .ok (.goto 4, 3) := by decide +kernel
theorem dX5_covers_40 : decode cX5_covers 40 = .ok (.iconst 0, 1) := by decide +kernel
theorem dX5_covers_41 : decode cX5_covers 41 = .ok (.ireturn, 1) := by decide +kernel
theorem dX5_look_0 : decode cX5_look 0 = .ok (.aload_n 0, 1) := by decide +kernel
theorem dX5_look_1 : decode cX5_look 1 = .ok (.iload_n 1, 1) := by decide +kernel
theorem dX5_look_2 : decode cX5_look 2 = .ok (.invokevirtual 93, 3) := by decide +kernel
theorem dX5_look_5 : decode cX5_look 5 = .ok (.ifCond .eq 12, 3) := by decide +kernel
theorem dX5_look_8 : decode cX5_look 8 = .ok (.aload_n 0, 1) := by decide +kernel
theorem dX5_look_9 : decode cX5_look 9 = .ok (.getfield 22, 3) := by decide +kernel
theorem dX5_look_12 : decode cX5_look 12 = .ok (.iload_n 1, 1) := by decide +kernel
theorem dX5_look_13 : decode cX5_look 13 = .ok (.iaload, 1) := by decide +kernel
theorem dX5_look_14 : decode cX5_look 14 = .ok (.goto 5, 3) := by decide +kernel
theorem dX5_look_17 : decode cX5_look 17 = .ok (.bipush (-6), 2) := by decide +kernel
theorem dX5_look_19 : decode cX5_look 19 = .ok (.ireturn, 1) := by decide +kernel
theorem dX5_counting_0 : decode cX5_counting 0 = .ok (.iload_n 1, 1) := by decide +kernel
theorem dX5_counting_1 : decode cX5_counting 1 = .ok (.invokestatic 86, 3) := by decide +kernel
theorem dX5_counting_4 : decode cX5_counting 4 = .ok (.ifCond .eq 12, 3) := by decide +kernel
theorem dX5_counting_7 : decode cX5_counting 7 = .ok (.aload_n 0, 1) := by decide +kernel
theorem dX5_counting_8 : decode cX5_counting 8 = .ok (.getfield 18, 3) := by decide +kernel
theorem dX5_counting_11 : decode cX5_counting 11 = .ok (.iload_n 1, 1) := by decide +kernel
theorem dX5_counting_12 : decode cX5_counting 12 = .ok (.iaload, 1) := by decide +kernel
theorem dX5_counting_13 : decode cX5_counting 13 = .ok (.goto 5, 3) := by decide +kernel
theorem dX5_counting_16 : decode cX5_counting 16 = .ok (.bipush (-6), 2) := by decide +kernel
theorem dX5_counting_18 : decode cX5_counting 18 = .ok (.ireturn, 1) := by decide +kernel
theorem dX5_tally_0 : decode cX5_tally 0 = .ok (.iconst 0, 1) := by decide +kernel
theorem dX5_tally_1 : decode cX5_tally 1 = .ok (.istore_n 2, 1) := by decide +kernel
theorem dX5_tally_2 : decode cX5_tally 2 = .ok (.iconst 0, 1) := by decide +kernel
theorem dX5_tally_3 : decode cX5_tally 3 = .ok (.istore_n 3, 1) := by decide +kernel
theorem dX5_tally_4 : decode cX5_tally 4 = .ok (.iload_n 3, 1) := by decide +kernel
theorem dX5_tally_5 : decode cX5_tally 5 = .ok (.bipush 96, 2) := by decide +kernel
theorem dX5_tally_7 : decode cX5_tally 7 = .ok (.if_icmp .ge 24, 3) := by decide +kernel
theorem dX5_tally_10 : decode cX5_tally 10 = .ok (.aload_n 0, 1) := by decide +kernel
theorem dX5_tally_11 : decode cX5_tally 11 = .ok (.iload_n 3, 1) := by decide +kernel
theorem dX5_tally_12 : decode cX5_tally 12 = .ok (.invokevirtual 96, 3) := by decide +kernel
theorem dX5_tally_15 : decode cX5_tally 15 = .ok (.invokestatic 99, 3) := by decide +kernel
theorem dX5_tally_18 : decode cX5_tally 18 = .ok (.iload_n 1, 1) := by decide +kernel
theorem dX5_tally_19 : decode cX5_tally 19 = .ok (.if_icmp .ne 6, 3) := by decide +kernel
theorem dX5_tally_22 : decode cX5_tally 22 = .ok (.iinc 2 1, 3) := by decide +kernel
theorem dX5_tally_25 : decode cX5_tally 25 = .ok (.iinc 3 1, 3) := by decide +kernel
theorem dX5_tally_28 : decode cX5_tally 28 = .ok (.goto (-24), 3) := by decide +kernel
theorem dX5_tally_31 : decode cX5_tally 31 = .ok (.iload_n 2, 1) := by decide +kernel
theorem dX5_tally_32 : decode cX5_tally 32 = .ok (.ireturn, 1) := by decide +kernel
theorem dX5_sortOf_0 : decode cX5_sortOf 0 = .ok (.iload_n 0, 1) := by decide +kernel
theorem dX5_sortOf_1 : decode cX5_sortOf 1 = .ok (.bipush (-6), 2) := by decide +kernel
theorem dX5_sortOf_3 : decode cX5_sortOf 3 = .ok (.if_icmp .ne 5, 3) := by decide +kernel
theorem dX5_sortOf_6 : decode cX5_sortOf 6 = .ok (.iconst 0, 1) := by decide +kernel
theorem dX5_sortOf_7 : decode cX5_sortOf 7 = .ok (.ireturn, 1) := by decide +kernel
theorem dX5_sortOf_8 : decode cX5_sortOf 8 = .ok (.iload_n 0, 1) := by decide +kernel
theorem dX5_sortOf_9 : decode cX5_sortOf 9 = .ok (.ifCond .ne 5, 3) := by decide +kernel
theorem dX5_sortOf_12 : decode cX5_sortOf 12 = .ok (.iconst 1, 1) := by decide +kernel
theorem dX5_sortOf_13 : decode cX5_sortOf 13 = .ok (.ireturn, 1) := by decide +kernel
theorem dX5_sortOf_14 : decode cX5_sortOf 14 = .ok (.iload_n 0, 1) := by decide +kernel
theorem dX5_sortOf_15 : decode cX5_sortOf 15 = .ok (.iconst 1, 1) := by decide +kernel
theorem dX5_sortOf_16 : decode cX5_sortOf 16 = .ok (.if_icmp .ne 7, 3) := by decide +kernel
theorem dX5_sortOf_19 : decode cX5_sortOf 19 = .ok (.iconst 2, 1) := by decide +kernel
theorem dX5_sortOf_20 : decode cX5_sortOf 20 = .ok (.goto 4, 3) := by decide +kernel
theorem dX5_sortOf_23 : decode cX5_sortOf 23 = .ok (.iconst 3, 1) := by decide +kernel
theorem dX5_sortOf_24 : decode cX5_sortOf 24 = .ok (.ireturn, 1) := by decide +kernel
theorem dX5_leastHeight_0 : decode cX5_leastHeight 0 = .ok (.iconst 1, 1) := by decide +kernel
theorem dX5_leastHeight_1 : decode cX5_leastHeight 1 = .ok (.istore_n 2, 1) := by decide +kernel
theorem dX5_leastHeight_2 : decode cX5_leastHeight 2 = .ok (.iload_n 2, 1) := by decide +kernel
theorem dX5_leastHeight_3 : decode cX5_leastHeight 3 = .ok (.bipush 20, 2) := by decide +kernel
theorem dX5_leastHeight_5 : decode cX5_leastHeight 5 = .ok (.if_icmp .gt 20, 3) := by decide +kernel
theorem dX5_leastHeight_8 : decode cX5_leastHeight 8 = .ok (.aload_n 0, 1) := by decide +kernel
theorem dX5_leastHeight_9 : decode cX5_leastHeight 9 = .ok (.iload_n 2, 1) := by decide +kernel
theorem dX5_leastHeight_10 : decode cX5_leastHeight 10 = .ok (.invokevirtual 57, 3) := by decide +kernel
theorem dX5_leastHeight_13 : decode cX5_leastHeight 13 = .ok (.iload_n 1, 1) := by decide +kernel
theorem dX5_leastHeight_14 : decode cX5_leastHeight 14 = .ok (.if_icmp .ne 5, 3) := by decide +kernel
theorem dX5_leastHeight_17 : decode cX5_leastHeight 17 = .ok (.iload_n 2, 1) := by decide +kernel
theorem dX5_leastHeight_18 : decode cX5_leastHeight 18 = .ok (.ireturn, 1) := by decide +kernel
theorem dX5_leastHeight_19 : decode cX5_leastHeight 19 = .ok (.iinc 2 1, 3) := by decide +kernel
theorem dX5_leastHeight_22 : decode cX5_leastHeight 22 = .ok (.goto (-20), 3) := by decide +kernel
theorem dX5_leastHeight_25 : decode cX5_leastHeight 25 = .ok (.bipush (-6), 2) := by decide +kernel
theorem dX5_leastHeight_27 : decode cX5_leastHeight 27 = .ok (.ireturn, 1) := by decide +kernel
theorem dX5_greatestHeight_0 : decode cX5_greatestHeight 0 = .ok (.bipush 20, 2) := by decide +kernel
theorem dX5_greatestHeight_2 : decode cX5_greatestHeight 2 = .ok (.istore_n 2, 1) := by decide +kernel
theorem dX5_greatestHeight_3 : decode cX5_greatestHeight 3 = .ok (.iload_n 2, 1) := by decide +kernel
theorem dX5_greatestHeight_4 : decode cX5_greatestHeight 4 = .ok (.iconst 1, 1) := by decide +kernel
theorem dX5_greatestHeight_5 : decode cX5_greatestHeight 5 = .ok (.if_icmp .lt 20, 3) := by decide +kernel
theorem dX5_greatestHeight_8 : decode cX5_greatestHeight 8 = .ok (.aload_n 0, 1) := by decide +kernel
theorem dX5_greatestHeight_9 : decode cX5_greatestHeight 9 = .ok (.iload_n 2, 1) := by decide +kernel
theorem dX5_greatestHeight_10 : decode cX5_greatestHeight 10 = .ok (.invokevirtual 57, 3) := by decide +kernel
theorem dX5_greatestHeight_13 : decode cX5_greatestHeight 13 = .ok (.iload_n 1, 1) := by decide +kernel
theorem dX5_greatestHeight_14 : decode cX5_greatestHeight 14 = .ok (.if_icmp .ne 5, 3) := by decide +kernel
theorem dX5_greatestHeight_17 : decode cX5_greatestHeight 17 = .ok (.iload_n 2, 1) := by decide +kernel
theorem dX5_greatestHeight_18 : decode cX5_greatestHeight 18 = .ok (.ireturn, 1) := by decide +kernel
theorem dX5_greatestHeight_19 : decode cX5_greatestHeight 19 = .ok (.iinc 2 (-1), 3) := by decide +kernel
theorem dX5_greatestHeight_22 : decode cX5_greatestHeight 22 = .ok (.goto (-19), 3) := by decide +kernel
theorem dX5_greatestHeight_25 : decode cX5_greatestHeight 25 = .ok (.bipush (-6), 2) := by decide +kernel
theorem dX5_greatestHeight_27 : decode cX5_greatestHeight 27 = .ok (.ireturn, 1) := by decide +kernel
theorem dX5_isUnlike_0 : decode cX5_isUnlike 0 = .ok (.aload_n 0, 1) := by decide +kernel
theorem dX5_isUnlike_1 : decode cX5_isUnlike 1 = .ok (.iload_n 2, 1) := by decide +kernel
theorem dX5_isUnlike_2 : decode cX5_isUnlike 2 = .ok (.invokevirtual 93, 3) := by decide +kernel
theorem dX5_isUnlike_5 : decode cX5_isUnlike 5 = .ok (.ifCond .eq 28, 3) := by decide +kernel
theorem dX5_isUnlike_8 : decode cX5_isUnlike 8 = .ok (.aload_n 1, 1) := by decide +kernel
theorem dX5_isUnlike_9 : decode cX5_isUnlike 9 = .ok (.iload_n 2, 1) := by decide +kernel
theorem dX5_isUnlike_10 : decode cX5_isUnlike 10 = .ok (.invokevirtual 93, 3) := by decide +kernel
theorem dX5_isUnlike_13 : decode cX5_isUnlike 13 = .ok (.ifCond .eq 20, 3) := by decide +kernel
theorem dX5_isUnlike_16 : decode cX5_isUnlike 16 = .ok (.aload_n 0, 1) := by decide +kernel
theorem dX5_isUnlike_17 : decode cX5_isUnlike 17 = .ok (.iload_n 2, 1) := by decide +kernel
theorem dX5_isUnlike_18 : decode cX5_isUnlike 18 = .ok (.invokevirtual 96, 3) := by decide +kernel
theorem dX5_isUnlike_21 : decode cX5_isUnlike 21 = .ok (.aload_n 1, 1) := by decide +kernel
theorem dX5_isUnlike_22 : decode cX5_isUnlike 22 = .ok (.iload_n 2, 1) := by decide +kernel
theorem dX5_isUnlike_23 : decode cX5_isUnlike 23 = .ok (.invokevirtual 96, 3) := by decide +kernel
theorem dX5_isUnlike_26 : decode cX5_isUnlike 26 = .ok (.if_icmp .eq 7, 3) := by decide +kernel
theorem dX5_isUnlike_29 : decode cX5_isUnlike 29 = .ok (.iconst 1, 1) := by decide +kernel
theorem dX5_isUnlike_30 : decode cX5_isUnlike 30 = .ok (.goto 4, 3) := by decide +kernel
theorem dX5_isUnlike_33 : decode cX5_isUnlike 33 = .ok (.iconst 0, 1) := by decide +kernel
theorem dX5_isUnlike_34 : decode cX5_isUnlike 34 = .ok (.ireturn, 1) := by decide +kernel
theorem dX5_unlike_0 : decode cX5_unlike 0 = .ok (.iconst 0, 1) := by decide +kernel
theorem dX5_unlike_1 : decode cX5_unlike 1 = .ok (.istore_n 2, 1) := by decide +kernel
theorem dX5_unlike_2 : decode cX5_unlike 2 = .ok (.iconst 0, 1) := by decide +kernel
theorem dX5_unlike_3 : decode cX5_unlike 3 = .ok (.istore_n 3, 1) := by decide +kernel
theorem dX5_unlike_4 : decode cX5_unlike 4 = .ok (.iload_n 3, 1) := by decide +kernel
theorem dX5_unlike_5 : decode cX5_unlike 5 = .ok (.bipush 96, 2) := by decide +kernel
theorem dX5_unlike_7 : decode cX5_unlike 7 = .ok (.if_icmp .ge 21, 3) := by decide +kernel
theorem dX5_unlike_10 : decode cX5_unlike 10 = .ok (.aload_n 0, 1) := by decide +kernel
theorem dX5_unlike_11 : decode cX5_unlike 11 = .ok (.aload_n 1, 1) := by decide +kernel
theorem dX5_unlike_12 : decode cX5_unlike 12 = .ok (.iload_n 3, 1) := by decide +kernel
theorem dX5_unlike_13 : decode cX5_unlike 13 = .ok (.invokevirtual 102, 3) := by decide +kernel
theorem dX5_unlike_16 : decode cX5_unlike 16 = .ok (.ifCond .eq 6, 3) := by decide +kernel
theorem dX5_unlike_19 : decode cX5_unlike 19 = .ok (.iinc 2 1, 3) := by decide +kernel
theorem dX5_unlike_22 : decode cX5_unlike 22 = .ok (.iinc 3 1, 3) := by decide +kernel
theorem dX5_unlike_25 : decode cX5_unlike 25 = .ok (.goto (-21), 3) := by decide +kernel
theorem dX5_unlike_28 : decode cX5_unlike 28 = .ok (.iload_n 2, 1) := by decide +kernel
theorem dX5_unlike_29 : decode cX5_unlike 29 = .ok (.ireturn, 1) := by decide +kernel
theorem dX5_unlikeByHour_0 : decode cX5_unlikeByHour 0 = .ok (.iconst 0, 1) := by decide +kernel
theorem dX5_unlikeByHour_1 : decode cX5_unlikeByHour 1 = .ok (.istore_n 2, 1) := by decide +kernel
theorem dX5_unlikeByHour_2 : decode cX5_unlikeByHour 2 = .ok (.iconst 0, 1) := by decide +kernel
theorem dX5_unlikeByHour_3 : decode cX5_unlikeByHour 3 = .ok (.istore_n 3, 1) := by decide +kernel
theorem dX5_unlikeByHour_4 : decode cX5_unlikeByHour 4 = .ok (.iload_n 3, 1) := by decide +kernel
theorem dX5_unlikeByHour_5 : decode cX5_unlikeByHour 5 = .ok (.bipush 96, 2) := by decide +kernel
theorem dX5_unlikeByHour_7 : decode cX5_unlikeByHour 7 = .ok (.if_icmp .ge 53, 3) := by decide +kernel
theorem dX5_unlikeByHour_10 : decode cX5_unlikeByHour 10 = .ok (.aload_n 0, 1) := by decide +kernel
theorem dX5_unlikeByHour_11 : decode cX5_unlikeByHour 11 = .ok (.iload_n 3, 1) := by decide +kernel
theorem dX5_unlikeByHour_12 : decode cX5_unlikeByHour 12 = .ok (.invokevirtual 96, 3) := by decide +kernel
theorem dX5_unlikeByHour_15 : decode cX5_unlikeByHour 15 = .ok (.bipush 10, 2) := by decide +kernel
theorem dX5_unlikeByHour_17 : decode cX5_unlikeByHour 17 = .ok (.if_icmp .ge 17, 3) := by decide +kernel
theorem dX5_unlikeByHour_20 : decode cX5_unlikeByHour 20 = .ok (.aload_n 1, 1) := by decide +kernel
theorem dX5_unlikeByHour_21 : decode cX5_unlikeByHour 21 = .ok (.iload_n 3, 1) := by decide +kernel
theorem dX5_unlikeByHour_22 : decode cX5_unlikeByHour 22 = .ok (.invokevirtual 96, 3) := by decide +kernel
theorem dX5_unlikeByHour_25 : decode cX5_unlikeByHour 25 = .ok (.bipush 10, 2) := by decide +kernel
theorem dX5_unlikeByHour_27 : decode cX5_unlikeByHour 27 = .ok (.if_icmp .ge 7, 3) := by decide +kernel
theorem dX5_unlikeByHour_30 : decode cX5_unlikeByHour 30 = .ok (.iconst 1, 1) := by decide +kernel
theorem dX5_unlikeByHour_31 : decode cX5_unlikeByHour 31 = .ok (.goto 4, 3) := by decide +kernel
theorem dX5_unlikeByHour_34 : decode cX5_unlikeByHour 34 = .ok (.iconst 0, 1) := by decide +kernel
theorem dX5_unlikeByHour_35 : decode cX5_unlikeByHour 35 = .ok (.istore 4, 2) := by decide +kernel
theorem dX5_unlikeByHour_37 : decode cX5_unlikeByHour 37 = .ok (.iload 4, 2) := by decide +kernel
theorem dX5_unlikeByHour_39 : decode cX5_unlikeByHour 39 = .ok (.ifCond .eq 15, 3) := by decide +kernel
theorem dX5_unlikeByHour_42 : decode cX5_unlikeByHour 42 = .ok (.aload_n 0, 1) := by decide +kernel
theorem dX5_unlikeByHour_43 : decode cX5_unlikeByHour 43 = .ok (.aload_n 1, 1) := by decide +kernel
theorem dX5_unlikeByHour_44 : decode cX5_unlikeByHour 44 = .ok (.iload_n 3, 1) := by decide +kernel
theorem dX5_unlikeByHour_45 : decode cX5_unlikeByHour 45 = .ok (.invokevirtual 102, 3) := by decide +kernel
theorem dX5_unlikeByHour_48 : decode cX5_unlikeByHour 48 = .ok (.ifCond .eq 6, 3) := by decide +kernel
theorem dX5_unlikeByHour_51 : decode cX5_unlikeByHour 51 = .ok (.iinc 2 1, 3) := by decide +kernel
theorem dX5_unlikeByHour_54 : decode cX5_unlikeByHour 54 = .ok (.iinc 3 1, 3) := by decide +kernel
theorem dX5_unlikeByHour_57 : decode cX5_unlikeByHour 57 = .ok (.goto (-53), 3) := by decide +kernel
theorem dX5_unlikeByHour_60 : decode cX5_unlikeByHour 60 = .ok (.iload_n 2, 1) := by decide +kernel
theorem dX5_unlikeByHour_61 : decode cX5_unlikeByHour 61 = .ok (.ireturn, 1) := by decide +kernel
theorem dX5_firstUnlike_0 : decode cX5_firstUnlike 0 = .ok (.iconst 0, 1) := by decide +kernel
theorem dX5_firstUnlike_1 : decode cX5_firstUnlike 1 = .ok (.istore_n 2, 1) := by decide +kernel
theorem dX5_firstUnlike_2 : decode cX5_firstUnlike 2 = .ok (.iload_n 2, 1) := by decide +kernel
theorem dX5_firstUnlike_3 : decode cX5_firstUnlike 3 = .ok (.bipush 96, 2) := by decide +kernel
theorem dX5_firstUnlike_5 : decode cX5_firstUnlike 5 = .ok (.if_icmp .ge 20, 3) := by decide +kernel
theorem dX5_firstUnlike_8 : decode cX5_firstUnlike 8 = .ok (.aload_n 0, 1) := by decide +kernel
theorem dX5_firstUnlike_9 : decode cX5_firstUnlike 9 = .ok (.aload_n 1, 1) := by decide +kernel
theorem dX5_firstUnlike_10 : decode cX5_firstUnlike 10 = .ok (.iload_n 2, 1) := by decide +kernel
theorem dX5_firstUnlike_11 : decode cX5_firstUnlike 11 = .ok (.invokevirtual 102, 3) := by decide +kernel
theorem dX5_firstUnlike_14 : decode cX5_firstUnlike 14 = .ok (.ifCond .eq 5, 3) := by decide +kernel
theorem dX5_firstUnlike_17 : decode cX5_firstUnlike 17 = .ok (.iload_n 2, 1) := by decide +kernel
theorem dX5_firstUnlike_18 : decode cX5_firstUnlike 18 = .ok (.ireturn, 1) := by decide +kernel
theorem dX5_firstUnlike_19 : decode cX5_firstUnlike 19 = .ok (.iinc 2 1, 3) := by decide +kernel
theorem dX5_firstUnlike_22 : decode cX5_firstUnlike 22 = .ok (.goto (-20), 3) := by decide +kernel
theorem dX5_firstUnlike_25 : decode cX5_firstUnlike 25 = .ok (.bipush (-6), 2) := by decide +kernel
theorem dX5_firstUnlike_27 : decode cX5_firstUnlike 27 = .ok (.ireturn, 1) := by decide +kernel
theorem dX6_init_0 : decode cX6_init 0 = .ok (.aload_n 0, 1) := by decide +kernel
theorem dX6_init_1 : decode cX6_init 1 = .ok (.invokespecial 3, 3) := by decide +kernel
theorem dX6_init_4 : decode cX6_init 4 = .ok (.aload_n 0, 1) := by decide +kernel
theorem dX6_init_5 : decode cX6_init 5 = .ok (.new 9, 3) := by decide +kernel
theorem dX6_init_8 : decode cX6_init 8 = .ok (.dup, 1) := by decide +kernel
theorem dX6_init_9 : decode cX6_init 9 = .ok (.invokespecial 11, 3) := by decide +kernel
theorem dX6_init_12 : decode cX6_init 12 = .ok (.putfield 12, 3) := by decide +kernel
theorem dX6_init_15 : decode cX6_init 15 = .ok (.aload_n 0, 1) := by decide +kernel
theorem dX6_init_16 : decode cX6_init 16 = .ok (.iload_n 1, 1) := by decide +kernel
theorem dX6_init_17 : decode cX6_init 17 = .ok (.putfield 18, 3) := by decide +kernel
theorem dX6_init_20 : decode cX6_init 20 = .ok (.aload_n 0, 1) := by decide +kernel
theorem dX6_init_21 : decode cX6_init 21 = .ok (.aload_n 2, 1) := by decide +kernel
theorem dX6_init_22 : decode cX6_init 22 = .ok (.putfield 22, 3) := by decide +kernel
theorem dX6_init_25 : decode cX6_init 25 = .ok (.return_, 1) := by decide +kernel
theorem dX6_number_0 : decode cX6_number 0 = .ok (.aload_n 0, 1) := by decide +kernel
theorem dX6_number_1 : decode cX6_number 1 = .ok (.getfield 18, 3) := by decide +kernel
theorem dX6_number_4 : decode cX6_number 4 = .ok (.ireturn, 1) := by decide +kernel
theorem dX6_mark_0 : decode cX6_mark 0 = .ok (.iload_n 1, 1) := by decide +kernel
theorem dX6_mark_1 : decode cX6_mark 1 = .ok (.ifCond .lt 21, 3) := by decide +kernel
theorem dX6_mark_4 : decode cX6_mark 4 = .ok (.iload_n 1, 1) := by decide +kernel
theorem dX6_mark_5 : decode cX6_mark 5 = .ok (.aload_n 0, 1) := by decide +kernel
theorem dX6_mark_6 : decode cX6_mark 6 = .ok (.getfield 22, 3) := by decide +kernel
theorem dX6_mark_9 : decode cX6_mark 9 = .ok (.arraylength, 1) := by decide +kernel
theorem dX6_mark_10 : decode cX6_mark 10 = .ok (.if_icmp .ge 12, 3) := by decide +kernel
theorem dX6_mark_13 : decode cX6_mark 13 = .ok (.aload_n 0, 1) := by decide +kernel
theorem dX6_mark_14 : decode cX6_mark 14 = .ok (.getfield 22, 3) := by decide +kernel
theorem dX6_mark_17 : decode cX6_mark 17 = .ok (.iload_n 1, 1) := by decide +kernel
theorem dX6_mark_18 : decode cX6_mark 18 = .ok (.iaload, 1) := by decide +kernel
theorem dX6_mark_19 : decode cX6_mark 19 = .ok (.goto 5, 3) := by decide +kernel
theorem dX6_mark_22 : decode cX6_mark 22 = .ok (.bipush (-6), 2) := by decide +kernel
theorem dX6_mark_24 : decode cX6_mark 24 = .ok (.ireturn, 1) := by decide +kernel
theorem dX6_remark_0 : decode cX6_remark 0 = .ok (.iload_n 1, 1) := by decide +kernel
theorem dX6_remark_1 : decode cX6_remark 1 = .ok (.ifCond .lt 19, 3) := by decide +kernel
theorem dX6_remark_4 : decode cX6_remark 4 = .ok (.iload_n 1, 1) := by decide +kernel
theorem dX6_remark_5 : decode cX6_remark 5 = .ok (.aload_n 0, 1) := by decide +kernel
theorem dX6_remark_6 : decode cX6_remark 6 = .ok (.getfield 22, 3) := by decide +kernel
theorem dX6_remark_9 : decode cX6_remark 9 = .ok (.arraylength, 1) := by decide +kernel
theorem dX6_remark_10 : decode cX6_remark 10 = .ok (.if_icmp .ge 10, 3) := by decide +kernel
theorem dX6_remark_13 : decode cX6_remark 13 = .ok (.aload_n 0, 1) := by decide +kernel
theorem dX6_remark_14 : decode cX6_remark 14 = .ok (.getfield 22, 3) := by decide +kernel
theorem dX6_remark_17 : decode cX6_remark 17 = .ok (.iload_n 1, 1) := by decide +kernel
theorem dX6_remark_18 : decode cX6_remark 18 = .ok (.iload_n 2, 1) := by decide +kernel
theorem dX6_remark_19 : decode cX6_remark 19 = .ok (.iastore, 1) := by decide +kernel
theorem dX6_remark_20 : decode cX6_remark 20 = .ok (.return_, 1) := by decide +kernel
theorem dX6_isThere_0 : decode cX6_isThere 0 = .ok (.iload_n 1, 1) := by decide +kernel
theorem dX6_isThere_1 : decode cX6_isThere 1 = .ok (.aload_n 0, 1) := by decide +kernel
theorem dX6_isThere_2 : decode cX6_isThere 2 = .ok (.bipush 6, 2) := by decide +kernel
theorem dX6_isThere_4 : decode cX6_isThere 4 = .ok (.invokevirtual 26, 3) := by decide +kernel
theorem dX6_isThere_7 : decode cX6_isThere 7 = .ok (.aload_n 0, 1) := by decide +kernel
theorem dX6_isThere_8 : decode cX6_isThere 8 = .ok (.bipush 7, 2) := by decide +kernel
theorem dX6_isThere_10 : decode cX6_isThere 10 = .ok (.invokevirtual 26, 3) := by decide +kernel
theorem dX6_isThere_13 : decode cX6_isThere 13 = .ok (.invokestatic 30, 3) := by decide +kernel
theorem dX6_isThere_16 : decode cX6_isThere 16 = .ok (.ireturn, 1) := by decide +kernel
theorem dX6_liesOn_0 : decode cX6_liesOn 0 = .ok (.iload_n 1, 1) := by decide +kernel
theorem dX6_liesOn_1 : decode cX6_liesOn 1 = .ok (.aload_n 0, 1) := by decide +kernel
theorem dX6_liesOn_2 : decode cX6_liesOn 2 = .ok (.iconst 0, 1) := by decide +kernel
theorem dX6_liesOn_3 : decode cX6_liesOn 3 = .ok (.invokevirtual 26, 3) := by decide +kernel
theorem dX6_liesOn_6 : decode cX6_liesOn 6 = .ok (.isub, 1) := by decide +kernel
theorem dX6_liesOn_7 : decode cX6_liesOn 7 = .ok (.istore_n 3, 1) := by decide +kernel
theorem dX6_liesOn_8 : decode cX6_liesOn 8 = .ok (.iload_n 2, 1) := by decide +kernel
theorem dX6_liesOn_9 : decode cX6_liesOn 9 = .ok (.aload_n 0, 1) := by decide +kernel
theorem dX6_liesOn_10 : decode cX6_liesOn 10 = .ok (.iconst 1, 1) := by decide +kernel
theorem dX6_liesOn_11 : decode cX6_liesOn 11 = .ok (.invokevirtual 26, 3) := by decide +kernel
theorem dX6_liesOn_14 : decode cX6_liesOn 14 = .ok (.isub, 1) := by decide +kernel
theorem dX6_liesOn_15 : decode cX6_liesOn 15 = .ok (.istore 4, 2) := by decide +kernel
theorem dX6_liesOn_17 : decode cX6_liesOn 17 = .ok (.iload_n 3, 1) := by decide +kernel
theorem dX6_liesOn_18 : decode cX6_liesOn 18 = .ok (.iconst 0, 1) := by decide +kernel
theorem dX6_liesOn_19 : decode cX6_liesOn 19 = .ok (.aload_n 0, 1) := by decide +kernel
theorem dX6_liesOn_20 : decode cX6_liesOn 20 = .ok (.iconst 2, 1) := by decide +kernel
theorem dX6_liesOn_21 : decode cX6_liesOn 21 = .ok (.invokevirtual 26, 3) := by decide +kernel
theorem dX6_liesOn_24 : decode cX6_liesOn 24 = .ok (.iconst 1, 1) := by decide +kernel
theorem dX6_liesOn_25 : decode cX6_liesOn 25 = .ok (.isub, 1) := by decide +kernel
theorem dX6_liesOn_26 : decode cX6_liesOn 26 = .ok (.invokestatic 30, 3) := by decide +kernel
theorem dX6_liesOn_29 : decode cX6_liesOn 29 = .ok (.ifCond .eq 23, 3) := by decide +kernel
theorem dX6_liesOn_32 : decode cX6_liesOn 32 = .ok (.iload 4, 2) := by decide +kernel
theorem dX6_liesOn_34 : decode cX6_liesOn 34 = .ok (.iconst 0, 1) := by decide +kernel
theorem dX6_liesOn_35 : decode cX6_liesOn 35 = .ok (.aload_n 0, 1) := by decide +kernel
theorem dX6_liesOn_36 : decode cX6_liesOn 36 = .ok (.iconst 3, 1) := by decide +kernel
theorem dX6_liesOn_37 : decode cX6_liesOn 37 = .ok (.invokevirtual 26, 3) := by decide +kernel
theorem dX6_liesOn_40 : decode cX6_liesOn 40 = .ok (.iconst 1, 1) := by decide +kernel
theorem dX6_liesOn_41 : decode cX6_liesOn 41 = .ok (.isub, 1) := by decide +kernel
theorem dX6_liesOn_42 : decode cX6_liesOn 42 = .ok (.invokestatic 30, 3) := by decide +kernel
theorem dX6_liesOn_45 : decode cX6_liesOn 45 = .ok (.ifCond .eq 7, 3) := by decide +kernel
theorem dX6_liesOn_48 : decode cX6_liesOn 48 = .ok (.iconst 1, 1) := by decide +kernel
theorem dX6_liesOn_49 : decode cX6_liesOn 49 = .ok (.goto 4, 3) := by decide +kernel
theorem dX6_liesOn_52 : decode cX6_liesOn 52 = .ok (.iconst 0, 1) := by decide +kernel
theorem dX6_liesOn_53 : decode cX6_liesOn 53 = .ok (.ireturn, 1) := by decide +kernel
theorem dX6_isAbove_0 : decode cX6_isAbove 0 = .ok (.aload_n 1, 1) := by decide +kernel
theorem dX6_isAbove_1 : decode cX6_isAbove 1 = .ok (.ifnull 16, 3) := by decide +kernel
theorem dX6_isAbove_4 : decode cX6_isAbove 4 = .ok (.aload_n 0, 1) := by decide +kernel
theorem dX6_isAbove_5 : decode cX6_isAbove 5 = .ok (.iconst 4, 1) := by decide +kernel
theorem dX6_isAbove_6 : decode cX6_isAbove 6 = .ok (.invokevirtual 26, 3) := by decide +kernel
theorem dX6_isAbove_9 : decode cX6_isAbove 9 = .ok (.aload_n 1, 1) := by decide +kernel
theorem dX6_isAbove_10 : decode cX6_isAbove 10 = .ok (.iconst 4, 1) := by decide +kernel
theorem dX6_isAbove_11 : decode cX6_isAbove 11 = .ok (.invokevirtual 26, 3) := by decide +kernel
theorem dX6_isAbove_14 : decode cX6_isAbove 14 = .ok (.if_icmp .le 7, 3) := by decide +kernel
theorem dX6_isAbove_17 : decode cX6_isAbove 17 = .ok (.iconst 1, 1) := by decide +kernel
theorem dX6_isAbove_18 : decode cX6_isAbove 18 = .ok (.goto 4, 3) := by decide +kernel
theorem dX6_isAbove_21 : decode cX6_isAbove 21 = .ok (.iconst 0, 1) := by decide +kernel
theorem dX6_isAbove_22 : decode cX6_isAbove 22 = .ok (.ireturn, 1) := by decide +kernel
theorem dX6_hasLine_0 : decode cX6_hasLine 0 = .ok (.aload_n 0, 1) := by decide +kernel
theorem dX6_hasLine_1 : decode cX6_hasLine 1 = .ok (.bipush 8, 2) := by decide +kernel
theorem dX6_hasLine_3 : decode cX6_hasLine 3 = .ok (.invokevirtual 26, 3) := by decide +kernel
theorem dX6_hasLine_6 : decode cX6_hasLine 6 = .ok (.bipush 8, 2) := by decide +kernel
theorem dX6_hasLine_8 : decode cX6_hasLine 8 = .ok (.if_icmp .eq 15, 3) := by decide +kernel
theorem dX6_hasLine_11 : decode cX6_hasLine 11 = .ok (.aload_n 0, 1) := by decide +kernel
theorem dX6_hasLine_12 : decode cX6_hasLine 12 = .ok (.iload_n 1, 1) := by decide +kernel
theorem dX6_hasLine_13 : decode cX6_hasLine 13 = .ok (.invokevirtual 34, 3) := by decide +kernel
theorem dX6_hasLine_16 : decode cX6_hasLine 16 = .ok (.ifCond .eq 7, 3) := by decide +kernel
theorem dX6_hasLine_19 : decode cX6_hasLine 19 = .ok (.iconst 1, 1) := by decide +kernel
theorem dX6_hasLine_20 : decode cX6_hasLine 20 = .ok (.goto 4, 3) := by decide +kernel
theorem dX6_hasLine_23 : decode cX6_hasLine 23 = .ok (.iconst 0, 1) := by decide +kernel
theorem dX6_hasLine_24 : decode cX6_hasLine 24 = .ok (.ireturn, 1) := by decide +kernel
theorem dX6_distance_0 : decode cX6_distance 0 = .ok (.iload_n 1, 1) := by decide +kernel
theorem dX6_distance_1 : decode cX6_distance 1 = .ok (.aload_n 0, 1) := by decide +kernel
theorem dX6_distance_2 : decode cX6_distance 2 = .ok (.iconst 0, 1) := by decide +kernel
theorem dX6_distance_3 : decode cX6_distance 3 = .ok (.invokevirtual 26, 3) := by decide +kernel
theorem dX6_distance_6 : decode cX6_distance 6 = .ok (.isub, 1) := by decide +kernel
theorem dX6_distance_7 : decode cX6_distance 7 = .ok (.invokestatic 38, 3) := by decide +kernel
theorem dX6_distance_10 : decode cX6_distance 10 = .ok (.iload_n 2, 1) := by decide +kernel
theorem dX6_distance_11 : decode cX6_distance 11 = .ok (.aload_n 0, 1) := by decide +kernel
theorem dX6_distance_12 : decode cX6_distance 12 = .ok (.iconst 1, 1) := by decide +kernel
theorem dX6_distance_13 : decode cX6_distance 13 = .ok (.invokevirtual 26, 3) := by decide +kernel
theorem dX6_distance_16 : decode cX6_distance 16 = .ok (.isub, 1) := by decide +kernel
theorem dX6_distance_17 : decode cX6_distance 17 = .ok (.invokestatic 38, 3) := by decide +kernel
theorem dX6_distance_20 : decode cX6_distance 20 = .ok (.iadd, 1) := by decide +kernel
theorem dX6_distance_21 : decode cX6_distance 21 = .ok (.ireturn, 1) := by decide +kernel
theorem dX6_tickDoing_0 : decode cX6_tickDoing 0 = .ok (.aload_n 0, 1) := by decide +kernel
theorem dX6_tickDoing_1 : decode cX6_tickDoing 1 = .ok (.getfield 12, 3) := by decide +kernel
theorem dX6_tickDoing_4 : decode cX6_tickDoing 4 = .ok (.iload_n 1, 1) := by decide +kernel
theorem dX6_tickDoing_5 : decode cX6_tickDoing 5 = .ok (.iload_n 2, 1) := by decide +kernel
theorem dX6_tickDoing_6 : decode cX6_tickDoing 6 = .ok (.invokevirtual 43, 3) := by decide +kernel
theorem dX6_tickDoing_9 : decode cX6_tickDoing 9 = .ok (.ireturn, 1) := by decide +kernel
theorem dX6_daysWithout_0 : decode cX6_daysWithout 0 = .ok (.iconst 0, 1) := by decide +kernel
theorem dX6_daysWithout_1 : decode cX6_daysWithout 1 = .ok (.istore_n 3, 1) := by decide +kernel
theorem dX6_daysWithout_2 : decode cX6_daysWithout 2 = .ok (.iload_n 1, 1) := by decide +kernel
theorem dX6_daysWithout_3 : decode cX6_daysWithout 3 = .ok (.istore 4, 2) := by decide +kernel
theorem dX6_daysWithout_5 : decode cX6_daysWithout 5 = .ok (.iload 4, 2) := by decide +kernel
theorem dX6_daysWithout_7 : decode cX6_daysWithout 7 = .ok (.iload_n 2, 1) := by decide +kernel
theorem dX6_daysWithout_8 : decode cX6_daysWithout 8 = .ok (.if_icmp .gt 24, 3) := by decide +kernel
theorem dX6_daysWithout_11 : decode cX6_daysWithout 11 = .ok (.aload_n 0, 1) := by decide +kernel
theorem dX6_daysWithout_12 : decode cX6_daysWithout 12 = .ok (.getfield 12, 3) := by decide +kernel
theorem dX6_daysWithout_15 : decode cX6_daysWithout 15 = .ok (.iload 4, 2) := by decide +kernel
theorem dX6_daysWithout_17 : decode cX6_daysWithout 17 = .ok (.invokevirtual 47, 3) := by decide +kernel
theorem dX6_daysWithout_20 : decode cX6_daysWithout 20 = .ok (.ifCond .ne 6, 3) := by decide +kernel
theorem dX6_daysWithout_23 : decode cX6_daysWithout 23 = .ok (.iinc 3 1, 3) := by decide +kernel
theorem dX6_daysWithout_26 : decode cX6_daysWithout 26 = .ok (.iinc 4 1, 3) := by decide +kernel
theorem dX6_daysWithout_29 : decode cX6_daysWithout 29 = .ok (.goto (-24), 3) := by decide +kernel
theorem dX6_daysWithout_32 : decode cX6_daysWithout 32 = .ok (.iload_n 3, 1) := by decide +kernel
theorem dX6_daysWithout_33 : decode cX6_daysWithout 33 = .ok (.ireturn, 1) := by decide +kernel
theorem dX7_init_0 : decode cX7_init 0 = .ok (.aload_n 0, 1) := by decide +kernel
theorem dX7_init_1 : decode cX7_init 1 = .ok (.invokespecial 1, 3) := by decide +kernel
theorem dX7_init_4 : decode cX7_init 4 = .ok (.return_, 1) := by decide +kernel
theorem dX7_has_0 : decode cX7_has 0 = .ok (.iload_n 1, 1) := by decide +kernel
theorem dX7_has_1 : decode cX7_has 1 = .ok (.ifCond .lt 9, 3) := by decide +kernel
theorem dX7_has_4 : decode cX7_has 4 = .ok (.iload_n 1, 1) := by decide +kernel
theorem dX7_has_5 : decode cX7_has 5 = .ok (.bipush 127, 2) := by decide +kernel
theorem dX7_has_7 : decode cX7_has 7 = .ok (.if_icmp .le 5, 3) := by decide +kernel
theorem dX7_has_10 : decode cX7_has 10 = .ok (.iconst 0, 1) := by decide +kernel
theorem dX7_has_11 : decode cX7_has 11 = .ok (.ireturn, 1) := by decide +kernel
theorem dX7_has_12 : decode cX7_has 12 = .ok (.iload_n 1, 1) := by decide +kernel
theorem dX7_has_13 : decode cX7_has 13 = .ok (.bipush 64, 2) := by decide +kernel
end
section
theorem dX7_has_15 : decode cX7_has 15 = .ok (.if_icmp .ge 10, 3) := by decide +kernel
theorem dX7_has_18 : decode cX7_has 18 = .ok (.aload_n 0, 1) := by decide +kernel
theorem dX7_has_19 : decode cX7_has 19 = .ok (.getfield 7, 3) := by decide +kernel
theorem dX7_has_22 : decode cX7_has 22 = .ok (.goto 7, 3) := by decide +kernel
theorem dX7_has_25 : decode cX7_has 25 = .ok (.aload_n 0, 1) := by decide +kernel
theorem dX7_has_26 : decode cX7_has 26 = .ok (.getfield 13, 3) := by decide +kernel
theorem dX7_has_29 : decode cX7_has 29 = .ok (.lstore_n 2, 1) := by decide +kernel
theorem dX7_has_30 : decode cX7_has 30 = .ok (.lload_n 2, 1) := by decide +kernel
theorem dX7_has_31 : decode cX7_has 31 = .ok (.iload_n 1, 1) := by decide +kernel
theorem dX7_has_32 : decode cX7_has 32 = .ok (.bipush 63, 2) := by decide +kernel
theorem dX7_has_34 : decode cX7_has 34 = .ok (.iand, 1) := by decide +kernel
theorem dX7_has_35 : decode cX7_has 35 = .ok (.lushr, 1) := by decide +kernel
theorem dX7_has_36 : decode cX7_has 36 = .ok (.lconst 1, 1) := by decide +kernel
theorem dX7_has_37 : decode cX7_has 37 = .ok (.land, 1) := by decide +kernel
theorem dX7_has_38 : decode cX7_has 38 = .ok (.lconst 1, 1) := by decide +kernel
theorem dX7_has_39 : decode cX7_has 39 = .ok (.lcmp, 1) := by decide +kernel
theorem dX7_has_40 : decode cX7_has 40 = .ok (.ifCond .ne 7, 3) := by decide +kernel
theorem dX7_has_43 : decode cX7_has 43 = .ok (.iconst 1, 1) := by decide +kernel
theorem dX7_has_44 : decode cX7_has 44 = .ok (.goto 4, 3) := by decide +kernel
theorem dX7_has_47 : decode cX7_has 47 = .ok (.iconst 0, 1) := by decide +kernel
theorem dX7_has_48 : decode cX7_has 48 = .ok (.ireturn, 1) := by decide +kernel
theorem dX7_put_0 : decode cX7_put 0 = .ok (.aload_n 0, 1) := by decide +kernel
theorem dX7_put_1 : decode cX7_put 1 = .ok (.iload_n 1, 1) := by decide +kernel
theorem dX7_put_2 : decode cX7_put 2 = .ok (.invokevirtual 16, 3) := by decide +kernel
theorem dX7_put_5 : decode cX7_put 5 = .ok (.istore_n 3, 1) := by decide +kernel
theorem dX7_put_6 : decode cX7_put 6 = .ok (.iload_n 3, 1) := by decide +kernel
theorem dX7_put_7 : decode cX7_put 7 = .ok (.iload_n 2, 1) := by decide +kernel
theorem dX7_put_8 : decode cX7_put 8 = .ok (.if_icmp .eq 13, 3) := by decide +kernel
theorem dX7_put_11 : decode cX7_put 11 = .ok (.iload_n 1, 1) := by decide +kernel
theorem dX7_put_12 : decode cX7_put 12 = .ok (.ifCond .lt 9, 3) := by decide +kernel
theorem dX7_put_15 : decode cX7_put 15 = .ok (.iload_n 1, 1) := by decide +kernel
theorem dX7_put_16 : decode cX7_put 16 = .ok (.bipush 127, 2) := by decide +kernel
theorem dX7_put_18 : decode cX7_put 18 = .ok (.if_icmp .le 5, 3) := by decide +kernel
theorem dX7_put_21 : decode cX7_put 21 = .ok (.iload_n 3, 1) := by decide +kernel
theorem dX7_put_22 : decode cX7_put 22 = .ok (.ireturn, 1) := by decide +kernel
theorem dX7_put_23 : decode cX7_put 23 = .ok (.lconst 1, 1) := by decide +kernel
theorem dX7_put_24 : decode cX7_put 24 = .ok (.iload_n 1, 1) := by decide +kernel
theorem dX7_put_25 : decode cX7_put 25 = .ok (.bipush 63, 2) := by decide +kernel
theorem dX7_put_27 : decode cX7_put 27 = .ok (.iand, 1) := by decide +kernel
theorem dX7_put_28 : decode cX7_put 28 = .ok (.lshl, 1) := by decide +kernel
theorem dX7_put_29 : decode cX7_put 29 = .ok (.lstore 4, 2) := by decide +kernel
theorem dX7_put_31 : decode cX7_put 31 = .ok (.iload_n 1, 1) := by decide +kernel
theorem dX7_put_32 : decode cX7_put 32 = .ok (.bipush 64, 2) := by decide +kernel
theorem dX7_put_34 : decode cX7_put 34 = .ok (.if_icmp .ge 17, 3) := by decide +kernel
theorem dX7_put_37 : decode cX7_put 37 = .ok (.aload_n 0, 1) := by decide +kernel
theorem dX7_put_38 : decode cX7_put 38 = .ok (.dup, 1) := by decide +kernel
theorem dX7_put_39 : decode cX7_put 39 = .ok (.getfield 7, 3) := by decide +kernel
theorem dX7_put_42 : decode cX7_put 42 = .ok (.lload 4, 2) := by decide +kernel
theorem dX7_put_44 : decode cX7_put 44 = .ok (.lxor, 1) := by decide +kernel
theorem dX7_put_45 : decode cX7_put 45 = .ok (.putfield 7, 3) := by decide +kernel
theorem dX7_put_48 : decode cX7_put 48 = .ok (.goto 14, 3) := by decide +kernel
theorem dX7_put_51 : decode cX7_put 51 = .ok (.aload_n 0, 1) := by decide +kernel
theorem dX7_put_52 : decode cX7_put 52 = .ok (.dup, 1) := by decide +kernel
theorem dX7_put_53 : decode cX7_put 53 = .ok (.getfield 13, 3) := by decide +kernel
theorem dX7_put_56 : decode cX7_put 56 = .ok (.lload 4, 2) := by decide +kernel
theorem dX7_put_58 : decode cX7_put 58 = .ok (.lxor, 1) := by decide +kernel
theorem dX7_put_59 : decode cX7_put 59 = .ok (.putfield 13, 3) := by decide +kernel
theorem dX7_put_62 : decode cX7_put 62 = .ok (.iload_n 3, 1) := by decide +kernel
theorem dX7_put_63 : decode cX7_put 63 = .ok (.ireturn, 1) := by decide +kernel
theorem dX8_init_0 : decode cX8_init 0 = .ok (.aload_n 0, 1) := by decide +kernel
theorem dX8_init_1 : decode cX8_init 1 = .ok (.invokespecial 3, 3) := by decide +kernel
theorem dX8_init_4 : decode cX8_init 4 = .ok (.aload_n 0, 1) := by decide +kernel
theorem dX8_init_5 : decode cX8_init 5 = .ok (.bipush 40, 2) := by decide +kernel
theorem dX8_init_7 : decode cX8_init 7 = .ok (.newarray .int, 2) := by decide +kernel
theorem dX8_init_9 : decode cX8_init 9 = .ok (.putfield 11, 3) := by decide +kernel
theorem dX8_init_12 : decode cX8_init 12 = .ok (.aload_n 0, 1) := by decide +kernel
theorem dX8_init_13 : decode cX8_init 13 = .ok (.iconst 5, 1) := by decide +kernel
theorem dX8_init_14 : decode cX8_init 14 = .ok (.bipush 40, 2) := by decide +kernel
theorem dX8_init_16 : decode cX8_init 16 = .ok (.multianewarray 15 2, 4) := by decide +kernel
theorem dX8_init_20 : decode cX8_init 20 = .ok (.putfield 17, 3) := by decide +kernel
theorem dX8_init_23 : decode cX8_init 23 = .ok (.aload_n 0, 1) := by decide +kernel
theorem dX8_init_24 : decode cX8_init 24 = .ok (.iconst 5, 1) := by decide +kernel
theorem dX8_init_25 : decode cX8_init 25 = .ok (.newarray .int, 2) := by decide +kernel
theorem dX8_init_27 : decode cX8_init 27 = .ok (.putfield 20, 3) := by decide +kernel
theorem dX8_init_30 : decode cX8_init 30 = .ok (.return_, 1) := by decide +kernel
theorem dX8_signs_0 : decode cX8_signs 0 = .ok (.aload_n 0, 1) := by decide +kernel
theorem dX8_signs_1 : decode cX8_signs 1 = .ok (.getfield 23, 3) := by decide +kernel
theorem dX8_signs_4 : decode cX8_signs 4 = .ok (.ireturn, 1) := by decide +kernel
theorem dX8_append_0 : decode cX8_append 0 = .ok (.aload_n 0, 1) := by decide +kernel
theorem dX8_append_1 : decode cX8_append 1 = .ok (.getfield 23, 3) := by decide +kernel
theorem dX8_append_4 : decode cX8_append 4 = .ok (.bipush 40, 2) := by decide +kernel
theorem dX8_append_6 : decode cX8_append 6 = .ok (.if_icmp .lt 6, 3) := by decide +kernel
theorem dX8_append_9 : decode cX8_append 9 = .ok (.bipush (-4), 2) := by decide +kernel
theorem dX8_append_11 : decode cX8_append 11 = .ok (.ireturn, 1) := by decide +kernel
theorem dX8_append_12 : decode cX8_append 12 = .ok (.aload_n 0, 1) := by decide +kernel
theorem dX8_append_13 : decode cX8_append 13 = .ok (.getfield 11, 3) := by decide +kernel
theorem dX8_append_16 : decode cX8_append 16 = .ok (.aload_n 0, 1) := by decide +kernel
theorem dX8_append_17 : decode cX8_append 17 = .ok (.getfield 23, 3) := by decide +kernel
theorem dX8_append_20 : decode cX8_append 20 = .ok (.iload_n 1, 1) := by decide +kernel
theorem dX8_append_21 : decode cX8_append 21 = .ok (.iastore, 1) := by decide +kernel
theorem dX8_append_22 : decode cX8_append 22 = .ok (.aload_n 0, 1) := by decide +kernel
theorem dX8_append_23 : decode cX8_append 23 = .ok (.dup, 1) := by decide +kernel
theorem dX8_append_24 : decode cX8_append 24 = .ok (.getfield 23, 3) := by decide +kernel
theorem dX8_append_27 : decode cX8_append 27 = .ok (.iconst 1, 1) := by decide +kernel
theorem dX8_append_28 : decode cX8_append 28 = .ok (.iadd, 1) := by decide +kernel
theorem dX8_append_29 : decode cX8_append 29 = .ok (.putfield 23, 3) := by decide +kernel
theorem dX8_append_32 : decode cX8_append 32 = .ok (.aload_n 0, 1) := by decide +kernel
theorem dX8_append_33 : decode cX8_append 33 = .ok (.getfield 23, 3) := by decide +kernel
theorem dX8_append_36 : decode cX8_append 36 = .ok (.ireturn, 1) := by decide +kernel
theorem dX8_clear_0 : decode cX8_clear 0 = .ok (.aload_n 0, 1) := by decide +kernel
theorem dX8_clear_1 : decode cX8_clear 1 = .ok (.getfield 23, 3) := by decide +kernel
theorem dX8_clear_4 : decode cX8_clear 4 = .ok (.istore_n 1, 1) := by decide +kernel
theorem dX8_clear_5 : decode cX8_clear 5 = .ok (.aload_n 0, 1) := by decide +kernel
theorem dX8_clear_6 : decode cX8_clear 6 = .ok (.iconst 0, 1) := by decide +kernel
theorem dX8_clear_7 : decode cX8_clear 7 = .ok (.putfield 23, 3) := by decide +kernel
theorem dX8_clear_10 : decode cX8_clear 10 = .ok (.iload_n 1, 1) := by decide +kernel
theorem dX8_clear_11 : decode cX8_clear 11 = .ok (.ireturn, 1) := by decide +kernel
theorem dX8_firstFault_0 : decode cX8_firstFault 0 = .ok (.iconst 0, 1) := by decide +kernel
theorem dX8_firstFault_1 : decode cX8_firstFault 1 = .ok (.istore_n 1, 1) := by decide +kernel
theorem dX8_firstFault_2 : decode cX8_firstFault 2 = .ok (.iconst 0, 1) := by decide +kernel
theorem dX8_firstFault_3 : decode cX8_firstFault 3 = .ok (.istore_n 2, 1) := by decide +kernel
theorem dX8_firstFault_4 : decode cX8_firstFault 4 = .ok (.iload_n 2, 1) := by decide +kernel
theorem dX8_firstFault_5 : decode cX8_firstFault 5 = .ok (.aload_n 0, 1) := by decide +kernel
theorem dX8_firstFault_6 : decode cX8_firstFault 6 = .ok (.getfield 23, 3) := by decide +kernel
theorem dX8_firstFault_9 : decode cX8_firstFault 9 = .ok (.if_icmp .ge 34, 3) := by decide +kernel
theorem dX8_firstFault_12 : decode cX8_firstFault 12 = .ok (.iload_n 2, 1) := by decide +kernel
theorem dX8_firstFault_13 : decode cX8_firstFault 13 = .ok (.bipush 40, 2) := by decide +kernel
theorem dX8_firstFault_15 : decode cX8_firstFault 15 = .ok (.if_icmp .ge 28, 3) := by decide +kernel
theorem dX8_firstFault_18 : decode cX8_firstFault 18 = .ok (.iload_n 1, 1) := by decide +kernel
theorem dX8_firstFault_19 : decode cX8_firstFault 19 = .ok (.aload_n 0, 1) := by decide +kernel
theorem dX8_firstFault_20 : decode cX8_firstFault 20 = .ok (.getfield 11, 3) := by decide +kernel
theorem dX8_firstFault_23 : decode cX8_firstFault 23 = .ok (.iload_n 2, 1) := by decide +kernel
theorem dX8_firstFault_24 : decode cX8_firstFault 24 = .ok (.iaload, 1) := by decide +kernel
theorem dX8_firstFault_25 : decode cX8_firstFault 25 = .ok (.invokestatic 27, 3) := by decide +kernel
theorem dX8_firstFault_28 : decode cX8_firstFault 28 = .ok (.istore_n 1, 1) := by decide +kernel
theorem dX8_firstFault_29 : decode cX8_firstFault 29 = .ok (.iload_n 1, 1) := by decide +kernel
theorem dX8_firstFault_30 : decode cX8_firstFault 30 = .ok (.bipush 6, 2) := by decide +kernel
theorem dX8_firstFault_32 : decode cX8_firstFault 32 = .ok (.if_icmp .ne 5, 3) := by decide +kernel
theorem dX8_firstFault_35 : decode cX8_firstFault 35 = .ok (.iload_n 2, 1) := by decide +kernel
theorem dX8_firstFault_36 : decode cX8_firstFault 36 = .ok (.ireturn, 1) := by decide +kernel
theorem dX8_firstFault_37 : decode cX8_firstFault 37 = .ok (.iinc 2 1, 3) := by decide +kernel
theorem dX8_firstFault_40 : decode cX8_firstFault 40 = .ok (.goto (-36), 3) := by decide +kernel
theorem dX8_firstFault_43 : decode cX8_firstFault 43 = .ok (.iload_n 1, 1) := by decide +kernel
theorem dX8_firstFault_44 : decode cX8_firstFault 44 = .ok (.iconst 4, 1) := by decide +kernel
theorem dX8_firstFault_45 : decode cX8_firstFault 45 = .ok (.if_icmp .eq 8, 3) := by decide +kernel
theorem dX8_firstFault_48 : decode cX8_firstFault 48 = .ok (.iload_n 1, 1) := by decide +kernel
theorem dX8_firstFault_49 : decode cX8_firstFault 49 = .ok (.iconst 5, 1) := by decide +kernel
theorem dX8_firstFault_50 : decode cX8_firstFault 50 = .ok (.if_icmp .ne 8, 3) := by decide +kernel
theorem dX8_firstFault_53 : decode cX8_firstFault 53 = .ok (.bipush (-6), 2) := by decide +kernel
theorem dX8_firstFault_55 : decode cX8_firstFault 55 = .ok (.goto 7, 3) := by decide +kernel
theorem dX8_firstFault_58 : decode cX8_firstFault 58 = .ok (.aload_n 0, 1) := by decide +kernel
theorem dX8_firstFault_59 : decode cX8_firstFault 59 = .ok (.getfield 23, 3) := by decide +kernel
theorem dX8_firstFault_62 : decode cX8_firstFault 62 = .ok (.ireturn, 1) := by decide +kernel
theorem dX8_behind_0 : decode cX8_behind 0 = .ok (.iload_n 0, 1) := by decide +kernel
theorem dX8_behind_1 : decode cX8_behind 1 = .ok (.tableswitch 122 0 5 #[39, 44, 62, 87, 101, 117], 39) := by decide +kernel
theorem dX8_behind_40 : decode cX8_behind 40 = .ok (.iload_n 1, 1) := by decide +kernel
theorem dX8_behind_41 : decode cX8_behind 41 = .ok (.invokestatic 31, 3) := by decide +kernel
theorem dX8_behind_44 : decode cX8_behind 44 = .ok (.ireturn, 1) := by decide +kernel
theorem dX8_behind_45 : decode cX8_behind 45 = .ok (.iload_n 1, 1) := by decide +kernel
theorem dX8_behind_46 : decode cX8_behind 46 = .ok (.bipush 48, 2) := by decide +kernel
theorem dX8_behind_48 : decode cX8_behind 48 = .ok (.bipush 53, 2) := by decide +kernel
theorem dX8_behind_50 : decode cX8_behind 50 = .ok (.invokestatic 35, 3) := by decide +kernel
theorem dX8_behind_53 : decode cX8_behind 53 = .ok (.ifCond .eq 7, 3) := by decide +kernel
theorem dX8_behind_56 : decode cX8_behind 56 = .ok (.iconst 2, 1) := by decide +kernel
theorem dX8_behind_57 : decode cX8_behind 57 = .ok (.goto 5, 3) := by decide +kernel
theorem dX8_behind_60 : decode cX8_behind 60 = .ok (.bipush 6, 2) := by decide +kernel
theorem dX8_behind_62 : decode cX8_behind 62 = .ok (.ireturn, 1) := by decide +kernel
theorem dX8_behind_63 : decode cX8_behind 63 = .ok (.iload_n 1, 1) := by decide +kernel
theorem dX8_behind_64 : decode cX8_behind 64 = .ok (.bipush 60, 2) := by decide +kernel
theorem dX8_behind_66 : decode cX8_behind 66 = .ok (.if_icmp .eq 15, 3) := by decide +kernel
theorem dX8_behind_69 : decode cX8_behind 69 = .ok (.iload_n 1, 1) := by decide +kernel
theorem dX8_behind_70 : decode cX8_behind 70 = .ok (.bipush 62, 2) := by decide +kernel
theorem dX8_behind_72 : decode cX8_behind 72 = .ok (.if_icmp .eq 9, 3) := by decide +kernel
theorem dX8_behind_75 : decode cX8_behind 75 = .ok (.iload_n 1, 1) := by decide +kernel
theorem dX8_behind_76 : decode cX8_behind 76 = .ok (.bipush 61, 2) := by decide +kernel
theorem dX8_behind_78 : decode cX8_behind 78 = .ok (.if_icmp .ne 7, 3) := by decide +kernel
theorem dX8_behind_81 : decode cX8_behind 81 = .ok (.iconst 3, 1) := by decide +kernel
theorem dX8_behind_82 : decode cX8_behind 82 = .ok (.goto 5, 3) := by decide +kernel
theorem dX8_behind_85 : decode cX8_behind 85 = .ok (.bipush 6, 2) := by decide +kernel
theorem dX8_behind_87 : decode cX8_behind 87 = .ok (.ireturn, 1) := by decide +kernel
theorem dX8_behind_88 : decode cX8_behind 88 = .ok (.iload_n 1, 1) := by decide +kernel
theorem dX8_behind_89 : decode cX8_behind 89 = .ok (.invokestatic 39, 3) := by decide +kernel
theorem dX8_behind_92 : decode cX8_behind 92 = .ok (.ifCond .eq 7, 3) := by decide +kernel
theorem dX8_behind_95 : decode cX8_behind 95 = .ok (.iconst 4, 1) := by decide +kernel
theorem dX8_behind_96 : decode cX8_behind 96 = .ok (.goto 5, 3) := by decide +kernel
theorem dX8_behind_99 : decode cX8_behind 99 = .ok (.bipush 6, 2) := by decide +kernel
theorem dX8_behind_101 : decode cX8_behind 101 = .ok (.ireturn, 1) := by decide +kernel
theorem dX8_behind_102 : decode cX8_behind 102 = .ok (.iload_n 1, 1) := by decide +kernel
theorem dX8_behind_103 : decode cX8_behind 103 = .ok (.invokestatic 39, 3) := by decide +kernel
theorem dX8_behind_106 : decode cX8_behind 106 = .ok (.ifCond .eq 7, 3) := by decide +kernel
theorem dX8_behind_109 : decode cX8_behind 109 = .ok (.iconst 5, 1) := by decide +kernel
theorem dX8_behind_110 : decode cX8_behind 110 = .ok (.goto 7, 3) := by decide +kernel
theorem dX8_behind_113 : decode cX8_behind 113 = .ok (.iload_n 1, 1) := by decide +kernel
theorem dX8_behind_114 : decode cX8_behind 114 = .ok (.invokestatic 43, 3) := by decide +kernel
theorem dX8_behind_117 : decode cX8_behind 117 = .ok (.ireturn, 1) := by decide +kernel
theorem dX8_behind_118 : decode cX8_behind 118 = .ok (.iload_n 1, 1) := by decide +kernel
theorem dX8_behind_119 : decode cX8_behind 119 = .ok (.invokestatic 43, 3) := by decide +kernel
theorem dX8_behind_122 : decode cX8_behind 122 = .ok (.ireturn, 1) := by decide +kernel
theorem dX8_behind_123 : decode cX8_behind 123 = .ok (.bipush 6, 2) := by decide +kernel
theorem dX8_behind_125 : decode cX8_behind 125 = .ok (.ireturn, 1) := by decide +kernel
theorem dX8_behindFact_0 : decode cX8_behindFact 0 = .ok (.iload_n 0, 1) := by decide +kernel
theorem dX8_behindFact_1 : decode cX8_behindFact 1 = .ok (.bipush 110, 2) := by decide +kernel
theorem dX8_behindFact_3 : decode cX8_behindFact 3 = .ok (.if_icmp .ne 5, 3) := by decide +kernel
theorem dX8_behindFact_6 : decode cX8_behindFact 6 = .ok (.iconst 1, 1) := by decide +kernel
theorem dX8_behindFact_7 : decode cX8_behindFact 7 = .ok (.ireturn, 1) := by decide +kernel
theorem dX8_behindFact_8 : decode cX8_behindFact 8 = .ok (.iload_n 0, 1) := by decide +kernel
theorem dX8_behindFact_9 : decode cX8_behindFact 9 = .ok (.bipush 115, 2) := by decide +kernel
theorem dX8_behindFact_11 : decode cX8_behindFact 11 = .ok (.if_icmp .eq 15, 3) := by decide +kernel
theorem dX8_behindFact_14 : decode cX8_behindFact 14 = .ok (.iload_n 0, 1) := by decide +kernel
theorem dX8_behindFact_15 : decode cX8_behindFact 15 = .ok (.bipush 107, 2) := by decide +kernel
theorem dX8_behindFact_17 : decode cX8_behindFact 17 = .ok (.if_icmp .eq 9, 3) := by decide +kernel
theorem dX8_behindFact_20 : decode cX8_behindFact 20 = .ok (.iload_n 0, 1) := by decide +kernel
theorem dX8_behindFact_21 : decode cX8_behindFact 21 = .ok (.bipush 104, 2) := by decide +kernel
theorem dX8_behindFact_23 : decode cX8_behindFact 23 = .ok (.if_icmp .ne 7, 3) := by decide +kernel
theorem dX8_behindFact_26 : decode cX8_behindFact 26 = .ok (.iconst 2, 1) := by decide +kernel
theorem dX8_behindFact_27 : decode cX8_behindFact 27 = .ok (.goto 5, 3) := by decide +kernel
theorem dX8_behindFact_30 : decode cX8_behindFact 30 = .ok (.bipush 6, 2) := by decide +kernel
theorem dX8_behindFact_32 : decode cX8_behindFact 32 = .ok (.ireturn, 1) := by decide +kernel
theorem dX8_behindJoint_0 : decode cX8_behindJoint 0 = .ok (.iload_n 0, 1) := by decide +kernel
theorem dX8_behindJoint_1 : decode cX8_behindJoint 1 = .ok (.bipush 38, 2) := by decide +kernel
theorem dX8_behindJoint_3 : decode cX8_behindJoint 3 = .ok (.if_icmp .eq 9, 3) := by decide +kernel
theorem dX8_behindJoint_6 : decode cX8_behindJoint 6 = .ok (.iload_n 0, 1) := by decide +kernel
theorem dX8_behindJoint_7 : decode cX8_behindJoint 7 = .ok (.bipush 124, 2) := by decide +kernel
theorem dX8_behindJoint_9 : decode cX8_behindJoint 9 = .ok (.if_icmp .ne 7, 3) := by decide +kernel
theorem dX8_behindJoint_12 : decode cX8_behindJoint 12 = .ok (.iconst 0, 1) := by decide +kernel
theorem dX8_behindJoint_13 : decode cX8_behindJoint 13 = .ok (.goto 5, 3) := by decide +kernel
theorem dX8_behindJoint_16 : decode cX8_behindJoint 16 = .ok (.bipush 6, 2) := by decide +kernel
theorem dX8_behindJoint_18 : decode cX8_behindJoint 18 = .ok (.ireturn, 1) := by decide +kernel
theorem dX8_isDigit_0 : decode cX8_isDigit 0 = .ok (.iload_n 0, 1) := by decide +kernel
theorem dX8_isDigit_1 : decode cX8_isDigit 1 = .ok (.bipush 48, 2) := by decide +kernel
theorem dX8_isDigit_3 : decode cX8_isDigit 3 = .ok (.bipush 57, 2) := by decide +kernel
theorem dX8_isDigit_5 : decode cX8_isDigit 5 = .ok (.invokestatic 35, 3) := by decide +kernel
theorem dX8_isDigit_8 : decode cX8_isDigit 8 = .ok (.ireturn, 1) := by decide +kernel
theorem dX8_isPlace_0 : decode cX8_isPlace 0 = .ok (.iload_n 1, 1) := by decide +kernel
theorem dX8_isPlace_1 : decode cX8_isPlace 1 = .ok (.iconst 0, 1) := by decide +kernel
theorem dX8_isPlace_2 : decode cX8_isPlace 2 = .ok (.iconst 4, 1) := by decide +kernel
theorem dX8_isPlace_3 : decode cX8_isPlace 3 = .ok (.invokestatic 35, 3) := by decide +kernel
theorem dX8_isPlace_6 : decode cX8_isPlace 6 = .ok (.ireturn, 1) := by decide +kernel
theorem dX8_has_0 : decode cX8_has 0 = .ok (.aload_n 0, 1) := by decide +kernel
theorem dX8_has_1 : decode cX8_has 1 = .ok (.iload_n 1, 1) := by decide +kernel
theorem dX8_has_2 : decode cX8_has 2 = .ok (.invokevirtual 46, 3) := by decide +kernel
theorem dX8_has_5 : decode cX8_has 5 = .ok (.ifCond .eq 16, 3) := by decide +kernel
theorem dX8_has_8 : decode cX8_has 8 = .ok (.aload_n 0, 1) := by decide +kernel
theorem dX8_has_9 : decode cX8_has 9 = .ok (.getfield 20, 3) := by decide +kernel
theorem dX8_has_12 : decode cX8_has 12 = .ok (.iload_n 1, 1) := by decide +kernel
theorem dX8_has_13 : decode cX8_has 13 = .ok (.iaload, 1) := by decide +kernel
theorem dX8_has_14 : decode cX8_has 14 = .ok (.ifCond .le 7, 3) := by decide +kernel
theorem dX8_has_17 : decode cX8_has 17 = .ok (.iconst 1, 1) := by decide +kernel
theorem dX8_has_18 : decode cX8_has 18 = .ok (.goto 4, 3) := by decide +kernel
theorem dX8_has_21 : decode cX8_has 21 = .ok (.iconst 0, 1) := by decide +kernel
theorem dX8_has_22 : decode cX8_has 22 = .ok (.ireturn, 1) := by decide +kernel
theorem dX8_keep_0 : decode cX8_keep 0 = .ok (.aload_n 0, 1) := by decide +kernel
theorem dX8_keep_1 : decode cX8_keep 1 = .ok (.iload_n 1, 1) := by decide +kernel
theorem dX8_keep_2 : decode cX8_keep 2 = .ok (.invokevirtual 46, 3) := by decide +kernel
theorem dX8_keep_5 : decode cX8_keep 5 = .ok (.ifCond .ne 4, 3) := by decide +kernel
theorem dX8_keep_8 : decode cX8_keep 8 = .ok (.return_, 1) := by decide +kernel
theorem dX8_keep_9 : decode cX8_keep 9 = .ok (.iconst 0, 1) := by decide +kernel
theorem dX8_keep_10 : decode cX8_keep 10 = .ok (.istore_n 2, 1) := by decide +kernel
theorem dX8_keep_11 : decode cX8_keep 11 = .ok (.iload_n 2, 1) := by decide +kernel
theorem dX8_keep_12 : decode cX8_keep 12 = .ok (.aload_n 0, 1) := by decide +kernel
theorem dX8_keep_13 : decode cX8_keep 13 = .ok (.getfield 23, 3) := by decide +kernel
theorem dX8_keep_16 : decode cX8_keep 16 = .ok (.if_icmp .ge 29, 3) := by decide +kernel
theorem dX8_keep_19 : decode cX8_keep 19 = .ok (.iload_n 2, 1) := by decide +kernel
theorem dX8_keep_20 : decode cX8_keep 20 = .ok (.bipush 40, 2) := by decide +kernel
theorem dX8_keep_22 : decode cX8_keep 22 = .ok (.if_icmp .ge 23, 3) := by decide +kernel
theorem dX8_keep_25 : decode cX8_keep 25 = .ok (.aload_n 0, 1) := by decide +kernel
theorem dX8_keep_26 : decode cX8_keep 26 = .ok (.getfield 17, 3) := by decide +kernel
theorem dX8_keep_29 : decode cX8_keep 29 = .ok (.iload_n 1, 1) := by decide +kernel
theorem dX8_keep_30 : decode cX8_keep 30 = .ok (.aaload, 1) := by decide +kernel
theorem dX8_keep_31 : decode cX8_keep 31 = .ok (.iload_n 2, 1) := by decide +kernel
theorem dX8_keep_32 : decode cX8_keep 32 = .ok (.aload_n 0, 1) := by decide +kernel
theorem dX8_keep_33 : decode cX8_keep 33 = .ok (.getfield 11, 3) := by decide +kernel
theorem dX8_keep_36 : decode cX8_keep 36 = .ok (.iload_n 2, 1) := by decide +kernel
theorem dX8_keep_37 : decode cX8_keep 37 = .ok (.iaload, 1) := by decide +kernel
theorem dX8_keep_38 : decode cX8_keep 38 = .ok (.iastore, 1) := by decide +kernel
theorem dX8_keep_39 : decode cX8_keep 39 = .ok (.iinc 2 1, 3) := by decide +kernel
theorem dX8_keep_42 : decode cX8_keep 42 = .ok (.goto (-31), 3) := by decide +kernel
theorem dX8_keep_45 : decode cX8_keep 45 = .ok (.aload_n 0, 1) := by decide +kernel
theorem dX8_keep_46 : decode cX8_keep 46 = .ok (.getfield 20, 3) := by decide +kernel
theorem dX8_keep_49 : decode cX8_keep 49 = .ok (.iload_n 1, 1) := by decide +kernel
theorem dX8_keep_50 : decode cX8_keep 50 = .ok (.aload_n 0, 1) := by decide +kernel
theorem dX8_keep_51 : decode cX8_keep 51 = .ok (.getfield 23, 3) := by decide +kernel
theorem dX8_keep_54 : decode cX8_keep 54 = .ok (.iastore, 1) := by decide +kernel
theorem dX8_keep_55 : decode cX8_keep 55 = .ok (.aload_n 0, 1) := by decide +kernel
theorem dX8_keep_56 : decode cX8_keep 56 = .ok (.iconst 0, 1) := by decide +kernel
theorem dX8_keep_57 : decode cX8_keep 57 = .ok (.putfield 23, 3) := by decide +kernel
theorem dX8_keep_60 : decode cX8_keep 60 = .ok (.return_, 1) := by decide +kernel
theorem dX8_bits_0 : decode cX8_bits 0 = .ok (.iconst 0, 1) := by decide +kernel
theorem dX8_bits_1 : decode cX8_bits 1 = .ok (.istore_n 1, 1) := by decide +kernel
theorem dX8_bits_2 : decode cX8_bits 2 = .ok (.iconst 0, 1) := by decide +kernel
theorem dX8_bits_3 : decode cX8_bits 3 = .ok (.istore_n 2, 1) := by decide +kernel
theorem dX8_bits_4 : decode cX8_bits 4 = .ok (.iload_n 2, 1) := by decide +kernel
theorem dX8_bits_5 : decode cX8_bits 5 = .ok (.iconst 5, 1) := by decide +kernel
theorem dX8_bits_6 : decode cX8_bits 6 = .ok (.if_icmp .ge 23, 3) := by decide +kernel
theorem dX8_bits_9 : decode cX8_bits 9 = .ok (.aload_n 0, 1) := by decide +kernel
theorem dX8_bits_10 : decode cX8_bits 10 = .ok (.iload_n 2, 1) := by decide +kernel
theorem dX8_bits_11 : decode cX8_bits 11 = .ok (.invokevirtual 49, 3) := by decide +kernel
theorem dX8_bits_14 : decode cX8_bits 14 = .ok (.ifCond .eq 9, 3) := by decide +kernel
theorem dX8_bits_17 : decode cX8_bits 17 = .ok (.iload_n 1, 1) := by decide +kernel
theorem dX8_bits_18 : decode cX8_bits 18 = .ok (.iconst 1, 1) := by decide +kernel
theorem dX8_bits_19 : decode cX8_bits 19 = .ok (.iload_n 2, 1) := by decide +kernel
theorem dX8_bits_20 : decode cX8_bits 20 = .ok (.ishl, 1) := by decide +kernel
theorem dX8_bits_21 : decode cX8_bits 21 = .ok (.ior, 1) := by decide +kernel
theorem dX8_bits_22 : decode cX8_bits 22 = .ok (.istore_n 1, 1) := by decide +kernel
theorem dX8_bits_23 : decode cX8_bits 23 = .ok (.iinc 2 1, 3) := by decide +kernel
theorem dX8_bits_26 : decode cX8_bits 26 = .ok (.goto (-22), 3) := by decide +kernel
theorem dX8_bits_29 : decode cX8_bits 29 = .ok (.iload_n 1, 1) := by decide +kernel
theorem dX8_bits_30 : decode cX8_bits 30 = .ok (.ireturn, 1) := by decide +kernel
theorem dX8_judge_0 : decode cX8_judge 0 = .ok (.aload_n 0, 1) := by decide +kernel
theorem dX8_judge_1 : decode cX8_judge 1 = .ok (.iload_n 1, 1) := by decide +kernel
theorem dX8_judge_2 : decode cX8_judge 2 = .ok (.invokevirtual 49, 3) := by decide +kernel
theorem dX8_judge_5 : decode cX8_judge 5 = .ok (.ifCond .ne 5, 3) := by decide +kernel
theorem dX8_judge_8 : decode cX8_judge 8 = .ok (.iconst 0, 1) := by decide +kernel
theorem dX8_judge_9 : decode cX8_judge 9 = .ok (.ireturn, 1) := by decide +kernel
theorem dX8_judge_10 : decode cX8_judge 10 = .ok (.iconst 0, 1) := by decide +kernel
theorem dX8_judge_11 : decode cX8_judge 11 = .ok (.istore_n 3, 1) := by decide +kernel
theorem dX8_judge_12 : decode cX8_judge 12 = .ok (.iconst 2, 1) := by decide +kernel
theorem dX8_judge_13 : decode cX8_judge 13 = .ok (.istore 4, 2) := by decide +kernel
theorem dX8_judge_15 : decode cX8_judge 15 = .ok (.iconst 0, 1) := by decide +kernel
theorem dX8_judge_16 : decode cX8_judge 16 = .ok (.istore 5, 2) := by decide +kernel
theorem dX8_judge_18 : decode cX8_judge 18 = .ok (.iconst 0, 1) := by decide +kernel
theorem dX8_judge_19 : decode cX8_judge 19 = .ok (.istore 6, 2) := by decide +kernel
theorem dX8_judge_21 : decode cX8_judge 21 = .ok (.iconst 0, 1) := by decide +kernel
theorem dX8_judge_22 : decode cX8_judge 22 = .ok (.istore 7, 2) := by decide +kernel
theorem dX8_judge_24 : decode cX8_judge 24 = .ok (.iconst 0, 1) := by decide +kernel
theorem dX8_judge_25 : decode cX8_judge 25 = .ok (.istore 8, 2) := by decide +kernel
theorem dX8_judge_27 : decode cX8_judge 27 = .ok (.iload 8, 2) := by decide +kernel
theorem dX8_judge_29 : decode cX8_judge 29 = .ok (.aload_n 0, 1) := by decide +kernel
theorem dX8_judge_30 : decode cX8_judge 30 = .ok (.getfield 20, 3) := by decide +kernel
theorem dX8_judge_33 : decode cX8_judge 33 = .ok (.iload_n 1, 1) := by decide +kernel
theorem dX8_judge_34 : decode cX8_judge 34 = .ok (.iaload, 1) := by decide +kernel
theorem dX8_judge_35 : decode cX8_judge 35 = .ok (.if_icmp .gt 172, 3) := by decide +kernel
theorem dX8_judge_38 : decode cX8_judge 38 = .ok (.aload_n 0, 1) := by decide +kernel
theorem dX8_judge_39 : decode cX8_judge 39 = .ok (.iload_n 1, 1) := by decide +kernel
theorem dX8_judge_40 : decode cX8_judge 40 = .ok (.iload 8, 2) := by decide +kernel
theorem dX8_judge_42 : decode cX8_judge 42 = .ok (.invokevirtual 52, 3) := by decide +kernel
theorem dX8_judge_45 : decode cX8_judge 45 = .ok (.istore 9, 2) := by decide +kernel
theorem dX8_judge_47 : decode cX8_judge 47 = .ok (.iload 9, 2) := by decide +kernel
theorem dX8_judge_49 : decode cX8_judge 49 = .ok (.bipush 38, 2) := by decide +kernel
theorem dX8_judge_51 : decode cX8_judge 51 = .ok (.if_icmp .eq 10, 3) := by decide +kernel
theorem dX8_judge_54 : decode cX8_judge 54 = .ok (.iload 9, 2) := by decide +kernel
theorem dX8_judge_56 : decode cX8_judge 56 = .ok (.bipush 124, 2) := by decide +kernel
theorem dX8_judge_58 : decode cX8_judge 58 = .ok (.if_icmp .ne 49, 3) := by decide +kernel
theorem dX8_judge_61 : decode cX8_judge 61 = .ok (.iload 4, 2) := by decide +kernel
theorem dX8_judge_63 : decode cX8_judge 63 = .ok (.aload_n 2, 1) := by decide +kernel
theorem dX8_judge_64 : decode cX8_judge 64 = .ok (.iload 5, 2) := by decide +kernel
theorem dX8_judge_66 : decode cX8_judge 66 = .ok (.invokevirtual 55, 3) := by decide +kernel
theorem dX8_judge_69 : decode cX8_judge 69 = .ok (.iload 6, 2) := by decide +kernel
theorem dX8_judge_71 : decode cX8_judge 71 = .ok (.iload 7, 2) := by decide +kernel
theorem dX8_judge_73 : decode cX8_judge 73 = .ok (.invokestatic 60, 3) := by decide +kernel
theorem dX8_judge_76 : decode cX8_judge 76 = .ok (.invokestatic 64, 3) := by decide +kernel
theorem dX8_judge_79 : decode cX8_judge 79 = .ok (.istore 4, 2) := by decide +kernel
theorem dX8_judge_81 : decode cX8_judge 81 = .ok (.iconst 0, 1) := by decide +kernel
theorem dX8_judge_82 : decode cX8_judge 82 = .ok (.istore 6, 2) := by decide +kernel
theorem dX8_judge_84 : decode cX8_judge 84 = .ok (.iconst 0, 1) := by decide +kernel
theorem dX8_judge_85 : decode cX8_judge 85 = .ok (.istore 7, 2) := by decide +kernel
theorem dX8_judge_87 : decode cX8_judge 87 = .ok (.iload 9, 2) := by decide +kernel
theorem dX8_judge_89 : decode cX8_judge 89 = .ok (.bipush 124, 2) := by decide +kernel
theorem dX8_judge_91 : decode cX8_judge 91 = .ok (.if_icmp .ne 110, 3) := by decide +kernel
theorem dX8_judge_94 : decode cX8_judge 94 = .ok (.iload_n 3, 1) := by decide +kernel
theorem dX8_judge_95 : decode cX8_judge 95 = .ok (.iload 4, 2) := by decide +kernel
theorem dX8_judge_97 : decode cX8_judge 97 = .ok (.invokestatic 69, 3) := by decide +kernel
theorem dX8_judge_100 : decode cX8_judge 100 = .ok (.istore_n 3, 1) := by decide +kernel
theorem dX8_judge_101 : decode cX8_judge 101 = .ok (.iconst 2, 1) := by decide +kernel
theorem dX8_judge_102 : decode cX8_judge 102 = .ok (.istore 4, 2) := by decide +kernel
theorem dX8_judge_104 : decode cX8_judge 104 = .ok (.goto 97, 3) := by decide +kernel
theorem dX8_judge_107 : decode cX8_judge 107 = .ok (.iload 9, 2) := by decide +kernel
theorem dX8_judge_109 : decode cX8_judge 109 = .ok (.invokestatic 39, 3) := by decide +kernel
theorem dX8_judge_112 : decode cX8_judge 112 = .ok (.ifCond .eq 36, 3) := by decide +kernel
theorem dX8_judge_115 : decode cX8_judge 115 = .ok (.iload 6, 2) := by decide +kernel
theorem dX8_judge_117 : decode cX8_judge 117 = .ok (.ifCond .ne 15, 3) := by decide +kernel
theorem dX8_judge_120 : decode cX8_judge 120 = .ok (.iconst 3, 1) := by decide +kernel
theorem dX8_judge_121 : decode cX8_judge 121 = .ok (.iload 9, 2) := by decide +kernel
theorem dX8_judge_123 : decode cX8_judge 123 = .ok (.iadd, 1) := by decide +kernel
theorem dX8_judge_124 : decode cX8_judge 124 = .ok (.bipush 48, 2) := by decide +kernel
theorem dX8_judge_126 : decode cX8_judge 126 = .ok (.isub, 1) := by decide +kernel
theorem dX8_judge_127 : decode cX8_judge 127 = .ok (.istore 5, 2) := by decide +kernel
theorem dX8_judge_129 : decode cX8_judge 129 = .ok (.goto 72, 3) := by decide +kernel
theorem dX8_judge_132 : decode cX8_judge 132 = .ok (.bipush 10, 2) := by decide +kernel
theorem dX8_judge_134 : decode cX8_judge 134 = .ok (.iload 7, 2) := by decide +kernel
theorem dX8_judge_136 : decode cX8_judge 136 = .ok (.imul, 1) := by decide +kernel
theorem dX8_judge_137 : decode cX8_judge 137 = .ok (.iload 9, 2) := by decide +kernel
theorem dX8_judge_139 : decode cX8_judge 139 = .ok (.iadd, 1) := by decide +kernel
theorem dX8_judge_140 : decode cX8_judge 140 = .ok (.bipush 48, 2) := by decide +kernel
theorem dX8_judge_142 : decode cX8_judge 142 = .ok (.isub, 1) := by decide +kernel
theorem dX8_judge_143 : decode cX8_judge 143 = .ok (.istore 7, 2) := by decide +kernel
theorem dX8_judge_145 : decode cX8_judge 145 = .ok (.goto 56, 3) := by decide +kernel
theorem dX8_judge_148 : decode cX8_judge 148 = .ok (.iload 9, 2) := by decide +kernel
theorem dX8_judge_150 : decode cX8_judge 150 = .ok (.bipush 60, 2) := by decide +kernel
theorem dX8_judge_152 : decode cX8_judge 152 = .ok (.if_icmp .eq 17, 3) := by decide +kernel
theorem dX8_judge_155 : decode cX8_judge 155 = .ok (.iload 9, 2) := by decide +kernel
theorem dX8_judge_157 : decode cX8_judge 157 = .ok (.bipush 62, 2) := by decide +kernel
theorem dX8_judge_159 : decode cX8_judge 159 = .ok (.if_icmp .eq 10, 3) := by decide +kernel
theorem dX8_judge_162 : decode cX8_judge 162 = .ok (.iload 9, 2) := by decide +kernel
theorem dX8_judge_164 : decode cX8_judge 164 = .ok (.bipush 61, 2) := by decide +kernel
theorem dX8_judge_166 : decode cX8_judge 166 = .ok (.if_icmp .ne 10, 3) := by decide +kernel
theorem dX8_judge_169 : decode cX8_judge 169 = .ok (.iload 9, 2) := by decide +kernel
theorem dX8_judge_171 : decode cX8_judge 171 = .ok (.istore 6, 2) := by decide +kernel
theorem dX8_judge_173 : decode cX8_judge 173 = .ok (.goto 28, 3) := by decide +kernel
theorem dX8_judge_176 : decode cX8_judge 176 = .ok (.iload 9, 2) := by decide +kernel
theorem dX8_judge_178 : decode cX8_judge 178 = .ok (.bipush 115, 2) := by decide +kernel
theorem dX8_judge_180 : decode cX8_judge 180 = .ok (.if_icmp .ne 7, 3) := by decide +kernel
theorem dX8_judge_183 : decode cX8_judge 183 = .ok (.iconst 0, 1) := by decide +kernel
theorem dX8_judge_184 : decode cX8_judge 184 = .ok (.goto 15, 3) := by decide +kernel
theorem dX8_judge_187 : decode cX8_judge 187 = .ok (.iload 9, 2) := by decide +kernel
theorem dX8_judge_189 : decode cX8_judge 189 = .ok (.bipush 107, 2) := by decide +kernel
theorem dX8_judge_191 : decode cX8_judge 191 = .ok (.if_icmp .ne 7, 3) := by decide +kernel
theorem dX8_judge_194 : decode cX8_judge 194 = .ok (.iconst 1, 1) := by decide +kernel
theorem dX8_judge_195 : decode cX8_judge 195 = .ok (.goto 4, 3) := by decide +kernel
theorem dX8_judge_198 : decode cX8_judge 198 = .ok (.iconst 2, 1) := by decide +kernel
theorem dX8_judge_199 : decode cX8_judge 199 = .ok (.istore 5, 2) := by decide +kernel
theorem dX8_judge_201 : decode cX8_judge 201 = .ok (.iinc 8 1, 3) := by decide +kernel
theorem dX8_judge_204 : decode cX8_judge 204 = .ok (.goto (-177), 3) := by decide +kernel
theorem dX8_judge_207 : decode cX8_judge 207 = .ok (.iload_n 3, 1) := by decide +kernel
theorem dX8_judge_208 : decode cX8_judge 208 = .ok (.ireturn, 1) := by decide +kernel
theorem dX8_signOf_0 : decode cX8_signOf 0 = .ok (.aload_n 0, 1) := by decide +kernel
theorem dX8_signOf_1 : decode cX8_signOf 1 = .ok (.iload_n 1, 1) := by decide +kernel
theorem dX8_signOf_2 : decode cX8_signOf 2 = .ok (.invokevirtual 46, 3) := by decide +kernel
theorem dX8_signOf_5 : decode cX8_signOf 5 = .ok (.ifCond .eq 23, 3) := by decide +kernel
theorem dX8_signOf_8 : decode cX8_signOf 8 = .ok (.iload_n 2, 1) := by decide +kernel
theorem dX8_signOf_9 : decode cX8_signOf 9 = .ok (.ifCond .lt 19, 3) := by decide +kernel
theorem dX8_signOf_12 : decode cX8_signOf 12 = .ok (.iload_n 2, 1) := by decide +kernel
theorem dX8_signOf_13 : decode cX8_signOf 13 = .ok (.aload_n 0, 1) := by decide +kernel
theorem dX8_signOf_14 : decode cX8_signOf 14 = .ok (.getfield 20, 3) := by decide +kernel
theorem dX8_signOf_17 : decode cX8_signOf 17 = .ok (.iload_n 1, 1) := by decide +kernel
theorem dX8_signOf_18 : decode cX8_signOf 18 = .ok (.iaload, 1) := by decide +kernel
theorem dX8_signOf_19 : decode cX8_signOf 19 = .ok (.if_icmp .ge 9, 3) := by decide +kernel
theorem dX8_signOf_22 : decode cX8_signOf 22 = .ok (.iload_n 2, 1) := by decide +kernel
theorem dX8_signOf_23 : decode cX8_signOf 23 = .ok (.bipush 40, 2) := by decide +kernel
theorem dX8_signOf_25 : decode cX8_signOf 25 = .ok (.if_icmp .lt 6, 3) := by decide +kernel
theorem dX8_signOf_28 : decode cX8_signOf 28 = .ok (.bipush 124, 2) := by decide +kernel
theorem dX8_signOf_30 : decode cX8_signOf 30 = .ok (.ireturn, 1) := by decide +kernel
theorem dX8_signOf_31 : decode cX8_signOf 31 = .ok (.aload_n 0, 1) := by decide +kernel
theorem dX8_signOf_32 : decode cX8_signOf 32 = .ok (.getfield 17, 3) := by decide +kernel
theorem dX8_signOf_35 : decode cX8_signOf 35 = .ok (.iload_n 1, 1) := by decide +kernel
theorem dX8_signOf_36 : decode cX8_signOf 36 = .ok (.aaload, 1) := by decide +kernel
theorem dX8_signOf_37 : decode cX8_signOf 37 = .ok (.iload_n 2, 1) := by decide +kernel
theorem dX8_signOf_38 : decode cX8_signOf 38 = .ok (.iaload, 1) := by decide +kernel
theorem dX8_signOf_39 : decode cX8_signOf 39 = .ok (.ireturn, 1) := by decide +kernel
theorem dX8_test_0 : decode cX8_test 0 = .ok (.iload_n 0, 1) := by decide +kernel
theorem dX8_test_1 : decode cX8_test 1 = .ok (.bipush (-6), 2) := by decide +kernel
theorem dX8_test_3 : decode cX8_test 3 = .ok (.if_icmp .ne 5, 3) := by decide +kernel
theorem dX8_test_6 : decode cX8_test 6 = .ok (.iconst 1, 1) := by decide +kernel
theorem dX8_test_7 : decode cX8_test 7 = .ok (.ireturn, 1) := by decide +kernel
theorem dX8_test_8 : decode cX8_test 8 = .ok (.iload_n 1, 1) := by decide +kernel
theorem dX8_test_9 : decode cX8_test 9 = .ok (.bipush 60, 2) := by decide +kernel
theorem dX8_test_11 : decode cX8_test 11 = .ok (.if_icmp .ne 14, 3) := by decide +kernel
theorem dX8_test_14 : decode cX8_test 14 = .ok (.iload_n 0, 1) := by decide +kernel
theorem dX8_test_15 : decode cX8_test 15 = .ok (.iload_n 2, 1) := by decide +kernel
theorem dX8_test_16 : decode cX8_test 16 = .ok (.if_icmp .ge 7, 3) := by decide +kernel
theorem dX8_test_19 : decode cX8_test 19 = .ok (.iconst 2, 1) := by decide +kernel
theorem dX8_test_20 : decode cX8_test 20 = .ok (.goto 4, 3) := by decide +kernel
theorem dX8_test_23 : decode cX8_test 23 = .ok (.iconst 0, 1) := by decide +kernel
theorem dX8_test_24 : decode cX8_test 24 = .ok (.ireturn, 1) := by decide +kernel
theorem dX8_test_25 : decode cX8_test 25 = .ok (.iload_n 1, 1) := by decide +kernel
theorem dX8_test_26 : decode cX8_test 26 = .ok (.bipush 62, 2) := by decide +kernel
theorem dX8_test_28 : decode cX8_test 28 = .ok (.if_icmp .ne 14, 3) := by decide +kernel
theorem dX8_test_31 : decode cX8_test 31 = .ok (.iload_n 0, 1) := by decide +kernel
theorem dX8_test_32 : decode cX8_test 32 = .ok (.iload_n 2, 1) := by decide +kernel
theorem dX8_test_33 : decode cX8_test 33 = .ok (.if_icmp .le 7, 3) := by decide +kernel
theorem dX8_test_36 : decode cX8_test 36 = .ok (.iconst 2, 1) := by decide +kernel
theorem dX8_test_37 : decode cX8_test 37 = .ok (.goto 4, 3) := by decide +kernel
theorem dX8_test_40 : decode cX8_test 40 = .ok (.iconst 0, 1) := by decide +kernel
theorem dX8_test_41 : decode cX8_test 41 = .ok (.ireturn, 1) := by decide +kernel
theorem dX8_test_42 : decode cX8_test 42 = .ok (.iload_n 0, 1) := by decide +kernel
theorem dX8_test_43 : decode cX8_test 43 = .ok (.iload_n 2, 1) := by decide +kernel
theorem dX8_test_44 : decode cX8_test 44 = .ok (.if_icmp .ne 7, 3) := by decide +kernel
theorem dX8_test_47 : decode cX8_test 47 = .ok (.iconst 2, 1) := by decide +kernel
theorem dX8_test_48 : decode cX8_test 48 = .ok (.goto 4, 3) := by decide +kernel
theorem dX8_test_51 : decode cX8_test 51 = .ok (.iconst 0, 1) := by decide +kernel
theorem dX8_test_52 : decode cX8_test 52 = .ok (.ireturn, 1) := by decide +kernel
theorem dX9_init_0 : decode cX9_init 0 = .ok (.aload_n 0, 1) := by decide +kernel
theorem dX9_init_1 : decode cX9_init 1 = .ok (.invokespecial 1, 3) := by decide +kernel
theorem dX9_init_4 : decode cX9_init 4 = .ok (.aload_n 0, 1) := by decide +kernel
theorem dX9_init_5 : decode cX9_init 5 = .ok (.new 7, 3) := by decide +kernel
theorem dX9_init_8 : decode cX9_init 8 = .ok (.dup, 1) := by decide +kernel
theorem dX9_init_9 : decode cX9_init 9 = .ok (.invokespecial 9, 3) := by decide +kernel
theorem dX9_init_12 : decode cX9_init 12 = .ok (.putfield 10, 3) := by decide +kernel
theorem dX9_init_15 : decode cX9_init 15 = .ok (.aload_n 0, 1) := by decide +kernel
theorem dX9_init_16 : decode cX9_init 16 = .ok (.new 16, 3) := by decide +kernel
theorem dX9_init_19 : decode cX9_init 19 = .ok (.dup, 1) := by decide +kernel
theorem dX9_init_20 : decode cX9_init 20 = .ok (.invokespecial 18, 3) := by decide +kernel
theorem dX9_init_23 : decode cX9_init 23 = .ok (.putfield 19, 3) := by decide +kernel
theorem dX9_init_26 : decode cX9_init 26 = .ok (.aload_n 0, 1) := by decide +kernel
theorem dX9_init_27 : decode cX9_init 27 = .ok (.new 23, 3) := by decide +kernel
theorem dX9_init_30 : decode cX9_init 30 = .ok (.dup, 1) := by decide +kernel
theorem dX9_init_31 : decode cX9_init 31 = .ok (.invokespecial 25, 3) := by decide +kernel
theorem dX9_init_34 : decode cX9_init 34 = .ok (.putfield 26, 3) := by decide +kernel
theorem dX9_init_37 : decode cX9_init 37 = .ok (.aload_n 0, 1) := by decide +kernel
theorem dX9_init_38 : decode cX9_init 38 = .ok (.new 30, 3) := by decide +kernel
theorem dX9_init_41 : decode cX9_init 41 = .ok (.dup, 1) := by decide +kernel
theorem dX9_init_42 : decode cX9_init 42 = .ok (.invokespecial 32, 3) := by decide +kernel
theorem dX9_init_45 : decode cX9_init 45 = .ok (.putfield 33, 3) := by decide +kernel
theorem dX9_init_48 : decode cX9_init 48 = .ok (.aload_n 0, 1) := by decide +kernel
theorem dX9_init_49 : decode cX9_init 49 = .ok (.new 37, 3) := by decide +kernel
theorem dX9_init_52 : decode cX9_init 52 = .ok (.dup, 1) := by decide +kernel
theorem dX9_init_53 : decode cX9_init 53 = .ok (.invokespecial 39, 3) := by decide +kernel
theorem dX9_init_56 : decode cX9_init 56 = .ok (.putfield 40, 3) := by decide +kernel
theorem dX9_init_59 : decode cX9_init 59 = .ok (.aload_n 0, 1) := by decide +kernel
theorem dX9_init_60 : decode cX9_init 60 = .ok (.new 44, 3) := by decide +kernel
theorem dX9_init_63 : decode cX9_init 63 = .ok (.dup, 1) := by decide +kernel
theorem dX9_init_64 : decode cX9_init 64 = .ok (.invokespecial 46, 3) := by decide +kernel
theorem dX9_init_67 : decode cX9_init 67 = .ok (.putfield 47, 3) := by decide +kernel
theorem dX9_init_70 : decode cX9_init 70 = .ok (.return_, 1) := by decide +kernel
theorem dX9_thing_0 : decode cX9_thing 0 = .ok (.iload_n 1, 1) := by decide +kernel
theorem dX9_thing_1 : decode cX9_thing 1 = .ok (.iload_n 2, 1) := by decide +kernel
theorem dX9_thing_2 : decode cX9_thing 2 = .ok (.invokestatic 51, 3) := by decide +kernel
theorem dX9_thing_5 : decode cX9_thing 5 = .ok (.ifCond .eq 22, 3) := by decide +kernel
theorem dX9_thing_8 : decode cX9_thing 8 = .ok (.iload_n 3, 1) := by decide +kernel
theorem dX9_thing_9 : decode cX9_thing 9 = .ok (.iconst 1, 1) := by decide +kernel
theorem dX9_thing_10 : decode cX9_thing 10 = .ok (.iconst 4, 1) := by decide +kernel
theorem dX9_thing_11 : decode cX9_thing 11 = .ok (.invokestatic 55, 3) := by decide +kernel
theorem dX9_thing_14 : decode cX9_thing 14 = .ok (.ifCond .eq 13, 3) := by decide +kernel
theorem dX9_thing_17 : decode cX9_thing 17 = .ok (.iload 4, 2) := by decide +kernel
theorem dX9_thing_19 : decode cX9_thing 19 = .ok (.iconst 1, 1) := by decide +kernel
theorem dX9_thing_20 : decode cX9_thing 20 = .ok (.iconst 4, 1) := by decide +kernel
theorem dX9_thing_21 : decode cX9_thing 21 = .ok (.invokestatic 55, 3) := by decide +kernel
theorem dX9_thing_24 : decode cX9_thing 24 = .ok (.ifCond .ne 6, 3) := by decide +kernel
theorem dX9_thing_27 : decode cX9_thing 27 = .ok (.bipush (-2), 2) := by decide +kernel
theorem dX9_thing_29 : decode cX9_thing 29 = .ok (.ireturn, 1) := by decide +kernel
theorem dX9_thing_30 : decode cX9_thing 30 = .ok (.iload_n 1, 1) := by decide +kernel
theorem dX9_thing_31 : decode cX9_thing 31 = .ok (.iload_n 3, 1) := by decide +kernel
theorem dX9_thing_32 : decode cX9_thing 32 = .ok (.iadd, 1) := by decide +kernel
theorem dX9_thing_33 : decode cX9_thing 33 = .ok (.iconst 1, 1) := by decide +kernel
theorem dX9_thing_34 : decode cX9_thing 34 = .ok (.isub, 1) := by decide +kernel
theorem dX9_thing_35 : decode cX9_thing 35 = .ok (.iload_n 2, 1) := by decide +kernel
theorem dX9_thing_36 : decode cX9_thing 36 = .ok (.iload 4, 2) := by decide +kernel
theorem dX9_thing_38 : decode cX9_thing 38 = .ok (.iadd, 1) := by decide +kernel
theorem dX9_thing_39 : decode cX9_thing 39 = .ok (.iconst 1, 1) := by decide +kernel
theorem dX9_thing_40 : decode cX9_thing 40 = .ok (.isub, 1) := by decide +kernel
theorem dX9_thing_41 : decode cX9_thing 41 = .ok (.invokestatic 51, 3) := by decide +kernel
theorem dX9_thing_44 : decode cX9_thing 44 = .ok (.ifCond .ne 6, 3) := by decide +kernel
theorem dX9_thing_47 : decode cX9_thing 47 = .ok (.bipush (-2), 2) := by decide +kernel
theorem dX9_thing_49 : decode cX9_thing 49 = .ok (.ireturn, 1) := by decide +kernel
theorem dX9_thing_50 : decode cX9_thing 50 = .ok (.iload 5, 2) := by decide +kernel
theorem dX9_thing_52 : decode cX9_thing 52 = .ok (.iconst 1, 1) := by decide +kernel
theorem dX9_thing_53 : decode cX9_thing 53 = .ok (.bipush 20, 2) := by decide +kernel
theorem dX9_thing_55 : decode cX9_thing 55 = .ok (.invokestatic 55, 3) := by decide +kernel
theorem dX9_thing_58 : decode cX9_thing 58 = .ok (.ifCond .eq 13, 3) := by decide +kernel
theorem dX9_thing_61 : decode cX9_thing 61 = .ok (.iload 6, 2) := by decide +kernel
theorem dX9_thing_63 : decode cX9_thing 63 = .ok (.iconst 0, 1) := by decide +kernel
theorem dX9_thing_64 : decode cX9_thing 64 = .ok (.iconst 5, 1) := by decide +kernel
theorem dX9_thing_65 : decode cX9_thing 65 = .ok (.invokestatic 55, 3) := by decide +kernel
theorem dX9_thing_68 : decode cX9_thing 68 = .ok (.ifCond .ne 6, 3) := by decide +kernel
theorem dX9_thing_71 : decode cX9_thing 71 = .ok (.bipush (-2), 2) := by decide +kernel
theorem dX9_thing_73 : decode cX9_thing 73 = .ok (.ireturn, 1) := by decide +kernel
theorem dX9_thing_74 : decode cX9_thing 74 = .ok (.iload 7, 2) := by decide +kernel
theorem dX9_thing_76 : decode cX9_thing 76 = .ok (.invokestatic 59, 3) := by decide +kernel
theorem dX9_thing_79 : decode cX9_thing 79 = .ok (.ifCond .eq 18, 3) := by decide +kernel
theorem dX9_thing_82 : decode cX9_thing 82 = .ok (.iload 8, 2) := by decide +kernel
theorem dX9_thing_84 : decode cX9_thing 84 = .ok (.invokestatic 59, 3) := by decide +kernel
theorem dX9_thing_87 : decode cX9_thing 87 = .ok (.ifCond .eq 10, 3) := by decide +kernel
theorem dX9_thing_90 : decode cX9_thing 90 = .ok (.iload 7, 2) := by decide +kernel
theorem dX9_thing_92 : decode cX9_thing 92 = .ok (.iload 8, 2) := by decide +kernel
theorem dX9_thing_94 : decode cX9_thing 94 = .ok (.if_icmp .le 6, 3) := by decide +kernel
theorem dX9_thing_97 : decode cX9_thing 97 = .ok (.bipush (-2), 2) := by decide +kernel
theorem dX9_thing_99 : decode cX9_thing 99 = .ok (.ireturn, 1) := by decide +kernel
theorem dX9_thing_100 : decode cX9_thing 100 = .ok (.aload_n 0, 1) := by decide +kernel
theorem dX9_thing_101 : decode cX9_thing 101 = .ok (.getfield 10, 3) := by decide +kernel
theorem dX9_thing_104 : decode cX9_thing 104 = .ok (.invokevirtual 63, 3) := by decide +kernel
theorem dX9_thing_107 : decode cX9_thing 107 = .ok (.ifCond .eq 6, 3) := by decide +kernel
theorem dX9_thing_110 : decode cX9_thing 110 = .ok (.bipush (-4), 2) := by decide +kernel
theorem dX9_thing_112 : decode cX9_thing 112 = .ok (.ireturn, 1) := by decide +kernel
theorem dX9_thing_113 : decode cX9_thing 113 = .ok (.bipush 11, 2) := by decide +kernel
theorem dX9_thing_115 : decode cX9_thing 115 = .ok (.newarray .int, 2) := by decide +kernel
theorem dX9_thing_117 : decode cX9_thing 117 = .ok (.dup, 1) := by decide +kernel
theorem dX9_thing_118 : decode cX9_thing 118 = .ok (.iconst 0, 1) := by decide +kernel
theorem dX9_thing_119 : decode cX9_thing 119 = .ok (.iload_n 1, 1) := by decide +kernel
theorem dX9_thing_120 : decode cX9_thing 120 = .ok (.iastore, 1) := by decide +kernel
theorem dX9_thing_121 : decode cX9_thing 121 = .ok (.dup, 1) := by decide +kernel
theorem dX9_thing_122 : decode cX9_thing 122 = .ok (.iconst 1, 1) := by decide +kernel
theorem dX9_thing_123 : decode cX9_thing 123 = .ok (.iload_n 2, 1) := by decide +kernel
theorem dX9_thing_124 : decode cX9_thing 124 = .ok (.iastore, 1) := by decide +kernel
theorem dX9_thing_125 : decode cX9_thing 125 = .ok (.dup, 1) := by decide +kernel
theorem dX9_thing_126 : decode cX9_thing 126 = .ok (.iconst 2, 1) := by decide +kernel
theorem dX9_thing_127 : decode cX9_thing 127 = .ok (.iload_n 3, 1) := by decide +kernel
theorem dX9_thing_128 : decode cX9_thing 128 = .ok (.iastore, 1) := by decide +kernel
theorem dX9_thing_129 : decode cX9_thing 129 = .ok (.dup, 1) := by decide +kernel
theorem dX9_thing_130 : decode cX9_thing 130 = .ok (.iconst 3, 1) := by decide +kernel
theorem dX9_thing_131 : decode cX9_thing 131 = .ok (.iload 4, 2) := by decide +kernel
theorem dX9_thing_133 : decode cX9_thing 133 = .ok (.iastore, 1) := by decide +kernel
theorem dX9_thing_134 : decode cX9_thing 134 = .ok (.dup, 1) := by decide +kernel
theorem dX9_thing_135 : decode cX9_thing 135 = .ok (.iconst 4, 1) := by decide +kernel
theorem dX9_thing_136 : decode cX9_thing 136 = .ok (.iload 5, 2) := by decide +kernel
theorem dX9_thing_138 : decode cX9_thing 138 = .ok (.iastore, 1) := by decide +kernel
theorem dX9_thing_139 : decode cX9_thing 139 = .ok (.dup, 1) := by decide +kernel
theorem dX9_thing_140 : decode cX9_thing 140 = .ok (.iconst 5, 1) := by decide +kernel
theorem dX9_thing_141 : decode cX9_thing 141 = .ok (.iload 6, 2) := by decide +kernel
theorem dX9_thing_143 : decode cX9_thing 143 = .ok (.iastore, 1) := by decide +kernel
theorem dX9_thing_144 : decode cX9_thing 144 = .ok (.dup, 1) := by decide +kernel
theorem dX9_thing_145 : decode cX9_thing 145 = .ok (.bipush 6, 2) := by decide +kernel
theorem dX9_thing_147 : decode cX9_thing 147 = .ok (.iload 7, 2) := by decide +kernel
theorem dX9_thing_149 : decode cX9_thing 149 = .ok (.iastore, 1) := by decide +kernel
theorem dX9_thing_150 : decode cX9_thing 150 = .ok (.dup, 1) := by decide +kernel
theorem dX9_thing_151 : decode cX9_thing 151 = .ok (.bipush 7, 2) := by decide +kernel
theorem dX9_thing_153 : decode cX9_thing 153 = .ok (.iload 8, 2) := by decide +kernel
theorem dX9_thing_155 : decode cX9_thing 155 = .ok (.iastore, 1) := by decide +kernel
theorem dX9_thing_156 : decode cX9_thing 156 = .ok (.dup, 1) := by decide +kernel
theorem dX9_thing_157 : decode cX9_thing 157 = .ok (.bipush 8, 2) := by decide +kernel
theorem dX9_thing_159 : decode cX9_thing 159 = .ok (.bipush 8, 2) := by decide +kernel
theorem dX9_thing_161 : decode cX9_thing 161 = .ok (.iastore, 1) := by decide +kernel
theorem dX9_thing_162 : decode cX9_thing 162 = .ok (.dup, 1) := by decide +kernel
theorem dX9_thing_163 : decode cX9_thing 163 = .ok (.bipush 9, 2) := by decide +kernel
theorem dX9_thing_165 : decode cX9_thing 165 = .ok (.iconst 0, 1) := by decide +kernel
theorem dX9_thing_166 : decode cX9_thing 166 = .ok (.iastore, 1) := by decide +kernel
theorem dX9_thing_167 : decode cX9_thing 167 = .ok (.dup, 1) := by decide +kernel
theorem dX9_thing_168 : decode cX9_thing 168 = .ok (.bipush 10, 2) := by decide +kernel
theorem dX9_thing_170 : decode cX9_thing 170 = .ok (.iconst 0, 1) := by decide +kernel
theorem dX9_thing_171 : decode cX9_thing 171 = .ok (.iastore, 1) := by decide +kernel
theorem dX9_thing_172 : decode cX9_thing 172 = .ok (.astore 9, 2) := by decide +kernel
theorem dX9_thing_174 : decode cX9_thing 174 = .ok (.aload_n 0, 1) := by decide +kernel
theorem dX9_thing_175 : decode cX9_thing 175 = .ok (.getfield 10, 3) := by decide +kernel
theorem dX9_thing_178 : decode cX9_thing 178 = .ok (.aload 9, 2) := by decide +kernel
theorem dX9_thing_180 : decode cX9_thing 180 = .ok (.invokevirtual 67, 3) := by decide +kernel
theorem dX9_thing_183 : decode cX9_thing 183 = .ok (.istore 10, 2) := by decide +kernel
theorem dX9_thing_185 : decode cX9_thing 185 = .ok (.aload_n 0, 1) := by decide +kernel
theorem dX9_thing_186 : decode cX9_thing 186 = .ok (.getfield 19, 3) := by decide +kernel
theorem dX9_thing_189 : decode cX9_thing 189 = .ok (.aload_n 0, 1) := by decide +kernel
theorem dX9_thing_190 : decode cX9_thing 190 = .ok (.getfield 10, 3) := by decide +kernel
theorem dX9_thing_193 : decode cX9_thing 193 = .ok (.invokevirtual 71, 3) := by decide +kernel
theorem dX9_thing_196 : decode cX9_thing 196 = .ok (.iload 10, 2) := by decide +kernel
theorem dX9_thing_198 : decode cX9_thing 198 = .ok (.ireturn, 1) := by decide +kernel
theorem dX9_of_0 : decode cX9_of 0 = .ok (.aload_n 0, 1) := by decide +kernel
theorem dX9_of_1 : decode cX9_of 1 = .ok (.getfield 10, 3) := by decide +kernel
theorem dX9_of_4 : decode cX9_of 4 = .ok (.iload_n 1, 1) := by decide +kernel
theorem dX9_of_5 : decode cX9_of 5 = .ok (.invokevirtual 75, 3) := by decide +kernel
theorem dX9_of_8 : decode cX9_of 8 = .ok (.astore_n 3, 1) := by decide +kernel
theorem dX9_of_9 : decode cX9_of 9 = .ok (.aload_n 3, 1) := by decide +kernel
theorem dX9_of_10 : decode cX9_of 10 = .ok (.ifnonnull 5, 3) := by decide +kernel
theorem dX9_of_13 : decode cX9_of 13 = .ok (.iconst (-1), 1) := by decide +kernel
theorem dX9_of_14 : decode cX9_of 14 = .ok (.ireturn, 1) := by decide +kernel
theorem dX9_of_15 : decode cX9_of 15 = .ok (.iload_n 2, 1) := by decide +kernel
theorem dX9_of_16 : decode cX9_of 16 = .ok (.iconst 0, 1) := by decide +kernel
theorem dX9_of_17 : decode cX9_of 17 = .ok (.bipush 10, 2) := by decide +kernel
theorem dX9_of_19 : decode cX9_of 19 = .ok (.invokestatic 55, 3) := by decide +kernel
theorem dX9_of_22 : decode cX9_of 22 = .ok (.ifCond .ne 6, 3) := by decide +kernel
theorem dX9_of_25 : decode cX9_of 25 = .ok (.bipush (-2), 2) := by decide +kernel
theorem dX9_of_27 : decode cX9_of 27 = .ok (.ireturn, 1) := by decide +kernel
theorem dX9_of_28 : decode cX9_of 28 = .ok (.aload_n 3, 1) := by decide +kernel
theorem dX9_of_29 : decode cX9_of 29 = .ok (.iload_n 2, 1) := by decide +kernel
theorem dX9_of_30 : decode cX9_of 30 = .ok (.invokevirtual 79, 3) := by decide +kernel
theorem dX9_of_33 : decode cX9_of 33 = .ok (.ireturn, 1) := by decide +kernel
theorem dX9_set_0 : decode cX9_set 0 = .ok (.aload_n 0, 1) := by decide +kernel
theorem dX9_set_1 : decode cX9_set 1 = .ok (.getfield 10, 3) := by decide +kernel
theorem dX9_set_4 : decode cX9_set 4 = .ok (.iload_n 1, 1) := by decide +kernel
theorem dX9_set_5 : decode cX9_set 5 = .ok (.invokevirtual 75, 3) := by decide +kernel
theorem dX9_set_8 : decode cX9_set 8 = .ok (.astore 4, 2) := by decide +kernel
theorem dX9_set_10 : decode cX9_set 10 = .ok (.aload 4, 2) := by decide +kernel
theorem dX9_set_12 : decode cX9_set 12 = .ok (.ifnonnull 5, 3) := by decide +kernel
theorem dX9_set_15 : decode cX9_set 15 = .ok (.iconst (-1), 1) := by decide +kernel
theorem dX9_set_16 : decode cX9_set 16 = .ok (.ireturn, 1) := by decide +kernel
theorem dX9_set_17 : decode cX9_set 17 = .ok (.iload_n 2, 1) := by decide +kernel
theorem dX9_set_18 : decode cX9_set 18 = .ok (.bipush 8, 2) := by decide +kernel
theorem dX9_set_20 : decode cX9_set 20 = .ok (.bipush 10, 2) := by decide +kernel
theorem dX9_set_22 : decode cX9_set 22 = .ok (.invokestatic 55, 3) := by decide +kernel
theorem dX9_set_25 : decode cX9_set 25 = .ok (.ifCond .ne 6, 3) := by decide +kernel
theorem dX9_set_28 : decode cX9_set 28 = .ok (.bipush (-2), 2) := by decide +kernel
theorem dX9_set_30 : decode cX9_set 30 = .ok (.ireturn, 1) := by decide +kernel
theorem dX9_set_31 : decode cX9_set 31 = .ok (.iload_n 3, 1) := by decide +kernel
theorem dX9_set_32 : decode cX9_set 32 = .ok (.iconst 0, 1) := by decide +kernel
theorem dX9_set_33 : decode cX9_set 33 = .ok (.iload_n 2, 1) := by decide +kernel
theorem dX9_set_34 : decode cX9_set 34 = .ok (.bipush 8, 2) := by decide +kernel
theorem dX9_set_36 : decode cX9_set 36 = .ok (.if_icmp .ne 8, 3) := by decide +kernel
theorem dX9_set_39 : decode cX9_set 39 = .ok (.bipush 8, 2) := by decide +kernel
theorem dX9_set_41 : decode cX9_set 41 = .ok (.goto 4, 3) := by decide +kernel
theorem dX9_set_44 : decode cX9_set 44 = .ok (.iconst 1, 1) := by decide +kernel
theorem dX9_set_45 : decode cX9_set 45 = .ok (.invokestatic 55, 3) := by decide +kernel
theorem dX9_set_48 : decode cX9_set 48 = .ok (.ifCond .ne 6, 3) := by decide +kernel
theorem dX9_set_51 : decode cX9_set 51 = .ok (.bipush (-2), 2) := by decide +kernel
theorem dX9_set_53 : decode cX9_set 53 = .ok (.ireturn, 1) := by decide +kernel
theorem dX9_set_54 : decode cX9_set 54 = .ok (.aload 4, 2) := by decide +kernel
theorem dX9_set_56 : decode cX9_set 56 = .ok (.iload_n 2, 1) := by decide +kernel
theorem dX9_set_57 : decode cX9_set 57 = .ok (.invokevirtual 79, 3) := by decide +kernel
theorem dX9_set_60 : decode cX9_set 60 = .ok (.istore 5, 2) := by decide +kernel
theorem dX9_set_62 : decode cX9_set 62 = .ok (.aload 4, 2) := by decide +kernel
theorem dX9_set_64 : decode cX9_set 64 = .ok (.iload_n 2, 1) := by decide +kernel
theorem dX9_set_65 : decode cX9_set 65 = .ok (.iload_n 3, 1) := by decide +kernel
theorem dX9_set_66 : decode cX9_set 66 = .ok (.invokevirtual 85, 3) := by decide +kernel
theorem dX9_set_69 : decode cX9_set 69 = .ok (.iload_n 2, 1) := by decide +kernel
theorem dX9_set_70 : decode cX9_set 70 = .ok (.bipush 9, 2) := by decide +kernel
theorem dX9_set_72 : decode cX9_set 72 = .ok (.if_icmp .ne 20, 3) := by decide +kernel
theorem dX9_set_75 : decode cX9_set 75 = .ok (.iload 5, 2) := by decide +kernel
theorem dX9_set_77 : decode cX9_set 77 = .ok (.iload_n 3, 1) := by decide +kernel
theorem dX9_set_78 : decode cX9_set 78 = .ok (.if_icmp .eq 14, 3) := by decide +kernel
theorem dX9_set_81 : decode cX9_set 81 = .ok (.aload_n 0, 1) := by decide +kernel
theorem dX9_set_82 : decode cX9_set 82 = .ok (.getfield 19, 3) := by decide +kernel
theorem dX9_set_85 : decode cX9_set 85 = .ok (.aload_n 0, 1) := by decide +kernel
theorem dX9_set_86 : decode cX9_set 86 = .ok (.getfield 10, 3) := by decide +kernel
theorem dX9_set_89 : decode cX9_set 89 = .ok (.invokevirtual 71, 3) := by decide +kernel
theorem dX9_set_92 : decode cX9_set 92 = .ok (.iload 5, 2) := by decide +kernel
theorem dX9_set_94 : decode cX9_set 94 = .ok (.ireturn, 1) := by decide +kernel
theorem dX9_at_0 : decode cX9_at 0 = .ok (.iload_n 1, 1) := by decide +kernel
theorem dX9_at_1 : decode cX9_at 1 = .ok (.invokestatic 89, 3) := by decide +kernel
theorem dX9_at_4 : decode cX9_at 4 = .ok (.ifCond .eq 10, 3) := by decide +kernel
theorem dX9_at_7 : decode cX9_at 7 = .ok (.iload_n 2, 1) := by decide +kernel
theorem dX9_at_8 : decode cX9_at 8 = .ok (.invokestatic 59, 3) := by decide +kernel
theorem dX9_at_11 : decode cX9_at 11 = .ok (.ifCond .ne 6, 3) := by decide +kernel
theorem dX9_at_14 : decode cX9_at 14 = .ok (.bipush (-2), 2) := by decide +kernel
theorem dX9_at_16 : decode cX9_at 16 = .ok (.ireturn, 1) := by decide +kernel
theorem dX9_at_17 : decode cX9_at 17 = .ok (.aload_n 0, 1) := by decide +kernel
theorem dX9_at_18 : decode cX9_at 18 = .ok (.getfield 10, 3) := by decide +kernel
theorem dX9_at_21 : decode cX9_at 21 = .ok (.iload_n 1, 1) := by decide +kernel
theorem dX9_at_22 : decode cX9_at 22 = .ok (.iload_n 2, 1) := by decide +kernel
theorem dX9_at_23 : decode cX9_at 23 = .ok (.invokevirtual 92, 3) := by decide +kernel
theorem dX9_at_26 : decode cX9_at 26 = .ok (.ireturn, 1) := by decide +kernel
theorem dX9_picture_0 : decode cX9_picture 0 = .ok (.iload_n 1, 1) := by decide +kernel
theorem dX9_picture_1 : decode cX9_picture 1 = .ok (.iload_n 2, 1) := by decide +kernel
theorem dX9_picture_2 : decode cX9_picture 2 = .ok (.invokestatic 96, 3) := by decide +kernel
theorem dX9_picture_5 : decode cX9_picture 5 = .ok (.ifCond .eq 10, 3) := by decide +kernel
theorem dX9_picture_8 : decode cX9_picture 8 = .ok (.iload_n 3, 1) := by decide +kernel
theorem dX9_picture_9 : decode cX9_picture 9 = .ok (.invokestatic 59, 3) := by decide +kernel
theorem dX9_picture_12 : decode cX9_picture 12 = .ok (.ifCond .ne 6, 3) := by decide +kernel
theorem dX9_picture_15 : decode cX9_picture 15 = .ok (.bipush (-2), 2) := by decide +kernel
theorem dX9_picture_17 : decode cX9_picture 17 = .ok (.ireturn, 1) := by decide +kernel
theorem dX9_picture_18 : decode cX9_picture 18 = .ok (.iload 4, 2) := by decide +kernel
theorem dX9_picture_20 : decode cX9_picture 20 = .ok (.iconst 0, 1) := by decide +kernel
theorem dX9_picture_21 : decode cX9_picture 21 = .ok (.iconst 3, 1) := by decide +kernel
theorem dX9_picture_22 : decode cX9_picture 22 = .ok (.invokestatic 55, 3) := by decide +kernel
theorem dX9_picture_25 : decode cX9_picture 25 = .ok (.ifCond .eq 14, 3) := by decide +kernel
theorem dX9_picture_28 : decode cX9_picture 28 = .ok (.iload 5, 2) := by decide +kernel
theorem dX9_picture_30 : decode cX9_picture 30 = .ok (.iconst 0, 1) := by decide +kernel
theorem dX9_picture_31 : decode cX9_picture 31 = .ok (.bipush 20, 2) := by decide +kernel
theorem dX9_picture_33 : decode cX9_picture 33 = .ok (.invokestatic 55, 3) := by decide +kernel
theorem dX9_picture_36 : decode cX9_picture 36 = .ok (.ifCond .ne 6, 3) := by decide +kernel
theorem dX9_picture_39 : decode cX9_picture 39 = .ok (.bipush (-2), 2) := by decide +kernel
theorem dX9_picture_41 : decode cX9_picture 41 = .ok (.ireturn, 1) := by decide +kernel
theorem dX9_picture_42 : decode cX9_picture 42 = .ok (.aload_n 0, 1) := by decide +kernel
theorem dX9_picture_43 : decode cX9_picture 43 = .ok (.getfield 19, 3) := by decide +kernel
theorem dX9_picture_46 : decode cX9_picture 46 = .ok (.invokevirtual 99, 3) := by decide +kernel
theorem dX9_picture_49 : decode cX9_picture 49 = .ok (.ifCond .eq 6, 3) := by decide +kernel
theorem dX9_picture_52 : decode cX9_picture 52 = .ok (.bipush (-4), 2) := by decide +kernel
theorem dX9_picture_54 : decode cX9_picture 54 = .ok (.ireturn, 1) := by decide +kernel
theorem dX9_picture_55 : decode cX9_picture 55 = .ok (.new 100, 3) := by decide +kernel
theorem dX9_picture_58 : decode cX9_picture 58 = .ok (.dup, 1) := by decide +kernel
theorem dX9_picture_59 : decode cX9_picture 59 = .ok (.iload_n 1, 1) := by decide +kernel
theorem dX9_picture_60 : decode cX9_picture 60 = .ok (.iload_n 2, 1) := by decide +kernel
theorem dX9_picture_61 : decode cX9_picture 61 = .ok (.iload_n 3, 1) := by decide +kernel
theorem dX9_picture_62 : decode cX9_picture 62 = .ok (.iload 4, 2) := by decide +kernel
theorem dX9_picture_64 : decode cX9_picture 64 = .ok (.iload 5, 2) := by decide +kernel
theorem dX9_picture_66 : decode cX9_picture 66 = .ok (.invokespecial 102, 3) := by decide +kernel
theorem dX9_picture_69 : decode cX9_picture 69 = .ok (.astore 6, 2) := by decide +kernel
theorem dX9_picture_71 : decode cX9_picture 71 = .ok (.aload 6, 2) := by decide +kernel
theorem dX9_picture_73 : decode cX9_picture 73 = .ok (.aload_n 0, 1) := by decide +kernel
theorem dX9_picture_74 : decode cX9_picture 74 = .ok (.getfield 10, 3) := by decide +kernel
theorem dX9_picture_77 : decode cX9_picture 77 = .ok (.invokevirtual 105, 3) := by decide +kernel
theorem dX9_picture_80 : decode cX9_picture 80 = .ok (.aload_n 0, 1) := by decide +kernel
theorem dX9_picture_81 : decode cX9_picture 81 = .ok (.getfield 19, 3) := by decide +kernel
theorem dX9_picture_84 : decode cX9_picture 84 = .ok (.aload 6, 2) := by decide +kernel
theorem dX9_picture_86 : decode cX9_picture 86 = .ok (.invokevirtual 106, 3) := by decide +kernel
theorem dX9_picture_89 : decode cX9_picture 89 = .ok (.ireturn, 1) := by decide +kernel
theorem dX9_cloud_0 : decode cX9_cloud 0 = .ok (.aload_n 0, 1) := by decide +kernel
theorem dX9_cloud_1 : decode cX9_cloud 1 = .ok (.getfield 19, 3) := by decide +kernel
theorem dX9_cloud_4 : decode cX9_cloud 4 = .ok (.iload_n 1, 1) := by decide +kernel
theorem dX9_cloud_5 : decode cX9_cloud 5 = .ok (.invokevirtual 109, 3) := by decide +kernel
theorem dX9_cloud_8 : decode cX9_cloud 8 = .ok (.astore 4, 2) := by decide +kernel
theorem dX9_cloud_10 : decode cX9_cloud 10 = .ok (.aload 4, 2) := by decide +kernel
theorem dX9_cloud_12 : decode cX9_cloud 12 = .ok (.ifnonnull 5, 3) := by decide +kernel
theorem dX9_cloud_15 : decode cX9_cloud 15 = .ok (.iconst (-1), 1) := by decide +kernel
theorem dX9_cloud_16 : decode cX9_cloud 16 = .ok (.ireturn, 1) := by decide +kernel
theorem dX9_cloud_17 : decode cX9_cloud 17 = .ok (.iload_n 2, 1) := by decide +kernel
theorem dX9_cloud_18 : decode cX9_cloud 18 = .ok (.invokestatic 89, 3) := by decide +kernel
theorem dX9_cloud_21 : decode cX9_cloud 21 = .ok (.ifCond .ne 6, 3) := by decide +kernel
theorem dX9_cloud_24 : decode cX9_cloud 24 = .ok (.bipush (-2), 2) := by decide +kernel
theorem dX9_cloud_26 : decode cX9_cloud 26 = .ok (.ireturn, 1) := by decide +kernel
theorem dX9_cloud_27 : decode cX9_cloud 27 = .ok (.aload 4, 2) := by decide +kernel
theorem dX9_cloud_29 : decode cX9_cloud 29 = .ok (.iload_n 2, 1) := by decide +kernel
theorem dX9_cloud_30 : decode cX9_cloud 30 = .ok (.iload_n 3, 1) := by decide +kernel
theorem dX9_cloud_31 : decode cX9_cloud 31 = .ok (.invokevirtual 112, 3) := by decide +kernel
theorem dX9_cloud_34 : decode cX9_cloud 34 = .ok (.ifCond .eq 7, 3) := by decide +kernel
theorem dX9_cloud_37 : decode cX9_cloud 37 = .ok (.iconst 1, 1) := by decide +kernel
theorem dX9_cloud_38 : decode cX9_cloud 38 = .ok (.goto 4, 3) := by decide +kernel
theorem dX9_cloud_41 : decode cX9_cloud 41 = .ok (.iconst 0, 1) := by decide +kernel
theorem dX9_cloud_42 : decode cX9_cloud 42 = .ok (.ireturn, 1) := by decide +kernel
theorem dX9_shows_0 : decode cX9_shows 0 = .ok (.aload_n 0, 1) := by decide +kernel
theorem dX9_shows_1 : decode cX9_shows 1 = .ok (.getfield 19, 3) := by decide +kernel
theorem dX9_shows_4 : decode cX9_shows 4 = .ok (.iload_n 1, 1) := by decide +kernel
theorem dX9_shows_5 : decode cX9_shows 5 = .ok (.invokevirtual 109, 3) := by decide +kernel
theorem dX9_shows_8 : decode cX9_shows 8 = .ok (.astore_n 3, 1) := by decide +kernel
theorem dX9_shows_9 : decode cX9_shows 9 = .ok (.aload_n 3, 1) := by decide +kernel
theorem dX9_shows_10 : decode cX9_shows 10 = .ok (.ifnonnull 5, 3) := by decide +kernel
theorem dX9_shows_13 : decode cX9_shows 13 = .ok (.iconst (-1), 1) := by decide +kernel
theorem dX9_shows_14 : decode cX9_shows 14 = .ok (.ireturn, 1) := by decide +kernel
theorem dX9_shows_15 : decode cX9_shows 15 = .ok (.iload_n 2, 1) := by decide +kernel
theorem dX9_shows_16 : decode cX9_shows 16 = .ok (.invokestatic 89, 3) := by decide +kernel
theorem dX9_shows_19 : decode cX9_shows 19 = .ok (.ifCond .ne 6, 3) := by decide +kernel
theorem dX9_shows_22 : decode cX9_shows 22 = .ok (.bipush (-2), 2) := by decide +kernel
theorem dX9_shows_24 : decode cX9_shows 24 = .ok (.ireturn, 1) := by decide +kernel
theorem dX9_shows_25 : decode cX9_shows 25 = .ok (.aload_n 3, 1) := by decide +kernel
theorem dX9_shows_26 : decode cX9_shows 26 = .ok (.iload_n 2, 1) := by decide +kernel
theorem dX9_shows_27 : decode cX9_shows 27 = .ok (.invokevirtual 116, 3) := by decide +kernel
theorem dX9_shows_30 : decode cX9_shows 30 = .ok (.ireturn, 1) := by decide +kernel
theorem dX9_count_0 : decode cX9_count 0 = .ok (.aload_n 0, 1) := by decide +kernel
theorem dX9_count_1 : decode cX9_count 1 = .ok (.getfield 19, 3) := by decide +kernel
theorem dX9_count_4 : decode cX9_count 4 = .ok (.iload_n 1, 1) := by decide +kernel
theorem dX9_count_5 : decode cX9_count 5 = .ok (.invokevirtual 109, 3) := by decide +kernel
theorem dX9_count_8 : decode cX9_count 8 = .ok (.astore_n 3, 1) := by decide +kernel
theorem dX9_count_9 : decode cX9_count 9 = .ok (.aload_n 3, 1) := by decide +kernel
theorem dX9_count_10 : decode cX9_count 10 = .ok (.ifnonnull 5, 3) := by decide +kernel
theorem dX9_count_13 : decode cX9_count 13 = .ok (.iconst (-1), 1) := by decide +kernel
theorem dX9_count_14 : decode cX9_count 14 = .ok (.ireturn, 1) := by decide +kernel
theorem dX9_count_15 : decode cX9_count 15 = .ok (.iload_n 2, 1) := by decide +kernel
theorem dX9_count_16 : decode cX9_count 16 = .ok (.iconst 0, 1) := by decide +kernel
theorem dX9_count_17 : decode cX9_count 17 = .ok (.iconst 3, 1) := by decide +kernel
theorem dX9_count_18 : decode cX9_count 18 = .ok (.invokestatic 55, 3) := by decide +kernel
theorem dX9_count_21 : decode cX9_count 21 = .ok (.ifCond .ne 6, 3) := by decide +kernel
theorem dX9_count_24 : decode cX9_count 24 = .ok (.bipush (-2), 2) := by decide +kernel
theorem dX9_count_26 : decode cX9_count 26 = .ok (.ireturn, 1) := by decide +kernel
theorem dX9_count_27 : decode cX9_count 27 = .ok (.aload_n 3, 1) := by decide +kernel
theorem dX9_count_28 : decode cX9_count 28 = .ok (.iload_n 2, 1) := by decide +kernel
theorem dX9_count_29 : decode cX9_count 29 = .ok (.invokevirtual 119, 3) := by decide +kernel
theorem dX9_count_32 : decode cX9_count 32 = .ok (.ireturn, 1) := by decide +kernel
theorem dX9_span_0 : decode cX9_span 0 = .ok (.aload_n 0, 1) := by decide +kernel
theorem dX9_span_1 : decode cX9_span 1 = .ok (.getfield 19, 3) := by decide +kernel
theorem dX9_span_4 : decode cX9_span 4 = .ok (.iload_n 1, 1) := by decide +kernel
theorem dX9_span_5 : decode cX9_span 5 = .ok (.invokevirtual 109, 3) := by decide +kernel
theorem dX9_span_8 : decode cX9_span 8 = .ok (.astore 4, 2) := by decide +kernel
theorem dX9_span_10 : decode cX9_span 10 = .ok (.aload 4, 2) := by decide +kernel
theorem dX9_span_12 : decode cX9_span 12 = .ok (.ifnonnull 5, 3) := by decide +kernel
theorem dX9_span_15 : decode cX9_span 15 = .ok (.iconst (-1), 1) := by decide +kernel
theorem dX9_span_16 : decode cX9_span 16 = .ok (.ireturn, 1) := by decide +kernel
theorem dX9_span_17 : decode cX9_span 17 = .ok (.iload_n 2, 1) := by decide +kernel
theorem dX9_span_18 : decode cX9_span 18 = .ok (.iconst 0, 1) := by decide +kernel
theorem dX9_span_19 : decode cX9_span 19 = .ok (.bipush 11, 2) := by decide +kernel
theorem dX9_span_21 : decode cX9_span 21 = .ok (.invokestatic 55, 3) := by decide +kernel
theorem dX9_span_24 : decode cX9_span 24 = .ok (.ifCond .eq 12, 3) := by decide +kernel
theorem dX9_span_27 : decode cX9_span 27 = .ok (.iload_n 3, 1) := by decide +kernel
theorem dX9_span_28 : decode cX9_span 28 = .ok (.iconst 0, 1) := by decide +kernel
theorem dX9_span_29 : decode cX9_span 29 = .ok (.iconst 1, 1) := by decide +kernel
theorem dX9_span_30 : decode cX9_span 30 = .ok (.invokestatic 55, 3) := by decide +kernel
theorem dX9_span_33 : decode cX9_span 33 = .ok (.ifCond .ne 6, 3) := by decide +kernel
theorem dX9_span_36 : decode cX9_span 36 = .ok (.bipush (-2), 2) := by decide +kernel
theorem dX9_span_38 : decode cX9_span 38 = .ok (.ireturn, 1) := by decide +kernel
theorem dX9_span_39 : decode cX9_span 39 = .ok (.iload_n 3, 1) := by decide +kernel
theorem dX9_span_40 : decode cX9_span 40 = .ok (.ifCond .ne 12, 3) := by decide +kernel
theorem dX9_span_43 : decode cX9_span 43 = .ok (.aload 4, 2) := by decide +kernel
theorem dX9_span_45 : decode cX9_span 45 = .ok (.iload_n 2, 1) := by decide +kernel
theorem dX9_span_46 : decode cX9_span 46 = .ok (.invokevirtual 122, 3) := by decide +kernel
theorem dX9_span_49 : decode cX9_span 49 = .ok (.goto 9, 3) := by decide +kernel
theorem dX9_span_52 : decode cX9_span 52 = .ok (.aload 4, 2) := by decide +kernel
theorem dX9_span_54 : decode cX9_span 54 = .ok (.iload_n 2, 1) := by decide +kernel
theorem dX9_span_55 : decode cX9_span 55 = .ok (.invokevirtual 125, 3) := by decide +kernel
theorem dX9_span_58 : decode cX9_span 58 = .ok (.ireturn, 1) := by decide +kernel
theorem dX9_changed_0 : decode cX9_changed 0 = .ok (.aload_n 0, 1) := by decide +kernel
theorem dX9_changed_1 : decode cX9_changed 1 = .ok (.getfield 19, 3) := by decide +kernel
theorem dX9_changed_4 : decode cX9_changed 4 = .ok (.iload_n 1, 1) := by decide +kernel
theorem dX9_changed_5 : decode cX9_changed 5 = .ok (.invokevirtual 109, 3) := by decide +kernel
theorem dX9_changed_8 : decode cX9_changed 8 = .ok (.astore 4, 2) := by decide +kernel
theorem dX9_changed_10 : decode cX9_changed 10 = .ok (.aload_n 0, 1) := by decide +kernel
theorem dX9_changed_11 : decode cX9_changed 11 = .ok (.getfield 19, 3) := by decide +kernel
theorem dX9_changed_14 : decode cX9_changed 14 = .ok (.iload_n 2, 1) := by decide +kernel
theorem dX9_changed_15 : decode cX9_changed 15 = .ok (.invokevirtual 109, 3) := by decide +kernel
theorem dX9_changed_18 : decode cX9_changed 18 = .ok (.astore 5, 2) := by decide +kernel
theorem dX9_changed_20 : decode cX9_changed 20 = .ok (.aload 4, 2) := by decide +kernel
theorem dX9_changed_22 : decode cX9_changed 22 = .ok (.ifnull 13, 3) := by decide +kernel
theorem dX9_changed_25 : decode cX9_changed 25 = .ok (.aload 5, 2) := by decide +kernel
theorem dX9_changed_27 : decode cX9_changed 27 = .ok (.ifnull 8, 3) := by decide +kernel
theorem dX9_changed_30 : decode cX9_changed 30 = .ok (.iload_n 1, 1) := by decide +kernel
theorem dX9_changed_31 : decode cX9_changed 31 = .ok (.iload_n 2, 1) := by decide +kernel
theorem dX9_changed_32 : decode cX9_changed 32 = .ok (.if_icmp .ne 5, 3) := by decide +kernel
theorem dX9_changed_35 : decode cX9_changed 35 = .ok (.iconst (-1), 1) := by decide +kernel
theorem dX9_changed_36 : decode cX9_changed 36 = .ok (.ireturn, 1) := by decide +kernel
theorem dX9_changed_37 : decode cX9_changed 37 = .ok (.iload_n 3, 1) := by decide +kernel
theorem dX9_changed_38 : decode cX9_changed 38 = .ok (.iconst 0, 1) := by decide +kernel
theorem dX9_changed_39 : decode cX9_changed 39 = .ok (.iconst 2, 1) := by decide +kernel
theorem dX9_changed_40 : decode cX9_changed 40 = .ok (.invokestatic 55, 3) := by decide +kernel
theorem dX9_changed_43 : decode cX9_changed 43 = .ok (.ifCond .ne 6, 3) := by decide +kernel
theorem dX9_changed_46 : decode cX9_changed 46 = .ok (.bipush (-2), 2) := by decide +kernel
theorem dX9_changed_48 : decode cX9_changed 48 = .ok (.ireturn, 1) := by decide +kernel
theorem dX9_changed_49 : decode cX9_changed 49 = .ok (.iload_n 3, 1) := by decide +kernel
theorem dX9_changed_50 : decode cX9_changed 50 = .ok (.iconst 2, 1) := by decide +kernel
theorem dX9_changed_51 : decode cX9_changed 51 = .ok (.if_icmp .ne 11, 3) := by decide +kernel
theorem dX9_changed_54 : decode cX9_changed 54 = .ok (.aload 4, 2) := by decide +kernel
theorem dX9_changed_56 : decode cX9_changed 56 = .ok (.aload 5, 2) := by decide +kernel
theorem dX9_changed_58 : decode cX9_changed 58 = .ok (.invokevirtual 128, 3) := by decide +kernel
theorem dX9_changed_61 : decode cX9_changed 61 = .ok (.ireturn, 1) := by decide +kernel
theorem dX9_changed_62 : decode cX9_changed 62 = .ok (.iload_n 3, 1) := by decide +kernel
theorem dX9_changed_63 : decode cX9_changed 63 = .ok (.ifCond .ne 13, 3) := by decide +kernel
theorem dX9_changed_66 : decode cX9_changed 66 = .ok (.aload 4, 2) := by decide +kernel
theorem dX9_changed_68 : decode cX9_changed 68 = .ok (.aload 5, 2) := by decide +kernel
theorem dX9_changed_70 : decode cX9_changed 70 = .ok (.invokevirtual 131, 3) := by decide +kernel
theorem dX9_changed_73 : decode cX9_changed 73 = .ok (.goto 10, 3) := by decide +kernel
theorem dX9_changed_76 : decode cX9_changed 76 = .ok (.aload 4, 2) := by decide +kernel
theorem dX9_changed_78 : decode cX9_changed 78 = .ok (.aload 5, 2) := by decide +kernel
theorem dX9_changed_80 : decode cX9_changed 80 = .ok (.invokevirtual 134, 3) := by decide +kernel
theorem dX9_changed_83 : decode cX9_changed 83 = .ok (.ireturn, 1) := by decide +kernel
theorem dX9_say_0 : decode cX9_say 0 = .ok (.iload_n 1, 1) := by decide +kernel
theorem dX9_say_1 : decode cX9_say 1 = .ok (.bipush 33, 2) := by decide +kernel
theorem dX9_say_3 : decode cX9_say 3 = .ok (.bipush 126, 2) := by decide +kernel
theorem dX9_say_5 : decode cX9_say 5 = .ok (.invokestatic 55, 3) := by decide +kernel
theorem dX9_say_8 : decode cX9_say 8 = .ok (.ifCond .ne 6, 3) := by decide +kernel
theorem dX9_say_11 : decode cX9_say 11 = .ok (.bipush (-2), 2) := by decide +kernel
theorem dX9_say_13 : decode cX9_say 13 = .ok (.ireturn, 1) := by decide +kernel
theorem dX9_say_14 : decode cX9_say 14 = .ok (.aload_n 0, 1) := by decide +kernel
theorem dX9_say_15 : decode cX9_say 15 = .ok (.getfield 33, 3) := by decide +kernel
theorem dX9_say_18 : decode cX9_say 18 = .ok (.iload_n 1, 1) := by decide +kernel
theorem dX9_say_19 : decode cX9_say 19 = .ok (.invokevirtual 137, 3) := by decide +kernel
theorem dX9_say_22 : decode cX9_say 22 = .ok (.ireturn, 1) := by decide +kernel
theorem dX9_wipe_0 : decode cX9_wipe 0 = .ok (.aload_n 0, 1) := by decide +kernel
theorem dX9_wipe_1 : decode cX9_wipe 1 = .ok (.getfield 33, 3) := by decide +kernel
theorem dX9_wipe_4 : decode cX9_wipe 4 = .ok (.invokevirtual 140, 3) := by decide +kernel
theorem dX9_wipe_7 : decode cX9_wipe 7 = .ok (.ireturn, 1) := by decide +kernel
theorem dX9_fault_0 : decode cX9_fault 0 = .ok (.aload_n 0, 1) := by decide +kernel
theorem dX9_fault_1 : decode cX9_fault 1 = .ok (.getfield 33, 3) := by decide +kernel
theorem dX9_fault_4 : decode cX9_fault 4 = .ok (.invokevirtual 144, 3) := by decide +kernel
theorem dX9_fault_7 : decode cX9_fault 7 = .ok (.ireturn, 1) := by decide +kernel
theorem dX9_use_0 : decode cX9_use 0 = .ok (.aload_n 0, 1) := by decide +kernel
theorem dX9_use_1 : decode cX9_use 1 = .ok (.getfield 33, 3) := by decide +kernel
theorem dX9_use_4 : decode cX9_use 4 = .ok (.iload_n 1, 1) := by decide +kernel
theorem dX9_use_5 : decode cX9_use 5 = .ok (.invokevirtual 147, 3) := by decide +kernel
theorem dX9_use_8 : decode cX9_use 8 = .ok (.ifCond .ne 5, 3) := by decide +kernel
theorem dX9_use_11 : decode cX9_use 11 = .ok (.iconst (-1), 1) := by decide +kernel
theorem dX9_use_12 : decode cX9_use 12 = .ok (.ireturn, 1) := by decide +kernel
theorem dX9_use_13 : decode cX9_use 13 = .ok (.aload_n 0, 1) := by decide +kernel
theorem dX9_use_14 : decode cX9_use 14 = .ok (.getfield 33, 3) := by decide +kernel
theorem dX9_use_17 : decode cX9_use 17 = .ok (.invokevirtual 144, 3) := by decide +kernel
theorem dX9_use_20 : decode cX9_use 20 = .ok (.bipush (-6), 2) := by decide +kernel
theorem dX9_use_22 : decode cX9_use 22 = .ok (.if_icmp .eq 6, 3) := by decide +kernel
theorem dX9_use_25 : decode cX9_use 25 = .ok (.bipush (-5), 2) := by decide +kernel
theorem dX9_use_27 : decode cX9_use 27 = .ok (.ireturn, 1) := by decide +kernel
theorem dX9_use_28 : decode cX9_use 28 = .ok (.aload_n 0, 1) := by decide +kernel
theorem dX9_use_29 : decode cX9_use 29 = .ok (.getfield 33, 3) := by decide +kernel
theorem dX9_use_32 : decode cX9_use 32 = .ok (.iload_n 1, 1) := by decide +kernel
theorem dX9_use_33 : decode cX9_use 33 = .ok (.invokevirtual 150, 3) := by decide +kernel
theorem dX9_use_36 : decode cX9_use 36 = .ok (.ifCond .eq 7, 3) := by decide +kernel
theorem dX9_use_39 : decode cX9_use 39 = .ok (.iconst 0, 1) := by decide +kernel
theorem dX9_use_40 : decode cX9_use 40 = .ok (.goto 4, 3) := by decide +kernel
theorem dX9_use_43 : decode cX9_use 43 = .ok (.iconst 1, 1) := by decide +kernel
theorem dX9_use_44 : decode cX9_use 44 = .ok (.istore_n 2, 1) := by decide +kernel
theorem dX9_use_45 : decode cX9_use 45 = .ok (.aload_n 0, 1) := by decide +kernel
theorem dX9_use_46 : decode cX9_use 46 = .ok (.getfield 33, 3) := by decide +kernel
theorem dX9_use_49 : decode cX9_use 49 = .ok (.iload_n 1, 1) := by decide +kernel
theorem dX9_use_50 : decode cX9_use 50 = .ok (.invokevirtual 153, 3) := by decide +kernel
theorem dX9_use_53 : decode cX9_use 53 = .ok (.iload_n 2, 1) := by decide +kernel
theorem dX9_use_54 : decode cX9_use 54 = .ok (.ireturn, 1) := by decide +kernel
theorem dX9_fact_0 : decode cX9_fact 0 = .ok (.aload_n 0, 1) := by decide +kernel
theorem dX9_fact_1 : decode cX9_fact 1 = .ok (.getfield 10, 3) := by decide +kernel
theorem dX9_fact_4 : decode cX9_fact 4 = .ok (.iload_n 1, 1) := by decide +kernel
theorem dX9_fact_5 : decode cX9_fact 5 = .ok (.invokevirtual 75, 3) := by decide +kernel
theorem dX9_fact_8 : decode cX9_fact 8 = .ok (.astore 4, 2) := by decide +kernel
theorem dX9_fact_10 : decode cX9_fact 10 = .ok (.aload 4, 2) := by decide +kernel
theorem dX9_fact_12 : decode cX9_fact 12 = .ok (.ifnonnull 5, 3) := by decide +kernel
theorem dX9_fact_15 : decode cX9_fact 15 = .ok (.iconst (-1), 1) := by decide +kernel
theorem dX9_fact_16 : decode cX9_fact 16 = .ok (.ireturn, 1) := by decide +kernel
theorem dX9_fact_17 : decode cX9_fact 17 = .ok (.iload_n 2, 1) := by decide +kernel
theorem dX9_fact_18 : decode cX9_fact 18 = .ok (.invokestatic 59, 3) := by decide +kernel
theorem dX9_fact_21 : decode cX9_fact 21 = .ok (.ifCond .eq 13, 3) := by decide +kernel
theorem dX9_fact_24 : decode cX9_fact 24 = .ok (.iload_n 3, 1) := by decide +kernel
theorem dX9_fact_25 : decode cX9_fact 25 = .ok (.iconst 0, 1) := by decide +kernel
theorem dX9_fact_26 : decode cX9_fact 26 = .ok (.bipush 8, 2) := by decide +kernel
theorem dX9_fact_28 : decode cX9_fact 28 = .ok (.invokestatic 55, 3) := by decide +kernel
theorem dX9_fact_31 : decode cX9_fact 31 = .ok (.ifCond .ne 6, 3) := by decide +kernel
theorem dX9_fact_34 : decode cX9_fact 34 = .ok (.bipush (-2), 2) := by decide +kernel
theorem dX9_fact_36 : decode cX9_fact 36 = .ok (.ireturn, 1) := by decide +kernel
theorem dX9_fact_37 : decode cX9_fact 37 = .ok (.aload_n 0, 1) := by decide +kernel
theorem dX9_fact_38 : decode cX9_fact 38 = .ok (.getfield 26, 3) := by decide +kernel
theorem dX9_fact_41 : decode cX9_fact 41 = .ok (.aload 4, 2) := by decide +kernel
theorem dX9_fact_43 : decode cX9_fact 43 = .ok (.aload_n 0, 1) := by decide +kernel
theorem dX9_fact_44 : decode cX9_fact 44 = .ok (.getfield 19, 3) := by decide +kernel
theorem dX9_fact_47 : decode cX9_fact 47 = .ok (.iload_n 2, 1) := by decide +kernel
theorem dX9_fact_48 : decode cX9_fact 48 = .ok (.invokevirtual 157, 3) := by decide +kernel
theorem dX9_fact_51 : decode cX9_fact 51 = .ok (.aload_n 0, 1) := by decide +kernel
theorem dX9_fact_52 : decode cX9_fact 52 = .ok (.getfield 26, 3) := by decide +kernel
theorem dX9_fact_55 : decode cX9_fact 55 = .ok (.iload_n 3, 1) := by decide +kernel
theorem dX9_fact_56 : decode cX9_fact 56 = .ok (.invokevirtual 161, 3) := by decide +kernel
theorem dX9_fact_59 : decode cX9_fact 59 = .ok (.ireturn, 1) := by decide +kernel
theorem dX9_fit_0 : decode cX9_fit 0 = .ok (.aload_n 0, 1) := by decide +kernel
theorem dX9_fit_1 : decode cX9_fit 1 = .ok (.getfield 10, 3) := by decide +kernel
theorem dX9_fit_4 : decode cX9_fit 4 = .ok (.iload_n 2, 1) := by decide +kernel
theorem dX9_fit_5 : decode cX9_fit 5 = .ok (.invokevirtual 75, 3) := by decide +kernel
theorem dX9_fit_8 : decode cX9_fit 8 = .ok (.astore 4, 2) := by decide +kernel
theorem dX9_fit_10 : decode cX9_fit 10 = .ok (.aload_n 0, 1) := by decide +kernel
theorem dX9_fit_11 : decode cX9_fit 11 = .ok (.getfield 33, 3) := by decide +kernel
theorem dX9_fit_14 : decode cX9_fit 14 = .ok (.iload_n 1, 1) := by decide +kernel
theorem dX9_fit_15 : decode cX9_fit 15 = .ok (.invokevirtual 150, 3) := by decide +kernel
theorem dX9_fit_18 : decode cX9_fit 18 = .ok (.ifCond .eq 8, 3) := by decide +kernel
theorem dX9_fit_21 : decode cX9_fit 21 = .ok (.aload 4, 2) := by decide +kernel
theorem dX9_fit_23 : decode cX9_fit 23 = .ok (.ifnonnull 5, 3) := by decide +kernel
theorem dX9_fit_26 : decode cX9_fit 26 = .ok (.iconst (-1), 1) := by decide +kernel
theorem dX9_fit_27 : decode cX9_fit 27 = .ok (.ireturn, 1) := by decide +kernel
theorem dX9_fit_28 : decode cX9_fit 28 = .ok (.iload_n 3, 1) := by decide +kernel
theorem dX9_fit_29 : decode cX9_fit 29 = .ok (.invokestatic 59, 3) := by decide +kernel
theorem dX9_fit_32 : decode cX9_fit 32 = .ok (.ifCond .ne 6, 3) := by decide +kernel
theorem dX9_fit_35 : decode cX9_fit 35 = .ok (.bipush (-2), 2) := by decide +kernel
theorem dX9_fit_37 : decode cX9_fit 37 = .ok (.ireturn, 1) := by decide +kernel
theorem dX9_fit_38 : decode cX9_fit 38 = .ok (.aload_n 0, 1) := by decide +kernel
theorem dX9_fit_39 : decode cX9_fit 39 = .ok (.iload_n 1, 1) := by decide +kernel
theorem dX9_fit_40 : decode cX9_fit 40 = .ok (.aload 4, 2) := by decide +kernel
theorem dX9_fit_42 : decode cX9_fit 42 = .ok (.iload_n 3, 1) := by decide +kernel
theorem dX9_fit_43 : decode cX9_fit 43 = .ok (.invokevirtual 164, 3) := by decide +kernel
theorem dX9_fit_46 : decode cX9_fit 46 = .ok (.ireturn, 1) := by decide +kernel
theorem dX9_could_0 : decode cX9_could 0 = .ok (.aload_n 0, 1) := by decide +kernel
theorem dX9_could_1 : decode cX9_could 1 = .ok (.getfield 10, 3) := by decide +kernel
theorem dX9_could_4 : decode cX9_could 4 = .ok (.iload_n 2, 1) := by decide +kernel
theorem dX9_could_5 : decode cX9_could 5 = .ok (.invokevirtual 75, 3) := by decide +kernel
theorem dX9_could_8 : decode cX9_could 8 = .ok (.astore_n 3, 1) := by decide +kernel
theorem dX9_could_9 : decode cX9_could 9 = .ok (.aload_n 0, 1) := by decide +kernel
theorem dX9_could_10 : decode cX9_could 10 = .ok (.getfield 33, 3) := by decide +kernel
theorem dX9_could_13 : decode cX9_could 13 = .ok (.iload_n 1, 1) := by decide +kernel
theorem dX9_could_14 : decode cX9_could 14 = .ok (.invokevirtual 150, 3) := by decide +kernel
theorem dX9_could_17 : decode cX9_could 17 = .ok (.ifCond .eq 7, 3) := by decide +kernel
theorem dX9_could_20 : decode cX9_could 20 = .ok (.aload_n 3, 1) := by decide +kernel
theorem dX9_could_21 : decode cX9_could 21 = .ok (.ifnonnull 5, 3) := by decide +kernel
theorem dX9_could_24 : decode cX9_could 24 = .ok (.iconst (-1), 1) := by decide +kernel
theorem dX9_could_25 : decode cX9_could 25 = .ok (.ireturn, 1) := by decide +kernel
theorem dX9_could_26 : decode cX9_could 26 = .ok (.iconst 0, 1) := by decide +kernel
theorem dX9_could_27 : decode cX9_could 27 = .ok (.istore 4, 2) := by decide +kernel
theorem dX9_could_29 : decode cX9_could 29 = .ok (.iload 4, 2) := by decide +kernel
theorem dX9_could_31 : decode cX9_could 31 = .ok (.bipush 100, 2) := by decide +kernel
theorem dX9_could_33 : decode cX9_could 33 = .ok (.if_icmp .ge 53, 3) := by decide +kernel
theorem dX9_could_36 : decode cX9_could 36 = .ok (.iload 4, 2) := by decide +kernel
theorem dX9_could_38 : decode cX9_could 38 = .ok (.ifCond .eq 15, 3) := by decide +kernel
theorem dX9_could_41 : decode cX9_could 41 = .ok (.aload_n 0, 1) := by decide +kernel
theorem dX9_could_42 : decode cX9_could 42 = .ok (.getfield 19, 3) := by decide +kernel
theorem dX9_could_45 : decode cX9_could 45 = .ok (.iload 4, 2) := by decide +kernel
theorem dX9_could_47 : decode cX9_could 47 = .ok (.invokevirtual 168, 3) := by decide +kernel
theorem dX9_could_50 : decode cX9_could 50 = .ok (.ifCond .eq 7, 3) := by decide +kernel
theorem dX9_could_53 : decode cX9_could 53 = .ok (.iconst 1, 1) := by decide +kernel
theorem dX9_could_54 : decode cX9_could 54 = .ok (.goto 4, 3) := by decide +kernel
theorem dX9_could_57 : decode cX9_could 57 = .ok (.iconst 0, 1) := by decide +kernel
theorem dX9_could_58 : decode cX9_could 58 = .ok (.istore 5, 2) := by decide +kernel
theorem dX9_could_60 : decode cX9_could 60 = .ok (.iload 5, 2) := by decide +kernel
theorem dX9_could_62 : decode cX9_could 62 = .ok (.ifCond .eq 18, 3) := by decide +kernel
theorem dX9_could_65 : decode cX9_could 65 = .ok (.aload_n 0, 1) := by decide +kernel
theorem dX9_could_66 : decode cX9_could 66 = .ok (.iload_n 1, 1) := by decide +kernel
theorem dX9_could_67 : decode cX9_could 67 = .ok (.aload_n 3, 1) := by decide +kernel
theorem dX9_could_68 : decode cX9_could 68 = .ok (.iload 4, 2) := by decide +kernel
theorem dX9_could_70 : decode cX9_could 70 = .ok (.invokevirtual 164, 3) := by decide +kernel
theorem dX9_could_73 : decode cX9_could 73 = .ok (.iconst 2, 1) := by decide +kernel
theorem dX9_could_74 : decode cX9_could 74 = .ok (.if_icmp .ne 6, 3) := by decide +kernel
theorem dX9_could_77 : decode cX9_could 77 = .ok (.iload 4, 2) := by decide +kernel
theorem dX9_could_79 : decode cX9_could 79 = .ok (.ireturn, 1) := by decide +kernel
theorem dX9_could_80 : decode cX9_could 80 = .ok (.iinc 4 1, 3) := by decide +kernel
theorem dX9_could_83 : decode cX9_could 83 = .ok (.goto (-54), 3) := by decide +kernel
theorem dX9_could_86 : decode cX9_could 86 = .ok (.bipush (-6), 2) := by decide +kernel
theorem dX9_could_88 : decode cX9_could 88 = .ok (.ireturn, 1) := by decide +kernel
theorem dX9_all_0 : decode cX9_all 0 = .ok (.aload_n 0, 1) := by decide +kernel
theorem dX9_all_1 : decode cX9_all 1 = .ok (.getfield 33, 3) := by decide +kernel
theorem dX9_all_4 : decode cX9_all 4 = .ok (.iload_n 1, 1) := by decide +kernel
theorem dX9_all_5 : decode cX9_all 5 = .ok (.invokevirtual 150, 3) := by decide +kernel
theorem dX9_all_8 : decode cX9_all 8 = .ok (.ifCond .ne 5, 3) := by decide +kernel
theorem dX9_all_11 : decode cX9_all 11 = .ok (.iconst (-1), 1) := by decide +kernel
theorem dX9_all_12 : decode cX9_all 12 = .ok (.ireturn, 1) := by decide +kernel
theorem dX9_all_13 : decode cX9_all 13 = .ok (.iload_n 2, 1) := by decide +kernel
theorem dX9_all_14 : decode cX9_all 14 = .ok (.invokestatic 59, 3) := by decide +kernel
theorem dX9_all_17 : decode cX9_all 17 = .ok (.ifCond .eq 12, 3) := by decide +kernel
theorem dX9_all_20 : decode cX9_all 20 = .ok (.iload_n 3, 1) := by decide +kernel
theorem dX9_all_21 : decode cX9_all 21 = .ok (.iconst 0, 1) := by decide +kernel
theorem dX9_all_22 : decode cX9_all 22 = .ok (.iconst 2, 1) := by decide +kernel
theorem dX9_all_23 : decode cX9_all 23 = .ok (.invokestatic 55, 3) := by decide +kernel
theorem dX9_all_26 : decode cX9_all 26 = .ok (.ifCond .ne 6, 3) := by decide +kernel
theorem dX9_all_29 : decode cX9_all 29 = .ok (.bipush (-2), 2) := by decide +kernel
theorem dX9_all_31 : decode cX9_all 31 = .ok (.ireturn, 1) := by decide +kernel
theorem dX9_all_32 : decode cX9_all 32 = .ok (.iconst 0, 1) := by decide +kernel
theorem dX9_all_33 : decode cX9_all 33 = .ok (.istore 4, 2) := by decide +kernel
theorem dX9_all_35 : decode cX9_all 35 = .ok (.iconst 0, 1) := by decide +kernel
theorem dX9_all_36 : decode cX9_all 36 = .ok (.istore 5, 2) := by decide +kernel
theorem dX9_all_38 : decode cX9_all 38 = .ok (.iload 5, 2) := by decide +kernel
theorem dX9_all_40 : decode cX9_all 40 = .ok (.aload_n 0, 1) := by decide +kernel
theorem dX9_all_41 : decode cX9_all 41 = .ok (.getfield 10, 3) := by decide +kernel
theorem dX9_all_44 : decode cX9_all 44 = .ok (.invokevirtual 171, 3) := by decide +kernel
theorem dX9_all_47 : decode cX9_all 47 = .ok (.if_icmp .ge 46, 3) := by decide +kernel
theorem dX9_all_50 : decode cX9_all 50 = .ok (.aload_n 0, 1) := by decide +kernel
theorem dX9_all_51 : decode cX9_all 51 = .ok (.getfield 10, 3) := by decide +kernel
theorem dX9_all_54 : decode cX9_all 54 = .ok (.iload 5, 2) := by decide +kernel
theorem dX9_all_56 : decode cX9_all 56 = .ok (.invokevirtual 75, 3) := by decide +kernel
theorem dX9_all_59 : decode cX9_all 59 = .ok (.astore 6, 2) := by decide +kernel
theorem dX9_all_61 : decode cX9_all 61 = .ok (.aload 6, 2) := by decide +kernel
theorem dX9_all_63 : decode cX9_all 63 = .ok (.ifnull 24, 3) := by decide +kernel
theorem dX9_all_66 : decode cX9_all 66 = .ok (.aload_n 0, 1) := by decide +kernel
theorem dX9_all_67 : decode cX9_all 67 = .ok (.iload_n 1, 1) := by decide +kernel
theorem dX9_all_68 : decode cX9_all 68 = .ok (.aload 6, 2) := by decide +kernel
theorem dX9_all_70 : decode cX9_all 70 = .ok (.iload_n 2, 1) := by decide +kernel
theorem dX9_all_71 : decode cX9_all 71 = .ok (.invokevirtual 164, 3) := by decide +kernel
theorem dX9_all_74 : decode cX9_all 74 = .ok (.iload_n 3, 1) := by decide +kernel
theorem dX9_all_75 : decode cX9_all 75 = .ok (.if_icmp .ne 12, 3) := by decide +kernel
theorem dX9_all_78 : decode cX9_all 78 = .ok (.iload 4, 2) := by decide +kernel
theorem dX9_all_80 : decode cX9_all 80 = .ok (.iconst 1, 1) := by decide +kernel
theorem dX9_all_81 : decode cX9_all 81 = .ok (.iload 5, 2) := by decide +kernel
theorem dX9_all_83 : decode cX9_all 83 = .ok (.ishl, 1) := by decide +kernel
theorem dX9_all_84 : decode cX9_all 84 = .ok (.ior, 1) := by decide +kernel
theorem dX9_all_85 : decode cX9_all 85 = .ok (.istore 4, 2) := by decide +kernel
theorem dX9_all_87 : decode cX9_all 87 = .ok (.iinc 5 1, 3) := by decide +kernel
theorem dX9_all_90 : decode cX9_all 90 = .ok (.goto (-52), 3) := by decide +kernel
theorem dX9_all_93 : decode cX9_all 93 = .ok (.iload 4, 2) := by decide +kernel
theorem dX9_all_95 : decode cX9_all 95 = .ok (.ireturn, 1) := by decide +kernel
theorem dX9_meet_0 : decode cX9_meet 0 = .ok (.iload_n 1, 1) := by decide +kernel
theorem dX9_meet_1 : decode cX9_meet 1 = .ok (.invokestatic 59, 3) := by decide +kernel
theorem dX9_meet_4 : decode cX9_meet 4 = .ok (.ifCond .eq 12, 3) := by decide +kernel
theorem dX9_meet_7 : decode cX9_meet 7 = .ok (.iload_n 2, 1) := by decide +kernel
theorem dX9_meet_8 : decode cX9_meet 8 = .ok (.iconst 0, 1) := by decide +kernel
theorem dX9_meet_9 : decode cX9_meet 9 = .ok (.iconst 1, 1) := by decide +kernel
theorem dX9_meet_10 : decode cX9_meet 10 = .ok (.invokestatic 55, 3) := by decide +kernel
theorem dX9_meet_13 : decode cX9_meet 13 = .ok (.ifCond .ne 6, 3) := by decide +kernel
theorem dX9_meet_16 : decode cX9_meet 16 = .ok (.bipush (-2), 2) := by decide +kernel
theorem dX9_meet_18 : decode cX9_meet 18 = .ok (.ireturn, 1) := by decide +kernel
theorem dX9_meet_19 : decode cX9_meet 19 = .ok (.aload_n 0, 1) := by decide +kernel
theorem dX9_meet_20 : decode cX9_meet 20 = .ok (.getfield 40, 3) := by decide +kernel
theorem dX9_meet_23 : decode cX9_meet 23 = .ok (.aload_n 0, 1) := by decide +kernel
theorem dX9_meet_24 : decode cX9_meet 24 = .ok (.getfield 10, 3) := by decide +kernel
theorem dX9_meet_27 : decode cX9_meet 27 = .ok (.iload_n 1, 1) := by decide +kernel
theorem dX9_meet_28 : decode cX9_meet 28 = .ok (.invokevirtual 174, 3) := by decide +kernel
theorem dX9_meet_31 : decode cX9_meet 31 = .ok (.iload_n 2, 1) := by decide +kernel
theorem dX9_meet_32 : decode cX9_meet 32 = .ok (.ifCond .ne 13, 3) := by decide +kernel
theorem dX9_meet_35 : decode cX9_meet 35 = .ok (.aload_n 0, 1) := by decide +kernel
theorem dX9_meet_36 : decode cX9_meet 36 = .ok (.getfield 40, 3) := by decide +kernel
theorem dX9_meet_39 : decode cX9_meet 39 = .ok (.invokevirtual 178, 3) := by decide +kernel
theorem dX9_meet_42 : decode cX9_meet 42 = .ok (.goto 10, 3) := by decide +kernel
theorem dX9_meet_45 : decode cX9_meet 45 = .ok (.aload_n 0, 1) := by decide +kernel
theorem dX9_meet_46 : decode cX9_meet 46 = .ok (.getfield 40, 3) := by decide +kernel
theorem dX9_meet_49 : decode cX9_meet 49 = .ok (.invokevirtual 181, 3) := by decide +kernel
theorem dX9_meet_52 : decode cX9_meet 52 = .ok (.ireturn, 1) := by decide +kernel
theorem dX9_chance_0 : decode cX9_chance 0 = .ok (.iload_n 1, 1) := by decide +kernel
theorem dX9_chance_1 : decode cX9_chance 1 = .ok (.invokestatic 59, 3) := by decide +kernel
theorem dX9_chance_4 : decode cX9_chance 4 = .ok (.ifCond .eq 10, 3) := by decide +kernel
theorem dX9_chance_7 : decode cX9_chance 7 = .ok (.iload_n 2, 1) := by decide +kernel
theorem dX9_chance_8 : decode cX9_chance 8 = .ok (.invokestatic 184, 3) := by decide +kernel
theorem dX9_chance_11 : decode cX9_chance 11 = .ok (.ifCond .ne 7, 3) := by decide +kernel
theorem dX9_chance_14 : decode cX9_chance 14 = .ok (.ldc2_w 187, 3) := by decide +kernel
theorem dX9_chance_17 : decode cX9_chance 17 = .ok (.lreturn, 1) := by decide +kernel
theorem dX9_chance_18 : decode cX9_chance 18 = .ok (.aload_n 0, 1) := by decide +kernel
theorem dX9_chance_19 : decode cX9_chance 19 = .ok (.getfield 40, 3) := by decide +kernel
theorem dX9_chance_22 : decode cX9_chance 22 = .ok (.aload_n 0, 1) := by decide +kernel
theorem dX9_chance_23 : decode cX9_chance 23 = .ok (.getfield 10, 3) := by decide +kernel
theorem dX9_chance_26 : decode cX9_chance 26 = .ok (.iload_n 1, 1) := by decide +kernel
theorem dX9_chance_27 : decode cX9_chance 27 = .ok (.invokevirtual 174, 3) := by decide +kernel
theorem dX9_chance_30 : decode cX9_chance 30 = .ok (.aload_n 0, 1) := by decide +kernel
theorem dX9_chance_31 : decode cX9_chance 31 = .ok (.getfield 40, 3) := by decide +kernel
theorem dX9_chance_34 : decode cX9_chance 34 = .ok (.invokevirtual 178, 3) := by decide +kernel
theorem dX9_chance_37 : decode cX9_chance 37 = .ok (.bipush (-6), 2) := by decide +kernel
theorem dX9_chance_39 : decode cX9_chance 39 = .ok (.if_icmp .ne 7, 3) := by decide +kernel
theorem dX9_chance_42 : decode cX9_chance 42 = .ok (.ldc2_w 189, 3) := by decide +kernel
theorem dX9_chance_45 : decode cX9_chance 45 = .ok (.lreturn, 1) := by decide +kernel
theorem dX9_chance_46 : decode cX9_chance 46 = .ok (.aload_n 0, 1) := by decide +kernel
theorem dX9_chance_47 : decode cX9_chance 47 = .ok (.getfield 40, 3) := by decide +kernel
theorem dX9_chance_50 : decode cX9_chance 50 = .ok (.aload_n 0, 1) := by decide +kernel
theorem dX9_chance_51 : decode cX9_chance 51 = .ok (.getfield 10, 3) := by decide +kernel
theorem dX9_chance_54 : decode cX9_chance 54 = .ok (.iload_n 1, 1) := by decide +kernel
theorem dX9_chance_55 : decode cX9_chance 55 = .ok (.invokevirtual 191, 3) := by decide +kernel
theorem dX9_chance_58 : decode cX9_chance 58 = .ok (.ifCond .eq 7, 3) := by decide +kernel
theorem dX9_chance_61 : decode cX9_chance 61 = .ok (.lconst 1, 1) := by decide +kernel
theorem dX9_chance_62 : decode cX9_chance 62 = .ok (.goto 4, 3) := by decide +kernel
theorem dX9_chance_65 : decode cX9_chance 65 = .ok (.lconst 0, 1) := by decide +kernel
theorem dX9_chance_66 : decode cX9_chance 66 = .ok (.lstore_n 3, 1) := by decide +kernel
theorem dX9_chance_67 : decode cX9_chance 67 = .ok (.lload_n 3, 1) := by decide +kernel
theorem dX9_chance_68 : decode cX9_chance 68 = .ok (.aload_n 0, 1) := by decide +kernel
theorem dX9_chance_69 : decode cX9_chance 69 = .ok (.getfield 40, 3) := by decide +kernel
theorem dX9_chance_72 : decode cX9_chance 72 = .ok (.aload_n 0, 1) := by decide +kernel
theorem dX9_chance_73 : decode cX9_chance 73 = .ok (.getfield 10, 3) := by decide +kernel
theorem dX9_chance_76 : decode cX9_chance 76 = .ok (.iload_n 1, 1) := by decide +kernel
theorem dX9_chance_77 : decode cX9_chance 77 = .ok (.invokevirtual 195, 3) := by decide +kernel
theorem dX9_chance_80 : decode cX9_chance 80 = .ok (.iload_n 2, 1) := by decide +kernel
theorem dX9_chance_81 : decode cX9_chance 81 = .ok (.invokestatic 199, 3) := by decide +kernel
theorem dX9_chance_84 : decode cX9_chance 84 = .ok (.lreturn, 1) := by decide +kernel
theorem dX9_did_0 : decode cX9_did 0 = .ok (.aload_n 0, 1) := by decide +kernel
theorem dX9_did_1 : decode cX9_did 1 = .ok (.getfield 10, 3) := by decide +kernel
theorem dX9_did_4 : decode cX9_did 4 = .ok (.iload_n 1, 1) := by decide +kernel
theorem dX9_did_5 : decode cX9_did 5 = .ok (.invokevirtual 75, 3) := by decide +kernel
theorem dX9_did_8 : decode cX9_did 8 = .ok (.astore 4, 2) := by decide +kernel
theorem dX9_did_10 : decode cX9_did 10 = .ok (.aload 4, 2) := by decide +kernel
theorem dX9_did_12 : decode cX9_did 12 = .ok (.ifnonnull 5, 3) := by decide +kernel
theorem dX9_did_15 : decode cX9_did 15 = .ok (.iconst (-1), 1) := by decide +kernel
theorem dX9_did_16 : decode cX9_did 16 = .ok (.ireturn, 1) := by decide +kernel
theorem dX9_did_17 : decode cX9_did 17 = .ok (.iload_n 2, 1) := by decide +kernel
theorem dX9_did_18 : decode cX9_did 18 = .ok (.invokestatic 59, 3) := by decide +kernel
theorem dX9_did_21 : decode cX9_did 21 = .ok (.ifCond .ne 6, 3) := by decide +kernel
theorem dX9_did_24 : decode cX9_did 24 = .ok (.bipush (-2), 2) := by decide +kernel
theorem dX9_did_26 : decode cX9_did 26 = .ok (.ireturn, 1) := by decide +kernel
theorem dX9_did_27 : decode cX9_did 27 = .ok (.aload 4, 2) := by decide +kernel
theorem dX9_did_29 : decode cX9_did 29 = .ok (.iload_n 2, 1) := by decide +kernel
theorem dX9_did_30 : decode cX9_did 30 = .ok (.iload_n 3, 1) := by decide +kernel
theorem dX9_did_31 : decode cX9_did 31 = .ok (.invokevirtual 203, 3) := by decide +kernel
theorem dX9_did_34 : decode cX9_did 34 = .ok (.ifCond .eq 7, 3) := by decide +kernel
theorem dX9_did_37 : decode cX9_did 37 = .ok (.iconst 1, 1) := by decide +kernel
theorem dX9_did_38 : decode cX9_did 38 = .ok (.goto 4, 3) := by decide +kernel
theorem dX9_did_41 : decode cX9_did 41 = .ok (.iconst 0, 1) := by decide +kernel
theorem dX9_did_42 : decode cX9_did 42 = .ok (.ireturn, 1) := by decide +kernel
theorem dX9_decoy_0 : decode cX9_decoy 0 = .ok (.aload_n 0, 1) := by decide +kernel
theorem dX9_decoy_1 : decode cX9_decoy 1 = .ok (.getfield 10, 3) := by decide +kernel
theorem dX9_decoy_4 : decode cX9_decoy 4 = .ok (.iload_n 1, 1) := by decide +kernel
theorem dX9_decoy_5 : decode cX9_decoy 5 = .ok (.invokevirtual 75, 3) := by decide +kernel
theorem dX9_decoy_8 : decode cX9_decoy 8 = .ok (.astore 6, 2) := by decide +kernel
theorem dX9_decoy_10 : decode cX9_decoy 10 = .ok (.aload 6, 2) := by decide +kernel
theorem dX9_decoy_12 : decode cX9_decoy 12 = .ok (.ifnonnull 7, 3) := by decide +kernel
theorem dX9_decoy_15 : decode cX9_decoy 15 = .ok (.ldc2_w 206, 3) := by decide +kernel
theorem dX9_decoy_18 : decode cX9_decoy 18 = .ok (.lreturn, 1) := by decide +kernel
theorem dX9_decoy_19 : decode cX9_decoy 19 = .ok (.iload_n 2, 1) := by decide +kernel
theorem dX9_decoy_20 : decode cX9_decoy 20 = .ok (.invokestatic 59, 3) := by decide +kernel
theorem dX9_decoy_23 : decode cX9_decoy 23 = .ok (.ifCond .eq 15, 3) := by decide +kernel
theorem dX9_decoy_26 : decode cX9_decoy 26 = .ok (.iload_n 3, 1) := by decide +kernel
theorem dX9_decoy_27 : decode cX9_decoy 27 = .ok (.invokestatic 59, 3) := by decide +kernel
theorem dX9_decoy_30 : decode cX9_decoy 30 = .ok (.ifCond .eq 8, 3) := by decide +kernel
theorem dX9_decoy_33 : decode cX9_decoy 33 = .ok (.iload_n 2, 1) := by decide +kernel
theorem dX9_decoy_34 : decode cX9_decoy 34 = .ok (.iload_n 3, 1) := by decide +kernel
theorem dX9_decoy_35 : decode cX9_decoy 35 = .ok (.if_icmp .le 7, 3) := by decide +kernel
theorem dX9_decoy_38 : decode cX9_decoy 38 = .ok (.ldc2_w 187, 3) := by decide +kernel
theorem dX9_decoy_41 : decode cX9_decoy 41 = .ok (.lreturn, 1) := by decide +kernel
theorem dX9_decoy_42 : decode cX9_decoy 42 = .ok (.iload 4, 2) := by decide +kernel
theorem dX9_decoy_44 : decode cX9_decoy 44 = .ok (.iconst 1, 1) := by decide +kernel
theorem dX9_decoy_45 : decode cX9_decoy 45 = .ok (.bipush 19, 2) := by decide +kernel
theorem dX9_decoy_47 : decode cX9_decoy 47 = .ok (.invokestatic 55, 3) := by decide +kernel
theorem dX9_decoy_50 : decode cX9_decoy 50 = .ok (.ifCond .eq 11, 3) := by decide +kernel
theorem dX9_decoy_53 : decode cX9_decoy 53 = .ok (.iload 5, 2) := by decide +kernel
theorem dX9_decoy_55 : decode cX9_decoy 55 = .ok (.invokestatic 184, 3) := by decide +kernel
theorem dX9_decoy_58 : decode cX9_decoy 58 = .ok (.ifCond .ne 7, 3) := by decide +kernel
theorem dX9_decoy_61 : decode cX9_decoy 61 = .ok (.ldc2_w 187, 3) := by decide +kernel
theorem dX9_decoy_64 : decode cX9_decoy 64 = .ok (.lreturn, 1) := by decide +kernel
theorem dX9_decoy_65 : decode cX9_decoy 65 = .ok (.aload 6, 2) := by decide +kernel
theorem dX9_decoy_67 : decode cX9_decoy 67 = .ok (.iload_n 2, 1) := by decide +kernel
theorem dX9_decoy_68 : decode cX9_decoy 68 = .ok (.iload_n 3, 1) := by decide +kernel
theorem dX9_decoy_69 : decode cX9_decoy 69 = .ok (.invokevirtual 208, 3) := by decide +kernel
theorem dX9_decoy_72 : decode cX9_decoy 72 = .ok (.istore 7, 2) := by decide +kernel
theorem dX9_decoy_74 : decode cX9_decoy 74 = .ok (.iload 7, 2) := by decide +kernel
theorem dX9_decoy_76 : decode cX9_decoy 76 = .ok (.bipush 12, 2) := by decide +kernel
theorem dX9_decoy_78 : decode cX9_decoy 78 = .ok (.if_icmp .le 7, 3) := by decide +kernel
theorem dX9_decoy_81 : decode cX9_decoy 81 = .ok (.ldc2_w 187, 3) := by decide +kernel
theorem dX9_decoy_84 : decode cX9_decoy 84 = .ok (.lreturn, 1) := by decide +kernel
theorem dX9_decoy_85 : decode cX9_decoy 85 = .ok (.bipush 20, 2) := by decide +kernel
theorem dX9_decoy_87 : decode cX9_decoy 87 = .ok (.iload 4, 2) := by decide +kernel
theorem dX9_decoy_89 : decode cX9_decoy 89 = .ok (.isub, 1) := by decide +kernel
theorem dX9_decoy_90 : decode cX9_decoy 90 = .ok (.i2l, 1) := by decide +kernel
theorem dX9_decoy_91 : decode cX9_decoy 91 = .ok (.iload 7, 2) := by decide +kernel
theorem dX9_decoy_93 : decode cX9_decoy 93 = .ok (.invokestatic 211, 3) := by decide +kernel
theorem dX9_decoy_96 : decode cX9_decoy 96 = .ok (.ldc2_w 215, 3) := by decide +kernel
theorem dX9_decoy_99 : decode cX9_decoy 99 = .ok (.iload 7, 2) := by decide +kernel
theorem dX9_decoy_101 : decode cX9_decoy 101 = .ok (.invokestatic 211, 3) := by decide +kernel
theorem dX9_decoy_104 : decode cX9_decoy 104 = .ok (.iload 5, 2) := by decide +kernel
theorem dX9_decoy_106 : decode cX9_decoy 106 = .ok (.invokestatic 199, 3) := by decide +kernel
theorem dX9_decoy_109 : decode cX9_decoy 109 = .ok (.lreturn, 1) := by decide +kernel
theorem dX9_sure_0 : decode cX9_sure 0 = .ok (.iload_n 1, 1) := by decide +kernel
theorem dX9_sure_1 : decode cX9_sure 1 = .ok (.iconst 1, 1) := by decide +kernel
theorem dX9_sure_2 : decode cX9_sure 2 = .ok (.bipush 19, 2) := by decide +kernel
theorem dX9_sure_4 : decode cX9_sure 4 = .ok (.invokestatic 55, 3) := by decide +kernel
theorem dX9_sure_7 : decode cX9_sure 7 = .ok (.ifCond .eq 13, 3) := by decide +kernel
theorem dX9_sure_10 : decode cX9_sure 10 = .ok (.iload_n 2, 1) := by decide +kernel
theorem dX9_sure_11 : decode cX9_sure 11 = .ok (.iconst 0, 1) := by decide +kernel
theorem dX9_sure_12 : decode cX9_sure 12 = .ok (.bipush 100, 2) := by decide +kernel
theorem dX9_sure_14 : decode cX9_sure 14 = .ok (.invokestatic 55, 3) := by decide +kernel
theorem dX9_sure_17 : decode cX9_sure 17 = .ok (.ifCond .ne 6, 3) := by decide +kernel
theorem dX9_sure_20 : decode cX9_sure 20 = .ok (.bipush (-2), 2) := by decide +kernel
theorem dX9_sure_22 : decode cX9_sure 22 = .ok (.ireturn, 1) := by decide +kernel
theorem dX9_sure_23 : decode cX9_sure 23 = .ok (.iconst 0, 1) := by decide +kernel
theorem dX9_sure_24 : decode cX9_sure 24 = .ok (.istore_n 3, 1) := by decide +kernel
theorem dX9_sure_25 : decode cX9_sure 25 = .ok (.iload_n 3, 1) := by decide +kernel
theorem dX9_sure_26 : decode cX9_sure 26 = .ok (.bipush 12, 2) := by decide +kernel
theorem dX9_sure_28 : decode cX9_sure 28 = .ok (.if_icmp .gt 38, 3) := by decide +kernel
theorem dX9_sure_31 : decode cX9_sure 31 = .ok (.bipush 20, 2) := by decide +kernel
theorem dX9_sure_33 : decode cX9_sure 33 = .ok (.iload_n 1, 1) := by decide +kernel
theorem dX9_sure_34 : decode cX9_sure 34 = .ok (.isub, 1) := by decide +kernel
theorem dX9_sure_35 : decode cX9_sure 35 = .ok (.i2l, 1) := by decide +kernel
theorem dX9_sure_36 : decode cX9_sure 36 = .ok (.iload_n 3, 1) := by decide +kernel
theorem dX9_sure_37 : decode cX9_sure 37 = .ok (.invokestatic 211, 3) := by decide +kernel
theorem dX9_sure_40 : decode cX9_sure 40 = .ok (.ldc2_w 217, 3) := by decide +kernel
theorem dX9_sure_43 : decode cX9_sure 43 = .ok (.lmul, 1) := by decide +kernel
theorem dX9_sure_44 : decode cX9_sure 44 = .ok (.ldc2_w 215, 3) := by decide +kernel
theorem dX9_sure_47 : decode cX9_sure 47 = .ok (.iload_n 3, 1) := by decide +kernel
theorem dX9_sure_48 : decode cX9_sure 48 = .ok (.invokestatic 211, 3) := by decide +kernel
theorem dX9_sure_51 : decode cX9_sure 51 = .ok (.iload_n 2, 1) := by decide +kernel
theorem dX9_sure_52 : decode cX9_sure 52 = .ok (.i2l, 1) := by decide +kernel
theorem dX9_sure_53 : decode cX9_sure 53 = .ok (.lmul, 1) := by decide +kernel
theorem dX9_sure_54 : decode cX9_sure 54 = .ok (.lcmp, 1) := by decide +kernel
theorem dX9_sure_55 : decode cX9_sure 55 = .ok (.ifCond .gt 5, 3) := by decide +kernel
theorem dX9_sure_58 : decode cX9_sure 58 = .ok (.iload_n 3, 1) := by decide +kernel
theorem dX9_sure_59 : decode cX9_sure 59 = .ok (.ireturn, 1) := by decide +kernel
theorem dX9_sure_60 : decode cX9_sure 60 = .ok (.iinc 3 1, 3) := by decide +kernel
theorem dX9_sure_63 : decode cX9_sure 63 = .ok (.goto (-38), 3) := by decide +kernel
theorem dX9_sure_66 : decode cX9_sure 66 = .ok (.bipush (-6), 2) := by decide +kernel
theorem dX9_sure_68 : decode cX9_sure 68 = .ok (.ireturn, 1) := by decide +kernel
theorem dX9_flight_0 : decode cX9_flight 0 = .ok (.iload_n 1, 1) := by decide +kernel
theorem dX9_flight_1 : decode cX9_flight 1 = .ok (.iconst 0, 1) := by decide +kernel
theorem dX9_flight_2 : decode cX9_flight 2 = .ok (.bipush 7, 2) := by decide +kernel
theorem dX9_flight_4 : decode cX9_flight 4 = .ok (.invokestatic 55, 3) := by decide +kernel
theorem dX9_flight_7 : decode cX9_flight 7 = .ok (.ifCond .ne 5, 3) := by decide +kernel
theorem dX9_flight_10 : decode cX9_flight 10 = .ok (.iconst (-1), 1) := by decide +kernel
theorem dX9_flight_11 : decode cX9_flight 11 = .ok (.ireturn, 1) := by decide +kernel
theorem dX9_flight_12 : decode cX9_flight 12 = .ok (.iload_n 2, 1) := by decide +kernel
theorem dX9_flight_13 : decode cX9_flight 13 = .ok (.iload_n 3, 1) := by decide +kernel
theorem dX9_flight_14 : decode cX9_flight 14 = .ok (.invokestatic 96, 3) := by decide +kernel
theorem dX9_flight_17 : decode cX9_flight 17 = .ok (.ifCond .eq 25, 3) := by decide +kernel
theorem dX9_flight_20 : decode cX9_flight 20 = .ok (.iload 4, 2) := by decide +kernel
theorem dX9_flight_22 : decode cX9_flight 22 = .ok (.iconst 0, 1) := by decide +kernel
theorem dX9_flight_23 : decode cX9_flight 23 = .ok (.bipush 10, 2) := by decide +kernel
theorem dX9_flight_25 : decode cX9_flight 25 = .ok (.invokestatic 55, 3) := by decide +kernel
theorem dX9_flight_28 : decode cX9_flight 28 = .ok (.ifCond .eq 14, 3) := by decide +kernel
theorem dX9_flight_31 : decode cX9_flight 31 = .ok (.iload 5, 2) := by decide +kernel
theorem dX9_flight_33 : decode cX9_flight 33 = .ok (.iconst 0, 1) := by decide +kernel
theorem dX9_flight_34 : decode cX9_flight 34 = .ok (.bipush 100, 2) := by decide +kernel
theorem dX9_flight_36 : decode cX9_flight 36 = .ok (.invokestatic 55, 3) := by decide +kernel
theorem dX9_flight_39 : decode cX9_flight 39 = .ok (.ifCond .ne 6, 3) := by decide +kernel
theorem dX9_flight_42 : decode cX9_flight 42 = .ok (.bipush (-2), 2) := by decide +kernel
theorem dX9_flight_44 : decode cX9_flight 44 = .ok (.ireturn, 1) := by decide +kernel
theorem dX9_flight_45 : decode cX9_flight 45 = .ok (.aload_n 0, 1) := by decide +kernel
theorem dX9_flight_46 : decode cX9_flight 46 = .ok (.getfield 47, 3) := by decide +kernel
theorem dX9_flight_49 : decode cX9_flight 49 = .ok (.iload_n 1, 1) := by decide +kernel
theorem dX9_flight_50 : decode cX9_flight 50 = .ok (.iload_n 2, 1) := by decide +kernel
theorem dX9_flight_51 : decode cX9_flight 51 = .ok (.iload_n 3, 1) := by decide +kernel
theorem dX9_flight_52 : decode cX9_flight 52 = .ok (.iload 4, 2) := by decide +kernel
theorem dX9_flight_54 : decode cX9_flight 54 = .ok (.iload 5, 2) := by decide +kernel
theorem dX9_flight_56 : decode cX9_flight 56 = .ok (.invokevirtual 219, 3) := by decide +kernel
theorem dX9_flight_59 : decode cX9_flight 59 = .ok (.iconst 1, 1) := by decide +kernel
theorem dX9_flight_60 : decode cX9_flight 60 = .ok (.ireturn, 1) := by decide +kernel
theorem dX9_worth_0 : decode cX9_worth 0 = .ok (.iload_n 1, 1) := by decide +kernel
theorem dX9_worth_1 : decode cX9_worth 1 = .ok (.iconst 0, 1) := by decide +kernel
theorem dX9_worth_2 : decode cX9_worth 2 = .ok (.sipush 255, 3) := by decide +kernel
theorem dX9_worth_5 : decode cX9_worth 5 = .ok (.invokestatic 55, 3) := by decide +kernel
theorem dX9_worth_8 : decode cX9_worth 8 = .ok (.ifCond .eq 10, 3) := by decide +kernel
theorem dX9_worth_11 : decode cX9_worth 11 = .ok (.iload_n 2, 1) := by decide +kernel
theorem dX9_worth_12 : decode cX9_worth 12 = .ok (.invokestatic 184, 3) := by decide +kernel
theorem dX9_worth_15 : decode cX9_worth 15 = .ok (.ifCond .ne 7, 3) := by decide +kernel
theorem dX9_worth_18 : decode cX9_worth 18 = .ok (.ldc2_w 187, 3) := by decide +kernel
theorem dX9_worth_21 : decode cX9_worth 21 = .ok (.lreturn, 1) := by decide +kernel
theorem dX9_worth_22 : decode cX9_worth 22 = .ok (.aload_n 0, 1) := by decide +kernel
theorem dX9_worth_23 : decode cX9_worth 23 = .ok (.getfield 47, 3) := by decide +kernel
theorem dX9_worth_26 : decode cX9_worth 26 = .ok (.aload_n 0, 1) := by decide +kernel
theorem dX9_worth_27 : decode cX9_worth 27 = .ok (.getfield 10, 3) := by decide +kernel
theorem dX9_worth_30 : decode cX9_worth 30 = .ok (.invokevirtual 222, 3) := by decide +kernel
theorem dX9_worth_33 : decode cX9_worth 33 = .ok (.aload_n 0, 1) := by decide +kernel
theorem dX9_worth_34 : decode cX9_worth 34 = .ok (.getfield 47, 3) := by decide +kernel
theorem dX9_worth_37 : decode cX9_worth 37 = .ok (.iload_n 1, 1) := by decide +kernel
theorem dX9_worth_38 : decode cX9_worth 38 = .ok (.invokevirtual 225, 3) := by decide +kernel
theorem dX9_worth_41 : decode cX9_worth 41 = .ok (.ldc2_w 229, 3) := by decide +kernel
theorem dX9_worth_44 : decode cX9_worth 44 = .ok (.iload_n 2, 1) := by decide +kernel
theorem dX9_worth_45 : decode cX9_worth 45 = .ok (.invokestatic 199, 3) := by decide +kernel
theorem dX9_worth_48 : decode cX9_worth 48 = .ok (.lreturn, 1) := by decide +kernel
theorem dX9_best_0 : decode cX9_best 0 = .ok (.iload_n 1, 1) := by decide +kernel
theorem dX9_best_1 : decode cX9_best 1 = .ok (.iconst 0, 1) := by decide +kernel
theorem dX9_best_2 : decode cX9_best 2 = .ok (.sipush 800, 3) := by decide +kernel
theorem dX9_best_5 : decode cX9_best 5 = .ok (.invokestatic 55, 3) := by decide +kernel
theorem dX9_best_8 : decode cX9_best 8 = .ok (.ifCond .eq 12, 3) := by decide +kernel
theorem dX9_best_11 : decode cX9_best 11 = .ok (.iload_n 2, 1) := by decide +kernel
theorem dX9_best_12 : decode cX9_best 12 = .ok (.iconst 0, 1) := by decide +kernel
theorem dX9_best_13 : decode cX9_best 13 = .ok (.iconst 1, 1) := by decide +kernel
theorem dX9_best_14 : decode cX9_best 14 = .ok (.invokestatic 55, 3) := by decide +kernel
theorem dX9_best_17 : decode cX9_best 17 = .ok (.ifCond .ne 6, 3) := by decide +kernel
theorem dX9_best_20 : decode cX9_best 20 = .ok (.bipush (-2), 2) := by decide +kernel
theorem dX9_best_22 : decode cX9_best 22 = .ok (.ireturn, 1) := by decide +kernel
theorem dX9_best_23 : decode cX9_best 23 = .ok (.aload_n 0, 1) := by decide +kernel
theorem dX9_best_24 : decode cX9_best 24 = .ok (.getfield 47, 3) := by decide +kernel
theorem dX9_best_27 : decode cX9_best 27 = .ok (.aload_n 0, 1) := by decide +kernel
theorem dX9_best_28 : decode cX9_best 28 = .ok (.getfield 10, 3) := by decide +kernel
theorem dX9_best_31 : decode cX9_best 31 = .ok (.invokevirtual 222, 3) := by decide +kernel
theorem dX9_best_34 : decode cX9_best 34 = .ok (.aload_n 0, 1) := by decide +kernel
theorem dX9_best_35 : decode cX9_best 35 = .ok (.getfield 47, 3) := by decide +kernel
theorem dX9_best_38 : decode cX9_best 38 = .ok (.iload_n 1, 1) := by decide +kernel
theorem dX9_best_39 : decode cX9_best 39 = .ok (.invokevirtual 231, 3) := by decide +kernel
theorem dX9_best_42 : decode cX9_best 42 = .ok (.istore_n 3, 1) := by decide +kernel
theorem dX9_best_43 : decode cX9_best 43 = .ok (.iload_n 2, 1) := by decide +kernel
theorem dX9_best_44 : decode cX9_best 44 = .ok (.ifCond .ne 7, 3) := by decide +kernel
theorem dX9_best_47 : decode cX9_best 47 = .ok (.iload_n 3, 1) := by decide +kernel
theorem dX9_best_48 : decode cX9_best 48 = .ok (.goto 11, 3) := by decide +kernel
theorem dX9_best_51 : decode cX9_best 51 = .ok (.aload_n 0, 1) := by decide +kernel
theorem dX9_best_52 : decode cX9_best 52 = .ok (.getfield 47, 3) := by decide +kernel
theorem dX9_best_55 : decode cX9_best 55 = .ok (.iload_n 3, 1) := by decide +kernel
theorem dX9_best_56 : decode cX9_best 56 = .ok (.invokevirtual 234, 3) := by decide +kernel
theorem dX9_best_59 : decode cX9_best 59 = .ok (.ireturn, 1) := by decide +kernel
theorem dX9_lean_0 : decode cX9_lean 0 = .ok (.iload_n 2, 1) := by decide +kernel
theorem dX9_lean_1 : decode cX9_lean 1 = .ok (.iconst 1, 1) := by decide +kernel
theorem dX9_lean_2 : decode cX9_lean 2 = .ok (.bipush 20, 2) := by decide +kernel
theorem dX9_lean_4 : decode cX9_lean 4 = .ok (.invokestatic 55, 3) := by decide +kernel
theorem dX9_lean_7 : decode cX9_lean 7 = .ok (.ifCond .eq 12, 3) := by decide +kernel
theorem dX9_lean_10 : decode cX9_lean 10 = .ok (.iload_n 1, 1) := by decide +kernel
theorem dX9_lean_11 : decode cX9_lean 11 = .ok (.iconst 0, 1) := by decide +kernel
theorem dX9_lean_12 : decode cX9_lean 12 = .ok (.iload_n 2, 1) := by decide +kernel
theorem dX9_lean_13 : decode cX9_lean 13 = .ok (.invokestatic 55, 3) := by decide +kernel
theorem dX9_lean_16 : decode cX9_lean 16 = .ok (.ifCond .ne 7, 3) := by decide +kernel
theorem dX9_lean_19 : decode cX9_lean 19 = .ok (.ldc2_w 187, 3) := by decide +kernel
theorem dX9_lean_22 : decode cX9_lean 22 = .ok (.lreturn, 1) := by decide +kernel
theorem dX9_lean_23 : decode cX9_lean 23 = .ok (.iload 4, 2) := by decide +kernel
theorem dX9_lean_25 : decode cX9_lean 25 = .ok (.iconst 1, 1) := by decide +kernel
theorem dX9_lean_26 : decode cX9_lean 26 = .ok (.bipush 20, 2) := by decide +kernel
theorem dX9_lean_28 : decode cX9_lean 28 = .ok (.invokestatic 55, 3) := by decide +kernel
theorem dX9_lean_31 : decode cX9_lean 31 = .ok (.ifCond .eq 13, 3) := by decide +kernel
theorem dX9_lean_34 : decode cX9_lean 34 = .ok (.iload_n 3, 1) := by decide +kernel
theorem dX9_lean_35 : decode cX9_lean 35 = .ok (.iconst 0, 1) := by decide +kernel
theorem dX9_lean_36 : decode cX9_lean 36 = .ok (.iload 4, 2) := by decide +kernel
theorem dX9_lean_38 : decode cX9_lean 38 = .ok (.invokestatic 55, 3) := by decide +kernel
theorem dX9_lean_41 : decode cX9_lean 41 = .ok (.ifCond .ne 7, 3) := by decide +kernel
theorem dX9_lean_44 : decode cX9_lean 44 = .ok (.ldc2_w 187, 3) := by decide +kernel
theorem dX9_lean_47 : decode cX9_lean 47 = .ok (.lreturn, 1) := by decide +kernel
theorem dX9_lean_48 : decode cX9_lean 48 = .ok (.iload 5, 2) := by decide +kernel
theorem dX9_lean_50 : decode cX9_lean 50 = .ok (.invokestatic 184, 3) := by decide +kernel
theorem dX9_lean_53 : decode cX9_lean 53 = .ok (.ifCond .ne 7, 3) := by decide +kernel
theorem dX9_lean_56 : decode cX9_lean 56 = .ok (.ldc2_w 187, 3) := by decide +kernel
theorem dX9_lean_59 : decode cX9_lean 59 = .ok (.lreturn, 1) := by decide +kernel
theorem dX9_lean_60 : decode cX9_lean 60 = .ok (.iload_n 1, 1) := by decide +kernel
theorem dX9_lean_61 : decode cX9_lean 61 = .ok (.iload_n 3, 1) := by decide +kernel
theorem dX9_lean_62 : decode cX9_lean 62 = .ok (.iadd, 1) := by decide +kernel
theorem dX9_lean_63 : decode cX9_lean 63 = .ok (.istore 6, 2) := by decide +kernel
theorem dX9_lean_65 : decode cX9_lean 65 = .ok (.lconst 0, 1) := by decide +kernel
theorem dX9_lean_66 : decode cX9_lean 66 = .ok (.lstore 7, 2) := by decide +kernel
theorem dX9_lean_68 : decode cX9_lean 68 = .ok (.iload_n 1, 1) := by decide +kernel
theorem dX9_lean_69 : decode cX9_lean 69 = .ok (.istore 9, 2) := by decide +kernel
theorem dX9_lean_71 : decode cX9_lean 71 = .ok (.iload 9, 2) := by decide +kernel
theorem dX9_lean_73 : decode cX9_lean 73 = .ok (.iload_n 2, 1) := by decide +kernel
theorem dX9_lean_74 : decode cX9_lean 74 = .ok (.if_icmp .gt 38, 3) := by decide +kernel
theorem dX9_lean_77 : decode cX9_lean 77 = .ok (.iload 9, 2) := by decide +kernel
theorem dX9_lean_79 : decode cX9_lean 79 = .ok (.iload 6, 2) := by decide +kernel
theorem dX9_lean_81 : decode cX9_lean 81 = .ok (.if_icmp .gt 31, 3) := by decide +kernel
theorem dX9_lean_84 : decode cX9_lean 84 = .ok (.lload 7, 2) := by decide +kernel
theorem dX9_lean_86 : decode cX9_lean 86 = .ok (.iload_n 2, 1) := by decide +kernel
theorem dX9_lean_87 : decode cX9_lean 87 = .ok (.iload 9, 2) := by decide +kernel
theorem dX9_lean_89 : decode cX9_lean 89 = .ok (.invokestatic 237, 3) := by decide +kernel
theorem dX9_lean_92 : decode cX9_lean 92 = .ok (.iload 4, 2) := by decide +kernel
theorem dX9_lean_94 : decode cX9_lean 94 = .ok (.iload 6, 2) := by decide +kernel
theorem dX9_lean_96 : decode cX9_lean 96 = .ok (.iload 9, 2) := by decide +kernel
theorem dX9_lean_98 : decode cX9_lean 98 = .ok (.isub, 1) := by decide +kernel
theorem dX9_lean_99 : decode cX9_lean 99 = .ok (.invokestatic 237, 3) := by decide +kernel
theorem dX9_lean_102 : decode cX9_lean 102 = .ok (.lmul, 1) := by decide +kernel
theorem dX9_lean_103 : decode cX9_lean 103 = .ok (.ladd, 1) := by decide +kernel
theorem dX9_lean_104 : decode cX9_lean 104 = .ok (.lstore 7, 2) := by decide +kernel
theorem dX9_lean_106 : decode cX9_lean 106 = .ok (.iinc 9 1, 3) := by decide +kernel
theorem dX9_lean_109 : decode cX9_lean 109 = .ok (.goto (-38), 3) := by decide +kernel
theorem dX9_lean_112 : decode cX9_lean 112 = .ok (.lload 7, 2) := by decide +kernel
theorem dX9_lean_114 : decode cX9_lean 114 = .ok (.iload_n 2, 1) := by decide +kernel
theorem dX9_lean_115 : decode cX9_lean 115 = .ok (.iload 4, 2) := by decide +kernel
theorem dX9_lean_117 : decode cX9_lean 117 = .ok (.iadd, 1) := by decide +kernel
theorem dX9_lean_118 : decode cX9_lean 118 = .ok (.iload 6, 2) := by decide +kernel
theorem dX9_lean_120 : decode cX9_lean 120 = .ok (.invokestatic 237, 3) := by decide +kernel
theorem dX9_lean_123 : decode cX9_lean 123 = .ok (.iload 5, 2) := by decide +kernel
theorem dX9_lean_125 : decode cX9_lean 125 = .ok (.invokestatic 199, 3) := by decide +kernel
theorem dX9_lean_128 : decode cX9_lean 128 = .ok (.lreturn, 1) := by decide +kernel
theorem dX9_told_0 : decode cX9_told 0 = .ok (.iload_n 1, 1) := by decide +kernel
theorem dX9_told_1 : decode cX9_told 1 = .ok (.tableswitch 63 0 3 #[31, 39, 47, 55], 31) := by decide +kernel
theorem dX9_told_32 : decode cX9_told 32 = .ok (.aload_n 0, 1) := by decide +kernel
theorem dX9_told_33 : decode cX9_told 33 = .ok (.getfield 10, 3) := by decide +kernel
theorem dX9_told_36 : decode cX9_told 36 = .ok (.invokevirtual 171, 3) := by decide +kernel
theorem dX9_told_39 : decode cX9_told 39 = .ok (.ireturn, 1) := by decide +kernel
theorem dX9_told_40 : decode cX9_told 40 = .ok (.aload_n 0, 1) := by decide +kernel
theorem dX9_told_41 : decode cX9_told 41 = .ok (.getfield 19, 3) := by decide +kernel
theorem dX9_told_44 : decode cX9_told 44 = .ok (.invokevirtual 241, 3) := by decide +kernel
theorem dX9_told_47 : decode cX9_told 47 = .ok (.ireturn, 1) := by decide +kernel
theorem dX9_told_48 : decode cX9_told 48 = .ok (.aload_n 0, 1) := by decide +kernel
theorem dX9_told_49 : decode cX9_told 49 = .ok (.getfield 33, 3) := by decide +kernel
theorem dX9_told_52 : decode cX9_told 52 = .ok (.invokevirtual 242, 3) := by decide +kernel
theorem dX9_told_55 : decode cX9_told 55 = .ok (.ireturn, 1) := by decide +kernel
theorem dX9_told_56 : decode cX9_told 56 = .ok (.aload_n 0, 1) := by decide +kernel
theorem dX9_told_57 : decode cX9_told 57 = .ok (.getfield 33, 3) := by decide +kernel
theorem dX9_told_60 : decode cX9_told 60 = .ok (.invokevirtual 245, 3) := by decide +kernel
theorem dX9_told_63 : decode cX9_told 63 = .ok (.ireturn, 1) := by decide +kernel
theorem dX9_told_64 : decode cX9_told 64 = .ok (.bipush (-2), 2) := by decide +kernel
theorem dX9_told_66 : decode cX9_told 66 = .ok (.ireturn, 1) := by decide +kernel
theorem dX9_judge_0 : decode cX9_judge 0 = .ok (.aload_n 0, 1) := by decide +kernel
theorem dX9_judge_1 : decode cX9_judge 1 = .ok (.getfield 26, 3) := by decide +kernel
theorem dX9_judge_4 : decode cX9_judge 4 = .ok (.aload_n 2, 1) := by decide +kernel
theorem dX9_judge_5 : decode cX9_judge 5 = .ok (.aload_n 0, 1) := by decide +kernel
theorem dX9_judge_6 : decode cX9_judge 6 = .ok (.getfield 19, 3) := by decide +kernel
theorem dX9_judge_9 : decode cX9_judge 9 = .ok (.iload_n 3, 1) := by decide +kernel
theorem dX9_judge_10 : decode cX9_judge 10 = .ok (.invokevirtual 157, 3) := by decide +kernel
theorem dX9_judge_13 : decode cX9_judge 13 = .ok (.aload_n 0, 1) := by decide +kernel
theorem dX9_judge_14 : decode cX9_judge 14 = .ok (.getfield 33, 3) := by decide +kernel
theorem dX9_judge_17 : decode cX9_judge 17 = .ok (.iload_n 1, 1) := by decide +kernel
theorem dX9_judge_18 : decode cX9_judge 18 = .ok (.aload_n 0, 1) := by decide +kernel
theorem dX9_judge_19 : decode cX9_judge 19 = .ok (.getfield 26, 3) := by decide +kernel
theorem dX9_judge_22 : decode cX9_judge 22 = .ok (.invokevirtual 248, 3) := by decide +kernel
theorem dX9_judge_25 : decode cX9_judge 25 = .ok (.ireturn, 1) := by decide +kernel
theorem dX9_isWithin_0 : decode cX9_isWithin 0 = .ok (.iload_n 0, 1) := by decide +kernel
theorem dX9_isWithin_1 : decode cX9_isWithin 1 = .ok (.iload_n 1, 1) := by decide +kernel
theorem dX9_isWithin_2 : decode cX9_isWithin 2 = .ok (.if_icmp .lt 12, 3) := by decide +kernel
theorem dX9_isWithin_5 : decode cX9_isWithin 5 = .ok (.iload_n 0, 1) := by decide +kernel
theorem dX9_isWithin_6 : decode cX9_isWithin 6 = .ok (.iload_n 2, 1) := by decide +kernel
theorem dX9_isWithin_7 : decode cX9_isWithin 7 = .ok (.if_icmp .gt 7, 3) := by decide +kernel
theorem dX9_isWithin_10 : decode cX9_isWithin 10 = .ok (.iconst 1, 1) := by decide +kernel
theorem dX9_isWithin_11 : decode cX9_isWithin 11 = .ok (.goto 4, 3) := by decide +kernel
theorem dX9_isWithin_14 : decode cX9_isWithin 14 = .ok (.iconst 0, 1) := by decide +kernel
theorem dX9_isWithin_15 : decode cX9_isWithin 15 = .ok (.ireturn, 1) := by decide +kernel
theorem dX9_isOnLand_0 : decode cX9_isOnLand 0 = .ok (.iload_n 0, 1) := by decide +kernel
theorem dX9_isOnLand_1 : decode cX9_isOnLand 1 = .ok (.iconst 0, 1) := by decide +kernel
theorem dX9_isOnLand_2 : decode cX9_isOnLand 2 = .ok (.bipush 11, 2) := by decide +kernel
theorem dX9_isOnLand_4 : decode cX9_isOnLand 4 = .ok (.invokestatic 55, 3) := by decide +kernel
theorem dX9_isOnLand_7 : decode cX9_isOnLand 7 = .ok (.ifCond .eq 17, 3) := by decide +kernel
theorem dX9_isOnLand_10 : decode cX9_isOnLand 10 = .ok (.iload_n 1, 1) := by decide +kernel
theorem dX9_isOnLand_11 : decode cX9_isOnLand 11 = .ok (.iconst 0, 1) := by decide +kernel
theorem dX9_isOnLand_12 : decode cX9_isOnLand 12 = .ok (.bipush 7, 2) := by decide +kernel
theorem dX9_isOnLand_14 : decode cX9_isOnLand 14 = .ok (.invokestatic 55, 3) := by decide +kernel
theorem dX9_isOnLand_17 : decode cX9_isOnLand 17 = .ok (.ifCond .eq 7, 3) := by decide +kernel
theorem dX9_isOnLand_20 : decode cX9_isOnLand 20 = .ok (.iconst 1, 1) := by decide +kernel
theorem dX9_isOnLand_21 : decode cX9_isOnLand 21 = .ok (.goto 4, 3) := by decide +kernel
theorem dX9_isOnLand_24 : decode cX9_isOnLand 24 = .ok (.iconst 0, 1) := by decide +kernel
theorem dX9_isOnLand_25 : decode cX9_isOnLand 25 = .ok (.ireturn, 1) := by decide +kernel
theorem dX9_isCell_0 : decode cX9_isCell 0 = .ok (.iload_n 0, 1) := by decide +kernel
theorem dX9_isCell_1 : decode cX9_isCell 1 = .ok (.ifCond .lt 13, 3) := by decide +kernel
theorem dX9_isCell_4 : decode cX9_isCell 4 = .ok (.iload_n 0, 1) := by decide +kernel
theorem dX9_isCell_5 : decode cX9_isCell 5 = .ok (.bipush 96, 2) := by decide +kernel
theorem dX9_isCell_7 : decode cX9_isCell 7 = .ok (.if_icmp .ge 7, 3) := by decide +kernel
theorem dX9_isCell_10 : decode cX9_isCell 10 = .ok (.iconst 1, 1) := by decide +kernel
theorem dX9_isCell_11 : decode cX9_isCell 11 = .ok (.goto 4, 3) := by decide +kernel
theorem dX9_isCell_14 : decode cX9_isCell 14 = .ok (.iconst 0, 1) := by decide +kernel
theorem dX9_isCell_15 : decode cX9_isCell 15 = .ok (.ireturn, 1) := by decide +kernel
theorem dX9_isDay_0 : decode cX9_isDay 0 = .ok (.iload_n 0, 1) := by decide +kernel
theorem dX9_isDay_1 : decode cX9_isDay 1 = .ok (.iconst 0, 1) := by decide +kernel
theorem dX9_isDay_2 : decode cX9_isDay 2 = .ok (.bipush 99, 2) := by decide +kernel
theorem dX9_isDay_4 : decode cX9_isDay 4 = .ok (.invokestatic 55, 3) := by decide +kernel
theorem dX9_isDay_7 : decode cX9_isDay 7 = .ok (.ireturn, 1) := by decide +kernel
theorem dX9_isStrip_0 : decode cX9_isStrip 0 = .ok (.iload_n 0, 1) := by decide +kernel
theorem dX9_isStrip_1 : decode cX9_isStrip 1 = .ok (.iconst 0, 1) := by decide +kernel
theorem dX9_isStrip_2 : decode cX9_isStrip 2 = .ok (.bipush 11, 2) := by decide +kernel
theorem dX9_isStrip_4 : decode cX9_isStrip 4 = .ok (.invokestatic 55, 3) := by decide +kernel
theorem dX9_isStrip_7 : decode cX9_isStrip 7 = .ok (.ifCond .eq 17, 3) := by decide +kernel
theorem dX9_isStrip_10 : decode cX9_isStrip 10 = .ok (.iload_n 1, 1) := by decide +kernel
theorem dX9_isStrip_11 : decode cX9_isStrip 11 = .ok (.iload_n 0, 1) := by decide +kernel
theorem dX9_isStrip_12 : decode cX9_isStrip 12 = .ok (.bipush 11, 2) := by decide +kernel
theorem dX9_isStrip_14 : decode cX9_isStrip 14 = .ok (.invokestatic 55, 3) := by decide +kernel
theorem dX9_isStrip_17 : decode cX9_isStrip 17 = .ok (.ifCond .eq 7, 3) := by decide +kernel
theorem dX9_isStrip_20 : decode cX9_isStrip 20 = .ok (.iconst 1, 1) := by decide +kernel
theorem dX9_isStrip_21 : decode cX9_isStrip 21 = .ok (.goto 4, 3) := by decide +kernel
theorem dX9_isStrip_24 : decode cX9_isStrip 24 = .ok (.iconst 0, 1) := by decide +kernel
theorem dX9_isStrip_25 : decode cX9_isStrip 25 = .ok (.ireturn, 1) := by decide +kernel
theorem dX9_isPart_0 : decode cX9_isPart 0 = .ok (.iload_n 0, 1) := by decide +kernel
theorem dX9_isPart_1 : decode cX9_isPart 1 = .ok (.iconst 0, 1) := by decide +kernel
theorem dX9_isPart_2 : decode cX9_isPart 2 = .ok (.iconst 1, 1) := by decide +kernel
theorem dX9_isPart_3 : decode cX9_isPart 3 = .ok (.invokestatic 55, 3) := by decide +kernel
end
section
theorem dX9_isPart_6 : decode cX9_isPart 6 = .ok (.ireturn, 1) := by decide +kernel
theorem dX9_cellOf_0 : decode cX9_cellOf 0 = .ok (.bipush 12, 2) := by decide +kernel
theorem dX9_cellOf_2 : decode cX9_cellOf 2 = .ok (.iload_n 1, 1) := by decide +kernel
theorem dX9_cellOf_3 : decode cX9_cellOf 3 = .ok (.imul, 1) := by decide +kernel
theorem dX9_cellOf_4 : decode cX9_cellOf 4 = .ok (.iload_n 0, 1) := by decide +kernel
theorem dX9_cellOf_5 : decode cX9_cellOf 5 = .ok (.iadd, 1) := by decide +kernel
theorem dX9_cellOf_6 : decode cX9_cellOf 6 = .ok (.ireturn, 1) := by decide +kernel
theorem dX9_power_0 : decode cX9_power 0 = .ok (.lconst 1, 1) := by decide +kernel
theorem dX9_power_1 : decode cX9_power 1 = .ok (.lstore_n 3, 1) := by decide +kernel
theorem dX9_power_2 : decode cX9_power 2 = .ok (.iconst 0, 1) := by decide +kernel
theorem dX9_power_3 : decode cX9_power 3 = .ok (.istore 5, 2) := by decide +kernel
theorem dX9_power_5 : decode cX9_power 5 = .ok (.iload 5, 2) := by decide +kernel
theorem dX9_power_7 : decode cX9_power 7 = .ok (.iload_n 2, 1) := by decide +kernel
theorem dX9_power_8 : decode cX9_power 8 = .ok (.if_icmp .ge 13, 3) := by decide +kernel
theorem dX9_power_11 : decode cX9_power 11 = .ok (.lload_n 3, 1) := by decide +kernel
theorem dX9_power_12 : decode cX9_power 12 = .ok (.lload_n 0, 1) := by decide +kernel
theorem dX9_power_13 : decode cX9_power 13 = .ok (.lmul, 1) := by decide +kernel
theorem dX9_power_14 : decode cX9_power 14 = .ok (.lstore_n 3, 1) := by decide +kernel
theorem dX9_power_15 : decode cX9_power 15 = .ok (.iinc 5 1, 3) := by decide +kernel
theorem dX9_power_18 : decode cX9_power 18 = .ok (.goto (-13), 3) := by decide +kernel
theorem dX9_power_21 : decode cX9_power 21 = .ok (.lload_n 3, 1) := by decide +kernel
theorem dX9_power_22 : decode cX9_power 22 = .ok (.lreturn, 1) := by decide +kernel
theorem dX9_choices_0 : decode cX9_choices 0 = .ok (.iload_n 1, 1) := by decide +kernel
theorem dX9_choices_1 : decode cX9_choices 1 = .ok (.ifCond .lt 8, 3) := by decide +kernel
theorem dX9_choices_4 : decode cX9_choices 4 = .ok (.iload_n 1, 1) := by decide +kernel
theorem dX9_choices_5 : decode cX9_choices 5 = .ok (.iload_n 0, 1) := by decide +kernel
theorem dX9_choices_6 : decode cX9_choices 6 = .ok (.if_icmp .le 5, 3) := by decide +kernel
theorem dX9_choices_9 : decode cX9_choices 9 = .ok (.lconst 0, 1) := by decide +kernel
theorem dX9_choices_10 : decode cX9_choices 10 = .ok (.lreturn, 1) := by decide +kernel
theorem dX9_choices_11 : decode cX9_choices 11 = .ok (.lconst 1, 1) := by decide +kernel
theorem dX9_choices_12 : decode cX9_choices 12 = .ok (.lstore_n 2, 1) := by decide +kernel
theorem dX9_choices_13 : decode cX9_choices 13 = .ok (.iconst 1, 1) := by decide +kernel
theorem dX9_choices_14 : decode cX9_choices 14 = .ok (.istore 4, 2) := by decide +kernel
theorem dX9_choices_16 : decode cX9_choices 16 = .ok (.iload 4, 2) := by decide +kernel
theorem dX9_choices_18 : decode cX9_choices 18 = .ok (.iload_n 1, 1) := by decide +kernel
theorem dX9_choices_19 : decode cX9_choices 19 = .ok (.if_icmp .gt 23, 3) := by decide +kernel
theorem dX9_choices_22 : decode cX9_choices 22 = .ok (.lload_n 2, 1) := by decide +kernel
theorem dX9_choices_23 : decode cX9_choices 23 = .ok (.iload_n 0, 1) := by decide +kernel
theorem dX9_choices_24 : decode cX9_choices 24 = .ok (.iload_n 1, 1) := by decide +kernel
theorem dX9_choices_25 : decode cX9_choices 25 = .ok (.isub, 1) := by decide +kernel
theorem dX9_choices_26 : decode cX9_choices 26 = .ok (.iload 4, 2) := by decide +kernel
theorem dX9_choices_28 : decode cX9_choices 28 = .ok (.iadd, 1) := by decide +kernel
theorem dX9_choices_29 : decode cX9_choices 29 = .ok (.i2l, 1) := by decide +kernel
theorem dX9_choices_30 : decode cX9_choices 30 = .ok (.lmul, 1) := by decide +kernel
theorem dX9_choices_31 : decode cX9_choices 31 = .ok (.iload 4, 2) := by decide +kernel
theorem dX9_choices_33 : decode cX9_choices 33 = .ok (.i2l, 1) := by decide +kernel
theorem dX9_choices_34 : decode cX9_choices 34 = .ok (.ldiv, 1) := by decide +kernel
theorem dX9_choices_35 : decode cX9_choices 35 = .ok (.lstore_n 2, 1) := by decide +kernel
theorem dX9_choices_36 : decode cX9_choices 36 = .ok (.iinc 4 1, 3) := by decide +kernel
theorem dX9_choices_39 : decode cX9_choices 39 = .ok (.goto (-23), 3) := by decide +kernel
theorem dX9_choices_42 : decode cX9_choices 42 = .ok (.lload_n 2, 1) := by decide +kernel
theorem dX9_choices_43 : decode cX9_choices 43 = .ok (.lreturn, 1) := by decide +kernel
theorem dX9_partOf_0 : decode cX9_partOf 0 = .ok (.lload_n 0, 1) := by decide +kernel
theorem dX9_partOf_1 : decode cX9_partOf 1 = .ok (.lload_n 2, 1) := by decide +kernel
theorem dX9_partOf_2 : decode cX9_partOf 2 = .ok (.invokestatic 251, 3) := by decide +kernel
theorem dX9_partOf_5 : decode cX9_partOf 5 = .ok (.lstore 5, 2) := by decide +kernel
theorem dX9_partOf_7 : decode cX9_partOf 7 = .ok (.lload 5, 2) := by decide +kernel
theorem dX9_partOf_9 : decode cX9_partOf 9 = .ok (.lconst 0, 1) := by decide +kernel
theorem dX9_partOf_10 : decode cX9_partOf 10 = .ok (.lcmp, 1) := by decide +kernel
theorem dX9_partOf_11 : decode cX9_partOf 11 = .ok (.ifCond .ne 7, 3) := by decide +kernel
theorem dX9_partOf_14 : decode cX9_partOf 14 = .ok (.iload 4, 2) := by decide +kernel
theorem dX9_partOf_16 : decode cX9_partOf 16 = .ok (.i2l, 1) := by decide +kernel
theorem dX9_partOf_17 : decode cX9_partOf 17 = .ok (.lreturn, 1) := by decide +kernel
theorem dX9_partOf_18 : decode cX9_partOf 18 = .ok (.iload 4, 2) := by decide +kernel
theorem dX9_partOf_20 : decode cX9_partOf 20 = .ok (.ifCond .ne 7, 3) := by decide +kernel
theorem dX9_partOf_23 : decode cX9_partOf 23 = .ok (.lload_n 0, 1) := by decide +kernel
theorem dX9_partOf_24 : decode cX9_partOf 24 = .ok (.goto 4, 3) := by decide +kernel
theorem dX9_partOf_27 : decode cX9_partOf 27 = .ok (.lload_n 2, 1) := by decide +kernel
theorem dX9_partOf_28 : decode cX9_partOf 28 = .ok (.lload 5, 2) := by decide +kernel
theorem dX9_partOf_30 : decode cX9_partOf 30 = .ok (.ldiv, 1) := by decide +kernel
theorem dX9_partOf_31 : decode cX9_partOf 31 = .ok (.lreturn, 1) := by decide +kernel
theorem dX9_commonDivisor_0 : decode cX9_commonDivisor 0 = .ok (.lload_n 0, 1) := by decide +kernel
theorem dX9_commonDivisor_1 : decode cX9_commonDivisor 1 = .ok (.lstore 4, 2) := by decide +kernel
theorem dX9_commonDivisor_3 : decode cX9_commonDivisor 3 = .ok (.lload_n 2, 1) := by decide +kernel
theorem dX9_commonDivisor_4 : decode cX9_commonDivisor 4 = .ok (.lstore 6, 2) := by decide +kernel
theorem dX9_commonDivisor_6 : decode cX9_commonDivisor 6 = .ok (.iconst 0, 1) := by decide +kernel
theorem dX9_commonDivisor_7 : decode cX9_commonDivisor 7 = .ok (.istore 8, 2) := by decide +kernel
theorem dX9_commonDivisor_9 : decode cX9_commonDivisor 9 = .ok (.iload 8, 2) := by decide +kernel
theorem dX9_commonDivisor_11 : decode cX9_commonDivisor 11 = .ok (.bipush 100, 2) := by decide +kernel
theorem dX9_commonDivisor_13 : decode cX9_commonDivisor 13 = .ok (.if_icmp .ge 31, 3) := by decide +kernel
theorem dX9_commonDivisor_16 : decode cX9_commonDivisor 16 = .ok (.lload 6, 2) := by decide +kernel
theorem dX9_commonDivisor_18 : decode cX9_commonDivisor 18 = .ok (.lconst 0, 1) := by decide +kernel
theorem dX9_commonDivisor_19 : decode cX9_commonDivisor 19 = .ok (.lcmp, 1) := by decide +kernel
theorem dX9_commonDivisor_20 : decode cX9_commonDivisor 20 = .ok (.ifCond .eq 24, 3) := by decide +kernel
theorem dX9_commonDivisor_23 : decode cX9_commonDivisor 23 = .ok (.lload 4, 2) := by decide +kernel
theorem dX9_commonDivisor_25 : decode cX9_commonDivisor 25 = .ok (.lload 6, 2) := by decide +kernel
theorem dX9_commonDivisor_27 : decode cX9_commonDivisor 27 = .ok (.lrem, 1) := by decide +kernel
theorem dX9_commonDivisor_28 : decode cX9_commonDivisor 28 = .ok (.lstore 9, 2) := by decide +kernel
theorem dX9_commonDivisor_30 : decode cX9_commonDivisor 30 = .ok (.lload 6, 2) := by decide +kernel
theorem dX9_commonDivisor_32 : decode cX9_commonDivisor 32 = .ok (.lstore 4, 2) := by decide +kernel
theorem dX9_commonDivisor_34 : decode cX9_commonDivisor 34 = .ok (.lload 9, 2) := by decide +kernel
theorem dX9_commonDivisor_36 : decode cX9_commonDivisor 36 = .ok (.lstore 6, 2) := by decide +kernel
theorem dX9_commonDivisor_38 : decode cX9_commonDivisor 38 = .ok (.iinc 8 1, 3) := by decide +kernel
theorem dX9_commonDivisor_41 : decode cX9_commonDivisor 41 = .ok (.goto (-32), 3) := by decide +kernel
theorem dX9_commonDivisor_44 : decode cX9_commonDivisor 44 = .ok (.lload 4, 2) := by decide +kernel
theorem dX9_commonDivisor_46 : decode cX9_commonDivisor 46 = .ok (.lreturn, 1) := by decide +kernel
theorem dX10_init_0 : decode cX10_init 0 = .ok (.aload_n 0, 1) := by decide +kernel
theorem dX10_init_1 : decode cX10_init 1 = .ok (.invokespecial 1, 3) := by decide +kernel
theorem dX10_init_4 : decode cX10_init 4 = .ok (.aload_n 0, 1) := by decide +kernel
theorem dX10_init_5 : decode cX10_init 5 = .ok (.sipush 132, 3) := by decide +kernel
theorem dX10_init_8 : decode cX10_init 8 = .ok (.newarray .int, 2) := by decide +kernel
theorem dX10_init_10 : decode cX10_init 10 = .ok (.putfield 7, 3) := by decide +kernel
theorem dX10_init_13 : decode cX10_init 13 = .ok (.aload_n 0, 1) := by decide +kernel
theorem dX10_init_14 : decode cX10_init 14 = .ok (.sipush 1200, 3) := by decide +kernel
theorem dX10_init_17 : decode cX10_init 17 = .ok (.newarray .boolean, 2) := by decide +kernel
theorem dX10_init_19 : decode cX10_init 19 = .ok (.putfield 13, 3) := by decide +kernel
theorem dX10_init_22 : decode cX10_init 22 = .ok (.aload_n 0, 1) := by decide +kernel
theorem dX10_init_23 : decode cX10_init 23 = .ok (.bipush 50, 2) := by decide +kernel
theorem dX10_init_25 : decode cX10_init 25 = .ok (.newarray .int, 2) := by decide +kernel
theorem dX10_init_27 : decode cX10_init 27 = .ok (.putfield 17, 3) := by decide +kernel
theorem dX10_init_30 : decode cX10_init 30 = .ok (.aload_n 0, 1) := by decide +kernel
theorem dX10_init_31 : decode cX10_init 31 = .ok (.sipush 960, 3) := by decide +kernel
theorem dX10_init_34 : decode cX10_init 34 = .ok (.newarray .boolean, 2) := by decide +kernel
theorem dX10_init_36 : decode cX10_init 36 = .ok (.putfield 20, 3) := by decide +kernel
theorem dX10_init_39 : decode cX10_init 39 = .ok (.aload_n 0, 1) := by decide +kernel
theorem dX10_init_40 : decode cX10_init 40 = .ok (.bipush 40, 2) := by decide +kernel
theorem dX10_init_42 : decode cX10_init 42 = .ok (.newarray .int, 2) := by decide +kernel
theorem dX10_init_44 : decode cX10_init 44 = .ok (.putfield 23, 3) := by decide +kernel
theorem dX10_init_47 : decode cX10_init 47 = .ok (.aload_n 0, 1) := by decide +kernel
theorem dX10_init_48 : decode cX10_init 48 = .ok (.iconst 5, 1) := by decide +kernel
theorem dX10_init_49 : decode cX10_init 49 = .ok (.newarray .int, 2) := by decide +kernel
theorem dX10_init_51 : decode cX10_init 51 = .ok (.putfield 26, 3) := by decide +kernel
theorem dX10_init_54 : decode cX10_init 54 = .ok (.aload_n 0, 1) := by decide +kernel
theorem dX10_init_55 : decode cX10_init 55 = .ok (.sipush 200, 3) := by decide +kernel
theorem dX10_init_58 : decode cX10_init 58 = .ok (.newarray .int, 2) := by decide +kernel
theorem dX10_init_60 : decode cX10_init 60 = .ok (.putfield 29, 3) := by decide +kernel
theorem dX10_init_63 : decode cX10_init 63 = .ok (.aload_n 0, 1) := by decide +kernel
theorem dX10_init_64 : decode cX10_init 64 = .ok (.bipush 32, 2) := by decide +kernel
theorem dX10_init_66 : decode cX10_init 66 = .ok (.newarray .int, 2) := by decide +kernel
theorem dX10_init_68 : decode cX10_init 68 = .ok (.putfield 32, 3) := by decide +kernel
theorem dX10_init_71 : decode cX10_init 71 = .ok (.aload_n 0, 1) := by decide +kernel
theorem dX10_init_72 : decode cX10_init 72 = .ok (.getfield 26, 3) := by decide +kernel
theorem dX10_init_75 : decode cX10_init 75 = .ok (.iconst 0, 1) := by decide +kernel
theorem dX10_init_76 : decode cX10_init 76 = .ok (.iconst 0, 1) := by decide +kernel
theorem dX10_init_77 : decode cX10_init 77 = .ok (.iastore, 1) := by decide +kernel
theorem dX10_init_78 : decode cX10_init 78 = .ok (.return_, 1) := by decide +kernel
theorem dX10_in_0 : decode cX10_in 0 = .ok (.iload_n 0, 1) := by decide +kernel
theorem dX10_in_1 : decode cX10_in 1 = .ok (.iload_n 1, 1) := by decide +kernel
theorem dX10_in_2 : decode cX10_in 2 = .ok (.if_icmp .lt 12, 3) := by decide +kernel
theorem dX10_in_5 : decode cX10_in 5 = .ok (.iload_n 0, 1) := by decide +kernel
theorem dX10_in_6 : decode cX10_in 6 = .ok (.iload_n 2, 1) := by decide +kernel
theorem dX10_in_7 : decode cX10_in 7 = .ok (.if_icmp .gt 7, 3) := by decide +kernel
theorem dX10_in_10 : decode cX10_in 10 = .ok (.iconst 1, 1) := by decide +kernel
theorem dX10_in_11 : decode cX10_in 11 = .ok (.goto 4, 3) := by decide +kernel
theorem dX10_in_14 : decode cX10_in 14 = .ok (.iconst 0, 1) := by decide +kernel
theorem dX10_in_15 : decode cX10_in 15 = .ok (.ireturn, 1) := by decide +kernel
theorem dX10_isDay_0 : decode cX10_isDay 0 = .ok (.iload_n 0, 1) := by decide +kernel
theorem dX10_isDay_1 : decode cX10_isDay 1 = .ok (.iconst 0, 1) := by decide +kernel
theorem dX10_isDay_2 : decode cX10_isDay 2 = .ok (.bipush 99, 2) := by decide +kernel
theorem dX10_isDay_4 : decode cX10_isDay 4 = .ok (.invokestatic 35, 3) := by decide +kernel
theorem dX10_isDay_7 : decode cX10_isDay 7 = .ok (.ireturn, 1) := by decide +kernel
theorem dX10_isCell_0 : decode cX10_isCell 0 = .ok (.iload_n 0, 1) := by decide +kernel
theorem dX10_isCell_1 : decode cX10_isCell 1 = .ok (.iconst 0, 1) := by decide +kernel
theorem dX10_isCell_2 : decode cX10_isCell 2 = .ok (.bipush 95, 2) := by decide +kernel
theorem dX10_isCell_4 : decode cX10_isCell 4 = .ok (.invokestatic 35, 3) := by decide +kernel
theorem dX10_isCell_7 : decode cX10_isCell 7 = .ok (.ireturn, 1) := by decide +kernel
theorem dX10_isPart_0 : decode cX10_isPart 0 = .ok (.iload_n 0, 1) := by decide +kernel
theorem dX10_isPart_1 : decode cX10_isPart 1 = .ok (.iconst 0, 1) := by decide +kernel
theorem dX10_isPart_2 : decode cX10_isPart 2 = .ok (.iconst 1, 1) := by decide +kernel
theorem dX10_isPart_3 : decode cX10_isPart 3 = .ok (.invokestatic 35, 3) := by decide +kernel
theorem dX10_isPart_6 : decode cX10_isPart 6 = .ok (.ireturn, 1) := by decide +kernel
theorem dX10_isThing_0 : decode cX10_isThing 0 = .ok (.iload_n 1, 1) := by decide +kernel
theorem dX10_isThing_1 : decode cX10_isThing 1 = .ok (.iconst 0, 1) := by decide +kernel
theorem dX10_isThing_2 : decode cX10_isThing 2 = .ok (.aload_n 0, 1) := by decide +kernel
theorem dX10_isThing_3 : decode cX10_isThing 3 = .ok (.getfield 39, 3) := by decide +kernel
theorem dX10_isThing_6 : decode cX10_isThing 6 = .ok (.iconst 1, 1) := by decide +kernel
theorem dX10_isThing_7 : decode cX10_isThing 7 = .ok (.isub, 1) := by decide +kernel
theorem dX10_isThing_8 : decode cX10_isThing 8 = .ok (.invokestatic 35, 3) := by decide +kernel
theorem dX10_isThing_11 : decode cX10_isThing 11 = .ok (.ireturn, 1) := by decide +kernel
theorem dX10_isPicture_0 : decode cX10_isPicture 0 = .ok (.iload_n 1, 1) := by decide +kernel
theorem dX10_isPicture_1 : decode cX10_isPicture 1 = .ok (.iconst 0, 1) := by decide +kernel
theorem dX10_isPicture_2 : decode cX10_isPicture 2 = .ok (.aload_n 0, 1) := by decide +kernel
theorem dX10_isPicture_3 : decode cX10_isPicture 3 = .ok (.getfield 43, 3) := by decide +kernel
theorem dX10_isPicture_6 : decode cX10_isPicture 6 = .ok (.iconst 1, 1) := by decide +kernel
theorem dX10_isPicture_7 : decode cX10_isPicture 7 = .ok (.isub, 1) := by decide +kernel
theorem dX10_isPicture_8 : decode cX10_isPicture 8 = .ok (.invokestatic 35, 3) := by decide +kernel
theorem dX10_isPicture_11 : decode cX10_isPicture 11 = .ok (.ireturn, 1) := by decide +kernel
theorem dX10_thing_0 : decode cX10_thing 0 = .ok (.iload_n 1, 1) := by decide +kernel
theorem dX10_thing_1 : decode cX10_thing 1 = .ok (.iconst 0, 1) := by decide +kernel
theorem dX10_thing_2 : decode cX10_thing 2 = .ok (.bipush 11, 2) := by decide +kernel
theorem dX10_thing_4 : decode cX10_thing 4 = .ok (.invokestatic 35, 3) := by decide +kernel
theorem dX10_thing_7 : decode cX10_thing 7 = .ok (.ifCond .eq 53, 3) := by decide +kernel
theorem dX10_thing_10 : decode cX10_thing 10 = .ok (.iload_n 2, 1) := by decide +kernel
theorem dX10_thing_11 : decode cX10_thing 11 = .ok (.iconst 0, 1) := by decide +kernel
theorem dX10_thing_12 : decode cX10_thing 12 = .ok (.bipush 7, 2) := by decide +kernel
theorem dX10_thing_14 : decode cX10_thing 14 = .ok (.invokestatic 35, 3) := by decide +kernel
theorem dX10_thing_17 : decode cX10_thing 17 = .ok (.ifCond .eq 43, 3) := by decide +kernel
theorem dX10_thing_20 : decode cX10_thing 20 = .ok (.iload_n 3, 1) := by decide +kernel
theorem dX10_thing_21 : decode cX10_thing 21 = .ok (.iconst 1, 1) := by decide +kernel
theorem dX10_thing_22 : decode cX10_thing 22 = .ok (.iconst 4, 1) := by decide +kernel
theorem dX10_thing_23 : decode cX10_thing 23 = .ok (.invokestatic 35, 3) := by decide +kernel
theorem dX10_thing_26 : decode cX10_thing 26 = .ok (.ifCond .eq 34, 3) := by decide +kernel
theorem dX10_thing_29 : decode cX10_thing 29 = .ok (.iload 4, 2) := by decide +kernel
theorem dX10_thing_31 : decode cX10_thing 31 = .ok (.iconst 1, 1) := by decide +kernel
theorem dX10_thing_32 : decode cX10_thing 32 = .ok (.iconst 4, 1) := by decide +kernel
theorem dX10_thing_33 : decode cX10_thing 33 = .ok (.invokestatic 35, 3) := by decide +kernel
theorem dX10_thing_36 : decode cX10_thing 36 = .ok (.ifCond .eq 24, 3) := by decide +kernel
theorem dX10_thing_39 : decode cX10_thing 39 = .ok (.iload_n 1, 1) := by decide +kernel
theorem dX10_thing_40 : decode cX10_thing 40 = .ok (.iload_n 3, 1) := by decide +kernel
theorem dX10_thing_41 : decode cX10_thing 41 = .ok (.iadd, 1) := by decide +kernel
theorem dX10_thing_42 : decode cX10_thing 42 = .ok (.bipush 12, 2) := by decide +kernel
theorem dX10_thing_44 : decode cX10_thing 44 = .ok (.if_icmp .gt 16, 3) := by decide +kernel
theorem dX10_thing_47 : decode cX10_thing 47 = .ok (.iload_n 2, 1) := by decide +kernel
theorem dX10_thing_48 : decode cX10_thing 48 = .ok (.iload 4, 2) := by decide +kernel
theorem dX10_thing_50 : decode cX10_thing 50 = .ok (.iadd, 1) := by decide +kernel
theorem dX10_thing_51 : decode cX10_thing 51 = .ok (.bipush 8, 2) := by decide +kernel
theorem dX10_thing_53 : decode cX10_thing 53 = .ok (.if_icmp .gt 7, 3) := by decide +kernel
theorem dX10_thing_56 : decode cX10_thing 56 = .ok (.iconst 1, 1) := by decide +kernel
theorem dX10_thing_57 : decode cX10_thing 57 = .ok (.goto 4, 3) := by decide +kernel
theorem dX10_thing_60 : decode cX10_thing 60 = .ok (.iconst 0, 1) := by decide +kernel
theorem dX10_thing_61 : decode cX10_thing 61 = .ok (.istore 9, 2) := by decide +kernel
theorem dX10_thing_63 : decode cX10_thing 63 = .ok (.iload 9, 2) := by decide +kernel
theorem dX10_thing_65 : decode cX10_thing 65 = .ok (.ifCond .eq 47, 3) := by decide +kernel
theorem dX10_thing_68 : decode cX10_thing 68 = .ok (.iload 5, 2) := by decide +kernel
theorem dX10_thing_70 : decode cX10_thing 70 = .ok (.iconst 1, 1) := by decide +kernel
theorem dX10_thing_71 : decode cX10_thing 71 = .ok (.bipush 20, 2) := by decide +kernel
theorem dX10_thing_73 : decode cX10_thing 73 = .ok (.invokestatic 35, 3) := by decide +kernel
theorem dX10_thing_76 : decode cX10_thing 76 = .ok (.ifCond .eq 36, 3) := by decide +kernel
theorem dX10_thing_79 : decode cX10_thing 79 = .ok (.iload 6, 2) := by decide +kernel
theorem dX10_thing_81 : decode cX10_thing 81 = .ok (.iconst 0, 1) := by decide +kernel
theorem dX10_thing_82 : decode cX10_thing 82 = .ok (.iconst 5, 1) := by decide +kernel
theorem dX10_thing_83 : decode cX10_thing 83 = .ok (.invokestatic 35, 3) := by decide +kernel
theorem dX10_thing_86 : decode cX10_thing 86 = .ok (.ifCond .eq 26, 3) := by decide +kernel
theorem dX10_thing_89 : decode cX10_thing 89 = .ok (.iload 7, 2) := by decide +kernel
theorem dX10_thing_91 : decode cX10_thing 91 = .ok (.invokestatic 46, 3) := by decide +kernel
theorem dX10_thing_94 : decode cX10_thing 94 = .ok (.ifCond .eq 18, 3) := by decide +kernel
theorem dX10_thing_97 : decode cX10_thing 97 = .ok (.iload 8, 2) := by decide +kernel
theorem dX10_thing_99 : decode cX10_thing 99 = .ok (.invokestatic 46, 3) := by decide +kernel
theorem dX10_thing_102 : decode cX10_thing 102 = .ok (.ifCond .eq 10, 3) := by decide +kernel
theorem dX10_thing_105 : decode cX10_thing 105 = .ok (.iload 7, 2) := by decide +kernel
theorem dX10_thing_107 : decode cX10_thing 107 = .ok (.iload 8, 2) := by decide +kernel
theorem dX10_thing_109 : decode cX10_thing 109 = .ok (.if_icmp .le 6, 3) := by decide +kernel
theorem dX10_thing_112 : decode cX10_thing 112 = .ok (.bipush (-2), 2) := by decide +kernel
theorem dX10_thing_114 : decode cX10_thing 114 = .ok (.ireturn, 1) := by decide +kernel
theorem dX10_thing_115 : decode cX10_thing 115 = .ok (.aload_n 0, 1) := by decide +kernel
theorem dX10_thing_116 : decode cX10_thing 116 = .ok (.getfield 39, 3) := by decide +kernel
theorem dX10_thing_119 : decode cX10_thing 119 = .ok (.bipush 12, 2) := by decide +kernel
theorem dX10_thing_121 : decode cX10_thing 121 = .ok (.if_icmp .ne 6, 3) := by decide +kernel
theorem dX10_thing_124 : decode cX10_thing 124 = .ok (.bipush (-4), 2) := by decide +kernel
theorem dX10_thing_126 : decode cX10_thing 126 = .ok (.ireturn, 1) := by decide +kernel
theorem dX10_thing_127 : decode cX10_thing 127 = .ok (.bipush 11, 2) := by decide +kernel
theorem dX10_thing_129 : decode cX10_thing 129 = .ok (.aload_n 0, 1) := by decide +kernel
theorem dX10_thing_130 : decode cX10_thing 130 = .ok (.getfield 39, 3) := by decide +kernel
theorem dX10_thing_133 : decode cX10_thing 133 = .ok (.imul, 1) := by decide +kernel
theorem dX10_thing_134 : decode cX10_thing 134 = .ok (.istore 10, 2) := by decide +kernel
theorem dX10_thing_136 : decode cX10_thing 136 = .ok (.aload_n 0, 1) := by decide +kernel
theorem dX10_thing_137 : decode cX10_thing 137 = .ok (.getfield 7, 3) := by decide +kernel
theorem dX10_thing_140 : decode cX10_thing 140 = .ok (.iload 10, 2) := by decide +kernel
theorem dX10_thing_142 : decode cX10_thing 142 = .ok (.iload_n 1, 1) := by decide +kernel
theorem dX10_thing_143 : decode cX10_thing 143 = .ok (.iastore, 1) := by decide +kernel
theorem dX10_thing_144 : decode cX10_thing 144 = .ok (.aload_n 0, 1) := by decide +kernel
theorem dX10_thing_145 : decode cX10_thing 145 = .ok (.getfield 7, 3) := by decide +kernel
theorem dX10_thing_148 : decode cX10_thing 148 = .ok (.iload 10, 2) := by decide +kernel
theorem dX10_thing_150 : decode cX10_thing 150 = .ok (.iconst 1, 1) := by decide +kernel
theorem dX10_thing_151 : decode cX10_thing 151 = .ok (.iadd, 1) := by decide +kernel
theorem dX10_thing_152 : decode cX10_thing 152 = .ok (.iload_n 2, 1) := by decide +kernel
theorem dX10_thing_153 : decode cX10_thing 153 = .ok (.iastore, 1) := by decide +kernel
theorem dX10_thing_154 : decode cX10_thing 154 = .ok (.aload_n 0, 1) := by decide +kernel
theorem dX10_thing_155 : decode cX10_thing 155 = .ok (.getfield 7, 3) := by decide +kernel
theorem dX10_thing_158 : decode cX10_thing 158 = .ok (.iload 10, 2) := by decide +kernel
theorem dX10_thing_160 : decode cX10_thing 160 = .ok (.iconst 2, 1) := by decide +kernel
theorem dX10_thing_161 : decode cX10_thing 161 = .ok (.iadd, 1) := by decide +kernel
theorem dX10_thing_162 : decode cX10_thing 162 = .ok (.iload_n 3, 1) := by decide +kernel
theorem dX10_thing_163 : decode cX10_thing 163 = .ok (.iastore, 1) := by decide +kernel
theorem dX10_thing_164 : decode cX10_thing 164 = .ok (.aload_n 0, 1) := by decide +kernel
theorem dX10_thing_165 : decode cX10_thing 165 = .ok (.getfield 7, 3) := by decide +kernel
theorem dX10_thing_168 : decode cX10_thing 168 = .ok (.iload 10, 2) := by decide +kernel
theorem dX10_thing_170 : decode cX10_thing 170 = .ok (.iconst 3, 1) := by decide +kernel
theorem dX10_thing_171 : decode cX10_thing 171 = .ok (.iadd, 1) := by decide +kernel
theorem dX10_thing_172 : decode cX10_thing 172 = .ok (.iload 4, 2) := by decide +kernel
theorem dX10_thing_174 : decode cX10_thing 174 = .ok (.iastore, 1) := by decide +kernel
theorem dX10_thing_175 : decode cX10_thing 175 = .ok (.aload_n 0, 1) := by decide +kernel
theorem dX10_thing_176 : decode cX10_thing 176 = .ok (.getfield 7, 3) := by decide +kernel
theorem dX10_thing_179 : decode cX10_thing 179 = .ok (.iload 10, 2) := by decide +kernel
theorem dX10_thing_181 : decode cX10_thing 181 = .ok (.iconst 4, 1) := by decide +kernel
theorem dX10_thing_182 : decode cX10_thing 182 = .ok (.iadd, 1) := by decide +kernel
theorem dX10_thing_183 : decode cX10_thing 183 = .ok (.iload 5, 2) := by decide +kernel
theorem dX10_thing_185 : decode cX10_thing 185 = .ok (.iastore, 1) := by decide +kernel
theorem dX10_thing_186 : decode cX10_thing 186 = .ok (.aload_n 0, 1) := by decide +kernel
theorem dX10_thing_187 : decode cX10_thing 187 = .ok (.getfield 7, 3) := by decide +kernel
theorem dX10_thing_190 : decode cX10_thing 190 = .ok (.iload 10, 2) := by decide +kernel
theorem dX10_thing_192 : decode cX10_thing 192 = .ok (.iconst 5, 1) := by decide +kernel
theorem dX10_thing_193 : decode cX10_thing 193 = .ok (.iadd, 1) := by decide +kernel
theorem dX10_thing_194 : decode cX10_thing 194 = .ok (.iload 6, 2) := by decide +kernel
theorem dX10_thing_196 : decode cX10_thing 196 = .ok (.iastore, 1) := by decide +kernel
theorem dX10_thing_197 : decode cX10_thing 197 = .ok (.aload_n 0, 1) := by decide +kernel
theorem dX10_thing_198 : decode cX10_thing 198 = .ok (.getfield 7, 3) := by decide +kernel
theorem dX10_thing_201 : decode cX10_thing 201 = .ok (.iload 10, 2) := by decide +kernel
theorem dX10_thing_203 : decode cX10_thing 203 = .ok (.bipush 6, 2) := by decide +kernel
theorem dX10_thing_205 : decode cX10_thing 205 = .ok (.iadd, 1) := by decide +kernel
theorem dX10_thing_206 : decode cX10_thing 206 = .ok (.iload 7, 2) := by decide +kernel
theorem dX10_thing_208 : decode cX10_thing 208 = .ok (.iastore, 1) := by decide +kernel
theorem dX10_thing_209 : decode cX10_thing 209 = .ok (.aload_n 0, 1) := by decide +kernel
theorem dX10_thing_210 : decode cX10_thing 210 = .ok (.getfield 7, 3) := by decide +kernel
theorem dX10_thing_213 : decode cX10_thing 213 = .ok (.iload 10, 2) := by decide +kernel
theorem dX10_thing_215 : decode cX10_thing 215 = .ok (.bipush 7, 2) := by decide +kernel
theorem dX10_thing_217 : decode cX10_thing 217 = .ok (.iadd, 1) := by decide +kernel
theorem dX10_thing_218 : decode cX10_thing 218 = .ok (.iload 8, 2) := by decide +kernel
theorem dX10_thing_220 : decode cX10_thing 220 = .ok (.iastore, 1) := by decide +kernel
theorem dX10_thing_221 : decode cX10_thing 221 = .ok (.aload_n 0, 1) := by decide +kernel
theorem dX10_thing_222 : decode cX10_thing 222 = .ok (.getfield 7, 3) := by decide +kernel
theorem dX10_thing_225 : decode cX10_thing 225 = .ok (.iload 10, 2) := by decide +kernel
theorem dX10_thing_227 : decode cX10_thing 227 = .ok (.bipush 8, 2) := by decide +kernel
theorem dX10_thing_229 : decode cX10_thing 229 = .ok (.iadd, 1) := by decide +kernel
theorem dX10_thing_230 : decode cX10_thing 230 = .ok (.bipush 8, 2) := by decide +kernel
theorem dX10_thing_232 : decode cX10_thing 232 = .ok (.iastore, 1) := by decide +kernel
theorem dX10_thing_233 : decode cX10_thing 233 = .ok (.aload_n 0, 1) := by decide +kernel
theorem dX10_thing_234 : decode cX10_thing 234 = .ok (.getfield 7, 3) := by decide +kernel
theorem dX10_thing_237 : decode cX10_thing 237 = .ok (.iload 10, 2) := by decide +kernel
theorem dX10_thing_239 : decode cX10_thing 239 = .ok (.bipush 9, 2) := by decide +kernel
theorem dX10_thing_241 : decode cX10_thing 241 = .ok (.iadd, 1) := by decide +kernel
theorem dX10_thing_242 : decode cX10_thing 242 = .ok (.iconst 0, 1) := by decide +kernel
theorem dX10_thing_243 : decode cX10_thing 243 = .ok (.iastore, 1) := by decide +kernel
theorem dX10_thing_244 : decode cX10_thing 244 = .ok (.aload_n 0, 1) := by decide +kernel
theorem dX10_thing_245 : decode cX10_thing 245 = .ok (.getfield 7, 3) := by decide +kernel
theorem dX10_thing_248 : decode cX10_thing 248 = .ok (.iload 10, 2) := by decide +kernel
theorem dX10_thing_250 : decode cX10_thing 250 = .ok (.bipush 10, 2) := by decide +kernel
theorem dX10_thing_252 : decode cX10_thing 252 = .ok (.iadd, 1) := by decide +kernel
theorem dX10_thing_253 : decode cX10_thing 253 = .ok (.iconst 0, 1) := by decide +kernel
theorem dX10_thing_254 : decode cX10_thing 254 = .ok (.iastore, 1) := by decide +kernel
theorem dX10_thing_255 : decode cX10_thing 255 = .ok (.aload_n 0, 1) := by decide +kernel
theorem dX10_thing_256 : decode cX10_thing 256 = .ok (.dup, 1) := by decide +kernel
theorem dX10_thing_257 : decode cX10_thing 257 = .ok (.getfield 39, 3) := by decide +kernel
theorem dX10_thing_260 : decode cX10_thing 260 = .ok (.iconst 1, 1) := by decide +kernel
theorem dX10_thing_261 : decode cX10_thing 261 = .ok (.iadd, 1) := by decide +kernel
theorem dX10_thing_262 : decode cX10_thing 262 = .ok (.putfield 39, 3) := by decide +kernel
theorem dX10_thing_265 : decode cX10_thing 265 = .ok (.aload_n 0, 1) := by decide +kernel
theorem dX10_thing_266 : decode cX10_thing 266 = .ok (.getfield 39, 3) := by decide +kernel
theorem dX10_thing_269 : decode cX10_thing 269 = .ok (.iconst 1, 1) := by decide +kernel
theorem dX10_thing_270 : decode cX10_thing 270 = .ok (.isub, 1) := by decide +kernel
theorem dX10_thing_271 : decode cX10_thing 271 = .ok (.ireturn, 1) := by decide +kernel
theorem dX10_of_0 : decode cX10_of 0 = .ok (.aload_n 0, 1) := by decide +kernel
theorem dX10_of_1 : decode cX10_of 1 = .ok (.iload_n 1, 1) := by decide +kernel
theorem dX10_of_2 : decode cX10_of 2 = .ok (.invokevirtual 50, 3) := by decide +kernel
theorem dX10_of_5 : decode cX10_of 5 = .ok (.ifCond .ne 5, 3) := by decide +kernel
theorem dX10_of_8 : decode cX10_of 8 = .ok (.iconst (-1), 1) := by decide +kernel
theorem dX10_of_9 : decode cX10_of 9 = .ok (.ireturn, 1) := by decide +kernel
theorem dX10_of_10 : decode cX10_of 10 = .ok (.iload_n 2, 1) := by decide +kernel
theorem dX10_of_11 : decode cX10_of 11 = .ok (.iconst 0, 1) := by decide +kernel
theorem dX10_of_12 : decode cX10_of 12 = .ok (.bipush 10, 2) := by decide +kernel
theorem dX10_of_14 : decode cX10_of 14 = .ok (.invokestatic 35, 3) := by decide +kernel
theorem dX10_of_17 : decode cX10_of 17 = .ok (.ifCond .eq 17, 3) := by decide +kernel
theorem dX10_of_20 : decode cX10_of 20 = .ok (.aload_n 0, 1) := by decide +kernel
theorem dX10_of_21 : decode cX10_of 21 = .ok (.getfield 7, 3) := by decide +kernel
theorem dX10_of_24 : decode cX10_of 24 = .ok (.bipush 11, 2) := by decide +kernel
theorem dX10_of_26 : decode cX10_of 26 = .ok (.iload_n 1, 1) := by decide +kernel
theorem dX10_of_27 : decode cX10_of 27 = .ok (.imul, 1) := by decide +kernel
theorem dX10_of_28 : decode cX10_of 28 = .ok (.iload_n 2, 1) := by decide +kernel
theorem dX10_of_29 : decode cX10_of 29 = .ok (.iadd, 1) := by decide +kernel
theorem dX10_of_30 : decode cX10_of 30 = .ok (.iaload, 1) := by decide +kernel
theorem dX10_of_31 : decode cX10_of 31 = .ok (.goto 5, 3) := by decide +kernel
theorem dX10_of_34 : decode cX10_of 34 = .ok (.bipush (-2), 2) := by decide +kernel
theorem dX10_of_36 : decode cX10_of 36 = .ok (.ireturn, 1) := by decide +kernel
theorem dX10_set_0 : decode cX10_set 0 = .ok (.aload_n 0, 1) := by decide +kernel
theorem dX10_set_1 : decode cX10_set 1 = .ok (.iload_n 1, 1) := by decide +kernel
theorem dX10_set_2 : decode cX10_set 2 = .ok (.invokevirtual 50, 3) := by decide +kernel
theorem dX10_set_5 : decode cX10_set 5 = .ok (.ifCond .ne 5, 3) := by decide +kernel
theorem dX10_set_8 : decode cX10_set 8 = .ok (.iconst (-1), 1) := by decide +kernel
theorem dX10_set_9 : decode cX10_set 9 = .ok (.ireturn, 1) := by decide +kernel
theorem dX10_set_10 : decode cX10_set 10 = .ok (.iload_n 2, 1) := by decide +kernel
theorem dX10_set_11 : decode cX10_set 11 = .ok (.bipush 8, 2) := by decide +kernel
theorem dX10_set_13 : decode cX10_set 13 = .ok (.bipush 10, 2) := by decide +kernel
theorem dX10_set_15 : decode cX10_set 15 = .ok (.invokestatic 35, 3) := by decide +kernel
theorem dX10_set_18 : decode cX10_set 18 = .ok (.ifCond .eq 23, 3) := by decide +kernel
theorem dX10_set_21 : decode cX10_set 21 = .ok (.iload_n 3, 1) := by decide +kernel
theorem dX10_set_22 : decode cX10_set 22 = .ok (.iconst 0, 1) := by decide +kernel
theorem dX10_set_23 : decode cX10_set 23 = .ok (.iload_n 2, 1) := by decide +kernel
theorem dX10_set_24 : decode cX10_set 24 = .ok (.bipush 8, 2) := by decide +kernel
theorem dX10_set_26 : decode cX10_set 26 = .ok (.if_icmp .ne 8, 3) := by decide +kernel
theorem dX10_set_29 : decode cX10_set 29 = .ok (.bipush 8, 2) := by decide +kernel
theorem dX10_set_31 : decode cX10_set 31 = .ok (.goto 4, 3) := by decide +kernel
theorem dX10_set_34 : decode cX10_set 34 = .ok (.iconst 1, 1) := by decide +kernel
theorem dX10_set_35 : decode cX10_set 35 = .ok (.invokestatic 35, 3) := by decide +kernel
theorem dX10_set_38 : decode cX10_set 38 = .ok (.ifCond .ne 6, 3) := by decide +kernel
theorem dX10_set_41 : decode cX10_set 41 = .ok (.bipush (-2), 2) := by decide +kernel
theorem dX10_set_43 : decode cX10_set 43 = .ok (.ireturn, 1) := by decide +kernel
theorem dX10_set_44 : decode cX10_set 44 = .ok (.aload_n 0, 1) := by decide +kernel
theorem dX10_set_45 : decode cX10_set 45 = .ok (.getfield 7, 3) := by decide +kernel
theorem dX10_set_48 : decode cX10_set 48 = .ok (.bipush 11, 2) := by decide +kernel
theorem dX10_set_50 : decode cX10_set 50 = .ok (.iload_n 1, 1) := by decide +kernel
theorem dX10_set_51 : decode cX10_set 51 = .ok (.imul, 1) := by decide +kernel
theorem dX10_set_52 : decode cX10_set 52 = .ok (.iload_n 2, 1) := by decide +kernel
theorem dX10_set_53 : decode cX10_set 53 = .ok (.iadd, 1) := by decide +kernel
theorem dX10_set_54 : decode cX10_set 54 = .ok (.iaload, 1) := by decide +kernel
theorem dX10_set_55 : decode cX10_set 55 = .ok (.istore 4, 2) := by decide +kernel
theorem dX10_set_57 : decode cX10_set 57 = .ok (.aload_n 0, 1) := by decide +kernel
theorem dX10_set_58 : decode cX10_set 58 = .ok (.getfield 7, 3) := by decide +kernel
theorem dX10_set_61 : decode cX10_set 61 = .ok (.bipush 11, 2) := by decide +kernel
theorem dX10_set_63 : decode cX10_set 63 = .ok (.iload_n 1, 1) := by decide +kernel
theorem dX10_set_64 : decode cX10_set 64 = .ok (.imul, 1) := by decide +kernel
theorem dX10_set_65 : decode cX10_set 65 = .ok (.iload_n 2, 1) := by decide +kernel
theorem dX10_set_66 : decode cX10_set 66 = .ok (.iadd, 1) := by decide +kernel
theorem dX10_set_67 : decode cX10_set 67 = .ok (.iload_n 3, 1) := by decide +kernel
theorem dX10_set_68 : decode cX10_set 68 = .ok (.iastore, 1) := by decide +kernel
theorem dX10_set_69 : decode cX10_set 69 = .ok (.iload 4, 2) := by decide +kernel
theorem dX10_set_71 : decode cX10_set 71 = .ok (.ireturn, 1) := by decide +kernel
theorem dX10_isThere_0 : decode cX10_isThere 0 = .ok (.iload_n 2, 1) := by decide +kernel
theorem dX10_isThere_1 : decode cX10_isThere 1 = .ok (.aload_n 0, 1) := by decide +kernel
theorem dX10_isThere_2 : decode cX10_isThere 2 = .ok (.getfield 7, 3) := by decide +kernel
theorem dX10_isThere_5 : decode cX10_isThere 5 = .ok (.bipush 11, 2) := by decide +kernel
theorem dX10_isThere_7 : decode cX10_isThere 7 = .ok (.iload_n 1, 1) := by decide +kernel
theorem dX10_isThere_8 : decode cX10_isThere 8 = .ok (.imul, 1) := by decide +kernel
theorem dX10_isThere_9 : decode cX10_isThere 9 = .ok (.bipush 6, 2) := by decide +kernel
theorem dX10_isThere_11 : decode cX10_isThere 11 = .ok (.iadd, 1) := by decide +kernel
theorem dX10_isThere_12 : decode cX10_isThere 12 = .ok (.iaload, 1) := by decide +kernel
theorem dX10_isThere_13 : decode cX10_isThere 13 = .ok (.aload_n 0, 1) := by decide +kernel
theorem dX10_isThere_14 : decode cX10_isThere 14 = .ok (.getfield 7, 3) := by decide +kernel
theorem dX10_isThere_17 : decode cX10_isThere 17 = .ok (.bipush 11, 2) := by decide +kernel
theorem dX10_isThere_19 : decode cX10_isThere 19 = .ok (.iload_n 1, 1) := by decide +kernel
theorem dX10_isThere_20 : decode cX10_isThere 20 = .ok (.imul, 1) := by decide +kernel
theorem dX10_isThere_21 : decode cX10_isThere 21 = .ok (.bipush 7, 2) := by decide +kernel
theorem dX10_isThere_23 : decode cX10_isThere 23 = .ok (.iadd, 1) := by decide +kernel
theorem dX10_isThere_24 : decode cX10_isThere 24 = .ok (.iaload, 1) := by decide +kernel
theorem dX10_isThere_25 : decode cX10_isThere 25 = .ok (.invokestatic 35, 3) := by decide +kernel
theorem dX10_isThere_28 : decode cX10_isThere 28 = .ok (.ireturn, 1) := by decide +kernel
theorem dX10_isOwn_0 : decode cX10_isOwn 0 = .ok (.bipush 11, 2) := by decide +kernel
theorem dX10_isOwn_2 : decode cX10_isOwn 2 = .ok (.iload_n 1, 1) := by decide +kernel
theorem dX10_isOwn_3 : decode cX10_isOwn 3 = .ok (.imul, 1) := by decide +kernel
theorem dX10_isOwn_4 : decode cX10_isOwn 4 = .ok (.istore 4, 2) := by decide +kernel
theorem dX10_isOwn_6 : decode cX10_isOwn 6 = .ok (.iload_n 2, 1) := by decide +kernel
theorem dX10_isOwn_7 : decode cX10_isOwn 7 = .ok (.aload_n 0, 1) := by decide +kernel
theorem dX10_isOwn_8 : decode cX10_isOwn 8 = .ok (.getfield 7, 3) := by decide +kernel
theorem dX10_isOwn_11 : decode cX10_isOwn 11 = .ok (.iload 4, 2) := by decide +kernel
theorem dX10_isOwn_13 : decode cX10_isOwn 13 = .ok (.iaload, 1) := by decide +kernel
theorem dX10_isOwn_14 : decode cX10_isOwn 14 = .ok (.if_icmp .lt 64, 3) := by decide +kernel
theorem dX10_isOwn_17 : decode cX10_isOwn 17 = .ok (.iload_n 2, 1) := by decide +kernel
theorem dX10_isOwn_18 : decode cX10_isOwn 18 = .ok (.aload_n 0, 1) := by decide +kernel
theorem dX10_isOwn_19 : decode cX10_isOwn 19 = .ok (.getfield 7, 3) := by decide +kernel
theorem dX10_isOwn_22 : decode cX10_isOwn 22 = .ok (.iload 4, 2) := by decide +kernel
theorem dX10_isOwn_24 : decode cX10_isOwn 24 = .ok (.iaload, 1) := by decide +kernel
theorem dX10_isOwn_25 : decode cX10_isOwn 25 = .ok (.aload_n 0, 1) := by decide +kernel
theorem dX10_isOwn_26 : decode cX10_isOwn 26 = .ok (.getfield 7, 3) := by decide +kernel
theorem dX10_isOwn_29 : decode cX10_isOwn 29 = .ok (.iload 4, 2) := by decide +kernel
theorem dX10_isOwn_31 : decode cX10_isOwn 31 = .ok (.iconst 2, 1) := by decide +kernel
theorem dX10_isOwn_32 : decode cX10_isOwn 32 = .ok (.iadd, 1) := by decide +kernel
theorem dX10_isOwn_33 : decode cX10_isOwn 33 = .ok (.iaload, 1) := by decide +kernel
theorem dX10_isOwn_34 : decode cX10_isOwn 34 = .ok (.iadd, 1) := by decide +kernel
theorem dX10_isOwn_35 : decode cX10_isOwn 35 = .ok (.if_icmp .ge 43, 3) := by decide +kernel
theorem dX10_isOwn_38 : decode cX10_isOwn 38 = .ok (.iload_n 3, 1) := by decide +kernel
theorem dX10_isOwn_39 : decode cX10_isOwn 39 = .ok (.aload_n 0, 1) := by decide +kernel
theorem dX10_isOwn_40 : decode cX10_isOwn 40 = .ok (.getfield 7, 3) := by decide +kernel
theorem dX10_isOwn_43 : decode cX10_isOwn 43 = .ok (.iload 4, 2) := by decide +kernel
theorem dX10_isOwn_45 : decode cX10_isOwn 45 = .ok (.iconst 1, 1) := by decide +kernel
theorem dX10_isOwn_46 : decode cX10_isOwn 46 = .ok (.iadd, 1) := by decide +kernel
theorem dX10_isOwn_47 : decode cX10_isOwn 47 = .ok (.iaload, 1) := by decide +kernel
theorem dX10_isOwn_48 : decode cX10_isOwn 48 = .ok (.if_icmp .lt 30, 3) := by decide +kernel
theorem dX10_isOwn_51 : decode cX10_isOwn 51 = .ok (.iload_n 3, 1) := by decide +kernel
theorem dX10_isOwn_52 : decode cX10_isOwn 52 = .ok (.aload_n 0, 1) := by decide +kernel
theorem dX10_isOwn_53 : decode cX10_isOwn 53 = .ok (.getfield 7, 3) := by decide +kernel
theorem dX10_isOwn_56 : decode cX10_isOwn 56 = .ok (.iload 4, 2) := by decide +kernel
theorem dX10_isOwn_58 : decode cX10_isOwn 58 = .ok (.iconst 1, 1) := by decide +kernel
theorem dX10_isOwn_59 : decode cX10_isOwn 59 = .ok (.iadd, 1) := by decide +kernel
theorem dX10_isOwn_60 : decode cX10_isOwn 60 = .ok (.iaload, 1) := by decide +kernel
theorem dX10_isOwn_61 : decode cX10_isOwn 61 = .ok (.aload_n 0, 1) := by decide +kernel
theorem dX10_isOwn_62 : decode cX10_isOwn 62 = .ok (.getfield 7, 3) := by decide +kernel
theorem dX10_isOwn_65 : decode cX10_isOwn 65 = .ok (.iload 4, 2) := by decide +kernel
theorem dX10_isOwn_67 : decode cX10_isOwn 67 = .ok (.iconst 3, 1) := by decide +kernel
theorem dX10_isOwn_68 : decode cX10_isOwn 68 = .ok (.iadd, 1) := by decide +kernel
theorem dX10_isOwn_69 : decode cX10_isOwn 69 = .ok (.iaload, 1) := by decide +kernel
theorem dX10_isOwn_70 : decode cX10_isOwn 70 = .ok (.iadd, 1) := by decide +kernel
theorem dX10_isOwn_71 : decode cX10_isOwn 71 = .ok (.if_icmp .ge 7, 3) := by decide +kernel
theorem dX10_isOwn_74 : decode cX10_isOwn 74 = .ok (.iconst 1, 1) := by decide +kernel
theorem dX10_isOwn_75 : decode cX10_isOwn 75 = .ok (.goto 4, 3) := by decide +kernel
theorem dX10_isOwn_78 : decode cX10_isOwn 78 = .ok (.iconst 0, 1) := by decide +kernel
theorem dX10_isOwn_79 : decode cX10_isOwn 79 = .ok (.ireturn, 1) := by decide +kernel
theorem dX10_thingAt_0 : decode cX10_thingAt 0 = .ok (.bipush (-6), 2) := by decide +kernel
theorem dX10_thingAt_2 : decode cX10_thingAt 2 = .ok (.istore 4, 2) := by decide +kernel
theorem dX10_thingAt_4 : decode cX10_thingAt 4 = .ok (.iconst 0, 1) := by decide +kernel
theorem dX10_thingAt_5 : decode cX10_thingAt 5 = .ok (.istore 5, 2) := by decide +kernel
theorem dX10_thingAt_7 : decode cX10_thingAt 7 = .ok (.iload 5, 2) := by decide +kernel
theorem dX10_thingAt_9 : decode cX10_thingAt 9 = .ok (.aload_n 0, 1) := by decide +kernel
theorem dX10_thingAt_10 : decode cX10_thingAt 10 = .ok (.getfield 39, 3) := by decide +kernel
theorem dX10_thingAt_13 : decode cX10_thingAt 13 = .ok (.if_icmp .ge 66, 3) := by decide +kernel
theorem dX10_thingAt_16 : decode cX10_thingAt 16 = .ok (.aload_n 0, 1) := by decide +kernel
theorem dX10_thingAt_17 : decode cX10_thingAt 17 = .ok (.iload 5, 2) := by decide +kernel
theorem dX10_thingAt_19 : decode cX10_thingAt 19 = .ok (.iload_n 3, 1) := by decide +kernel
theorem dX10_thingAt_20 : decode cX10_thingAt 20 = .ok (.invokevirtual 53, 3) := by decide +kernel
theorem dX10_thingAt_23 : decode cX10_thingAt 23 = .ok (.ifCond .eq 50, 3) := by decide +kernel
theorem dX10_thingAt_26 : decode cX10_thingAt 26 = .ok (.aload_n 0, 1) := by decide +kernel
theorem dX10_thingAt_27 : decode cX10_thingAt 27 = .ok (.iload 5, 2) := by decide +kernel
theorem dX10_thingAt_29 : decode cX10_thingAt 29 = .ok (.iload_n 1, 1) := by decide +kernel
theorem dX10_thingAt_30 : decode cX10_thingAt 30 = .ok (.iload_n 2, 1) := by decide +kernel
theorem dX10_thingAt_31 : decode cX10_thingAt 31 = .ok (.invokevirtual 57, 3) := by decide +kernel
theorem dX10_thingAt_34 : decode cX10_thingAt 34 = .ok (.ifCond .eq 39, 3) := by decide +kernel
theorem dX10_thingAt_37 : decode cX10_thingAt 37 = .ok (.iload 4, 2) := by decide +kernel
theorem dX10_thingAt_39 : decode cX10_thingAt 39 = .ok (.ifCond .lt 30, 3) := by decide +kernel
theorem dX10_thingAt_42 : decode cX10_thingAt 42 = .ok (.aload_n 0, 1) := by decide +kernel
theorem dX10_thingAt_43 : decode cX10_thingAt 43 = .ok (.getfield 7, 3) := by decide +kernel
theorem dX10_thingAt_46 : decode cX10_thingAt 46 = .ok (.bipush 11, 2) := by decide +kernel
theorem dX10_thingAt_48 : decode cX10_thingAt 48 = .ok (.iload 5, 2) := by decide +kernel
theorem dX10_thingAt_50 : decode cX10_thingAt 50 = .ok (.imul, 1) := by decide +kernel
theorem dX10_thingAt_51 : decode cX10_thingAt 51 = .ok (.iconst 4, 1) := by decide +kernel
theorem dX10_thingAt_52 : decode cX10_thingAt 52 = .ok (.iadd, 1) := by decide +kernel
theorem dX10_thingAt_53 : decode cX10_thingAt 53 = .ok (.iaload, 1) := by decide +kernel
theorem dX10_thingAt_54 : decode cX10_thingAt 54 = .ok (.aload_n 0, 1) := by decide +kernel
theorem dX10_thingAt_55 : decode cX10_thingAt 55 = .ok (.getfield 7, 3) := by decide +kernel
theorem dX10_thingAt_58 : decode cX10_thingAt 58 = .ok (.bipush 11, 2) := by decide +kernel
theorem dX10_thingAt_60 : decode cX10_thingAt 60 = .ok (.iload 4, 2) := by decide +kernel
theorem dX10_thingAt_62 : decode cX10_thingAt 62 = .ok (.imul, 1) := by decide +kernel
theorem dX10_thingAt_63 : decode cX10_thingAt 63 = .ok (.iconst 4, 1) := by decide +kernel
theorem dX10_thingAt_64 : decode cX10_thingAt 64 = .ok (.iadd, 1) := by decide +kernel
theorem dX10_thingAt_65 : decode cX10_thingAt 65 = .ok (.iaload, 1) := by decide +kernel
theorem dX10_thingAt_66 : decode cX10_thingAt 66 = .ok (.if_icmp .le 7, 3) := by decide +kernel
theorem dX10_thingAt_69 : decode cX10_thingAt 69 = .ok (.iload 5, 2) := by decide +kernel
theorem dX10_thingAt_71 : decode cX10_thingAt 71 = .ok (.istore 4, 2) := by decide +kernel
theorem dX10_thingAt_73 : decode cX10_thingAt 73 = .ok (.iinc 5 1, 3) := by decide +kernel
theorem dX10_thingAt_76 : decode cX10_thingAt 76 = .ok (.goto (-69), 3) := by decide +kernel
theorem dX10_thingAt_79 : decode cX10_thingAt 79 = .ok (.iload 4, 2) := by decide +kernel
theorem dX10_thingAt_81 : decode cX10_thingAt 81 = .ok (.ireturn, 1) := by decide +kernel
theorem dX10_at_0 : decode cX10_at 0 = .ok (.iload_n 1, 1) := by decide +kernel
theorem dX10_at_1 : decode cX10_at 1 = .ok (.invokestatic 60, 3) := by decide +kernel
theorem dX10_at_4 : decode cX10_at 4 = .ok (.ifCond .eq 26, 3) := by decide +kernel
theorem dX10_at_7 : decode cX10_at 7 = .ok (.iload_n 2, 1) := by decide +kernel
theorem dX10_at_8 : decode cX10_at 8 = .ok (.invokestatic 46, 3) := by decide +kernel
theorem dX10_at_11 : decode cX10_at 11 = .ok (.ifCond .eq 19, 3) := by decide +kernel
theorem dX10_at_14 : decode cX10_at 14 = .ok (.aload_n 0, 1) := by decide +kernel
theorem dX10_at_15 : decode cX10_at 15 = .ok (.iload_n 1, 1) := by decide +kernel
theorem dX10_at_16 : decode cX10_at 16 = .ok (.bipush 12, 2) := by decide +kernel
theorem dX10_at_18 : decode cX10_at 18 = .ok (.irem, 1) := by decide +kernel
theorem dX10_at_19 : decode cX10_at 19 = .ok (.iload_n 1, 1) := by decide +kernel
theorem dX10_at_20 : decode cX10_at 20 = .ok (.bipush 12, 2) := by decide +kernel
theorem dX10_at_22 : decode cX10_at 22 = .ok (.idiv, 1) := by decide +kernel
theorem dX10_at_23 : decode cX10_at 23 = .ok (.iload_n 2, 1) := by decide +kernel
theorem dX10_at_24 : decode cX10_at 24 = .ok (.invokevirtual 63, 3) := by decide +kernel
theorem dX10_at_27 : decode cX10_at 27 = .ok (.goto 5, 3) := by decide +kernel
theorem dX10_at_30 : decode cX10_at 30 = .ok (.bipush (-2), 2) := by decide +kernel
theorem dX10_at_32 : decode cX10_at 32 = .ok (.ireturn, 1) := by decide +kernel
theorem dX10_picture_0 : decode cX10_picture 0 = .ok (.iload_n 1, 1) := by decide +kernel
theorem dX10_picture_1 : decode cX10_picture 1 = .ok (.iconst 0, 1) := by decide +kernel
theorem dX10_picture_2 : decode cX10_picture 2 = .ok (.bipush 11, 2) := by decide +kernel
theorem dX10_picture_4 : decode cX10_picture 4 = .ok (.invokestatic 35, 3) := by decide +kernel
theorem dX10_picture_7 : decode cX10_picture 7 = .ok (.ifCond .eq 46, 3) := by decide +kernel
theorem dX10_picture_10 : decode cX10_picture 10 = .ok (.iload_n 2, 1) := by decide +kernel
theorem dX10_picture_11 : decode cX10_picture 11 = .ok (.iconst 0, 1) := by decide +kernel
theorem dX10_picture_12 : decode cX10_picture 12 = .ok (.bipush 11, 2) := by decide +kernel
theorem dX10_picture_14 : decode cX10_picture 14 = .ok (.invokestatic 35, 3) := by decide +kernel
theorem dX10_picture_17 : decode cX10_picture 17 = .ok (.ifCond .eq 36, 3) := by decide +kernel
theorem dX10_picture_20 : decode cX10_picture 20 = .ok (.iload_n 1, 1) := by decide +kernel
theorem dX10_picture_21 : decode cX10_picture 21 = .ok (.iload_n 2, 1) := by decide +kernel
theorem dX10_picture_22 : decode cX10_picture 22 = .ok (.if_icmp .gt 31, 3) := by decide +kernel
theorem dX10_picture_25 : decode cX10_picture 25 = .ok (.iload_n 3, 1) := by decide +kernel
theorem dX10_picture_26 : decode cX10_picture 26 = .ok (.invokestatic 46, 3) := by decide +kernel
theorem dX10_picture_29 : decode cX10_picture 29 = .ok (.ifCond .eq 24, 3) := by decide +kernel
theorem dX10_picture_32 : decode cX10_picture 32 = .ok (.iload 4, 2) := by decide +kernel
theorem dX10_picture_34 : decode cX10_picture 34 = .ok (.iconst 0, 1) := by decide +kernel
theorem dX10_picture_35 : decode cX10_picture 35 = .ok (.iconst 3, 1) := by decide +kernel
theorem dX10_picture_36 : decode cX10_picture 36 = .ok (.invokestatic 35, 3) := by decide +kernel
theorem dX10_picture_39 : decode cX10_picture 39 = .ok (.ifCond .eq 14, 3) := by decide +kernel
theorem dX10_picture_42 : decode cX10_picture 42 = .ok (.iload 5, 2) := by decide +kernel
theorem dX10_picture_44 : decode cX10_picture 44 = .ok (.iconst 0, 1) := by decide +kernel
theorem dX10_picture_45 : decode cX10_picture 45 = .ok (.bipush 20, 2) := by decide +kernel
theorem dX10_picture_47 : decode cX10_picture 47 = .ok (.invokestatic 35, 3) := by decide +kernel
theorem dX10_picture_50 : decode cX10_picture 50 = .ok (.ifCond .ne 6, 3) := by decide +kernel
theorem dX10_picture_53 : decode cX10_picture 53 = .ok (.bipush (-2), 2) := by decide +kernel
theorem dX10_picture_55 : decode cX10_picture 55 = .ok (.ireturn, 1) := by decide +kernel
theorem dX10_picture_56 : decode cX10_picture 56 = .ok (.aload_n 0, 1) := by decide +kernel
theorem dX10_picture_57 : decode cX10_picture 57 = .ok (.getfield 43, 3) := by decide +kernel
theorem dX10_picture_60 : decode cX10_picture 60 = .ok (.bipush 10, 2) := by decide +kernel
theorem dX10_picture_62 : decode cX10_picture 62 = .ok (.if_icmp .ne 6, 3) := by decide +kernel
theorem dX10_picture_65 : decode cX10_picture 65 = .ok (.bipush (-4), 2) := by decide +kernel
theorem dX10_picture_67 : decode cX10_picture 67 = .ok (.ireturn, 1) := by decide +kernel
theorem dX10_picture_68 : decode cX10_picture 68 = .ok (.iconst 5, 1) := by decide +kernel
theorem dX10_picture_69 : decode cX10_picture 69 = .ok (.aload_n 0, 1) := by decide +kernel
theorem dX10_picture_70 : decode cX10_picture 70 = .ok (.getfield 43, 3) := by decide +kernel
theorem dX10_picture_73 : decode cX10_picture 73 = .ok (.imul, 1) := by decide +kernel
theorem dX10_picture_74 : decode cX10_picture 74 = .ok (.istore 6, 2) := by decide +kernel
theorem dX10_picture_76 : decode cX10_picture 76 = .ok (.aload_n 0, 1) := by decide +kernel
theorem dX10_picture_77 : decode cX10_picture 77 = .ok (.getfield 17, 3) := by decide +kernel
theorem dX10_picture_80 : decode cX10_picture 80 = .ok (.iload 6, 2) := by decide +kernel
theorem dX10_picture_82 : decode cX10_picture 82 = .ok (.iload_n 1, 1) := by decide +kernel
theorem dX10_picture_83 : decode cX10_picture 83 = .ok (.iastore, 1) := by decide +kernel
theorem dX10_picture_84 : decode cX10_picture 84 = .ok (.aload_n 0, 1) := by decide +kernel
theorem dX10_picture_85 : decode cX10_picture 85 = .ok (.getfield 17, 3) := by decide +kernel
theorem dX10_picture_88 : decode cX10_picture 88 = .ok (.iload 6, 2) := by decide +kernel
theorem dX10_picture_90 : decode cX10_picture 90 = .ok (.iconst 1, 1) := by decide +kernel
theorem dX10_picture_91 : decode cX10_picture 91 = .ok (.iadd, 1) := by decide +kernel
theorem dX10_picture_92 : decode cX10_picture 92 = .ok (.iload_n 2, 1) := by decide +kernel
theorem dX10_picture_93 : decode cX10_picture 93 = .ok (.iastore, 1) := by decide +kernel
theorem dX10_picture_94 : decode cX10_picture 94 = .ok (.aload_n 0, 1) := by decide +kernel
theorem dX10_picture_95 : decode cX10_picture 95 = .ok (.getfield 17, 3) := by decide +kernel
theorem dX10_picture_98 : decode cX10_picture 98 = .ok (.iload 6, 2) := by decide +kernel
theorem dX10_picture_100 : decode cX10_picture 100 = .ok (.iconst 2, 1) := by decide +kernel
theorem dX10_picture_101 : decode cX10_picture 101 = .ok (.iadd, 1) := by decide +kernel
theorem dX10_picture_102 : decode cX10_picture 102 = .ok (.iload_n 3, 1) := by decide +kernel
theorem dX10_picture_103 : decode cX10_picture 103 = .ok (.iastore, 1) := by decide +kernel
theorem dX10_picture_104 : decode cX10_picture 104 = .ok (.aload_n 0, 1) := by decide +kernel
theorem dX10_picture_105 : decode cX10_picture 105 = .ok (.getfield 17, 3) := by decide +kernel
theorem dX10_picture_108 : decode cX10_picture 108 = .ok (.iload 6, 2) := by decide +kernel
theorem dX10_picture_110 : decode cX10_picture 110 = .ok (.iconst 3, 1) := by decide +kernel
theorem dX10_picture_111 : decode cX10_picture 111 = .ok (.iadd, 1) := by decide +kernel
theorem dX10_picture_112 : decode cX10_picture 112 = .ok (.iload 4, 2) := by decide +kernel
theorem dX10_picture_114 : decode cX10_picture 114 = .ok (.iastore, 1) := by decide +kernel
theorem dX10_picture_115 : decode cX10_picture 115 = .ok (.aload_n 0, 1) := by decide +kernel
theorem dX10_picture_116 : decode cX10_picture 116 = .ok (.getfield 17, 3) := by decide +kernel
theorem dX10_picture_119 : decode cX10_picture 119 = .ok (.iload 6, 2) := by decide +kernel
theorem dX10_picture_121 : decode cX10_picture 121 = .ok (.iconst 4, 1) := by decide +kernel
theorem dX10_picture_122 : decode cX10_picture 122 = .ok (.iadd, 1) := by decide +kernel
theorem dX10_picture_123 : decode cX10_picture 123 = .ok (.iload 5, 2) := by decide +kernel
theorem dX10_picture_125 : decode cX10_picture 125 = .ok (.iastore, 1) := by decide +kernel
theorem dX10_picture_126 : decode cX10_picture 126 = .ok (.aload_n 0, 1) := by decide +kernel
theorem dX10_picture_127 : decode cX10_picture 127 = .ok (.dup, 1) := by decide +kernel
theorem dX10_picture_128 : decode cX10_picture 128 = .ok (.getfield 43, 3) := by decide +kernel
theorem dX10_picture_131 : decode cX10_picture 131 = .ok (.iconst 1, 1) := by decide +kernel
theorem dX10_picture_132 : decode cX10_picture 132 = .ok (.iadd, 1) := by decide +kernel
theorem dX10_picture_133 : decode cX10_picture 133 = .ok (.putfield 43, 3) := by decide +kernel
theorem dX10_picture_136 : decode cX10_picture 136 = .ok (.aload_n 0, 1) := by decide +kernel
theorem dX10_picture_137 : decode cX10_picture 137 = .ok (.getfield 43, 3) := by decide +kernel
theorem dX10_picture_140 : decode cX10_picture 140 = .ok (.iconst 1, 1) := by decide +kernel
theorem dX10_picture_141 : decode cX10_picture 141 = .ok (.isub, 1) := by decide +kernel
theorem dX10_picture_142 : decode cX10_picture 142 = .ok (.ireturn, 1) := by decide +kernel
theorem dX10_cloud_0 : decode cX10_cloud 0 = .ok (.aload_n 0, 1) := by decide +kernel
theorem dX10_cloud_1 : decode cX10_cloud 1 = .ok (.iload_n 1, 1) := by decide +kernel
theorem dX10_cloud_2 : decode cX10_cloud 2 = .ok (.invokevirtual 67, 3) := by decide +kernel
theorem dX10_cloud_5 : decode cX10_cloud 5 = .ok (.ifCond .ne 5, 3) := by decide +kernel
theorem dX10_cloud_8 : decode cX10_cloud 8 = .ok (.iconst (-1), 1) := by decide +kernel
theorem dX10_cloud_9 : decode cX10_cloud 9 = .ok (.ireturn, 1) := by decide +kernel
theorem dX10_cloud_10 : decode cX10_cloud 10 = .ok (.iload_n 2, 1) := by decide +kernel
theorem dX10_cloud_11 : decode cX10_cloud 11 = .ok (.invokestatic 60, 3) := by decide +kernel
theorem dX10_cloud_14 : decode cX10_cloud 14 = .ok (.ifCond .ne 6, 3) := by decide +kernel
theorem dX10_cloud_17 : decode cX10_cloud 17 = .ok (.bipush (-2), 2) := by decide +kernel
theorem dX10_cloud_19 : decode cX10_cloud 19 = .ok (.ireturn, 1) := by decide +kernel
theorem dX10_cloud_20 : decode cX10_cloud 20 = .ok (.aload_n 0, 1) := by decide +kernel
theorem dX10_cloud_21 : decode cX10_cloud 21 = .ok (.getfield 20, 3) := by decide +kernel
theorem dX10_cloud_24 : decode cX10_cloud 24 = .ok (.bipush 96, 2) := by decide +kernel
theorem dX10_cloud_26 : decode cX10_cloud 26 = .ok (.iload_n 1, 1) := by decide +kernel
theorem dX10_cloud_27 : decode cX10_cloud 27 = .ok (.imul, 1) := by decide +kernel
theorem dX10_cloud_28 : decode cX10_cloud 28 = .ok (.iload_n 2, 1) := by decide +kernel
theorem dX10_cloud_29 : decode cX10_cloud 29 = .ok (.iadd, 1) := by decide +kernel
theorem dX10_cloud_30 : decode cX10_cloud 30 = .ok (.baload, 1) := by decide +kernel
theorem dX10_cloud_31 : decode cX10_cloud 31 = .ok (.ifCond .eq 7, 3) := by decide +kernel
theorem dX10_cloud_34 : decode cX10_cloud 34 = .ok (.iconst 1, 1) := by decide +kernel
theorem dX10_cloud_35 : decode cX10_cloud 35 = .ok (.goto 4, 3) := by decide +kernel
theorem dX10_cloud_38 : decode cX10_cloud 38 = .ok (.iconst 0, 1) := by decide +kernel
theorem dX10_cloud_39 : decode cX10_cloud 39 = .ok (.istore 4, 2) := by decide +kernel
theorem dX10_cloud_41 : decode cX10_cloud 41 = .ok (.aload_n 0, 1) := by decide +kernel
theorem dX10_cloud_42 : decode cX10_cloud 42 = .ok (.getfield 20, 3) := by decide +kernel
theorem dX10_cloud_45 : decode cX10_cloud 45 = .ok (.bipush 96, 2) := by decide +kernel
theorem dX10_cloud_47 : decode cX10_cloud 47 = .ok (.iload_n 1, 1) := by decide +kernel
theorem dX10_cloud_48 : decode cX10_cloud 48 = .ok (.imul, 1) := by decide +kernel
theorem dX10_cloud_49 : decode cX10_cloud 49 = .ok (.iload_n 2, 1) := by decide +kernel
theorem dX10_cloud_50 : decode cX10_cloud 50 = .ok (.iadd, 1) := by decide +kernel
theorem dX10_cloud_51 : decode cX10_cloud 51 = .ok (.iload_n 3, 1) := by decide +kernel
theorem dX10_cloud_52 : decode cX10_cloud 52 = .ok (.bastore, 1) := by decide +kernel
theorem dX10_cloud_53 : decode cX10_cloud 53 = .ok (.iload 4, 2) := by decide +kernel
theorem dX10_cloud_55 : decode cX10_cloud 55 = .ok (.ireturn, 1) := by decide +kernel
theorem dX10_covers_0 : decode cX10_covers 0 = .ok (.iload_n 2, 1) := by decide +kernel
theorem dX10_covers_1 : decode cX10_covers 1 = .ok (.bipush 12, 2) := by decide +kernel
theorem dX10_covers_3 : decode cX10_covers 3 = .ok (.irem, 1) := by decide +kernel
theorem dX10_covers_4 : decode cX10_covers 4 = .ok (.aload_n 0, 1) := by decide +kernel
theorem dX10_covers_5 : decode cX10_covers 5 = .ok (.getfield 17, 3) := by decide +kernel
theorem dX10_covers_8 : decode cX10_covers 8 = .ok (.iconst 5, 1) := by decide +kernel
theorem dX10_covers_9 : decode cX10_covers 9 = .ok (.iload_n 1, 1) := by decide +kernel
theorem dX10_covers_10 : decode cX10_covers 10 = .ok (.imul, 1) := by decide +kernel
theorem dX10_covers_11 : decode cX10_covers 11 = .ok (.iaload, 1) := by decide +kernel
theorem dX10_covers_12 : decode cX10_covers 12 = .ok (.aload_n 0, 1) := by decide +kernel
theorem dX10_covers_13 : decode cX10_covers 13 = .ok (.getfield 17, 3) := by decide +kernel
theorem dX10_covers_16 : decode cX10_covers 16 = .ok (.iconst 5, 1) := by decide +kernel
theorem dX10_covers_17 : decode cX10_covers 17 = .ok (.iload_n 1, 1) := by decide +kernel
theorem dX10_covers_18 : decode cX10_covers 18 = .ok (.imul, 1) := by decide +kernel
theorem dX10_covers_19 : decode cX10_covers 19 = .ok (.iconst 1, 1) := by decide +kernel
theorem dX10_covers_20 : decode cX10_covers 20 = .ok (.iadd, 1) := by decide +kernel
theorem dX10_covers_21 : decode cX10_covers 21 = .ok (.iaload, 1) := by decide +kernel
theorem dX10_covers_22 : decode cX10_covers 22 = .ok (.invokestatic 35, 3) := by decide +kernel
theorem dX10_covers_25 : decode cX10_covers 25 = .ok (.ifCond .eq 21, 3) := by decide +kernel
theorem dX10_covers_28 : decode cX10_covers 28 = .ok (.aload_n 0, 1) := by decide +kernel
theorem dX10_covers_29 : decode cX10_covers 29 = .ok (.getfield 20, 3) := by decide +kernel
theorem dX10_covers_32 : decode cX10_covers 32 = .ok (.bipush 96, 2) := by decide +kernel
theorem dX10_covers_34 : decode cX10_covers 34 = .ok (.iload_n 1, 1) := by decide +kernel
theorem dX10_covers_35 : decode cX10_covers 35 = .ok (.imul, 1) := by decide +kernel
theorem dX10_covers_36 : decode cX10_covers 36 = .ok (.iload_n 2, 1) := by decide +kernel
theorem dX10_covers_37 : decode cX10_covers 37 = .ok (.iadd, 1) := by decide +kernel
theorem dX10_covers_38 : decode cX10_covers 38 = .ok (.baload, 1) := by decide +kernel
theorem dX10_covers_39 : decode cX10_covers 39 = .ok (.ifCond .ne 7, 3) := by decide +kernel
theorem dX10_covers_42 : decode cX10_covers 42 = .ok (.iconst 1, 1) := by decide +kernel
theorem dX10_covers_43 : decode cX10_covers 43 = .ok (.goto 4, 3) := by decide +kernel
theorem dX10_covers_46 : decode cX10_covers 46 = .ok (.iconst 0, 1) := by decide +kernel
theorem dX10_covers_47 : decode cX10_covers 47 = .ok (.ireturn, 1) := by decide +kernel
theorem dX10_showsOf_0 : decode cX10_showsOf 0 = .ok (.aload_n 0, 1) := by decide +kernel
theorem dX10_showsOf_1 : decode cX10_showsOf 1 = .ok (.iload_n 1, 1) := by decide +kernel
theorem dX10_showsOf_2 : decode cX10_showsOf 2 = .ok (.iload_n 2, 1) := by decide +kernel
theorem dX10_showsOf_3 : decode cX10_showsOf 3 = .ok (.invokevirtual 70, 3) := by decide +kernel
theorem dX10_showsOf_6 : decode cX10_showsOf 6 = .ok (.ifCond .ne 6, 3) := by decide +kernel
theorem dX10_showsOf_9 : decode cX10_showsOf 9 = .ok (.bipush (-6), 2) := by decide +kernel
theorem dX10_showsOf_11 : decode cX10_showsOf 11 = .ok (.ireturn, 1) := by decide +kernel
theorem dX10_showsOf_12 : decode cX10_showsOf 12 = .ok (.aload_n 0, 1) := by decide +kernel
theorem dX10_showsOf_13 : decode cX10_showsOf 13 = .ok (.getfield 17, 3) := by decide +kernel
theorem dX10_showsOf_16 : decode cX10_showsOf 16 = .ok (.iconst 5, 1) := by decide +kernel
theorem dX10_showsOf_17 : decode cX10_showsOf 17 = .ok (.iload_n 1, 1) := by decide +kernel
theorem dX10_showsOf_18 : decode cX10_showsOf 18 = .ok (.imul, 1) := by decide +kernel
theorem dX10_showsOf_19 : decode cX10_showsOf 19 = .ok (.iconst 2, 1) := by decide +kernel
theorem dX10_showsOf_20 : decode cX10_showsOf 20 = .ok (.iadd, 1) := by decide +kernel
theorem dX10_showsOf_21 : decode cX10_showsOf 21 = .ok (.iaload, 1) := by decide +kernel
theorem dX10_showsOf_22 : decode cX10_showsOf 22 = .ok (.istore_n 3, 1) := by decide +kernel
theorem dX10_showsOf_23 : decode cX10_showsOf 23 = .ok (.aload_n 0, 1) := by decide +kernel
theorem dX10_showsOf_24 : decode cX10_showsOf 24 = .ok (.getfield 17, 3) := by decide +kernel
theorem dX10_showsOf_27 : decode cX10_showsOf 27 = .ok (.iconst 5, 1) := by decide +kernel
theorem dX10_showsOf_28 : decode cX10_showsOf 28 = .ok (.iload_n 1, 1) := by decide +kernel
theorem dX10_showsOf_29 : decode cX10_showsOf 29 = .ok (.imul, 1) := by decide +kernel
theorem dX10_showsOf_30 : decode cX10_showsOf 30 = .ok (.iconst 3, 1) := by decide +kernel
theorem dX10_showsOf_31 : decode cX10_showsOf 31 = .ok (.iadd, 1) := by decide +kernel
theorem dX10_showsOf_32 : decode cX10_showsOf 32 = .ok (.iaload, 1) := by decide +kernel
theorem dX10_showsOf_33 : decode cX10_showsOf 33 = .ok (.istore 4, 2) := by decide +kernel
theorem dX10_showsOf_35 : decode cX10_showsOf 35 = .ok (.aload_n 0, 1) := by decide +kernel
theorem dX10_showsOf_36 : decode cX10_showsOf 36 = .ok (.getfield 17, 3) := by decide +kernel
theorem dX10_showsOf_39 : decode cX10_showsOf 39 = .ok (.iconst 5, 1) := by decide +kernel
theorem dX10_showsOf_40 : decode cX10_showsOf 40 = .ok (.iload_n 1, 1) := by decide +kernel
theorem dX10_showsOf_41 : decode cX10_showsOf 41 = .ok (.imul, 1) := by decide +kernel
theorem dX10_showsOf_42 : decode cX10_showsOf 42 = .ok (.iconst 4, 1) := by decide +kernel
theorem dX10_showsOf_43 : decode cX10_showsOf 43 = .ok (.iadd, 1) := by decide +kernel
theorem dX10_showsOf_44 : decode cX10_showsOf 44 = .ok (.iaload, 1) := by decide +kernel
theorem dX10_showsOf_45 : decode cX10_showsOf 45 = .ok (.istore 5, 2) := by decide +kernel
theorem dX10_showsOf_47 : decode cX10_showsOf 47 = .ok (.iload_n 2, 1) := by decide +kernel
theorem dX10_showsOf_48 : decode cX10_showsOf 48 = .ok (.bipush 12, 2) := by decide +kernel
theorem dX10_showsOf_50 : decode cX10_showsOf 50 = .ok (.irem, 1) := by decide +kernel
theorem dX10_showsOf_51 : decode cX10_showsOf 51 = .ok (.istore 6, 2) := by decide +kernel
theorem dX10_showsOf_53 : decode cX10_showsOf 53 = .ok (.iload_n 2, 1) := by decide +kernel
theorem dX10_showsOf_54 : decode cX10_showsOf 54 = .ok (.bipush 12, 2) := by decide +kernel
theorem dX10_showsOf_56 : decode cX10_showsOf 56 = .ok (.idiv, 1) := by decide +kernel
theorem dX10_showsOf_57 : decode cX10_showsOf 57 = .ok (.istore 7, 2) := by decide +kernel
theorem dX10_showsOf_59 : decode cX10_showsOf 59 = .ok (.aload_n 0, 1) := by decide +kernel
theorem dX10_showsOf_60 : decode cX10_showsOf 60 = .ok (.iload 6, 2) := by decide +kernel
theorem dX10_showsOf_62 : decode cX10_showsOf 62 = .ok (.iload 7, 2) := by decide +kernel
theorem dX10_showsOf_64 : decode cX10_showsOf 64 = .ok (.iload_n 3, 1) := by decide +kernel
theorem dX10_showsOf_65 : decode cX10_showsOf 65 = .ok (.invokevirtual 63, 3) := by decide +kernel
theorem dX10_showsOf_68 : decode cX10_showsOf 68 = .ok (.istore 8, 2) := by decide +kernel
theorem dX10_showsOf_70 : decode cX10_showsOf 70 = .ok (.iload 8, 2) := by decide +kernel
theorem dX10_showsOf_72 : decode cX10_showsOf 72 = .ok (.ifCond .lt 35, 3) := by decide +kernel
theorem dX10_showsOf_75 : decode cX10_showsOf 75 = .ok (.aload_n 0, 1) := by decide +kernel
theorem dX10_showsOf_76 : decode cX10_showsOf 76 = .ok (.getfield 7, 3) := by decide +kernel
theorem dX10_showsOf_79 : decode cX10_showsOf 79 = .ok (.bipush 11, 2) := by decide +kernel
theorem dX10_showsOf_81 : decode cX10_showsOf 81 = .ok (.iload 8, 2) := by decide +kernel
theorem dX10_showsOf_83 : decode cX10_showsOf 83 = .ok (.imul, 1) := by decide +kernel
theorem dX10_showsOf_84 : decode cX10_showsOf 84 = .ok (.bipush 9, 2) := by decide +kernel
theorem dX10_showsOf_86 : decode cX10_showsOf 86 = .ok (.iadd, 1) := by decide +kernel
theorem dX10_showsOf_87 : decode cX10_showsOf 87 = .ok (.iaload, 1) := by decide +kernel
theorem dX10_showsOf_88 : decode cX10_showsOf 88 = .ok (.ifCond .ne 19, 3) := by decide +kernel
theorem dX10_showsOf_91 : decode cX10_showsOf 91 = .ok (.bipush 10, 2) := by decide +kernel
theorem dX10_showsOf_93 : decode cX10_showsOf 93 = .ok (.aload_n 0, 1) := by decide +kernel
theorem dX10_showsOf_94 : decode cX10_showsOf 94 = .ok (.getfield 7, 3) := by decide +kernel
theorem dX10_showsOf_97 : decode cX10_showsOf 97 = .ok (.bipush 11, 2) := by decide +kernel
theorem dX10_showsOf_99 : decode cX10_showsOf 99 = .ok (.iload 8, 2) := by decide +kernel
theorem dX10_showsOf_101 : decode cX10_showsOf 101 = .ok (.imul, 1) := by decide +kernel
theorem dX10_showsOf_102 : decode cX10_showsOf 102 = .ok (.iconst 5, 1) := by decide +kernel
theorem dX10_showsOf_103 : decode cX10_showsOf 103 = .ok (.iadd, 1) := by decide +kernel
theorem dX10_showsOf_104 : decode cX10_showsOf 104 = .ok (.iaload, 1) := by decide +kernel
theorem dX10_showsOf_105 : decode cX10_showsOf 105 = .ok (.iadd, 1) := by decide +kernel
theorem dX10_showsOf_106 : decode cX10_showsOf 106 = .ok (.ireturn, 1) := by decide +kernel
theorem dX10_showsOf_107 : decode cX10_showsOf 107 = .ok (.iload 4, 2) := by decide +kernel
theorem dX10_showsOf_109 : decode cX10_showsOf 109 = .ok (.iconst 1, 1) := by decide +kernel
theorem dX10_showsOf_110 : decode cX10_showsOf 110 = .ok (.if_icmp .ne 7, 3) := by decide +kernel
theorem dX10_showsOf_113 : decode cX10_showsOf 113 = .ok (.iconst (-1), 1) := by decide +kernel
theorem dX10_showsOf_114 : decode cX10_showsOf 114 = .ok (.goto 14, 3) := by decide +kernel
theorem dX10_showsOf_117 : decode cX10_showsOf 117 = .ok (.iload 4, 2) := by decide +kernel
theorem dX10_showsOf_119 : decode cX10_showsOf 119 = .ok (.iconst 3, 1) := by decide +kernel
theorem dX10_showsOf_120 : decode cX10_showsOf 120 = .ok (.if_icmp .ne 7, 3) := by decide +kernel
theorem dX10_showsOf_123 : decode cX10_showsOf 123 = .ok (.iconst 1, 1) := by decide +kernel
theorem dX10_showsOf_124 : decode cX10_showsOf 124 = .ok (.goto 4, 3) := by decide +kernel
theorem dX10_showsOf_127 : decode cX10_showsOf 127 = .ok (.iconst 0, 1) := by decide +kernel
theorem dX10_showsOf_128 : decode cX10_showsOf 128 = .ok (.istore 9, 2) := by decide +kernel
theorem dX10_showsOf_130 : decode cX10_showsOf 130 = .ok (.iload 4, 2) := by decide +kernel
theorem dX10_showsOf_132 : decode cX10_showsOf 132 = .ok (.ifCond .ne 7, 3) := by decide +kernel
theorem dX10_showsOf_135 : decode cX10_showsOf 135 = .ok (.iconst 1, 1) := by decide +kernel
theorem dX10_showsOf_136 : decode cX10_showsOf 136 = .ok (.goto 14, 3) := by decide +kernel
theorem dX10_showsOf_139 : decode cX10_showsOf 139 = .ok (.iload 4, 2) := by decide +kernel
theorem dX10_showsOf_141 : decode cX10_showsOf 141 = .ok (.iconst 2, 1) := by decide +kernel
theorem dX10_showsOf_142 : decode cX10_showsOf 142 = .ok (.if_icmp .ne 7, 3) := by decide +kernel
theorem dX10_showsOf_145 : decode cX10_showsOf 145 = .ok (.iconst (-1), 1) := by decide +kernel
theorem dX10_showsOf_146 : decode cX10_showsOf 146 = .ok (.goto 4, 3) := by decide +kernel
theorem dX10_showsOf_149 : decode cX10_showsOf 149 = .ok (.iconst 0, 1) := by decide +kernel
theorem dX10_showsOf_150 : decode cX10_showsOf 150 = .ok (.istore 10, 2) := by decide +kernel
theorem dX10_showsOf_152 : decode cX10_showsOf 152 = .ok (.iconst 1, 1) := by decide +kernel
theorem dX10_showsOf_153 : decode cX10_showsOf 153 = .ok (.istore 11, 2) := by decide +kernel
theorem dX10_showsOf_155 : decode cX10_showsOf 155 = .ok (.iload 11, 2) := by decide +kernel
theorem dX10_showsOf_157 : decode cX10_showsOf 157 = .ok (.bipush 12, 2) := by decide +kernel
theorem dX10_showsOf_159 : decode cX10_showsOf 159 = .ok (.if_icmp .ge 97, 3) := by decide +kernel
theorem dX10_showsOf_162 : decode cX10_showsOf 162 = .ok (.iload 6, 2) := by decide +kernel
theorem dX10_showsOf_164 : decode cX10_showsOf 164 = .ok (.iload 11, 2) := by decide +kernel
theorem dX10_showsOf_166 : decode cX10_showsOf 166 = .ok (.iload 9, 2) := by decide +kernel
theorem dX10_showsOf_168 : decode cX10_showsOf 168 = .ok (.imul, 1) := by decide +kernel
theorem dX10_showsOf_169 : decode cX10_showsOf 169 = .ok (.iadd, 1) := by decide +kernel
theorem dX10_showsOf_170 : decode cX10_showsOf 170 = .ok (.istore 12, 2) := by decide +kernel
theorem dX10_showsOf_172 : decode cX10_showsOf 172 = .ok (.iload 7, 2) := by decide +kernel
theorem dX10_showsOf_174 : decode cX10_showsOf 174 = .ok (.iload 11, 2) := by decide +kernel
theorem dX10_showsOf_176 : decode cX10_showsOf 176 = .ok (.iload 10, 2) := by decide +kernel
theorem dX10_showsOf_178 : decode cX10_showsOf 178 = .ok (.imul, 1) := by decide +kernel
theorem dX10_showsOf_179 : decode cX10_showsOf 179 = .ok (.iadd, 1) := by decide +kernel
theorem dX10_showsOf_180 : decode cX10_showsOf 180 = .ok (.istore 13, 2) := by decide +kernel
theorem dX10_showsOf_182 : decode cX10_showsOf 182 = .ok (.iload 12, 2) := by decide +kernel
theorem dX10_showsOf_184 : decode cX10_showsOf 184 = .ok (.iconst 0, 1) := by decide +kernel
theorem dX10_showsOf_185 : decode cX10_showsOf 185 = .ok (.bipush 11, 2) := by decide +kernel
theorem dX10_showsOf_187 : decode cX10_showsOf 187 = .ok (.invokestatic 35, 3) := by decide +kernel
theorem dX10_showsOf_190 : decode cX10_showsOf 190 = .ok (.ifCond .eq 26, 3) := by decide +kernel
theorem dX10_showsOf_193 : decode cX10_showsOf 193 = .ok (.iload 13, 2) := by decide +kernel
theorem dX10_showsOf_195 : decode cX10_showsOf 195 = .ok (.iconst 0, 1) := by decide +kernel
theorem dX10_showsOf_196 : decode cX10_showsOf 196 = .ok (.bipush 7, 2) := by decide +kernel
theorem dX10_showsOf_198 : decode cX10_showsOf 198 = .ok (.invokestatic 35, 3) := by decide +kernel
theorem dX10_showsOf_201 : decode cX10_showsOf 201 = .ok (.ifCond .eq 15, 3) := by decide +kernel
theorem dX10_showsOf_204 : decode cX10_showsOf 204 = .ok (.aload_n 0, 1) := by decide +kernel
theorem dX10_showsOf_205 : decode cX10_showsOf 205 = .ok (.iload 12, 2) := by decide +kernel
theorem dX10_showsOf_207 : decode cX10_showsOf 207 = .ok (.iload 13, 2) := by decide +kernel
theorem dX10_showsOf_209 : decode cX10_showsOf 209 = .ok (.iload_n 3, 1) := by decide +kernel
theorem dX10_showsOf_210 : decode cX10_showsOf 210 = .ok (.invokevirtual 63, 3) := by decide +kernel
theorem dX10_showsOf_213 : decode cX10_showsOf 213 = .ok (.goto 5, 3) := by decide +kernel
theorem dX10_showsOf_216 : decode cX10_showsOf 216 = .ok (.bipush (-6), 2) := by decide +kernel
theorem dX10_showsOf_218 : decode cX10_showsOf 218 = .ok (.istore 14, 2) := by decide +kernel
theorem dX10_showsOf_220 : decode cX10_showsOf 220 = .ok (.iload 14, 2) := by decide +kernel
theorem dX10_showsOf_222 : decode cX10_showsOf 222 = .ok (.ifCond .lt 28, 3) := by decide +kernel
theorem dX10_showsOf_225 : decode cX10_showsOf 225 = .ok (.aload_n 0, 1) := by decide +kernel
theorem dX10_showsOf_226 : decode cX10_showsOf 226 = .ok (.getfield 7, 3) := by decide +kernel
theorem dX10_showsOf_229 : decode cX10_showsOf 229 = .ok (.bipush 11, 2) := by decide +kernel
theorem dX10_showsOf_231 : decode cX10_showsOf 231 = .ok (.iload 14, 2) := by decide +kernel
theorem dX10_showsOf_233 : decode cX10_showsOf 233 = .ok (.imul, 1) := by decide +kernel
theorem dX10_showsOf_234 : decode cX10_showsOf 234 = .ok (.iconst 4, 1) := by decide +kernel
theorem dX10_showsOf_235 : decode cX10_showsOf 235 = .ok (.iadd, 1) := by decide +kernel
theorem dX10_showsOf_236 : decode cX10_showsOf 236 = .ok (.iaload, 1) := by decide +kernel
theorem dX10_showsOf_237 : decode cX10_showsOf 237 = .ok (.iload 5, 2) := by decide +kernel
theorem dX10_showsOf_239 : decode cX10_showsOf 239 = .ok (.imul, 1) := by decide +kernel
theorem dX10_showsOf_240 : decode cX10_showsOf 240 = .ok (.bipush 10, 2) := by decide +kernel
theorem dX10_showsOf_242 : decode cX10_showsOf 242 = .ok (.idiv, 1) := by decide +kernel
theorem dX10_showsOf_243 : decode cX10_showsOf 243 = .ok (.iload 11, 2) := by decide +kernel
theorem dX10_showsOf_245 : decode cX10_showsOf 245 = .ok (.if_icmp .lt 5, 3) := by decide +kernel
theorem dX10_showsOf_248 : decode cX10_showsOf 248 = .ok (.iconst 1, 1) := by decide +kernel
theorem dX10_showsOf_249 : decode cX10_showsOf 249 = .ok (.ireturn, 1) := by decide +kernel
theorem dX10_showsOf_250 : decode cX10_showsOf 250 = .ok (.iinc 11 1, 3) := by decide +kernel
theorem dX10_showsOf_253 : decode cX10_showsOf 253 = .ok (.goto (-98), 3) := by decide +kernel
theorem dX10_showsOf_256 : decode cX10_showsOf 256 = .ok (.iconst 0, 1) := by decide +kernel
theorem dX10_showsOf_257 : decode cX10_showsOf 257 = .ok (.ireturn, 1) := by decide +kernel
theorem dX10_shows_0 : decode cX10_shows 0 = .ok (.aload_n 0, 1) := by decide +kernel
theorem dX10_shows_1 : decode cX10_shows 1 = .ok (.iload_n 1, 1) := by decide +kernel
theorem dX10_shows_2 : decode cX10_shows 2 = .ok (.invokevirtual 67, 3) := by decide +kernel
theorem dX10_shows_5 : decode cX10_shows 5 = .ok (.ifCond .ne 5, 3) := by decide +kernel
theorem dX10_shows_8 : decode cX10_shows 8 = .ok (.iconst (-1), 1) := by decide +kernel
theorem dX10_shows_9 : decode cX10_shows 9 = .ok (.ireturn, 1) := by decide +kernel
theorem dX10_shows_10 : decode cX10_shows 10 = .ok (.iload_n 2, 1) := by decide +kernel
theorem dX10_shows_11 : decode cX10_shows 11 = .ok (.invokestatic 60, 3) := by decide +kernel
theorem dX10_shows_14 : decode cX10_shows 14 = .ok (.ifCond .eq 12, 3) := by decide +kernel
theorem dX10_shows_17 : decode cX10_shows 17 = .ok (.aload_n 0, 1) := by decide +kernel
theorem dX10_shows_18 : decode cX10_shows 18 = .ok (.iload_n 1, 1) := by decide +kernel
theorem dX10_shows_19 : decode cX10_shows 19 = .ok (.iload_n 2, 1) := by decide +kernel
theorem dX10_shows_20 : decode cX10_shows 20 = .ok (.invokevirtual 73, 3) := by decide +kernel
theorem dX10_shows_23 : decode cX10_shows 23 = .ok (.goto 5, 3) := by decide +kernel
theorem dX10_shows_26 : decode cX10_shows 26 = .ok (.bipush (-2), 2) := by decide +kernel
theorem dX10_shows_28 : decode cX10_shows 28 = .ok (.ireturn, 1) := by decide +kernel
theorem dX10_count_0 : decode cX10_count 0 = .ok (.aload_n 0, 1) := by decide +kernel
theorem dX10_count_1 : decode cX10_count 1 = .ok (.iload_n 1, 1) := by decide +kernel
theorem dX10_count_2 : decode cX10_count 2 = .ok (.invokevirtual 67, 3) := by decide +kernel
theorem dX10_count_5 : decode cX10_count 5 = .ok (.ifCond .ne 5, 3) := by decide +kernel
theorem dX10_count_8 : decode cX10_count 8 = .ok (.iconst (-1), 1) := by decide +kernel
theorem dX10_count_9 : decode cX10_count 9 = .ok (.ireturn, 1) := by decide +kernel
theorem dX10_count_10 : decode cX10_count 10 = .ok (.iload_n 2, 1) := by decide +kernel
theorem dX10_count_11 : decode cX10_count 11 = .ok (.iconst 0, 1) := by decide +kernel
theorem dX10_count_12 : decode cX10_count 12 = .ok (.iconst 3, 1) := by decide +kernel
theorem dX10_count_13 : decode cX10_count 13 = .ok (.invokestatic 35, 3) := by decide +kernel
theorem dX10_count_16 : decode cX10_count 16 = .ok (.ifCond .ne 6, 3) := by decide +kernel
theorem dX10_count_19 : decode cX10_count 19 = .ok (.bipush (-2), 2) := by decide +kernel
theorem dX10_count_21 : decode cX10_count 21 = .ok (.ireturn, 1) := by decide +kernel
theorem dX10_count_22 : decode cX10_count 22 = .ok (.iconst 0, 1) := by decide +kernel
theorem dX10_count_23 : decode cX10_count 23 = .ok (.istore_n 3, 1) := by decide +kernel
theorem dX10_count_24 : decode cX10_count 24 = .ok (.iconst 0, 1) := by decide +kernel
theorem dX10_count_25 : decode cX10_count 25 = .ok (.istore 4, 2) := by decide +kernel
theorem dX10_count_27 : decode cX10_count 27 = .ok (.iload 4, 2) := by decide +kernel
theorem dX10_count_29 : decode cX10_count 29 = .ok (.bipush 96, 2) := by decide +kernel
theorem dX10_count_31 : decode cX10_count 31 = .ok (.if_icmp .ge 63, 3) := by decide +kernel
theorem dX10_count_34 : decode cX10_count 34 = .ok (.aload_n 0, 1) := by decide +kernel
theorem dX10_count_35 : decode cX10_count 35 = .ok (.iload_n 1, 1) := by decide +kernel
theorem dX10_count_36 : decode cX10_count 36 = .ok (.iload 4, 2) := by decide +kernel
theorem dX10_count_38 : decode cX10_count 38 = .ok (.invokevirtual 73, 3) := by decide +kernel
theorem dX10_count_41 : decode cX10_count 41 = .ok (.istore 5, 2) := by decide +kernel
theorem dX10_count_43 : decode cX10_count 43 = .ok (.iload 5, 2) := by decide +kernel
theorem dX10_count_45 : decode cX10_count 45 = .ok (.ifCond .ge 7, 3) := by decide +kernel
theorem dX10_count_48 : decode cX10_count 48 = .ok (.iconst 0, 1) := by decide +kernel
theorem dX10_count_49 : decode cX10_count 49 = .ok (.goto 23, 3) := by decide +kernel
theorem dX10_count_52 : decode cX10_count 52 = .ok (.iload 5, 2) := by decide +kernel
theorem dX10_count_54 : decode cX10_count 54 = .ok (.ifCond .ne 7, 3) := by decide +kernel
theorem dX10_count_57 : decode cX10_count 57 = .ok (.iconst 1, 1) := by decide +kernel
theorem dX10_count_58 : decode cX10_count 58 = .ok (.goto 14, 3) := by decide +kernel
theorem dX10_count_61 : decode cX10_count 61 = .ok (.iload 5, 2) := by decide +kernel
theorem dX10_count_63 : decode cX10_count 63 = .ok (.iconst 1, 1) := by decide +kernel
theorem dX10_count_64 : decode cX10_count 64 = .ok (.if_icmp .ne 7, 3) := by decide +kernel
theorem dX10_count_67 : decode cX10_count 67 = .ok (.iconst 2, 1) := by decide +kernel
theorem dX10_count_68 : decode cX10_count 68 = .ok (.goto 4, 3) := by decide +kernel
theorem dX10_count_71 : decode cX10_count 71 = .ok (.iconst 3, 1) := by decide +kernel
theorem dX10_count_72 : decode cX10_count 72 = .ok (.istore 6, 2) := by decide +kernel
theorem dX10_count_74 : decode cX10_count 74 = .ok (.iload_n 3, 1) := by decide +kernel
theorem dX10_count_75 : decode cX10_count 75 = .ok (.iload 6, 2) := by decide +kernel
theorem dX10_count_77 : decode cX10_count 77 = .ok (.iload_n 2, 1) := by decide +kernel
theorem dX10_count_78 : decode cX10_count 78 = .ok (.if_icmp .ne 7, 3) := by decide +kernel
theorem dX10_count_81 : decode cX10_count 81 = .ok (.iconst 1, 1) := by decide +kernel
theorem dX10_count_82 : decode cX10_count 82 = .ok (.goto 4, 3) := by decide +kernel
theorem dX10_count_85 : decode cX10_count 85 = .ok (.iconst 0, 1) := by decide +kernel
theorem dX10_count_86 : decode cX10_count 86 = .ok (.iadd, 1) := by decide +kernel
theorem dX10_count_87 : decode cX10_count 87 = .ok (.istore_n 3, 1) := by decide +kernel
theorem dX10_count_88 : decode cX10_count 88 = .ok (.iinc 4 1, 3) := by decide +kernel
theorem dX10_count_91 : decode cX10_count 91 = .ok (.goto (-64), 3) := by decide +kernel
theorem dX10_count_94 : decode cX10_count 94 = .ok (.iload_n 3, 1) := by decide +kernel
theorem dX10_count_95 : decode cX10_count 95 = .ok (.ireturn, 1) := by decide +kernel
theorem dX10_span_0 : decode cX10_span 0 = .ok (.aload_n 0, 1) := by decide +kernel
theorem dX10_span_1 : decode cX10_span 1 = .ok (.iload_n 1, 1) := by decide +kernel
theorem dX10_span_2 : decode cX10_span 2 = .ok (.invokevirtual 67, 3) := by decide +kernel
theorem dX10_span_5 : decode cX10_span 5 = .ok (.ifCond .ne 5, 3) := by decide +kernel
theorem dX10_span_8 : decode cX10_span 8 = .ok (.iconst (-1), 1) := by decide +kernel
theorem dX10_span_9 : decode cX10_span 9 = .ok (.ireturn, 1) := by decide +kernel
theorem dX10_span_10 : decode cX10_span 10 = .ok (.iload_n 2, 1) := by decide +kernel
theorem dX10_span_11 : decode cX10_span 11 = .ok (.iconst 0, 1) := by decide +kernel
theorem dX10_span_12 : decode cX10_span 12 = .ok (.bipush 11, 2) := by decide +kernel
theorem dX10_span_14 : decode cX10_span 14 = .ok (.invokestatic 35, 3) := by decide +kernel
theorem dX10_span_17 : decode cX10_span 17 = .ok (.ifCond .eq 10, 3) := by decide +kernel
theorem dX10_span_20 : decode cX10_span 20 = .ok (.iload_n 3, 1) := by decide +kernel
theorem dX10_span_21 : decode cX10_span 21 = .ok (.invokestatic 77, 3) := by decide +kernel
theorem dX10_span_24 : decode cX10_span 24 = .ok (.ifCond .ne 6, 3) := by decide +kernel
theorem dX10_span_27 : decode cX10_span 27 = .ok (.bipush (-2), 2) := by decide +kernel
theorem dX10_span_29 : decode cX10_span 29 = .ok (.ireturn, 1) := by decide +kernel
theorem dX10_span_30 : decode cX10_span 30 = .ok (.bipush (-6), 2) := by decide +kernel
theorem dX10_span_32 : decode cX10_span 32 = .ok (.istore 4, 2) := by decide +kernel
theorem dX10_span_34 : decode cX10_span 34 = .ok (.iconst 1, 1) := by decide +kernel
theorem dX10_span_35 : decode cX10_span 35 = .ok (.istore 5, 2) := by decide +kernel
theorem dX10_span_37 : decode cX10_span 37 = .ok (.iload 5, 2) := by decide +kernel
theorem dX10_span_39 : decode cX10_span 39 = .ok (.bipush 21, 2) := by decide +kernel
theorem dX10_span_41 : decode cX10_span 41 = .ok (.if_icmp .ge 60, 3) := by decide +kernel
theorem dX10_span_44 : decode cX10_span 44 = .ok (.iload 5, 2) := by decide +kernel
theorem dX10_span_46 : decode cX10_span 46 = .ok (.aload_n 0, 1) := by decide +kernel
theorem dX10_span_47 : decode cX10_span 47 = .ok (.getfield 17, 3) := by decide +kernel
theorem dX10_span_50 : decode cX10_span 50 = .ok (.iconst 5, 1) := by decide +kernel
theorem dX10_span_51 : decode cX10_span 51 = .ok (.iload_n 1, 1) := by decide +kernel
theorem dX10_span_52 : decode cX10_span 52 = .ok (.imul, 1) := by decide +kernel
theorem dX10_span_53 : decode cX10_span 53 = .ok (.iconst 4, 1) := by decide +kernel
theorem dX10_span_54 : decode cX10_span 54 = .ok (.iadd, 1) := by decide +kernel
theorem dX10_span_55 : decode cX10_span 55 = .ok (.iaload, 1) := by decide +kernel
theorem dX10_span_56 : decode cX10_span 56 = .ok (.imul, 1) := by decide +kernel
theorem dX10_span_57 : decode cX10_span 57 = .ok (.bipush 10, 2) := by decide +kernel
theorem dX10_span_59 : decode cX10_span 59 = .ok (.idiv, 1) := by decide +kernel
theorem dX10_span_60 : decode cX10_span 60 = .ok (.iload_n 2, 1) := by decide +kernel
theorem dX10_span_61 : decode cX10_span 61 = .ok (.if_icmp .ne 7, 3) := by decide +kernel
theorem dX10_span_64 : decode cX10_span 64 = .ok (.iconst 1, 1) := by decide +kernel
theorem dX10_span_65 : decode cX10_span 65 = .ok (.goto 4, 3) := by decide +kernel
theorem dX10_span_68 : decode cX10_span 68 = .ok (.iconst 0, 1) := by decide +kernel
theorem dX10_span_69 : decode cX10_span 69 = .ok (.istore 6, 2) := by decide +kernel
theorem dX10_span_71 : decode cX10_span 71 = .ok (.iload 6, 2) := by decide +kernel
theorem dX10_span_73 : decode cX10_span 73 = .ok (.ifCond .eq 18, 3) := by decide +kernel
theorem dX10_span_76 : decode cX10_span 76 = .ok (.iload 4, 2) := by decide +kernel
theorem dX10_span_78 : decode cX10_span 78 = .ok (.ifCond .lt 8, 3) := by decide +kernel
theorem dX10_span_81 : decode cX10_span 81 = .ok (.iload_n 3, 1) := by decide +kernel
theorem dX10_span_82 : decode cX10_span 82 = .ok (.iconst 1, 1) := by decide +kernel
theorem dX10_span_83 : decode cX10_span 83 = .ok (.if_icmp .ne 8, 3) := by decide +kernel
theorem dX10_span_86 : decode cX10_span 86 = .ok (.iload 5, 2) := by decide +kernel
theorem dX10_span_88 : decode cX10_span 88 = .ok (.goto 5, 3) := by decide +kernel
theorem dX10_span_91 : decode cX10_span 91 = .ok (.iload 4, 2) := by decide +kernel
theorem dX10_span_93 : decode cX10_span 93 = .ok (.istore 4, 2) := by decide +kernel
theorem dX10_span_95 : decode cX10_span 95 = .ok (.iinc 5 1, 3) := by decide +kernel
theorem dX10_span_98 : decode cX10_span 98 = .ok (.goto (-61), 3) := by decide +kernel
theorem dX10_span_101 : decode cX10_span 101 = .ok (.iload 4, 2) := by decide +kernel
theorem dX10_span_103 : decode cX10_span 103 = .ok (.ireturn, 1) := by decide +kernel
theorem dX10_changed_0 : decode cX10_changed 0 = .ok (.aload_n 0, 1) := by decide +kernel
theorem dX10_changed_1 : decode cX10_changed 1 = .ok (.iload_n 1, 1) := by decide +kernel
theorem dX10_changed_2 : decode cX10_changed 2 = .ok (.invokevirtual 67, 3) := by decide +kernel
theorem dX10_changed_5 : decode cX10_changed 5 = .ok (.ifCond .eq 16, 3) := by decide +kernel
theorem dX10_changed_8 : decode cX10_changed 8 = .ok (.aload_n 0, 1) := by decide +kernel
theorem dX10_changed_9 : decode cX10_changed 9 = .ok (.iload_n 2, 1) := by decide +kernel
theorem dX10_changed_10 : decode cX10_changed 10 = .ok (.invokevirtual 67, 3) := by decide +kernel
theorem dX10_changed_13 : decode cX10_changed 13 = .ok (.ifCond .eq 8, 3) := by decide +kernel
theorem dX10_changed_16 : decode cX10_changed 16 = .ok (.iload_n 1, 1) := by decide +kernel
theorem dX10_changed_17 : decode cX10_changed 17 = .ok (.iload_n 2, 1) := by decide +kernel
theorem dX10_changed_18 : decode cX10_changed 18 = .ok (.if_icmp .ne 5, 3) := by decide +kernel
theorem dX10_changed_21 : decode cX10_changed 21 = .ok (.iconst (-1), 1) := by decide +kernel
theorem dX10_changed_22 : decode cX10_changed 22 = .ok (.ireturn, 1) := by decide +kernel
theorem dX10_changed_23 : decode cX10_changed 23 = .ok (.iload_n 3, 1) := by decide +kernel
theorem dX10_changed_24 : decode cX10_changed 24 = .ok (.iconst 0, 1) := by decide +kernel
theorem dX10_changed_25 : decode cX10_changed 25 = .ok (.iconst 2, 1) := by decide +kernel
theorem dX10_changed_26 : decode cX10_changed 26 = .ok (.invokestatic 35, 3) := by decide +kernel
theorem dX10_changed_29 : decode cX10_changed 29 = .ok (.ifCond .ne 6, 3) := by decide +kernel
theorem dX10_changed_32 : decode cX10_changed 32 = .ok (.bipush (-2), 2) := by decide +kernel
theorem dX10_changed_34 : decode cX10_changed 34 = .ok (.ireturn, 1) := by decide +kernel
theorem dX10_changed_35 : decode cX10_changed 35 = .ok (.iconst 0, 1) := by decide +kernel
theorem dX10_changed_36 : decode cX10_changed 36 = .ok (.istore 4, 2) := by decide +kernel
theorem dX10_changed_38 : decode cX10_changed 38 = .ok (.iconst 0, 1) := by decide +kernel
theorem dX10_changed_39 : decode cX10_changed 39 = .ok (.istore 5, 2) := by decide +kernel
theorem dX10_changed_41 : decode cX10_changed 41 = .ok (.bipush (-6), 2) := by decide +kernel
theorem dX10_changed_43 : decode cX10_changed 43 = .ok (.istore 6, 2) := by decide +kernel
theorem dX10_changed_45 : decode cX10_changed 45 = .ok (.iconst 0, 1) := by decide +kernel
theorem dX10_changed_46 : decode cX10_changed 46 = .ok (.istore 7, 2) := by decide +kernel
theorem dX10_changed_48 : decode cX10_changed 48 = .ok (.iload 7, 2) := by decide +kernel
theorem dX10_changed_50 : decode cX10_changed 50 = .ok (.bipush 96, 2) := by decide +kernel
theorem dX10_changed_52 : decode cX10_changed 52 = .ok (.if_icmp .ge 83, 3) := by decide +kernel
theorem dX10_changed_55 : decode cX10_changed 55 = .ok (.aload_n 0, 1) := by decide +kernel
theorem dX10_changed_56 : decode cX10_changed 56 = .ok (.iload_n 1, 1) := by decide +kernel
theorem dX10_changed_57 : decode cX10_changed 57 = .ok (.iload 7, 2) := by decide +kernel
theorem dX10_changed_59 : decode cX10_changed 59 = .ok (.invokevirtual 73, 3) := by decide +kernel
theorem dX10_changed_62 : decode cX10_changed 62 = .ok (.istore 8, 2) := by decide +kernel
theorem dX10_changed_64 : decode cX10_changed 64 = .ok (.aload_n 0, 1) := by decide +kernel
theorem dX10_changed_65 : decode cX10_changed 65 = .ok (.iload_n 2, 1) := by decide +kernel
theorem dX10_changed_66 : decode cX10_changed 66 = .ok (.iload 7, 2) := by decide +kernel
theorem dX10_changed_68 : decode cX10_changed 68 = .ok (.invokevirtual 73, 3) := by decide +kernel
theorem dX10_changed_71 : decode cX10_changed 71 = .ok (.istore 9, 2) := by decide +kernel
theorem dX10_changed_73 : decode cX10_changed 73 = .ok (.iload 8, 2) := by decide +kernel
theorem dX10_changed_75 : decode cX10_changed 75 = .ok (.ifCond .lt 54, 3) := by decide +kernel
theorem dX10_changed_78 : decode cX10_changed 78 = .ok (.iload 9, 2) := by decide +kernel
theorem dX10_changed_80 : decode cX10_changed 80 = .ok (.ifCond .lt 49, 3) := by decide +kernel
theorem dX10_changed_83 : decode cX10_changed 83 = .ok (.iload 8, 2) := by decide +kernel
theorem dX10_changed_85 : decode cX10_changed 85 = .ok (.iload 9, 2) := by decide +kernel
theorem dX10_changed_87 : decode cX10_changed 87 = .ok (.if_icmp .eq 42, 3) := by decide +kernel
theorem dX10_changed_90 : decode cX10_changed 90 = .ok (.iinc 4 1, 3) := by decide +kernel
theorem dX10_changed_93 : decode cX10_changed 93 = .ok (.iload 5, 2) := by decide +kernel
theorem dX10_changed_95 : decode cX10_changed 95 = .ok (.iload 8, 2) := by decide +kernel
theorem dX10_changed_97 : decode cX10_changed 97 = .ok (.iconst 2, 1) := by decide +kernel
theorem dX10_changed_98 : decode cX10_changed 98 = .ok (.if_icmp .ge 13, 3) := by decide +kernel
theorem dX10_changed_101 : decode cX10_changed 101 = .ok (.iload 9, 2) := by decide +kernel
theorem dX10_changed_103 : decode cX10_changed 103 = .ok (.iconst 2, 1) := by decide +kernel
theorem dX10_changed_104 : decode cX10_changed 104 = .ok (.if_icmp .ge 7, 3) := by decide +kernel
theorem dX10_changed_107 : decode cX10_changed 107 = .ok (.iconst 1, 1) := by decide +kernel
theorem dX10_changed_108 : decode cX10_changed 108 = .ok (.goto 4, 3) := by decide +kernel
theorem dX10_changed_111 : decode cX10_changed 111 = .ok (.iconst 0, 1) := by decide +kernel
theorem dX10_changed_112 : decode cX10_changed 112 = .ok (.iadd, 1) := by decide +kernel
theorem dX10_changed_113 : decode cX10_changed 113 = .ok (.istore 5, 2) := by decide +kernel
theorem dX10_changed_115 : decode cX10_changed 115 = .ok (.iload 6, 2) := by decide +kernel
theorem dX10_changed_117 : decode cX10_changed 117 = .ok (.ifCond .ge 8, 3) := by decide +kernel
theorem dX10_changed_120 : decode cX10_changed 120 = .ok (.iload 7, 2) := by decide +kernel
theorem dX10_changed_122 : decode cX10_changed 122 = .ok (.goto 5, 3) := by decide +kernel
theorem dX10_changed_125 : decode cX10_changed 125 = .ok (.iload 6, 2) := by decide +kernel
theorem dX10_changed_127 : decode cX10_changed 127 = .ok (.istore 6, 2) := by decide +kernel
theorem dX10_changed_129 : decode cX10_changed 129 = .ok (.iinc 7 1, 3) := by decide +kernel
theorem dX10_changed_132 : decode cX10_changed 132 = .ok (.goto (-84), 3) := by decide +kernel
theorem dX10_changed_135 : decode cX10_changed 135 = .ok (.iload_n 3, 1) := by decide +kernel
theorem dX10_changed_136 : decode cX10_changed 136 = .ok (.ifCond .ne 8, 3) := by decide +kernel
theorem dX10_changed_139 : decode cX10_changed 139 = .ok (.iload 4, 2) := by decide +kernel
theorem dX10_changed_141 : decode cX10_changed 141 = .ok (.goto 15, 3) := by decide +kernel
theorem dX10_changed_144 : decode cX10_changed 144 = .ok (.iload_n 3, 1) := by decide +kernel
theorem dX10_changed_145 : decode cX10_changed 145 = .ok (.iconst 1, 1) := by decide +kernel
theorem dX10_changed_146 : decode cX10_changed 146 = .ok (.if_icmp .ne 8, 3) := by decide +kernel
theorem dX10_changed_149 : decode cX10_changed 149 = .ok (.iload 5, 2) := by decide +kernel
theorem dX10_changed_151 : decode cX10_changed 151 = .ok (.goto 5, 3) := by decide +kernel
theorem dX10_changed_154 : decode cX10_changed 154 = .ok (.iload 6, 2) := by decide +kernel
theorem dX10_changed_156 : decode cX10_changed 156 = .ok (.ireturn, 1) := by decide +kernel
theorem dX10_say_0 : decode cX10_say 0 = .ok (.iload_n 1, 1) := by decide +kernel
theorem dX10_say_1 : decode cX10_say 1 = .ok (.bipush 33, 2) := by decide +kernel
theorem dX10_say_3 : decode cX10_say 3 = .ok (.bipush 126, 2) := by decide +kernel
theorem dX10_say_5 : decode cX10_say 5 = .ok (.invokestatic 35, 3) := by decide +kernel
theorem dX10_say_8 : decode cX10_say 8 = .ok (.ifCond .ne 6, 3) := by decide +kernel
theorem dX10_say_11 : decode cX10_say 11 = .ok (.bipush (-2), 2) := by decide +kernel
theorem dX10_say_13 : decode cX10_say 13 = .ok (.ireturn, 1) := by decide +kernel
theorem dX10_say_14 : decode cX10_say 14 = .ok (.aload_n 0, 1) := by decide +kernel
theorem dX10_say_15 : decode cX10_say 15 = .ok (.getfield 80, 3) := by decide +kernel
theorem dX10_say_18 : decode cX10_say 18 = .ok (.bipush 40, 2) := by decide +kernel
theorem dX10_say_20 : decode cX10_say 20 = .ok (.if_icmp .ne 6, 3) := by decide +kernel
theorem dX10_say_23 : decode cX10_say 23 = .ok (.bipush (-4), 2) := by decide +kernel
theorem dX10_say_25 : decode cX10_say 25 = .ok (.ireturn, 1) := by decide +kernel
theorem dX10_say_26 : decode cX10_say 26 = .ok (.aload_n 0, 1) := by decide +kernel
theorem dX10_say_27 : decode cX10_say 27 = .ok (.getfield 23, 3) := by decide +kernel
theorem dX10_say_30 : decode cX10_say 30 = .ok (.aload_n 0, 1) := by decide +kernel
theorem dX10_say_31 : decode cX10_say 31 = .ok (.getfield 80, 3) := by decide +kernel
theorem dX10_say_34 : decode cX10_say 34 = .ok (.iload_n 1, 1) := by decide +kernel
theorem dX10_say_35 : decode cX10_say 35 = .ok (.iastore, 1) := by decide +kernel
theorem dX10_say_36 : decode cX10_say 36 = .ok (.aload_n 0, 1) := by decide +kernel
theorem dX10_say_37 : decode cX10_say 37 = .ok (.dup, 1) := by decide +kernel
theorem dX10_say_38 : decode cX10_say 38 = .ok (.getfield 80, 3) := by decide +kernel
theorem dX10_say_41 : decode cX10_say 41 = .ok (.iconst 1, 1) := by decide +kernel
theorem dX10_say_42 : decode cX10_say 42 = .ok (.iadd, 1) := by decide +kernel
theorem dX10_say_43 : decode cX10_say 43 = .ok (.putfield 80, 3) := by decide +kernel
theorem dX10_say_46 : decode cX10_say 46 = .ok (.aload_n 0, 1) := by decide +kernel
theorem dX10_say_47 : decode cX10_say 47 = .ok (.getfield 80, 3) := by decide +kernel
theorem dX10_say_50 : decode cX10_say 50 = .ok (.ireturn, 1) := by decide +kernel
theorem dX10_wipe_0 : decode cX10_wipe 0 = .ok (.aload_n 0, 1) := by decide +kernel
theorem dX10_wipe_1 : decode cX10_wipe 1 = .ok (.getfield 80, 3) := by decide +kernel
theorem dX10_wipe_4 : decode cX10_wipe 4 = .ok (.istore_n 1, 1) := by decide +kernel
theorem dX10_wipe_5 : decode cX10_wipe 5 = .ok (.aload_n 0, 1) := by decide +kernel
theorem dX10_wipe_6 : decode cX10_wipe 6 = .ok (.iconst 0, 1) := by decide +kernel
theorem dX10_wipe_7 : decode cX10_wipe 7 = .ok (.putfield 80, 3) := by decide +kernel
theorem dX10_wipe_10 : decode cX10_wipe 10 = .ok (.iload_n 1, 1) := by decide +kernel
theorem dX10_wipe_11 : decode cX10_wipe 11 = .ok (.ireturn, 1) := by decide +kernel
theorem dX10_faultOf_0 : decode cX10_faultOf 0 = .ok (.iconst 0, 1) := by decide +kernel
theorem dX10_faultOf_1 : decode cX10_faultOf 1 = .ok (.istore_n 1, 1) := by decide +kernel
theorem dX10_faultOf_2 : decode cX10_faultOf 2 = .ok (.iconst 0, 1) := by decide +kernel
theorem dX10_faultOf_3 : decode cX10_faultOf 3 = .ok (.istore_n 2, 1) := by decide +kernel
theorem dX10_faultOf_4 : decode cX10_faultOf 4 = .ok (.iload_n 2, 1) := by decide +kernel
theorem dX10_faultOf_5 : decode cX10_faultOf 5 = .ok (.aload_n 0, 1) := by decide +kernel
theorem dX10_faultOf_6 : decode cX10_faultOf 6 = .ok (.getfield 80, 3) := by decide +kernel
theorem dX10_faultOf_9 : decode cX10_faultOf 9 = .ok (.if_icmp .ge 190, 3) := by decide +kernel
theorem dX10_faultOf_12 : decode cX10_faultOf 12 = .ok (.aload_n 0, 1) := by decide +kernel
theorem dX10_faultOf_13 : decode cX10_faultOf 13 = .ok (.getfield 23, 3) := by decide +kernel
theorem dX10_faultOf_16 : decode cX10_faultOf 16 = .ok (.iload_n 2, 1) := by decide +kernel
theorem dX10_faultOf_17 : decode cX10_faultOf 17 = .ok (.iaload, 1) := by decide +kernel
theorem dX10_faultOf_18 : decode cX10_faultOf 18 = .ok (.istore_n 3, 1) := by decide +kernel
theorem dX10_faultOf_19 : decode cX10_faultOf 19 = .ok (.bipush (-6), 2) := by decide +kernel
theorem dX10_faultOf_21 : decode cX10_faultOf 21 = .ok (.istore 4, 2) := by decide +kernel
theorem dX10_faultOf_23 : decode cX10_faultOf 23 = .ok (.iload_n 3, 1) := by decide +kernel
theorem dX10_faultOf_24 : decode cX10_faultOf 24 = .ok (.bipush 38, 2) := by decide +kernel
theorem dX10_faultOf_26 : decode cX10_faultOf 26 = .ok (.if_icmp .eq 9, 3) := by decide +kernel
theorem dX10_faultOf_29 : decode cX10_faultOf 29 = .ok (.iload_n 3, 1) := by decide +kernel
theorem dX10_faultOf_30 : decode cX10_faultOf 30 = .ok (.bipush 124, 2) := by decide +kernel
theorem dX10_faultOf_32 : decode cX10_faultOf 32 = .ok (.if_icmp .ne 7, 3) := by decide +kernel
theorem dX10_faultOf_35 : decode cX10_faultOf 35 = .ok (.iconst 1, 1) := by decide +kernel
theorem dX10_faultOf_36 : decode cX10_faultOf 36 = .ok (.goto 4, 3) := by decide +kernel
theorem dX10_faultOf_39 : decode cX10_faultOf 39 = .ok (.iconst 0, 1) := by decide +kernel
theorem dX10_faultOf_40 : decode cX10_faultOf 40 = .ok (.istore 5, 2) := by decide +kernel
theorem dX10_faultOf_42 : decode cX10_faultOf 42 = .ok (.iload_n 1, 1) := by decide +kernel
theorem dX10_faultOf_43 : decode cX10_faultOf 43 = .ok (.ifCond .ne 42, 3) := by decide +kernel
theorem dX10_faultOf_46 : decode cX10_faultOf 46 = .ok (.iload_n 3, 1) := by decide +kernel
theorem dX10_faultOf_47 : decode cX10_faultOf 47 = .ok (.bipush 115, 2) := by decide +kernel
theorem dX10_faultOf_49 : decode cX10_faultOf 49 = .ok (.if_icmp .eq 15, 3) := by decide +kernel
theorem dX10_faultOf_52 : decode cX10_faultOf 52 = .ok (.iload_n 3, 1) := by decide +kernel
theorem dX10_faultOf_53 : decode cX10_faultOf 53 = .ok (.bipush 107, 2) := by decide +kernel
theorem dX10_faultOf_55 : decode cX10_faultOf 55 = .ok (.if_icmp .eq 9, 3) := by decide +kernel
theorem dX10_faultOf_58 : decode cX10_faultOf 58 = .ok (.iload_n 3, 1) := by decide +kernel
theorem dX10_faultOf_59 : decode cX10_faultOf 59 = .ok (.bipush 104, 2) := by decide +kernel
theorem dX10_faultOf_61 : decode cX10_faultOf 61 = .ok (.if_icmp .ne 7, 3) := by decide +kernel
theorem dX10_faultOf_64 : decode cX10_faultOf 64 = .ok (.iconst 2, 1) := by decide +kernel
theorem dX10_faultOf_65 : decode cX10_faultOf 65 = .ok (.goto 15, 3) := by decide +kernel
theorem dX10_faultOf_68 : decode cX10_faultOf 68 = .ok (.iload_n 3, 1) := by decide +kernel
theorem dX10_faultOf_69 : decode cX10_faultOf 69 = .ok (.bipush 110, 2) := by decide +kernel
theorem dX10_faultOf_71 : decode cX10_faultOf 71 = .ok (.if_icmp .ne 7, 3) := by decide +kernel
theorem dX10_faultOf_74 : decode cX10_faultOf 74 = .ok (.iconst 1, 1) := by decide +kernel
theorem dX10_faultOf_75 : decode cX10_faultOf 75 = .ok (.goto 5, 3) := by decide +kernel
theorem dX10_faultOf_78 : decode cX10_faultOf 78 = .ok (.bipush (-6), 2) := by decide +kernel
theorem dX10_faultOf_80 : decode cX10_faultOf 80 = .ok (.istore 4, 2) := by decide +kernel
theorem dX10_faultOf_82 : decode cX10_faultOf 82 = .ok (.goto 101, 3) := by decide +kernel
theorem dX10_faultOf_85 : decode cX10_faultOf 85 = .ok (.iload_n 1, 1) := by decide +kernel
theorem dX10_faultOf_86 : decode cX10_faultOf 86 = .ok (.iconst 1, 1) := by decide +kernel
theorem dX10_faultOf_87 : decode cX10_faultOf 87 = .ok (.if_icmp .ne 25, 3) := by decide +kernel
theorem dX10_faultOf_90 : decode cX10_faultOf 90 = .ok (.iload_n 3, 1) := by decide +kernel
theorem dX10_faultOf_91 : decode cX10_faultOf 91 = .ok (.bipush 48, 2) := by decide +kernel
theorem dX10_faultOf_93 : decode cX10_faultOf 93 = .ok (.bipush 53, 2) := by decide +kernel
theorem dX10_faultOf_95 : decode cX10_faultOf 95 = .ok (.invokestatic 35, 3) := by decide +kernel
theorem dX10_faultOf_98 : decode cX10_faultOf 98 = .ok (.ifCond .eq 7, 3) := by decide +kernel
theorem dX10_faultOf_101 : decode cX10_faultOf 101 = .ok (.iconst 2, 1) := by decide +kernel
theorem dX10_faultOf_102 : decode cX10_faultOf 102 = .ok (.goto 5, 3) := by decide +kernel
theorem dX10_faultOf_105 : decode cX10_faultOf 105 = .ok (.bipush (-6), 2) := by decide +kernel
theorem dX10_faultOf_107 : decode cX10_faultOf 107 = .ok (.istore 4, 2) := by decide +kernel
theorem dX10_faultOf_109 : decode cX10_faultOf 109 = .ok (.goto 74, 3) := by decide +kernel
theorem dX10_faultOf_112 : decode cX10_faultOf 112 = .ok (.iload_n 1, 1) := by decide +kernel
theorem dX10_faultOf_113 : decode cX10_faultOf 113 = .ok (.iconst 2, 1) := by decide +kernel
theorem dX10_faultOf_114 : decode cX10_faultOf 114 = .ok (.if_icmp .ne 32, 3) := by decide +kernel
theorem dX10_faultOf_117 : decode cX10_faultOf 117 = .ok (.iload_n 3, 1) := by decide +kernel
theorem dX10_faultOf_118 : decode cX10_faultOf 118 = .ok (.bipush 60, 2) := by decide +kernel
theorem dX10_faultOf_120 : decode cX10_faultOf 120 = .ok (.if_icmp .eq 15, 3) := by decide +kernel
theorem dX10_faultOf_123 : decode cX10_faultOf 123 = .ok (.iload_n 3, 1) := by decide +kernel
theorem dX10_faultOf_124 : decode cX10_faultOf 124 = .ok (.bipush 62, 2) := by decide +kernel
theorem dX10_faultOf_126 : decode cX10_faultOf 126 = .ok (.if_icmp .eq 9, 3) := by decide +kernel
theorem dX10_faultOf_129 : decode cX10_faultOf 129 = .ok (.iload_n 3, 1) := by decide +kernel
theorem dX10_faultOf_130 : decode cX10_faultOf 130 = .ok (.bipush 61, 2) := by decide +kernel
theorem dX10_faultOf_132 : decode cX10_faultOf 132 = .ok (.if_icmp .ne 7, 3) := by decide +kernel
theorem dX10_faultOf_135 : decode cX10_faultOf 135 = .ok (.iconst 3, 1) := by decide +kernel
theorem dX10_faultOf_136 : decode cX10_faultOf 136 = .ok (.goto 5, 3) := by decide +kernel
theorem dX10_faultOf_139 : decode cX10_faultOf 139 = .ok (.bipush (-6), 2) := by decide +kernel
theorem dX10_faultOf_141 : decode cX10_faultOf 141 = .ok (.istore 4, 2) := by decide +kernel
theorem dX10_faultOf_143 : decode cX10_faultOf 143 = .ok (.goto 40, 3) := by decide +kernel
theorem dX10_faultOf_146 : decode cX10_faultOf 146 = .ok (.iload_n 1, 1) := by decide +kernel
theorem dX10_faultOf_147 : decode cX10_faultOf 147 = .ok (.iconst 5, 1) := by decide +kernel
theorem dX10_faultOf_148 : decode cX10_faultOf 148 = .ok (.if_icmp .ge 22, 3) := by decide +kernel
theorem dX10_faultOf_151 : decode cX10_faultOf 151 = .ok (.iload_n 3, 1) := by decide +kernel
theorem dX10_faultOf_152 : decode cX10_faultOf 152 = .ok (.bipush 48, 2) := by decide +kernel
theorem dX10_faultOf_154 : decode cX10_faultOf 154 = .ok (.bipush 57, 2) := by decide +kernel
theorem dX10_faultOf_156 : decode cX10_faultOf 156 = .ok (.invokestatic 35, 3) := by decide +kernel
theorem dX10_faultOf_159 : decode cX10_faultOf 159 = .ok (.ifCond .eq 11, 3) := by decide +kernel
theorem dX10_faultOf_162 : decode cX10_faultOf 162 = .ok (.iload_n 1, 1) := by decide +kernel
theorem dX10_faultOf_163 : decode cX10_faultOf 163 = .ok (.iconst 1, 1) := by decide +kernel
theorem dX10_faultOf_164 : decode cX10_faultOf 164 = .ok (.iadd, 1) := by decide +kernel
theorem dX10_faultOf_165 : decode cX10_faultOf 165 = .ok (.istore 4, 2) := by decide +kernel
theorem dX10_faultOf_167 : decode cX10_faultOf 167 = .ok (.goto 16, 3) := by decide +kernel
theorem dX10_faultOf_170 : decode cX10_faultOf 170 = .ok (.iload_n 1, 1) := by decide +kernel
theorem dX10_faultOf_171 : decode cX10_faultOf 171 = .ok (.iconst 3, 1) := by decide +kernel
theorem dX10_faultOf_172 : decode cX10_faultOf 172 = .ok (.if_icmp .le 11, 3) := by decide +kernel
theorem dX10_faultOf_175 : decode cX10_faultOf 175 = .ok (.iload 5, 2) := by decide +kernel
theorem dX10_faultOf_177 : decode cX10_faultOf 177 = .ok (.ifCond .eq 6, 3) := by decide +kernel
theorem dX10_faultOf_180 : decode cX10_faultOf 180 = .ok (.iconst 0, 1) := by decide +kernel
theorem dX10_faultOf_181 : decode cX10_faultOf 181 = .ok (.istore 4, 2) := by decide +kernel
theorem dX10_faultOf_183 : decode cX10_faultOf 183 = .ok (.iload 4, 2) := by decide +kernel
theorem dX10_faultOf_185 : decode cX10_faultOf 185 = .ok (.ifCond .ge 5, 3) := by decide +kernel
theorem dX10_faultOf_188 : decode cX10_faultOf 188 = .ok (.iload_n 2, 1) := by decide +kernel
theorem dX10_faultOf_189 : decode cX10_faultOf 189 = .ok (.ireturn, 1) := by decide +kernel
theorem dX10_faultOf_190 : decode cX10_faultOf 190 = .ok (.iload 4, 2) := by decide +kernel
theorem dX10_faultOf_192 : decode cX10_faultOf 192 = .ok (.istore_n 1, 1) := by decide +kernel
theorem dX10_faultOf_193 : decode cX10_faultOf 193 = .ok (.iinc 2 1, 3) := by decide +kernel
theorem dX10_faultOf_196 : decode cX10_faultOf 196 = .ok (.goto (-192), 3) := by decide +kernel
theorem dX10_faultOf_199 : decode cX10_faultOf 199 = .ok (.iload_n 1, 1) := by decide +kernel
theorem dX10_faultOf_200 : decode cX10_faultOf 200 = .ok (.iconst 3, 1) := by decide +kernel
theorem dX10_faultOf_201 : decode cX10_faultOf 201 = .ok (.if_icmp .le 8, 3) := by decide +kernel
theorem dX10_faultOf_204 : decode cX10_faultOf 204 = .ok (.bipush (-6), 2) := by decide +kernel
theorem dX10_faultOf_206 : decode cX10_faultOf 206 = .ok (.goto 7, 3) := by decide +kernel
theorem dX10_faultOf_209 : decode cX10_faultOf 209 = .ok (.aload_n 0, 1) := by decide +kernel
theorem dX10_faultOf_210 : decode cX10_faultOf 210 = .ok (.getfield 80, 3) := by decide +kernel
theorem dX10_faultOf_213 : decode cX10_faultOf 213 = .ok (.ireturn, 1) := by decide +kernel
theorem dX10_fault_0 : decode cX10_fault 0 = .ok (.aload_n 0, 1) := by decide +kernel
theorem dX10_fault_1 : decode cX10_fault 1 = .ok (.invokevirtual 83, 3) := by decide +kernel
theorem dX10_fault_4 : decode cX10_fault 4 = .ok (.ireturn, 1) := by decide +kernel
theorem dX10_use_0 : decode cX10_use 0 = .ok (.iload_n 1, 1) := by decide +kernel
theorem dX10_use_1 : decode cX10_use 1 = .ok (.iconst 0, 1) := by decide +kernel
theorem dX10_use_2 : decode cX10_use 2 = .ok (.iconst 4, 1) := by decide +kernel
theorem dX10_use_3 : decode cX10_use 3 = .ok (.invokestatic 35, 3) := by decide +kernel
theorem dX10_use_6 : decode cX10_use 6 = .ok (.ifCond .ne 5, 3) := by decide +kernel
theorem dX10_use_9 : decode cX10_use 9 = .ok (.iconst (-1), 1) := by decide +kernel
theorem dX10_use_10 : decode cX10_use 10 = .ok (.ireturn, 1) := by decide +kernel
theorem dX10_use_11 : decode cX10_use 11 = .ok (.aload_n 0, 1) := by decide +kernel
theorem dX10_use_12 : decode cX10_use 12 = .ok (.invokevirtual 83, 3) := by decide +kernel
theorem dX10_use_15 : decode cX10_use 15 = .ok (.ifCond .lt 6, 3) := by decide +kernel
theorem dX10_use_18 : decode cX10_use 18 = .ok (.bipush (-5), 2) := by decide +kernel
theorem dX10_use_20 : decode cX10_use 20 = .ok (.ireturn, 1) := by decide +kernel
theorem dX10_use_21 : decode cX10_use 21 = .ok (.aload_n 0, 1) := by decide +kernel
theorem dX10_use_22 : decode cX10_use 22 = .ok (.getfield 26, 3) := by decide +kernel
theorem dX10_use_25 : decode cX10_use 25 = .ok (.iload_n 1, 1) := by decide +kernel
theorem dX10_use_26 : decode cX10_use 26 = .ok (.iaload, 1) := by decide +kernel
theorem dX10_use_27 : decode cX10_use 27 = .ok (.ifCond .ne 7, 3) := by decide +kernel
theorem dX10_use_30 : decode cX10_use 30 = .ok (.iconst 1, 1) := by decide +kernel
theorem dX10_use_31 : decode cX10_use 31 = .ok (.goto 4, 3) := by decide +kernel
theorem dX10_use_34 : decode cX10_use 34 = .ok (.iconst 0, 1) := by decide +kernel
theorem dX10_use_35 : decode cX10_use 35 = .ok (.istore_n 2, 1) := by decide +kernel
theorem dX10_use_36 : decode cX10_use 36 = .ok (.aload_n 0, 1) := by decide +kernel
theorem dX10_use_37 : decode cX10_use 37 = .ok (.getfield 26, 3) := by decide +kernel
theorem dX10_use_40 : decode cX10_use 40 = .ok (.iload_n 1, 1) := by decide +kernel
theorem dX10_use_41 : decode cX10_use 41 = .ok (.aload_n 0, 1) := by decide +kernel
theorem dX10_use_42 : decode cX10_use 42 = .ok (.getfield 80, 3) := by decide +kernel
theorem dX10_use_45 : decode cX10_use 45 = .ok (.iastore, 1) := by decide +kernel
theorem dX10_use_46 : decode cX10_use 46 = .ok (.iconst 0, 1) := by decide +kernel
theorem dX10_use_47 : decode cX10_use 47 = .ok (.istore_n 3, 1) := by decide +kernel
theorem dX10_use_48 : decode cX10_use 48 = .ok (.iload_n 3, 1) := by decide +kernel
theorem dX10_use_49 : decode cX10_use 49 = .ok (.aload_n 0, 1) := by decide +kernel
theorem dX10_use_50 : decode cX10_use 50 = .ok (.getfield 80, 3) := by decide +kernel
theorem dX10_use_53 : decode cX10_use 53 = .ok (.if_icmp .ge 26, 3) := by decide +kernel
theorem dX10_use_56 : decode cX10_use 56 = .ok (.aload_n 0, 1) := by decide +kernel
theorem dX10_use_57 : decode cX10_use 57 = .ok (.getfield 29, 3) := by decide +kernel
theorem dX10_use_60 : decode cX10_use 60 = .ok (.bipush 40, 2) := by decide +kernel
theorem dX10_use_62 : decode cX10_use 62 = .ok (.iload_n 1, 1) := by decide +kernel
theorem dX10_use_63 : decode cX10_use 63 = .ok (.imul, 1) := by decide +kernel
theorem dX10_use_64 : decode cX10_use 64 = .ok (.iload_n 3, 1) := by decide +kernel
theorem dX10_use_65 : decode cX10_use 65 = .ok (.iadd, 1) := by decide +kernel
theorem dX10_use_66 : decode cX10_use 66 = .ok (.aload_n 0, 1) := by decide +kernel
theorem dX10_use_67 : decode cX10_use 67 = .ok (.getfield 23, 3) := by decide +kernel
theorem dX10_use_70 : decode cX10_use 70 = .ok (.iload_n 3, 1) := by decide +kernel
theorem dX10_use_71 : decode cX10_use 71 = .ok (.iaload, 1) := by decide +kernel
theorem dX10_use_72 : decode cX10_use 72 = .ok (.iastore, 1) := by decide +kernel
theorem dX10_use_73 : decode cX10_use 73 = .ok (.iinc 3 1, 3) := by decide +kernel
theorem dX10_use_76 : decode cX10_use 76 = .ok (.goto (-28), 3) := by decide +kernel
theorem dX10_use_79 : decode cX10_use 79 = .ok (.aload_n 0, 1) := by decide +kernel
theorem dX10_use_80 : decode cX10_use 80 = .ok (.iconst 0, 1) := by decide +kernel
theorem dX10_use_81 : decode cX10_use 81 = .ok (.putfield 80, 3) := by decide +kernel
theorem dX10_use_84 : decode cX10_use 84 = .ok (.iload_n 2, 1) := by decide +kernel
theorem dX10_use_85 : decode cX10_use 85 = .ok (.ireturn, 1) := by decide +kernel
theorem dX10_isSeen_0 : decode cX10_isSeen 0 = .ok (.aload_n 0, 1) := by decide +kernel
theorem dX10_isSeen_1 : decode cX10_isSeen 1 = .ok (.getfield 17, 3) := by decide +kernel
theorem dX10_isSeen_4 : decode cX10_isSeen 4 = .ok (.iconst 5, 1) := by decide +kernel
theorem dX10_isSeen_5 : decode cX10_isSeen 5 = .ok (.iload_n 1, 1) := by decide +kernel
theorem dX10_isSeen_6 : decode cX10_isSeen 6 = .ok (.imul, 1) := by decide +kernel
theorem dX10_isSeen_7 : decode cX10_isSeen 7 = .ok (.iconst 2, 1) := by decide +kernel
theorem dX10_isSeen_8 : decode cX10_isSeen 8 = .ok (.iadd, 1) := by decide +kernel
theorem dX10_isSeen_9 : decode cX10_isSeen 9 = .ok (.iaload, 1) := by decide +kernel
theorem dX10_isSeen_10 : decode cX10_isSeen 10 = .ok (.iload_n 2, 1) := by decide +kernel
theorem dX10_isSeen_11 : decode cX10_isSeen 11 = .ok (.if_icmp .gt 7, 3) := by decide +kernel
theorem dX10_isSeen_14 : decode cX10_isSeen 14 = .ok (.iconst 1, 1) := by decide +kernel
theorem dX10_isSeen_15 : decode cX10_isSeen 15 = .ok (.goto 4, 3) := by decide +kernel
theorem dX10_isSeen_18 : decode cX10_isSeen 18 = .ok (.iconst 0, 1) := by decide +kernel
theorem dX10_isSeen_19 : decode cX10_isSeen 19 = .ok (.ireturn, 1) := by decide +kernel
theorem dX10_isShown_0 : decode cX10_isShown 0 = .ok (.iconst 0, 1) := by decide +kernel
theorem dX10_isShown_1 : decode cX10_isShown 1 = .ok (.istore 6, 2) := by decide +kernel
theorem dX10_isShown_3 : decode cX10_isShown 3 = .ok (.iload 6, 2) := by decide +kernel
theorem dX10_isShown_5 : decode cX10_isShown 5 = .ok (.aload_n 0, 1) := by decide +kernel
theorem dX10_isShown_6 : decode cX10_isShown 6 = .ok (.getfield 43, 3) := by decide +kernel
theorem dX10_isShown_9 : decode cX10_isShown 9 = .ok (.if_icmp .ge 85, 3) := by decide +kernel
theorem dX10_isShown_12 : decode cX10_isShown 12 = .ok (.aload_n 0, 1) := by decide +kernel
theorem dX10_isShown_13 : decode cX10_isShown 13 = .ok (.iload 6, 2) := by decide +kernel
theorem dX10_isShown_15 : decode cX10_isShown 15 = .ok (.iload_n 3, 1) := by decide +kernel
theorem dX10_isShown_16 : decode cX10_isShown 16 = .ok (.invokevirtual 87, 3) := by decide +kernel
theorem dX10_isShown_19 : decode cX10_isShown 19 = .ok (.ifCond .eq 21, 3) := by decide +kernel
theorem dX10_isShown_22 : decode cX10_isShown 22 = .ok (.aload_n 0, 1) := by decide +kernel
theorem dX10_isShown_23 : decode cX10_isShown 23 = .ok (.iload 6, 2) := by decide +kernel
theorem dX10_isShown_25 : decode cX10_isShown 25 = .ok (.iload_n 1, 1) := by decide +kernel
theorem dX10_isShown_26 : decode cX10_isShown 26 = .ok (.invokevirtual 73, 3) := by decide +kernel
theorem dX10_isShown_29 : decode cX10_isShown 29 = .ok (.bipush 10, 2) := by decide +kernel
theorem dX10_isShown_31 : decode cX10_isShown 31 = .ok (.iload_n 2, 1) := by decide +kernel
theorem dX10_isShown_32 : decode cX10_isShown 32 = .ok (.iadd, 1) := by decide +kernel
theorem dX10_isShown_33 : decode cX10_isShown 33 = .ok (.if_icmp .ne 7, 3) := by decide +kernel
theorem dX10_isShown_36 : decode cX10_isShown 36 = .ok (.iconst 1, 1) := by decide +kernel
theorem dX10_isShown_37 : decode cX10_isShown 37 = .ok (.goto 4, 3) := by decide +kernel
theorem dX10_isShown_40 : decode cX10_isShown 40 = .ok (.iconst 0, 1) := by decide +kernel
theorem dX10_isShown_41 : decode cX10_isShown 41 = .ok (.istore 7, 2) := by decide +kernel
theorem dX10_isShown_43 : decode cX10_isShown 43 = .ok (.iload 7, 2) := by decide +kernel
theorem dX10_isShown_45 : decode cX10_isShown 45 = .ok (.ifCond .eq 43, 3) := by decide +kernel
theorem dX10_isShown_48 : decode cX10_isShown 48 = .ok (.aload_n 0, 1) := by decide +kernel
theorem dX10_isShown_49 : decode cX10_isShown 49 = .ok (.iload_n 1, 1) := by decide +kernel
theorem dX10_isShown_50 : decode cX10_isShown 50 = .ok (.bipush 12, 2) := by decide +kernel
theorem dX10_isShown_52 : decode cX10_isShown 52 = .ok (.irem, 1) := by decide +kernel
theorem dX10_isShown_53 : decode cX10_isShown 53 = .ok (.iload_n 1, 1) := by decide +kernel
theorem dX10_isShown_54 : decode cX10_isShown 54 = .ok (.bipush 12, 2) := by decide +kernel
theorem dX10_isShown_56 : decode cX10_isShown 56 = .ok (.idiv, 1) := by decide +kernel
theorem dX10_isShown_57 : decode cX10_isShown 57 = .ok (.aload_n 0, 1) := by decide +kernel
theorem dX10_isShown_58 : decode cX10_isShown 58 = .ok (.getfield 17, 3) := by decide +kernel
theorem dX10_isShown_61 : decode cX10_isShown 61 = .ok (.iconst 5, 1) := by decide +kernel
theorem dX10_isShown_62 : decode cX10_isShown 62 = .ok (.iload 6, 2) := by decide +kernel
theorem dX10_isShown_64 : decode cX10_isShown 64 = .ok (.imul, 1) := by decide +kernel
theorem dX10_isShown_65 : decode cX10_isShown 65 = .ok (.iconst 2, 1) := by decide +kernel
theorem dX10_isShown_66 : decode cX10_isShown 66 = .ok (.iadd, 1) := by decide +kernel
theorem dX10_isShown_67 : decode cX10_isShown 67 = .ok (.iaload, 1) := by decide +kernel
theorem dX10_isShown_68 : decode cX10_isShown 68 = .ok (.invokevirtual 63, 3) := by decide +kernel
theorem dX10_isShown_71 : decode cX10_isShown 71 = .ok (.iload 4, 2) := by decide +kernel
theorem dX10_isShown_73 : decode cX10_isShown 73 = .ok (.if_icmp .ne 7, 3) := by decide +kernel
theorem dX10_isShown_76 : decode cX10_isShown 76 = .ok (.iconst 1, 1) := by decide +kernel
theorem dX10_isShown_77 : decode cX10_isShown 77 = .ok (.goto 4, 3) := by decide +kernel
theorem dX10_isShown_80 : decode cX10_isShown 80 = .ok (.iconst 0, 1) := by decide +kernel
theorem dX10_isShown_81 : decode cX10_isShown 81 = .ok (.iload 5, 2) := by decide +kernel
theorem dX10_isShown_83 : decode cX10_isShown 83 = .ok (.if_icmp .ne 5, 3) := by decide +kernel
theorem dX10_isShown_86 : decode cX10_isShown 86 = .ok (.iconst 1, 1) := by decide +kernel
theorem dX10_isShown_87 : decode cX10_isShown 87 = .ok (.ireturn, 1) := by decide +kernel
theorem dX10_isShown_88 : decode cX10_isShown 88 = .ok (.iinc 6 1, 3) := by decide +kernel
theorem dX10_isShown_91 : decode cX10_isShown 91 = .ok (.goto (-88), 3) := by decide +kernel
theorem dX10_isShown_94 : decode cX10_isShown 94 = .ok (.iconst 0, 1) := by decide +kernel
theorem dX10_isShown_95 : decode cX10_isShown 95 = .ok (.ireturn, 1) := by decide +kernel
theorem dX10_shownOf_0 : decode cX10_shownOf 0 = .ok (.iconst 0, 1) := by decide +kernel
theorem dX10_shownOf_1 : decode cX10_shownOf 1 = .ok (.istore_n 3, 1) := by decide +kernel
theorem dX10_shownOf_2 : decode cX10_shownOf 2 = .ok (.iconst 0, 1) := by decide +kernel
theorem dX10_shownOf_3 : decode cX10_shownOf 3 = .ok (.istore 4, 2) := by decide +kernel
theorem dX10_shownOf_5 : decode cX10_shownOf 5 = .ok (.iload 4, 2) := by decide +kernel
theorem dX10_shownOf_7 : decode cX10_shownOf 7 = .ok (.bipush 96, 2) := by decide +kernel
theorem dX10_shownOf_9 : decode cX10_shownOf 9 = .ok (.if_icmp .ge 58, 3) := by decide +kernel
theorem dX10_shownOf_12 : decode cX10_shownOf 12 = .ok (.iload_n 3, 1) := by decide +kernel
theorem dX10_shownOf_13 : decode cX10_shownOf 13 = .ok (.aload_n 0, 1) := by decide +kernel
theorem dX10_shownOf_14 : decode cX10_shownOf 14 = .ok (.iload_n 1, 1) := by decide +kernel
theorem dX10_shownOf_15 : decode cX10_shownOf 15 = .ok (.iload 4, 2) := by decide +kernel
theorem dX10_shownOf_17 : decode cX10_shownOf 17 = .ok (.bipush 12, 2) := by decide +kernel
theorem dX10_shownOf_19 : decode cX10_shownOf 19 = .ok (.irem, 1) := by decide +kernel
theorem dX10_shownOf_20 : decode cX10_shownOf 20 = .ok (.iload 4, 2) := by decide +kernel
theorem dX10_shownOf_22 : decode cX10_shownOf 22 = .ok (.bipush 12, 2) := by decide +kernel
theorem dX10_shownOf_24 : decode cX10_shownOf 24 = .ok (.idiv, 1) := by decide +kernel
theorem dX10_shownOf_25 : decode cX10_shownOf 25 = .ok (.invokevirtual 57, 3) := by decide +kernel
theorem dX10_shownOf_28 : decode cX10_shownOf 28 = .ok (.ifCond .eq 30, 3) := by decide +kernel
theorem dX10_shownOf_31 : decode cX10_shownOf 31 = .ok (.aload_n 0, 1) := by decide +kernel
theorem dX10_shownOf_32 : decode cX10_shownOf 32 = .ok (.iload 4, 2) := by decide +kernel
theorem dX10_shownOf_34 : decode cX10_shownOf 34 = .ok (.aload_n 0, 1) := by decide +kernel
theorem dX10_shownOf_35 : decode cX10_shownOf 35 = .ok (.getfield 7, 3) := by decide +kernel
theorem dX10_shownOf_38 : decode cX10_shownOf 38 = .ok (.bipush 11, 2) := by decide +kernel
theorem dX10_shownOf_40 : decode cX10_shownOf 40 = .ok (.iload_n 1, 1) := by decide +kernel
theorem dX10_shownOf_41 : decode cX10_shownOf 41 = .ok (.imul, 1) := by decide +kernel
theorem dX10_shownOf_42 : decode cX10_shownOf 42 = .ok (.iconst 5, 1) := by decide +kernel
theorem dX10_shownOf_43 : decode cX10_shownOf 43 = .ok (.iadd, 1) := by decide +kernel
theorem dX10_shownOf_44 : decode cX10_shownOf 44 = .ok (.iaload, 1) := by decide +kernel
theorem dX10_shownOf_45 : decode cX10_shownOf 45 = .ok (.iload_n 2, 1) := by decide +kernel
theorem dX10_shownOf_46 : decode cX10_shownOf 46 = .ok (.iload_n 1, 1) := by decide +kernel
theorem dX10_shownOf_47 : decode cX10_shownOf 47 = .ok (.iconst 1, 1) := by decide +kernel
theorem dX10_shownOf_48 : decode cX10_shownOf 48 = .ok (.invokevirtual 90, 3) := by decide +kernel
theorem dX10_shownOf_51 : decode cX10_shownOf 51 = .ok (.ifCond .eq 7, 3) := by decide +kernel
theorem dX10_shownOf_54 : decode cX10_shownOf 54 = .ok (.iconst 1, 1) := by decide +kernel
theorem dX10_shownOf_55 : decode cX10_shownOf 55 = .ok (.goto 4, 3) := by decide +kernel
theorem dX10_shownOf_58 : decode cX10_shownOf 58 = .ok (.iconst 0, 1) := by decide +kernel
theorem dX10_shownOf_59 : decode cX10_shownOf 59 = .ok (.iadd, 1) := by decide +kernel
theorem dX10_shownOf_60 : decode cX10_shownOf 60 = .ok (.istore_n 3, 1) := by decide +kernel
theorem dX10_shownOf_61 : decode cX10_shownOf 61 = .ok (.iinc 4 1, 3) := by decide +kernel
theorem dX10_shownOf_64 : decode cX10_shownOf 64 = .ok (.goto (-59), 3) := by decide +kernel
theorem dX10_shownOf_67 : decode cX10_shownOf 67 = .ok (.iload_n 3, 1) := by decide +kernel
theorem dX10_shownOf_68 : decode cX10_shownOf 68 = .ok (.ireturn, 1) := by decide +kernel
theorem dX10_farOf_0 : decode cX10_farOf 0 = .ok (.iload_n 2, 1) := by decide +kernel
theorem dX10_farOf_1 : decode cX10_farOf 1 = .ok (.bipush 12, 2) := by decide +kernel
theorem dX10_farOf_3 : decode cX10_farOf 3 = .ok (.irem, 1) := by decide +kernel
theorem dX10_farOf_4 : decode cX10_farOf 4 = .ok (.aload_n 0, 1) := by decide +kernel
theorem dX10_farOf_5 : decode cX10_farOf 5 = .ok (.getfield 7, 3) := by decide +kernel
theorem dX10_farOf_8 : decode cX10_farOf 8 = .ok (.bipush 11, 2) := by decide +kernel
theorem dX10_farOf_10 : decode cX10_farOf 10 = .ok (.iload_n 1, 1) := by decide +kernel
theorem dX10_farOf_11 : decode cX10_farOf 11 = .ok (.imul, 1) := by decide +kernel
theorem dX10_farOf_12 : decode cX10_farOf 12 = .ok (.iaload, 1) := by decide +kernel
theorem dX10_farOf_13 : decode cX10_farOf 13 = .ok (.isub, 1) := by decide +kernel
theorem dX10_farOf_14 : decode cX10_farOf 14 = .ok (.istore_n 3, 1) := by decide +kernel
theorem dX10_farOf_15 : decode cX10_farOf 15 = .ok (.iload_n 2, 1) := by decide +kernel
theorem dX10_farOf_16 : decode cX10_farOf 16 = .ok (.bipush 12, 2) := by decide +kernel
theorem dX10_farOf_18 : decode cX10_farOf 18 = .ok (.idiv, 1) := by decide +kernel
theorem dX10_farOf_19 : decode cX10_farOf 19 = .ok (.aload_n 0, 1) := by decide +kernel
theorem dX10_farOf_20 : decode cX10_farOf 20 = .ok (.getfield 7, 3) := by decide +kernel
theorem dX10_farOf_23 : decode cX10_farOf 23 = .ok (.bipush 11, 2) := by decide +kernel
theorem dX10_farOf_25 : decode cX10_farOf 25 = .ok (.iload_n 1, 1) := by decide +kernel
theorem dX10_farOf_26 : decode cX10_farOf 26 = .ok (.imul, 1) := by decide +kernel
theorem dX10_farOf_27 : decode cX10_farOf 27 = .ok (.iconst 1, 1) := by decide +kernel
theorem dX10_farOf_28 : decode cX10_farOf 28 = .ok (.iadd, 1) := by decide +kernel
theorem dX10_farOf_29 : decode cX10_farOf 29 = .ok (.iaload, 1) := by decide +kernel
theorem dX10_farOf_30 : decode cX10_farOf 30 = .ok (.isub, 1) := by decide +kernel
theorem dX10_farOf_31 : decode cX10_farOf 31 = .ok (.istore 4, 2) := by decide +kernel
theorem dX10_farOf_33 : decode cX10_farOf 33 = .ok (.iload_n 3, 1) := by decide +kernel
theorem dX10_farOf_34 : decode cX10_farOf 34 = .ok (.ifCond .ge 8, 3) := by decide +kernel
theorem dX10_farOf_37 : decode cX10_farOf 37 = .ok (.iload_n 3, 1) := by decide +kernel
theorem dX10_farOf_38 : decode cX10_farOf 38 = .ok (.ineg, 1) := by decide +kernel
theorem dX10_farOf_39 : decode cX10_farOf 39 = .ok (.goto 4, 3) := by decide +kernel
theorem dX10_farOf_42 : decode cX10_farOf 42 = .ok (.iload_n 3, 1) := by decide +kernel
theorem dX10_farOf_43 : decode cX10_farOf 43 = .ok (.iload 4, 2) := by decide +kernel
theorem dX10_farOf_45 : decode cX10_farOf 45 = .ok (.ifCond .ge 9, 3) := by decide +kernel
theorem dX10_farOf_48 : decode cX10_farOf 48 = .ok (.iload 4, 2) := by decide +kernel
theorem dX10_farOf_50 : decode cX10_farOf 50 = .ok (.ineg, 1) := by decide +kernel
theorem dX10_farOf_51 : decode cX10_farOf 51 = .ok (.goto 5, 3) := by decide +kernel
theorem dX10_farOf_54 : decode cX10_farOf 54 = .ok (.iload 4, 2) := by decide +kernel
theorem dX10_farOf_56 : decode cX10_farOf 56 = .ok (.iadd, 1) := by decide +kernel
theorem dX10_farOf_57 : decode cX10_farOf 57 = .ok (.ireturn, 1) := by decide +kernel
theorem dX10_nearOf_0 : decode cX10_nearOf 0 = .ok (.bipush 99, 2) := by decide +kernel
theorem dX10_nearOf_2 : decode cX10_nearOf 2 = .ok (.istore 4, 2) := by decide +kernel
theorem dX10_nearOf_4 : decode cX10_nearOf 4 = .ok (.iconst 0, 1) := by decide +kernel
theorem dX10_nearOf_5 : decode cX10_nearOf 5 = .ok (.istore 5, 2) := by decide +kernel
theorem dX10_nearOf_7 : decode cX10_nearOf 7 = .ok (.iload 5, 2) := by decide +kernel
theorem dX10_nearOf_9 : decode cX10_nearOf 9 = .ok (.bipush 96, 2) := by decide +kernel
theorem dX10_nearOf_11 : decode cX10_nearOf 11 = .ok (.if_icmp .ge 43, 3) := by decide +kernel
theorem dX10_nearOf_14 : decode cX10_nearOf 14 = .ok (.aload_n 0, 1) := by decide +kernel
theorem dX10_nearOf_15 : decode cX10_nearOf 15 = .ok (.iload_n 1, 1) := by decide +kernel
theorem dX10_nearOf_16 : decode cX10_nearOf 16 = .ok (.iload 5, 2) := by decide +kernel
theorem dX10_nearOf_18 : decode cX10_nearOf 18 = .ok (.invokevirtual 94, 3) := by decide +kernel
theorem dX10_nearOf_21 : decode cX10_nearOf 21 = .ok (.iload 4, 2) := by decide +kernel
theorem dX10_nearOf_23 : decode cX10_nearOf 23 = .ok (.if_icmp .ge 25, 3) := by decide +kernel
theorem dX10_nearOf_26 : decode cX10_nearOf 26 = .ok (.aload_n 0, 1) := by decide +kernel
theorem dX10_nearOf_27 : decode cX10_nearOf 27 = .ok (.iload 5, 2) := by decide +kernel
theorem dX10_nearOf_29 : decode cX10_nearOf 29 = .ok (.iload_n 2, 1) := by decide +kernel
theorem dX10_nearOf_30 : decode cX10_nearOf 30 = .ok (.iload_n 3, 1) := by decide +kernel
theorem dX10_nearOf_31 : decode cX10_nearOf 31 = .ok (.iload_n 1, 1) := by decide +kernel
theorem dX10_nearOf_32 : decode cX10_nearOf 32 = .ok (.iconst 0, 1) := by decide +kernel
theorem dX10_nearOf_33 : decode cX10_nearOf 33 = .ok (.invokevirtual 90, 3) := by decide +kernel
theorem dX10_nearOf_36 : decode cX10_nearOf 36 = .ok (.ifCond .eq 12, 3) := by decide +kernel
theorem dX10_nearOf_39 : decode cX10_nearOf 39 = .ok (.aload_n 0, 1) := by decide +kernel
theorem dX10_nearOf_40 : decode cX10_nearOf 40 = .ok (.iload_n 1, 1) := by decide +kernel
theorem dX10_nearOf_41 : decode cX10_nearOf 41 = .ok (.iload 5, 2) := by decide +kernel
theorem dX10_nearOf_43 : decode cX10_nearOf 43 = .ok (.invokevirtual 94, 3) := by decide +kernel
theorem dX10_nearOf_46 : decode cX10_nearOf 46 = .ok (.istore 4, 2) := by decide +kernel
theorem dX10_nearOf_48 : decode cX10_nearOf 48 = .ok (.iinc 5 1, 3) := by decide +kernel
theorem dX10_nearOf_51 : decode cX10_nearOf 51 = .ok (.goto (-44), 3) := by decide +kernel
theorem dX10_nearOf_54 : decode cX10_nearOf 54 = .ok (.iconst 0, 1) := by decide +kernel
theorem dX10_nearOf_55 : decode cX10_nearOf 55 = .ok (.istore 5, 2) := by decide +kernel
theorem dX10_nearOf_57 : decode cX10_nearOf 57 = .ok (.iload 5, 2) := by decide +kernel
theorem dX10_nearOf_59 : decode cX10_nearOf 59 = .ok (.bipush 96, 2) := by decide +kernel
theorem dX10_nearOf_61 : decode cX10_nearOf 61 = .ok (.if_icmp .ge 93, 3) := by decide +kernel
theorem dX10_nearOf_64 : decode cX10_nearOf 64 = .ok (.iload 4, 2) := by decide +kernel
theorem dX10_nearOf_66 : decode cX10_nearOf 66 = .ok (.bipush 99, 2) := by decide +kernel
theorem dX10_nearOf_68 : decode cX10_nearOf 68 = .ok (.if_icmp .ne 86, 3) := by decide +kernel
theorem dX10_nearOf_71 : decode cX10_nearOf 71 = .ok (.aload_n 0, 1) := by decide +kernel
theorem dX10_nearOf_72 : decode cX10_nearOf 72 = .ok (.iload_n 1, 1) := by decide +kernel
theorem dX10_nearOf_73 : decode cX10_nearOf 73 = .ok (.iload 5, 2) := by decide +kernel
theorem dX10_nearOf_75 : decode cX10_nearOf 75 = .ok (.invokevirtual 94, 3) := by decide +kernel
theorem dX10_nearOf_78 : decode cX10_nearOf 78 = .ok (.iconst 5, 1) := by decide +kernel
theorem dX10_nearOf_79 : decode cX10_nearOf 79 = .ok (.if_icmp .le 7, 3) := by decide +kernel
theorem dX10_nearOf_82 : decode cX10_nearOf 82 = .ok (.iconst 1, 1) := by decide +kernel
theorem dX10_nearOf_83 : decode cX10_nearOf 83 = .ok (.goto 4, 3) := by decide +kernel
theorem dX10_nearOf_86 : decode cX10_nearOf 86 = .ok (.iconst 0, 1) := by decide +kernel
theorem dX10_nearOf_87 : decode cX10_nearOf 87 = .ok (.istore 6, 2) := by decide +kernel
theorem dX10_nearOf_89 : decode cX10_nearOf 89 = .ok (.iconst 0, 1) := by decide +kernel
theorem dX10_nearOf_90 : decode cX10_nearOf 90 = .ok (.istore 7, 2) := by decide +kernel
theorem dX10_nearOf_92 : decode cX10_nearOf 92 = .ok (.iload 7, 2) := by decide +kernel
theorem dX10_nearOf_94 : decode cX10_nearOf 94 = .ok (.aload_n 0, 1) := by decide +kernel
theorem dX10_nearOf_95 : decode cX10_nearOf 95 = .ok (.getfield 43, 3) := by decide +kernel
theorem dX10_nearOf_98 : decode cX10_nearOf 98 = .ok (.if_icmp .ge 42, 3) := by decide +kernel
theorem dX10_nearOf_101 : decode cX10_nearOf 101 = .ok (.iload 6, 2) := by decide +kernel
theorem dX10_nearOf_103 : decode cX10_nearOf 103 = .ok (.ifCond .ne 37, 3) := by decide +kernel
theorem dX10_nearOf_106 : decode cX10_nearOf 106 = .ok (.aload_n 0, 1) := by decide +kernel
theorem dX10_nearOf_107 : decode cX10_nearOf 107 = .ok (.iload 7, 2) := by decide +kernel
theorem dX10_nearOf_109 : decode cX10_nearOf 109 = .ok (.iload_n 3, 1) := by decide +kernel
theorem dX10_nearOf_110 : decode cX10_nearOf 110 = .ok (.invokevirtual 87, 3) := by decide +kernel
theorem dX10_nearOf_113 : decode cX10_nearOf 113 = .ok (.ifCond .eq 18, 3) := by decide +kernel
theorem dX10_nearOf_116 : decode cX10_nearOf 116 = .ok (.aload_n 0, 1) := by decide +kernel
theorem dX10_nearOf_117 : decode cX10_nearOf 117 = .ok (.iload 7, 2) := by decide +kernel
theorem dX10_nearOf_119 : decode cX10_nearOf 119 = .ok (.iload 5, 2) := by decide +kernel
theorem dX10_nearOf_121 : decode cX10_nearOf 121 = .ok (.invokevirtual 70, 3) := by decide +kernel
theorem dX10_nearOf_124 : decode cX10_nearOf 124 = .ok (.ifCond .eq 7, 3) := by decide +kernel
theorem dX10_nearOf_127 : decode cX10_nearOf 127 = .ok (.iconst 1, 1) := by decide +kernel
theorem dX10_nearOf_128 : decode cX10_nearOf 128 = .ok (.goto 4, 3) := by decide +kernel
theorem dX10_nearOf_131 : decode cX10_nearOf 131 = .ok (.iconst 0, 1) := by decide +kernel
theorem dX10_nearOf_132 : decode cX10_nearOf 132 = .ok (.istore 6, 2) := by decide +kernel
theorem dX10_nearOf_134 : decode cX10_nearOf 134 = .ok (.iinc 7 1, 3) := by decide +kernel
theorem dX10_nearOf_137 : decode cX10_nearOf 137 = .ok (.goto (-45), 3) := by decide +kernel
theorem dX10_nearOf_140 : decode cX10_nearOf 140 = .ok (.iload 6, 2) := by decide +kernel
theorem dX10_nearOf_142 : decode cX10_nearOf 142 = .ok (.ifCond .ne 6, 3) := by decide +kernel
theorem dX10_nearOf_145 : decode cX10_nearOf 145 = .ok (.bipush (-6), 2) := by decide +kernel
theorem dX10_nearOf_147 : decode cX10_nearOf 147 = .ok (.ireturn, 1) := by decide +kernel
theorem dX10_nearOf_148 : decode cX10_nearOf 148 = .ok (.iinc 5 1, 3) := by decide +kernel
theorem dX10_nearOf_151 : decode cX10_nearOf 151 = .ok (.goto (-94), 3) := by decide +kernel
theorem dX10_nearOf_154 : decode cX10_nearOf 154 = .ok (.iload 4, 2) := by decide +kernel
theorem dX10_nearOf_156 : decode cX10_nearOf 156 = .ok (.ireturn, 1) := by decide +kernel
theorem dX10_factOf_0 : decode cX10_factOf 0 = .ok (.iload_n 3, 1) := by decide +kernel
theorem dX10_factOf_1 : decode cX10_factOf 1 = .ok (.iconst 2, 1) := by decide +kernel
theorem dX10_factOf_2 : decode cX10_factOf 2 = .ok (.if_icmp .le 13, 3) := by decide +kernel
theorem dX10_factOf_5 : decode cX10_factOf 5 = .ok (.aload_n 0, 1) := by decide +kernel
theorem dX10_factOf_6 : decode cX10_factOf 6 = .ok (.iload_n 1, 1) := by decide +kernel
theorem dX10_factOf_7 : decode cX10_factOf 7 = .ok (.iload_n 3, 1) := by decide +kernel
theorem dX10_factOf_8 : decode cX10_factOf 8 = .ok (.iconst 3, 1) := by decide +kernel
theorem dX10_factOf_9 : decode cX10_factOf 9 = .ok (.isub, 1) := by decide +kernel
theorem dX10_factOf_10 : decode cX10_factOf 10 = .ok (.iload_n 2, 1) := by decide +kernel
theorem dX10_factOf_11 : decode cX10_factOf 11 = .ok (.invokevirtual 97, 3) := by decide +kernel
theorem dX10_factOf_14 : decode cX10_factOf 14 = .ok (.ireturn, 1) := by decide +kernel
theorem dX10_factOf_15 : decode cX10_factOf 15 = .ok (.aload_n 0, 1) := by decide +kernel
theorem dX10_factOf_16 : decode cX10_factOf 16 = .ok (.iload_n 1, 1) := by decide +kernel
theorem dX10_factOf_17 : decode cX10_factOf 17 = .ok (.iload_n 2, 1) := by decide +kernel
theorem dX10_factOf_18 : decode cX10_factOf 18 = .ok (.invokevirtual 100, 3) := by decide +kernel
theorem dX10_factOf_21 : decode cX10_factOf 21 = .ok (.istore 4, 2) := by decide +kernel
theorem dX10_factOf_23 : decode cX10_factOf 23 = .ok (.iload_n 3, 1) := by decide +kernel
theorem dX10_factOf_24 : decode cX10_factOf 24 = .ok (.ifCond .ne 8, 3) := by decide +kernel
theorem dX10_factOf_27 : decode cX10_factOf 27 = .ok (.iload 4, 2) := by decide +kernel
theorem dX10_factOf_29 : decode cX10_factOf 29 = .ok (.goto 33, 3) := by decide +kernel
theorem dX10_factOf_32 : decode cX10_factOf 32 = .ok (.iload 4, 2) := by decide +kernel
theorem dX10_factOf_34 : decode cX10_factOf 34 = .ok (.ifCond .ne 8, 3) := by decide +kernel
theorem dX10_factOf_37 : decode cX10_factOf 37 = .ok (.bipush (-6), 2) := by decide +kernel
theorem dX10_factOf_39 : decode cX10_factOf 39 = .ok (.goto 23, 3) := by decide +kernel
theorem dX10_factOf_42 : decode cX10_factOf 42 = .ok (.aload_n 0, 1) := by decide +kernel
theorem dX10_factOf_43 : decode cX10_factOf 43 = .ok (.getfield 7, 3) := by decide +kernel
theorem dX10_factOf_46 : decode cX10_factOf 46 = .ok (.bipush 11, 2) := by decide +kernel
theorem dX10_factOf_48 : decode cX10_factOf 48 = .ok (.iload_n 1, 1) := by decide +kernel
theorem dX10_factOf_49 : decode cX10_factOf 49 = .ok (.imul, 1) := by decide +kernel
theorem dX10_factOf_50 : decode cX10_factOf 50 = .ok (.iload_n 3, 1) := by decide +kernel
theorem dX10_factOf_51 : decode cX10_factOf 51 = .ok (.iconst 1, 1) := by decide +kernel
theorem dX10_factOf_52 : decode cX10_factOf 52 = .ok (.if_icmp .ne 7, 3) := by decide +kernel
theorem dX10_factOf_55 : decode cX10_factOf 55 = .ok (.iconst 5, 1) := by decide +kernel
theorem dX10_factOf_56 : decode cX10_factOf 56 = .ok (.goto 4, 3) := by decide +kernel
theorem dX10_factOf_59 : decode cX10_factOf 59 = .ok (.iconst 4, 1) := by decide +kernel
theorem dX10_factOf_60 : decode cX10_factOf 60 = .ok (.iadd, 1) := by decide +kernel
theorem dX10_factOf_61 : decode cX10_factOf 61 = .ok (.iaload, 1) := by decide +kernel
theorem dX10_factOf_62 : decode cX10_factOf 62 = .ok (.ireturn, 1) := by decide +kernel
theorem dX10_fact_0 : decode cX10_fact 0 = .ok (.aload_n 0, 1) := by decide +kernel
end
section
theorem dX10_fact_1 : decode cX10_fact 1 = .ok (.iload_n 1, 1) := by decide +kernel
theorem dX10_fact_2 : decode cX10_fact 2 = .ok (.invokevirtual 50, 3) := by decide +kernel
theorem dX10_fact_5 : decode cX10_fact 5 = .ok (.ifCond .ne 5, 3) := by decide +kernel
theorem dX10_fact_8 : decode cX10_fact 8 = .ok (.iconst (-1), 1) := by decide +kernel
theorem dX10_fact_9 : decode cX10_fact 9 = .ok (.ireturn, 1) := by decide +kernel
theorem dX10_fact_10 : decode cX10_fact 10 = .ok (.iload_n 2, 1) := by decide +kernel
theorem dX10_fact_11 : decode cX10_fact 11 = .ok (.invokestatic 46, 3) := by decide +kernel
theorem dX10_fact_14 : decode cX10_fact 14 = .ok (.ifCond .eq 23, 3) := by decide +kernel
theorem dX10_fact_17 : decode cX10_fact 17 = .ok (.iload_n 3, 1) := by decide +kernel
theorem dX10_fact_18 : decode cX10_fact 18 = .ok (.iconst 0, 1) := by decide +kernel
theorem dX10_fact_19 : decode cX10_fact 19 = .ok (.bipush 8, 2) := by decide +kernel
theorem dX10_fact_21 : decode cX10_fact 21 = .ok (.invokestatic 35, 3) := by decide +kernel
theorem dX10_fact_24 : decode cX10_fact 24 = .ok (.ifCond .eq 13, 3) := by decide +kernel
theorem dX10_fact_27 : decode cX10_fact 27 = .ok (.aload_n 0, 1) := by decide +kernel
theorem dX10_fact_28 : decode cX10_fact 28 = .ok (.iload_n 1, 1) := by decide +kernel
theorem dX10_fact_29 : decode cX10_fact 29 = .ok (.iload_n 2, 1) := by decide +kernel
theorem dX10_fact_30 : decode cX10_fact 30 = .ok (.iload_n 3, 1) := by decide +kernel
theorem dX10_fact_31 : decode cX10_fact 31 = .ok (.invokevirtual 103, 3) := by decide +kernel
theorem dX10_fact_34 : decode cX10_fact 34 = .ok (.goto 5, 3) := by decide +kernel
theorem dX10_fact_37 : decode cX10_fact 37 = .ok (.bipush (-2), 2) := by decide +kernel
theorem dX10_fact_39 : decode cX10_fact 39 = .ok (.ireturn, 1) := by decide +kernel
theorem dX10_fitOf_0 : decode cX10_fitOf 0 = .ok (.iconst 0, 1) := by decide +kernel
theorem dX10_fitOf_1 : decode cX10_fitOf 1 = .ok (.istore 4, 2) := by decide +kernel
theorem dX10_fitOf_3 : decode cX10_fitOf 3 = .ok (.iconst 2, 1) := by decide +kernel
theorem dX10_fitOf_4 : decode cX10_fitOf 4 = .ok (.istore 5, 2) := by decide +kernel
theorem dX10_fitOf_6 : decode cX10_fitOf 6 = .ok (.iconst 0, 1) := by decide +kernel
theorem dX10_fitOf_7 : decode cX10_fitOf 7 = .ok (.istore 6, 2) := by decide +kernel
theorem dX10_fitOf_9 : decode cX10_fitOf 9 = .ok (.iload 6, 2) := by decide +kernel
theorem dX10_fitOf_11 : decode cX10_fitOf 11 = .ok (.aload_n 0, 1) := by decide +kernel
theorem dX10_fitOf_12 : decode cX10_fitOf 12 = .ok (.getfield 26, 3) := by decide +kernel
theorem dX10_fitOf_15 : decode cX10_fitOf 15 = .ok (.iload_n 1, 1) := by decide +kernel
theorem dX10_fitOf_16 : decode cX10_fitOf 16 = .ok (.iaload, 1) := by decide +kernel
theorem dX10_fitOf_17 : decode cX10_fitOf 17 = .ok (.if_icmp .ge 329, 3) := by decide +kernel
theorem dX10_fitOf_20 : decode cX10_fitOf 20 = .ok (.aload_n 0, 1) := by decide +kernel
theorem dX10_fitOf_21 : decode cX10_fitOf 21 = .ok (.getfield 29, 3) := by decide +kernel
theorem dX10_fitOf_24 : decode cX10_fitOf 24 = .ok (.bipush 40, 2) := by decide +kernel
theorem dX10_fitOf_26 : decode cX10_fitOf 26 = .ok (.iload_n 1, 1) := by decide +kernel
theorem dX10_fitOf_27 : decode cX10_fitOf 27 = .ok (.imul, 1) := by decide +kernel
theorem dX10_fitOf_28 : decode cX10_fitOf 28 = .ok (.iload 6, 2) := by decide +kernel
theorem dX10_fitOf_30 : decode cX10_fitOf 30 = .ok (.iadd, 1) := by decide +kernel
theorem dX10_fitOf_31 : decode cX10_fitOf 31 = .ok (.iaload, 1) := by decide +kernel
theorem dX10_fitOf_32 : decode cX10_fitOf 32 = .ok (.istore 7, 2) := by decide +kernel
theorem dX10_fitOf_34 : decode cX10_fitOf 34 = .ok (.iinc 6 1, 3) := by decide +kernel
theorem dX10_fitOf_37 : decode cX10_fitOf 37 = .ok (.iload 7, 2) := by decide +kernel
theorem dX10_fitOf_39 : decode cX10_fitOf 39 = .ok (.bipush 115, 2) := by decide +kernel
theorem dX10_fitOf_41 : decode cX10_fitOf 41 = .ok (.if_icmp .ne 7, 3) := by decide +kernel
theorem dX10_fitOf_44 : decode cX10_fitOf 44 = .ok (.iconst 0, 1) := by decide +kernel
theorem dX10_fitOf_45 : decode cX10_fitOf 45 = .ok (.goto 42, 3) := by decide +kernel
theorem dX10_fitOf_48 : decode cX10_fitOf 48 = .ok (.iload 7, 2) := by decide +kernel
theorem dX10_fitOf_50 : decode cX10_fitOf 50 = .ok (.bipush 107, 2) := by decide +kernel
theorem dX10_fitOf_52 : decode cX10_fitOf 52 = .ok (.if_icmp .ne 7, 3) := by decide +kernel
theorem dX10_fitOf_55 : decode cX10_fitOf 55 = .ok (.iconst 1, 1) := by decide +kernel
theorem dX10_fitOf_56 : decode cX10_fitOf 56 = .ok (.goto 31, 3) := by decide +kernel
theorem dX10_fitOf_59 : decode cX10_fitOf 59 = .ok (.iload 7, 2) := by decide +kernel
theorem dX10_fitOf_61 : decode cX10_fitOf 61 = .ok (.bipush 104, 2) := by decide +kernel
theorem dX10_fitOf_63 : decode cX10_fitOf 63 = .ok (.if_icmp .ne 7, 3) := by decide +kernel
theorem dX10_fitOf_66 : decode cX10_fitOf 66 = .ok (.iconst 2, 1) := by decide +kernel
theorem dX10_fitOf_67 : decode cX10_fitOf 67 = .ok (.goto 20, 3) := by decide +kernel
theorem dX10_fitOf_70 : decode cX10_fitOf 70 = .ok (.iconst 3, 1) := by decide +kernel
theorem dX10_fitOf_71 : decode cX10_fitOf 71 = .ok (.aload_n 0, 1) := by decide +kernel
theorem dX10_fitOf_72 : decode cX10_fitOf 72 = .ok (.getfield 29, 3) := by decide +kernel
theorem dX10_fitOf_75 : decode cX10_fitOf 75 = .ok (.bipush 40, 2) := by decide +kernel
theorem dX10_fitOf_77 : decode cX10_fitOf 77 = .ok (.iload_n 1, 1) := by decide +kernel
theorem dX10_fitOf_78 : decode cX10_fitOf 78 = .ok (.imul, 1) := by decide +kernel
theorem dX10_fitOf_79 : decode cX10_fitOf 79 = .ok (.iload 6, 2) := by decide +kernel
theorem dX10_fitOf_81 : decode cX10_fitOf 81 = .ok (.iadd, 1) := by decide +kernel
theorem dX10_fitOf_82 : decode cX10_fitOf 82 = .ok (.iaload, 1) := by decide +kernel
theorem dX10_fitOf_83 : decode cX10_fitOf 83 = .ok (.iadd, 1) := by decide +kernel
theorem dX10_fitOf_84 : decode cX10_fitOf 84 = .ok (.bipush 48, 2) := by decide +kernel
theorem dX10_fitOf_86 : decode cX10_fitOf 86 = .ok (.isub, 1) := by decide +kernel
theorem dX10_fitOf_87 : decode cX10_fitOf 87 = .ok (.istore 8, 2) := by decide +kernel
theorem dX10_fitOf_89 : decode cX10_fitOf 89 = .ok (.iload 6, 2) := by decide +kernel
theorem dX10_fitOf_91 : decode cX10_fitOf 91 = .ok (.iload 7, 2) := by decide +kernel
theorem dX10_fitOf_93 : decode cX10_fitOf 93 = .ok (.bipush 110, 2) := by decide +kernel
theorem dX10_fitOf_95 : decode cX10_fitOf 95 = .ok (.if_icmp .ne 7, 3) := by decide +kernel
theorem dX10_fitOf_98 : decode cX10_fitOf 98 = .ok (.iconst 1, 1) := by decide +kernel
theorem dX10_fitOf_99 : decode cX10_fitOf 99 = .ok (.goto 4, 3) := by decide +kernel
theorem dX10_fitOf_102 : decode cX10_fitOf 102 = .ok (.iconst 0, 1) := by decide +kernel
theorem dX10_fitOf_103 : decode cX10_fitOf 103 = .ok (.iadd, 1) := by decide +kernel
theorem dX10_fitOf_104 : decode cX10_fitOf 104 = .ok (.istore 6, 2) := by decide +kernel
theorem dX10_fitOf_106 : decode cX10_fitOf 106 = .ok (.aload_n 0, 1) := by decide +kernel
theorem dX10_fitOf_107 : decode cX10_fitOf 107 = .ok (.getfield 29, 3) := by decide +kernel
theorem dX10_fitOf_110 : decode cX10_fitOf 110 = .ok (.bipush 40, 2) := by decide +kernel
theorem dX10_fitOf_112 : decode cX10_fitOf 112 = .ok (.iload_n 1, 1) := by decide +kernel
theorem dX10_fitOf_113 : decode cX10_fitOf 113 = .ok (.imul, 1) := by decide +kernel
theorem dX10_fitOf_114 : decode cX10_fitOf 114 = .ok (.iload 6, 2) := by decide +kernel
theorem dX10_fitOf_116 : decode cX10_fitOf 116 = .ok (.iadd, 1) := by decide +kernel
theorem dX10_fitOf_117 : decode cX10_fitOf 117 = .ok (.iaload, 1) := by decide +kernel
theorem dX10_fitOf_118 : decode cX10_fitOf 118 = .ok (.istore 9, 2) := by decide +kernel
theorem dX10_fitOf_120 : decode cX10_fitOf 120 = .ok (.iinc 6 1, 3) := by decide +kernel
theorem dX10_fitOf_123 : decode cX10_fitOf 123 = .ok (.iconst 0, 1) := by decide +kernel
theorem dX10_fitOf_124 : decode cX10_fitOf 124 = .ok (.istore 10, 2) := by decide +kernel
theorem dX10_fitOf_126 : decode cX10_fitOf 126 = .ok (.iload 6, 2) := by decide +kernel
theorem dX10_fitOf_128 : decode cX10_fitOf 128 = .ok (.aload_n 0, 1) := by decide +kernel
theorem dX10_fitOf_129 : decode cX10_fitOf 129 = .ok (.getfield 26, 3) := by decide +kernel
theorem dX10_fitOf_132 : decode cX10_fitOf 132 = .ok (.iload_n 1, 1) := by decide +kernel
theorem dX10_fitOf_133 : decode cX10_fitOf 133 = .ok (.iaload, 1) := by decide +kernel
theorem dX10_fitOf_134 : decode cX10_fitOf 134 = .ok (.if_icmp .ge 54, 3) := by decide +kernel
theorem dX10_fitOf_137 : decode cX10_fitOf 137 = .ok (.aload_n 0, 1) := by decide +kernel
theorem dX10_fitOf_138 : decode cX10_fitOf 138 = .ok (.getfield 29, 3) := by decide +kernel
theorem dX10_fitOf_141 : decode cX10_fitOf 141 = .ok (.bipush 40, 2) := by decide +kernel
theorem dX10_fitOf_143 : decode cX10_fitOf 143 = .ok (.iload_n 1, 1) := by decide +kernel
theorem dX10_fitOf_144 : decode cX10_fitOf 144 = .ok (.imul, 1) := by decide +kernel
theorem dX10_fitOf_145 : decode cX10_fitOf 145 = .ok (.iload 6, 2) := by decide +kernel
theorem dX10_fitOf_147 : decode cX10_fitOf 147 = .ok (.iadd, 1) := by decide +kernel
theorem dX10_fitOf_148 : decode cX10_fitOf 148 = .ok (.iaload, 1) := by decide +kernel
theorem dX10_fitOf_149 : decode cX10_fitOf 149 = .ok (.bipush 48, 2) := by decide +kernel
theorem dX10_fitOf_151 : decode cX10_fitOf 151 = .ok (.bipush 57, 2) := by decide +kernel
theorem dX10_fitOf_153 : decode cX10_fitOf 153 = .ok (.invokestatic 35, 3) := by decide +kernel
theorem dX10_fitOf_156 : decode cX10_fitOf 156 = .ok (.ifCond .eq 32, 3) := by decide +kernel
theorem dX10_fitOf_159 : decode cX10_fitOf 159 = .ok (.bipush 10, 2) := by decide +kernel
theorem dX10_fitOf_161 : decode cX10_fitOf 161 = .ok (.iload 10, 2) := by decide +kernel
theorem dX10_fitOf_163 : decode cX10_fitOf 163 = .ok (.imul, 1) := by decide +kernel
theorem dX10_fitOf_164 : decode cX10_fitOf 164 = .ok (.aload_n 0, 1) := by decide +kernel
theorem dX10_fitOf_165 : decode cX10_fitOf 165 = .ok (.getfield 29, 3) := by decide +kernel
theorem dX10_fitOf_168 : decode cX10_fitOf 168 = .ok (.bipush 40, 2) := by decide +kernel
theorem dX10_fitOf_170 : decode cX10_fitOf 170 = .ok (.iload_n 1, 1) := by decide +kernel
theorem dX10_fitOf_171 : decode cX10_fitOf 171 = .ok (.imul, 1) := by decide +kernel
theorem dX10_fitOf_172 : decode cX10_fitOf 172 = .ok (.iload 6, 2) := by decide +kernel
theorem dX10_fitOf_174 : decode cX10_fitOf 174 = .ok (.iadd, 1) := by decide +kernel
theorem dX10_fitOf_175 : decode cX10_fitOf 175 = .ok (.iaload, 1) := by decide +kernel
theorem dX10_fitOf_176 : decode cX10_fitOf 176 = .ok (.iadd, 1) := by decide +kernel
theorem dX10_fitOf_177 : decode cX10_fitOf 177 = .ok (.bipush 48, 2) := by decide +kernel
theorem dX10_fitOf_179 : decode cX10_fitOf 179 = .ok (.isub, 1) := by decide +kernel
theorem dX10_fitOf_180 : decode cX10_fitOf 180 = .ok (.istore 10, 2) := by decide +kernel
theorem dX10_fitOf_182 : decode cX10_fitOf 182 = .ok (.iinc 6 1, 3) := by decide +kernel
theorem dX10_fitOf_185 : decode cX10_fitOf 185 = .ok (.goto (-59), 3) := by decide +kernel
theorem dX10_fitOf_188 : decode cX10_fitOf 188 = .ok (.aload_n 0, 1) := by decide +kernel
theorem dX10_fitOf_189 : decode cX10_fitOf 189 = .ok (.iload_n 2, 1) := by decide +kernel
theorem dX10_fitOf_190 : decode cX10_fitOf 190 = .ok (.iload_n 3, 1) := by decide +kernel
theorem dX10_fitOf_191 : decode cX10_fitOf 191 = .ok (.iload 8, 2) := by decide +kernel
theorem dX10_fitOf_193 : decode cX10_fitOf 193 = .ok (.invokevirtual 103, 3) := by decide +kernel
theorem dX10_fitOf_196 : decode cX10_fitOf 196 = .ok (.istore 11, 2) := by decide +kernel
theorem dX10_fitOf_198 : decode cX10_fitOf 198 = .ok (.iload 9, 2) := by decide +kernel
theorem dX10_fitOf_200 : decode cX10_fitOf 200 = .ok (.bipush 60, 2) := by decide +kernel
theorem dX10_fitOf_202 : decode cX10_fitOf 202 = .ok (.if_icmp .ne 18, 3) := by decide +kernel
theorem dX10_fitOf_205 : decode cX10_fitOf 205 = .ok (.iload 11, 2) := by decide +kernel
theorem dX10_fitOf_207 : decode cX10_fitOf 207 = .ok (.iload 10, 2) := by decide +kernel
theorem dX10_fitOf_209 : decode cX10_fitOf 209 = .ok (.if_icmp .ge 7, 3) := by decide +kernel
theorem dX10_fitOf_212 : decode cX10_fitOf 212 = .ok (.iconst 1, 1) := by decide +kernel
theorem dX10_fitOf_213 : decode cX10_fitOf 213 = .ok (.goto 41, 3) := by decide +kernel
theorem dX10_fitOf_216 : decode cX10_fitOf 216 = .ok (.iconst 0, 1) := by decide +kernel
theorem dX10_fitOf_217 : decode cX10_fitOf 217 = .ok (.goto 37, 3) := by decide +kernel
theorem dX10_fitOf_220 : decode cX10_fitOf 220 = .ok (.iload 9, 2) := by decide +kernel
theorem dX10_fitOf_222 : decode cX10_fitOf 222 = .ok (.bipush 62, 2) := by decide +kernel
theorem dX10_fitOf_224 : decode cX10_fitOf 224 = .ok (.if_icmp .ne 18, 3) := by decide +kernel
theorem dX10_fitOf_227 : decode cX10_fitOf 227 = .ok (.iload 11, 2) := by decide +kernel
theorem dX10_fitOf_229 : decode cX10_fitOf 229 = .ok (.iload 10, 2) := by decide +kernel
theorem dX10_fitOf_231 : decode cX10_fitOf 231 = .ok (.if_icmp .le 7, 3) := by decide +kernel
theorem dX10_fitOf_234 : decode cX10_fitOf 234 = .ok (.iconst 1, 1) := by decide +kernel
theorem dX10_fitOf_235 : decode cX10_fitOf 235 = .ok (.goto 19, 3) := by decide +kernel
theorem dX10_fitOf_238 : decode cX10_fitOf 238 = .ok (.iconst 0, 1) := by decide +kernel
theorem dX10_fitOf_239 : decode cX10_fitOf 239 = .ok (.goto 15, 3) := by decide +kernel
theorem dX10_fitOf_242 : decode cX10_fitOf 242 = .ok (.iload 11, 2) := by decide +kernel
theorem dX10_fitOf_244 : decode cX10_fitOf 244 = .ok (.iload 10, 2) := by decide +kernel
theorem dX10_fitOf_246 : decode cX10_fitOf 246 = .ok (.if_icmp .ne 7, 3) := by decide +kernel
theorem dX10_fitOf_249 : decode cX10_fitOf 249 = .ok (.iconst 1, 1) := by decide +kernel
theorem dX10_fitOf_250 : decode cX10_fitOf 250 = .ok (.goto 4, 3) := by decide +kernel
theorem dX10_fitOf_253 : decode cX10_fitOf 253 = .ok (.iconst 0, 1) := by decide +kernel
theorem dX10_fitOf_254 : decode cX10_fitOf 254 = .ok (.istore 12, 2) := by decide +kernel
theorem dX10_fitOf_256 : decode cX10_fitOf 256 = .ok (.iload 11, 2) := by decide +kernel
theorem dX10_fitOf_258 : decode cX10_fitOf 258 = .ok (.ifCond .ge 7, 3) := by decide +kernel
theorem dX10_fitOf_261 : decode cX10_fitOf 261 = .ok (.iconst 1, 1) := by decide +kernel
theorem dX10_fitOf_262 : decode cX10_fitOf 262 = .ok (.goto 13, 3) := by decide +kernel
theorem dX10_fitOf_265 : decode cX10_fitOf 265 = .ok (.iload 12, 2) := by decide +kernel
theorem dX10_fitOf_267 : decode cX10_fitOf 267 = .ok (.ifCond .eq 7, 3) := by decide +kernel
theorem dX10_fitOf_270 : decode cX10_fitOf 270 = .ok (.iconst 2, 1) := by decide +kernel
theorem dX10_fitOf_271 : decode cX10_fitOf 271 = .ok (.goto 4, 3) := by decide +kernel
theorem dX10_fitOf_274 : decode cX10_fitOf 274 = .ok (.iconst 0, 1) := by decide +kernel
theorem dX10_fitOf_275 : decode cX10_fitOf 275 = .ok (.istore 13, 2) := by decide +kernel
theorem dX10_fitOf_277 : decode cX10_fitOf 277 = .ok (.iload 13, 2) := by decide +kernel
theorem dX10_fitOf_279 : decode cX10_fitOf 279 = .ok (.iload 5, 2) := by decide +kernel
theorem dX10_fitOf_281 : decode cX10_fitOf 281 = .ok (.if_icmp .ge 8, 3) := by decide +kernel
theorem dX10_fitOf_284 : decode cX10_fitOf 284 = .ok (.iload 13, 2) := by decide +kernel
theorem dX10_fitOf_286 : decode cX10_fitOf 286 = .ok (.goto 5, 3) := by decide +kernel
theorem dX10_fitOf_289 : decode cX10_fitOf 289 = .ok (.iload 5, 2) := by decide +kernel
theorem dX10_fitOf_291 : decode cX10_fitOf 291 = .ok (.istore 5, 2) := by decide +kernel
theorem dX10_fitOf_293 : decode cX10_fitOf 293 = .ok (.iload 6, 2) := by decide +kernel
theorem dX10_fitOf_295 : decode cX10_fitOf 295 = .ok (.aload_n 0, 1) := by decide +kernel
theorem dX10_fitOf_296 : decode cX10_fitOf 296 = .ok (.getfield 26, 3) := by decide +kernel
theorem dX10_fitOf_299 : decode cX10_fitOf 299 = .ok (.iload_n 1, 1) := by decide +kernel
theorem dX10_fitOf_300 : decode cX10_fitOf 300 = .ok (.iaload, 1) := by decide +kernel
theorem dX10_fitOf_301 : decode cX10_fitOf 301 = .ok (.if_icmp .eq 20, 3) := by decide +kernel
theorem dX10_fitOf_304 : decode cX10_fitOf 304 = .ok (.aload_n 0, 1) := by decide +kernel
theorem dX10_fitOf_305 : decode cX10_fitOf 305 = .ok (.getfield 29, 3) := by decide +kernel
theorem dX10_fitOf_308 : decode cX10_fitOf 308 = .ok (.bipush 40, 2) := by decide +kernel
theorem dX10_fitOf_310 : decode cX10_fitOf 310 = .ok (.iload_n 1, 1) := by decide +kernel
theorem dX10_fitOf_311 : decode cX10_fitOf 311 = .ok (.imul, 1) := by decide +kernel
theorem dX10_fitOf_312 : decode cX10_fitOf 312 = .ok (.iload 6, 2) := by decide +kernel
theorem dX10_fitOf_314 : decode cX10_fitOf 314 = .ok (.iadd, 1) := by decide +kernel
theorem dX10_fitOf_315 : decode cX10_fitOf 315 = .ok (.iaload, 1) := by decide +kernel
theorem dX10_fitOf_316 : decode cX10_fitOf 316 = .ok (.bipush 124, 2) := by decide +kernel
theorem dX10_fitOf_318 : decode cX10_fitOf 318 = .ok (.if_icmp .ne 22, 3) := by decide +kernel
theorem dX10_fitOf_321 : decode cX10_fitOf 321 = .ok (.iload 5, 2) := by decide +kernel
theorem dX10_fitOf_323 : decode cX10_fitOf 323 = .ok (.iload 4, 2) := by decide +kernel
theorem dX10_fitOf_325 : decode cX10_fitOf 325 = .ok (.if_icmp .le 8, 3) := by decide +kernel
theorem dX10_fitOf_328 : decode cX10_fitOf 328 = .ok (.iload 5, 2) := by decide +kernel
theorem dX10_fitOf_330 : decode cX10_fitOf 330 = .ok (.goto 5, 3) := by decide +kernel
theorem dX10_fitOf_333 : decode cX10_fitOf 333 = .ok (.iload 4, 2) := by decide +kernel
theorem dX10_fitOf_335 : decode cX10_fitOf 335 = .ok (.istore 4, 2) := by decide +kernel
theorem dX10_fitOf_337 : decode cX10_fitOf 337 = .ok (.iconst 2, 1) := by decide +kernel
theorem dX10_fitOf_338 : decode cX10_fitOf 338 = .ok (.istore 5, 2) := by decide +kernel
theorem dX10_fitOf_340 : decode cX10_fitOf 340 = .ok (.iinc 6 1, 3) := by decide +kernel
theorem dX10_fitOf_343 : decode cX10_fitOf 343 = .ok (.goto (-334), 3) := by decide +kernel
theorem dX10_fitOf_346 : decode cX10_fitOf 346 = .ok (.iload 4, 2) := by decide +kernel
theorem dX10_fitOf_348 : decode cX10_fitOf 348 = .ok (.ireturn, 1) := by decide +kernel
theorem dX10_isUse_0 : decode cX10_isUse 0 = .ok (.iload_n 1, 1) := by decide +kernel
theorem dX10_isUse_1 : decode cX10_isUse 1 = .ok (.iconst 0, 1) := by decide +kernel
theorem dX10_isUse_2 : decode cX10_isUse 2 = .ok (.iconst 4, 1) := by decide +kernel
theorem dX10_isUse_3 : decode cX10_isUse 3 = .ok (.invokestatic 35, 3) := by decide +kernel
theorem dX10_isUse_6 : decode cX10_isUse 6 = .ok (.ifCond .eq 16, 3) := by decide +kernel
theorem dX10_isUse_9 : decode cX10_isUse 9 = .ok (.aload_n 0, 1) := by decide +kernel
theorem dX10_isUse_10 : decode cX10_isUse 10 = .ok (.getfield 26, 3) := by decide +kernel
theorem dX10_isUse_13 : decode cX10_isUse 13 = .ok (.iload_n 1, 1) := by decide +kernel
theorem dX10_isUse_14 : decode cX10_isUse 14 = .ok (.iaload, 1) := by decide +kernel
theorem dX10_isUse_15 : decode cX10_isUse 15 = .ok (.ifCond .le 7, 3) := by decide +kernel
theorem dX10_isUse_18 : decode cX10_isUse 18 = .ok (.iconst 1, 1) := by decide +kernel
theorem dX10_isUse_19 : decode cX10_isUse 19 = .ok (.goto 4, 3) := by decide +kernel
theorem dX10_isUse_22 : decode cX10_isUse 22 = .ok (.iconst 0, 1) := by decide +kernel
theorem dX10_isUse_23 : decode cX10_isUse 23 = .ok (.ireturn, 1) := by decide +kernel
theorem dX10_fit_0 : decode cX10_fit 0 = .ok (.aload_n 0, 1) := by decide +kernel
theorem dX10_fit_1 : decode cX10_fit 1 = .ok (.iload_n 1, 1) := by decide +kernel
theorem dX10_fit_2 : decode cX10_fit 2 = .ok (.invokevirtual 106, 3) := by decide +kernel
theorem dX10_fit_5 : decode cX10_fit 5 = .ok (.ifCond .eq 11, 3) := by decide +kernel
theorem dX10_fit_8 : decode cX10_fit 8 = .ok (.aload_n 0, 1) := by decide +kernel
theorem dX10_fit_9 : decode cX10_fit 9 = .ok (.iload_n 2, 1) := by decide +kernel
theorem dX10_fit_10 : decode cX10_fit 10 = .ok (.invokevirtual 50, 3) := by decide +kernel
theorem dX10_fit_13 : decode cX10_fit 13 = .ok (.ifCond .ne 5, 3) := by decide +kernel
theorem dX10_fit_16 : decode cX10_fit 16 = .ok (.iconst (-1), 1) := by decide +kernel
theorem dX10_fit_17 : decode cX10_fit 17 = .ok (.ireturn, 1) := by decide +kernel
theorem dX10_fit_18 : decode cX10_fit 18 = .ok (.iload_n 3, 1) := by decide +kernel
theorem dX10_fit_19 : decode cX10_fit 19 = .ok (.invokestatic 46, 3) := by decide +kernel
theorem dX10_fit_22 : decode cX10_fit 22 = .ok (.ifCond .eq 13, 3) := by decide +kernel
theorem dX10_fit_25 : decode cX10_fit 25 = .ok (.aload_n 0, 1) := by decide +kernel
theorem dX10_fit_26 : decode cX10_fit 26 = .ok (.iload_n 1, 1) := by decide +kernel
theorem dX10_fit_27 : decode cX10_fit 27 = .ok (.iload_n 2, 1) := by decide +kernel
theorem dX10_fit_28 : decode cX10_fit 28 = .ok (.iload_n 3, 1) := by decide +kernel
theorem dX10_fit_29 : decode cX10_fit 29 = .ok (.invokevirtual 109, 3) := by decide +kernel
theorem dX10_fit_32 : decode cX10_fit 32 = .ok (.goto 5, 3) := by decide +kernel
theorem dX10_fit_35 : decode cX10_fit 35 = .ok (.bipush (-2), 2) := by decide +kernel
theorem dX10_fit_37 : decode cX10_fit 37 = .ok (.ireturn, 1) := by decide +kernel
theorem dX10_could_0 : decode cX10_could 0 = .ok (.aload_n 0, 1) := by decide +kernel
theorem dX10_could_1 : decode cX10_could 1 = .ok (.iload_n 1, 1) := by decide +kernel
theorem dX10_could_2 : decode cX10_could 2 = .ok (.invokevirtual 106, 3) := by decide +kernel
theorem dX10_could_5 : decode cX10_could 5 = .ok (.ifCond .eq 11, 3) := by decide +kernel
theorem dX10_could_8 : decode cX10_could 8 = .ok (.aload_n 0, 1) := by decide +kernel
theorem dX10_could_9 : decode cX10_could 9 = .ok (.iload_n 2, 1) := by decide +kernel
theorem dX10_could_10 : decode cX10_could 10 = .ok (.invokevirtual 50, 3) := by decide +kernel
theorem dX10_could_13 : decode cX10_could 13 = .ok (.ifCond .ne 5, 3) := by decide +kernel
theorem dX10_could_16 : decode cX10_could 16 = .ok (.iconst (-1), 1) := by decide +kernel
theorem dX10_could_17 : decode cX10_could 17 = .ok (.ireturn, 1) := by decide +kernel
theorem dX10_could_18 : decode cX10_could 18 = .ok (.iconst 0, 1) := by decide +kernel
theorem dX10_could_19 : decode cX10_could 19 = .ok (.istore_n 3, 1) := by decide +kernel
theorem dX10_could_20 : decode cX10_could 20 = .ok (.iload_n 3, 1) := by decide +kernel
theorem dX10_could_21 : decode cX10_could 21 = .ok (.bipush 100, 2) := by decide +kernel
theorem dX10_could_23 : decode cX10_could 23 = .ok (.if_icmp .ge 83, 3) := by decide +kernel
theorem dX10_could_26 : decode cX10_could 26 = .ok (.iload_n 3, 1) := by decide +kernel
theorem dX10_could_27 : decode cX10_could 27 = .ok (.ifCond .ne 7, 3) := by decide +kernel
theorem dX10_could_30 : decode cX10_could 30 = .ok (.iconst 1, 1) := by decide +kernel
theorem dX10_could_31 : decode cX10_could 31 = .ok (.goto 4, 3) := by decide +kernel
theorem dX10_could_34 : decode cX10_could 34 = .ok (.iconst 0, 1) := by decide +kernel
theorem dX10_could_35 : decode cX10_could 35 = .ok (.istore 4, 2) := by decide +kernel
theorem dX10_could_37 : decode cX10_could 37 = .ok (.iconst 0, 1) := by decide +kernel
theorem dX10_could_38 : decode cX10_could 38 = .ok (.istore 5, 2) := by decide +kernel
theorem dX10_could_40 : decode cX10_could 40 = .ok (.iload 5, 2) := by decide +kernel
theorem dX10_could_42 : decode cX10_could 42 = .ok (.aload_n 0, 1) := by decide +kernel
theorem dX10_could_43 : decode cX10_could 43 = .ok (.getfield 43, 3) := by decide +kernel
theorem dX10_could_46 : decode cX10_could 46 = .ok (.if_icmp .ge 36, 3) := by decide +kernel
theorem dX10_could_49 : decode cX10_could 49 = .ok (.iload 4, 2) := by decide +kernel
theorem dX10_could_51 : decode cX10_could 51 = .ok (.ifCond .ne 18, 3) := by decide +kernel
theorem dX10_could_54 : decode cX10_could 54 = .ok (.aload_n 0, 1) := by decide +kernel
theorem dX10_could_55 : decode cX10_could 55 = .ok (.getfield 17, 3) := by decide +kernel
theorem dX10_could_58 : decode cX10_could 58 = .ok (.iconst 5, 1) := by decide +kernel
theorem dX10_could_59 : decode cX10_could 59 = .ok (.iload 5, 2) := by decide +kernel
theorem dX10_could_61 : decode cX10_could 61 = .ok (.imul, 1) := by decide +kernel
theorem dX10_could_62 : decode cX10_could 62 = .ok (.iconst 2, 1) := by decide +kernel
theorem dX10_could_63 : decode cX10_could 63 = .ok (.iadd, 1) := by decide +kernel
theorem dX10_could_64 : decode cX10_could 64 = .ok (.iaload, 1) := by decide +kernel
theorem dX10_could_65 : decode cX10_could 65 = .ok (.iload_n 3, 1) := by decide +kernel
theorem dX10_could_66 : decode cX10_could 66 = .ok (.if_icmp .ne 7, 3) := by decide +kernel
theorem dX10_could_69 : decode cX10_could 69 = .ok (.iconst 1, 1) := by decide +kernel
theorem dX10_could_70 : decode cX10_could 70 = .ok (.goto 4, 3) := by decide +kernel
theorem dX10_could_73 : decode cX10_could 73 = .ok (.iconst 0, 1) := by decide +kernel
theorem dX10_could_74 : decode cX10_could 74 = .ok (.istore 4, 2) := by decide +kernel
theorem dX10_could_76 : decode cX10_could 76 = .ok (.iinc 5 1, 3) := by decide +kernel
theorem dX10_could_79 : decode cX10_could 79 = .ok (.goto (-39), 3) := by decide +kernel
theorem dX10_could_82 : decode cX10_could 82 = .ok (.iload 4, 2) := by decide +kernel
theorem dX10_could_84 : decode cX10_could 84 = .ok (.ifCond .eq 16, 3) := by decide +kernel
theorem dX10_could_87 : decode cX10_could 87 = .ok (.aload_n 0, 1) := by decide +kernel
theorem dX10_could_88 : decode cX10_could 88 = .ok (.iload_n 1, 1) := by decide +kernel
theorem dX10_could_89 : decode cX10_could 89 = .ok (.iload_n 2, 1) := by decide +kernel
theorem dX10_could_90 : decode cX10_could 90 = .ok (.iload_n 3, 1) := by decide +kernel
theorem dX10_could_91 : decode cX10_could 91 = .ok (.invokevirtual 109, 3) := by decide +kernel
theorem dX10_could_94 : decode cX10_could 94 = .ok (.iconst 2, 1) := by decide +kernel
theorem dX10_could_95 : decode cX10_could 95 = .ok (.if_icmp .ne 5, 3) := by decide +kernel
theorem dX10_could_98 : decode cX10_could 98 = .ok (.iload_n 3, 1) := by decide +kernel
theorem dX10_could_99 : decode cX10_could 99 = .ok (.ireturn, 1) := by decide +kernel
theorem dX10_could_100 : decode cX10_could 100 = .ok (.iinc 3 1, 3) := by decide +kernel
theorem dX10_could_103 : decode cX10_could 103 = .ok (.goto (-83), 3) := by decide +kernel
theorem dX10_could_106 : decode cX10_could 106 = .ok (.bipush (-6), 2) := by decide +kernel
theorem dX10_could_108 : decode cX10_could 108 = .ok (.ireturn, 1) := by decide +kernel
theorem dX10_all_0 : decode cX10_all 0 = .ok (.aload_n 0, 1) := by decide +kernel
theorem dX10_all_1 : decode cX10_all 1 = .ok (.iload_n 1, 1) := by decide +kernel
theorem dX10_all_2 : decode cX10_all 2 = .ok (.invokevirtual 106, 3) := by decide +kernel
theorem dX10_all_5 : decode cX10_all 5 = .ok (.ifCond .ne 5, 3) := by decide +kernel
theorem dX10_all_8 : decode cX10_all 8 = .ok (.iconst (-1), 1) := by decide +kernel
theorem dX10_all_9 : decode cX10_all 9 = .ok (.ireturn, 1) := by decide +kernel
theorem dX10_all_10 : decode cX10_all 10 = .ok (.iload_n 2, 1) := by decide +kernel
theorem dX10_all_11 : decode cX10_all 11 = .ok (.invokestatic 46, 3) := by decide +kernel
theorem dX10_all_14 : decode cX10_all 14 = .ok (.ifCond .eq 12, 3) := by decide +kernel
theorem dX10_all_17 : decode cX10_all 17 = .ok (.iload_n 3, 1) := by decide +kernel
theorem dX10_all_18 : decode cX10_all 18 = .ok (.iconst 0, 1) := by decide +kernel
theorem dX10_all_19 : decode cX10_all 19 = .ok (.iconst 2, 1) := by decide +kernel
theorem dX10_all_20 : decode cX10_all 20 = .ok (.invokestatic 35, 3) := by decide +kernel
theorem dX10_all_23 : decode cX10_all 23 = .ok (.ifCond .ne 6, 3) := by decide +kernel
theorem dX10_all_26 : decode cX10_all 26 = .ok (.bipush (-2), 2) := by decide +kernel
theorem dX10_all_28 : decode cX10_all 28 = .ok (.ireturn, 1) := by decide +kernel
theorem dX10_all_29 : decode cX10_all 29 = .ok (.iconst 0, 1) := by decide +kernel
theorem dX10_all_30 : decode cX10_all 30 = .ok (.istore 4, 2) := by decide +kernel
theorem dX10_all_32 : decode cX10_all 32 = .ok (.iconst 0, 1) := by decide +kernel
theorem dX10_all_33 : decode cX10_all 33 = .ok (.istore 5, 2) := by decide +kernel
theorem dX10_all_35 : decode cX10_all 35 = .ok (.iload 5, 2) := by decide +kernel
theorem dX10_all_37 : decode cX10_all 37 = .ok (.aload_n 0, 1) := by decide +kernel
theorem dX10_all_38 : decode cX10_all 38 = .ok (.getfield 39, 3) := by decide +kernel
theorem dX10_all_41 : decode cX10_all 41 = .ok (.if_icmp .ge 34, 3) := by decide +kernel
theorem dX10_all_44 : decode cX10_all 44 = .ok (.iload 4, 2) := by decide +kernel
theorem dX10_all_46 : decode cX10_all 46 = .ok (.aload_n 0, 1) := by decide +kernel
theorem dX10_all_47 : decode cX10_all 47 = .ok (.iload_n 1, 1) := by decide +kernel
theorem dX10_all_48 : decode cX10_all 48 = .ok (.iload 5, 2) := by decide +kernel
theorem dX10_all_50 : decode cX10_all 50 = .ok (.iload_n 2, 1) := by decide +kernel
theorem dX10_all_51 : decode cX10_all 51 = .ok (.invokevirtual 109, 3) := by decide +kernel
theorem dX10_all_54 : decode cX10_all 54 = .ok (.iload_n 3, 1) := by decide +kernel
theorem dX10_all_55 : decode cX10_all 55 = .ok (.if_icmp .ne 10, 3) := by decide +kernel
theorem dX10_all_58 : decode cX10_all 58 = .ok (.iconst 1, 1) := by decide +kernel
theorem dX10_all_59 : decode cX10_all 59 = .ok (.iload 5, 2) := by decide +kernel
theorem dX10_all_61 : decode cX10_all 61 = .ok (.ishl, 1) := by decide +kernel
theorem dX10_all_62 : decode cX10_all 62 = .ok (.goto 4, 3) := by decide +kernel
theorem dX10_all_65 : decode cX10_all 65 = .ok (.iconst 0, 1) := by decide +kernel
theorem dX10_all_66 : decode cX10_all 66 = .ok (.ior, 1) := by decide +kernel
theorem dX10_all_67 : decode cX10_all 67 = .ok (.istore 4, 2) := by decide +kernel
theorem dX10_all_69 : decode cX10_all 69 = .ok (.iinc 5 1, 3) := by decide +kernel
theorem dX10_all_72 : decode cX10_all 72 = .ok (.goto (-37), 3) := by decide +kernel
theorem dX10_all_75 : decode cX10_all 75 = .ok (.iload 4, 2) := by decide +kernel
theorem dX10_all_77 : decode cX10_all 77 = .ok (.ireturn, 1) := by decide +kernel
theorem dX10_eastOf_0 : decode cX10_eastOf 0 = .ok (.iload_n 0, 1) := by decide +kernel
theorem dX10_eastOf_1 : decode cX10_eastOf 1 = .ok (.iconst 1, 1) := by decide +kernel
theorem dX10_eastOf_2 : decode cX10_eastOf 2 = .ok (.if_icmp .eq 13, 3) := by decide +kernel
theorem dX10_eastOf_5 : decode cX10_eastOf 5 = .ok (.iload_n 0, 1) := by decide +kernel
theorem dX10_eastOf_6 : decode cX10_eastOf 6 = .ok (.iconst 2, 1) := by decide +kernel
theorem dX10_eastOf_7 : decode cX10_eastOf 7 = .ok (.if_icmp .eq 8, 3) := by decide +kernel
theorem dX10_eastOf_10 : decode cX10_eastOf 10 = .ok (.iload_n 0, 1) := by decide +kernel
theorem dX10_eastOf_11 : decode cX10_eastOf 11 = .ok (.iconst 3, 1) := by decide +kernel
theorem dX10_eastOf_12 : decode cX10_eastOf 12 = .ok (.if_icmp .ne 7, 3) := by decide +kernel
theorem dX10_eastOf_15 : decode cX10_eastOf 15 = .ok (.iconst 1, 1) := by decide +kernel
theorem dX10_eastOf_16 : decode cX10_eastOf 16 = .ok (.goto 25, 3) := by decide +kernel
theorem dX10_eastOf_19 : decode cX10_eastOf 19 = .ok (.iload_n 0, 1) := by decide +kernel
theorem dX10_eastOf_20 : decode cX10_eastOf 20 = .ok (.iconst 5, 1) := by decide +kernel
theorem dX10_eastOf_21 : decode cX10_eastOf 21 = .ok (.if_icmp .eq 15, 3) := by decide +kernel
theorem dX10_eastOf_24 : decode cX10_eastOf 24 = .ok (.iload_n 0, 1) := by decide +kernel
theorem dX10_eastOf_25 : decode cX10_eastOf 25 = .ok (.bipush 6, 2) := by decide +kernel
theorem dX10_eastOf_27 : decode cX10_eastOf 27 = .ok (.if_icmp .eq 9, 3) := by decide +kernel
theorem dX10_eastOf_30 : decode cX10_eastOf 30 = .ok (.iload_n 0, 1) := by decide +kernel
theorem dX10_eastOf_31 : decode cX10_eastOf 31 = .ok (.bipush 7, 2) := by decide +kernel
theorem dX10_eastOf_33 : decode cX10_eastOf 33 = .ok (.if_icmp .ne 7, 3) := by decide +kernel
theorem dX10_eastOf_36 : decode cX10_eastOf 36 = .ok (.iconst (-1), 1) := by decide +kernel
theorem dX10_eastOf_37 : decode cX10_eastOf 37 = .ok (.goto 4, 3) := by decide +kernel
theorem dX10_eastOf_40 : decode cX10_eastOf 40 = .ok (.iconst 0, 1) := by decide +kernel
theorem dX10_eastOf_41 : decode cX10_eastOf 41 = .ok (.ireturn, 1) := by decide +kernel
theorem dX10_southOf_0 : decode cX10_southOf 0 = .ok (.iload_n 0, 1) := by decide +kernel
theorem dX10_southOf_1 : decode cX10_southOf 1 = .ok (.iconst 2, 1) := by decide +kernel
theorem dX10_southOf_2 : decode cX10_southOf 2 = .ok (.if_icmp .le 13, 3) := by decide +kernel
theorem dX10_southOf_5 : decode cX10_southOf 5 = .ok (.iload_n 0, 1) := by decide +kernel
theorem dX10_southOf_6 : decode cX10_southOf 6 = .ok (.bipush 6, 2) := by decide +kernel
theorem dX10_southOf_8 : decode cX10_southOf 8 = .ok (.if_icmp .ge 7, 3) := by decide +kernel
theorem dX10_southOf_11 : decode cX10_southOf 11 = .ok (.iconst 1, 1) := by decide +kernel
theorem dX10_southOf_12 : decode cX10_southOf 12 = .ok (.goto 19, 3) := by decide +kernel
theorem dX10_southOf_15 : decode cX10_southOf 15 = .ok (.iload_n 0, 1) := by decide +kernel
theorem dX10_southOf_16 : decode cX10_southOf 16 = .ok (.bipush 7, 2) := by decide +kernel
theorem dX10_southOf_18 : decode cX10_southOf 18 = .ok (.if_icmp .eq 8, 3) := by decide +kernel
theorem dX10_southOf_21 : decode cX10_southOf 21 = .ok (.iload_n 0, 1) := by decide +kernel
theorem dX10_southOf_22 : decode cX10_southOf 22 = .ok (.iconst 2, 1) := by decide +kernel
theorem dX10_southOf_23 : decode cX10_southOf 23 = .ok (.if_icmp .ge 7, 3) := by decide +kernel
theorem dX10_southOf_26 : decode cX10_southOf 26 = .ok (.iconst (-1), 1) := by decide +kernel
theorem dX10_southOf_27 : decode cX10_southOf 27 = .ok (.goto 4, 3) := by decide +kernel
theorem dX10_southOf_30 : decode cX10_southOf 30 = .ok (.iconst 0, 1) := by decide +kernel
theorem dX10_southOf_31 : decode cX10_southOf 31 = .ok (.ireturn, 1) := by decide +kernel
theorem dX10_faces_0 : decode cX10_faces 0 = .ok (.aload_n 0, 1) := by decide +kernel
theorem dX10_faces_1 : decode cX10_faces 1 = .ok (.getfield 7, 3) := by decide +kernel
theorem dX10_faces_4 : decode cX10_faces 4 = .ok (.bipush 11, 2) := by decide +kernel
theorem dX10_faces_6 : decode cX10_faces 6 = .ok (.iload_n 1, 1) := by decide +kernel
theorem dX10_faces_7 : decode cX10_faces 7 = .ok (.imul, 1) := by decide +kernel
theorem dX10_faces_8 : decode cX10_faces 8 = .ok (.bipush 8, 2) := by decide +kernel
theorem dX10_faces_10 : decode cX10_faces 10 = .ok (.iadd, 1) := by decide +kernel
theorem dX10_faces_11 : decode cX10_faces 11 = .ok (.iaload, 1) := by decide +kernel
theorem dX10_faces_12 : decode cX10_faces 12 = .ok (.bipush 8, 2) := by decide +kernel
theorem dX10_faces_14 : decode cX10_faces 14 = .ok (.if_icmp .ge 16, 3) := by decide +kernel
theorem dX10_faces_17 : decode cX10_faces 17 = .ok (.aload_n 0, 1) := by decide +kernel
theorem dX10_faces_18 : decode cX10_faces 18 = .ok (.iload_n 1, 1) := by decide +kernel
theorem dX10_faces_19 : decode cX10_faces 19 = .ok (.iload_n 2, 1) := by decide +kernel
theorem dX10_faces_20 : decode cX10_faces 20 = .ok (.invokevirtual 53, 3) := by decide +kernel
theorem dX10_faces_23 : decode cX10_faces 23 = .ok (.ifCond .eq 7, 3) := by decide +kernel
theorem dX10_faces_26 : decode cX10_faces 26 = .ok (.iconst 1, 1) := by decide +kernel
theorem dX10_faces_27 : decode cX10_faces 27 = .ok (.goto 4, 3) := by decide +kernel
theorem dX10_faces_30 : decode cX10_faces 30 = .ok (.iconst 0, 1) := by decide +kernel
theorem dX10_faces_31 : decode cX10_faces 31 = .ok (.ireturn, 1) := by decide +kernel
theorem dX10_isOn_0 : decode cX10_isOn 0 = .ok (.iload_n 3, 1) := by decide +kernel
theorem dX10_isOn_1 : decode cX10_isOn 1 = .ok (.bipush 12, 2) := by decide +kernel
theorem dX10_isOn_3 : decode cX10_isOn 3 = .ok (.irem, 1) := by decide +kernel
theorem dX10_isOn_4 : decode cX10_isOn 4 = .ok (.aload_n 0, 1) := by decide +kernel
theorem dX10_isOn_5 : decode cX10_isOn 5 = .ok (.getfield 7, 3) := by decide +kernel
theorem dX10_isOn_8 : decode cX10_isOn 8 = .ok (.bipush 11, 2) := by decide +kernel
theorem dX10_isOn_10 : decode cX10_isOn 10 = .ok (.iload_n 1, 1) := by decide +kernel
theorem dX10_isOn_11 : decode cX10_isOn 11 = .ok (.imul, 1) := by decide +kernel
theorem dX10_isOn_12 : decode cX10_isOn 12 = .ok (.iaload, 1) := by decide +kernel
theorem dX10_isOn_13 : decode cX10_isOn 13 = .ok (.isub, 1) := by decide +kernel
theorem dX10_isOn_14 : decode cX10_isOn 14 = .ok (.istore 4, 2) := by decide +kernel
theorem dX10_isOn_16 : decode cX10_isOn 16 = .ok (.iload_n 3, 1) := by decide +kernel
theorem dX10_isOn_17 : decode cX10_isOn 17 = .ok (.bipush 12, 2) := by decide +kernel
theorem dX10_isOn_19 : decode cX10_isOn 19 = .ok (.idiv, 1) := by decide +kernel
theorem dX10_isOn_20 : decode cX10_isOn 20 = .ok (.aload_n 0, 1) := by decide +kernel
theorem dX10_isOn_21 : decode cX10_isOn 21 = .ok (.getfield 7, 3) := by decide +kernel
theorem dX10_isOn_24 : decode cX10_isOn 24 = .ok (.bipush 11, 2) := by decide +kernel
theorem dX10_isOn_26 : decode cX10_isOn 26 = .ok (.iload_n 1, 1) := by decide +kernel
theorem dX10_isOn_27 : decode cX10_isOn 27 = .ok (.imul, 1) := by decide +kernel
theorem dX10_isOn_28 : decode cX10_isOn 28 = .ok (.iconst 1, 1) := by decide +kernel
theorem dX10_isOn_29 : decode cX10_isOn 29 = .ok (.iadd, 1) := by decide +kernel
theorem dX10_isOn_30 : decode cX10_isOn 30 = .ok (.iaload, 1) := by decide +kernel
theorem dX10_isOn_31 : decode cX10_isOn 31 = .ok (.isub, 1) := by decide +kernel
theorem dX10_isOn_32 : decode cX10_isOn 32 = .ok (.istore 5, 2) := by decide +kernel
theorem dX10_isOn_34 : decode cX10_isOn 34 = .ok (.iload 4, 2) := by decide +kernel
theorem dX10_isOn_36 : decode cX10_isOn 36 = .ok (.ifCond .ge 9, 3) := by decide +kernel
theorem dX10_isOn_39 : decode cX10_isOn 39 = .ok (.iload 4, 2) := by decide +kernel
theorem dX10_isOn_41 : decode cX10_isOn 41 = .ok (.ineg, 1) := by decide +kernel
theorem dX10_isOn_42 : decode cX10_isOn 42 = .ok (.goto 5, 3) := by decide +kernel
theorem dX10_isOn_45 : decode cX10_isOn 45 = .ok (.iload 4, 2) := by decide +kernel
theorem dX10_isOn_47 : decode cX10_isOn 47 = .ok (.istore 6, 2) := by decide +kernel
theorem dX10_isOn_49 : decode cX10_isOn 49 = .ok (.iload 5, 2) := by decide +kernel
theorem dX10_isOn_51 : decode cX10_isOn 51 = .ok (.iload 6, 2) := by decide +kernel
theorem dX10_isOn_53 : decode cX10_isOn 53 = .ok (.if_icmp .le 8, 3) := by decide +kernel
theorem dX10_isOn_56 : decode cX10_isOn 56 = .ok (.iload 5, 2) := by decide +kernel
theorem dX10_isOn_58 : decode cX10_isOn 58 = .ok (.goto 19, 3) := by decide +kernel
theorem dX10_isOn_61 : decode cX10_isOn 61 = .ok (.iload 5, 2) := by decide +kernel
theorem dX10_isOn_63 : decode cX10_isOn 63 = .ok (.ineg, 1) := by decide +kernel
theorem dX10_isOn_64 : decode cX10_isOn 64 = .ok (.iload 6, 2) := by decide +kernel
theorem dX10_isOn_66 : decode cX10_isOn 66 = .ok (.if_icmp .le 9, 3) := by decide +kernel
theorem dX10_isOn_69 : decode cX10_isOn 69 = .ok (.iload 5, 2) := by decide +kernel
theorem dX10_isOn_71 : decode cX10_isOn 71 = .ok (.ineg, 1) := by decide +kernel
theorem dX10_isOn_72 : decode cX10_isOn 72 = .ok (.goto 5, 3) := by decide +kernel
theorem dX10_isOn_75 : decode cX10_isOn 75 = .ok (.iload 6, 2) := by decide +kernel
theorem dX10_isOn_77 : decode cX10_isOn 77 = .ok (.istore 6, 2) := by decide +kernel
theorem dX10_isOn_79 : decode cX10_isOn 79 = .ok (.aload_n 0, 1) := by decide +kernel
theorem dX10_isOn_80 : decode cX10_isOn 80 = .ok (.iload_n 1, 1) := by decide +kernel
theorem dX10_isOn_81 : decode cX10_isOn 81 = .ok (.iload_n 3, 1) := by decide +kernel
theorem dX10_isOn_82 : decode cX10_isOn 82 = .ok (.bipush 12, 2) := by decide +kernel
theorem dX10_isOn_84 : decode cX10_isOn 84 = .ok (.irem, 1) := by decide +kernel
theorem dX10_isOn_85 : decode cX10_isOn 85 = .ok (.iload_n 3, 1) := by decide +kernel
theorem dX10_isOn_86 : decode cX10_isOn 86 = .ok (.bipush 12, 2) := by decide +kernel
theorem dX10_isOn_88 : decode cX10_isOn 88 = .ok (.idiv, 1) := by decide +kernel
theorem dX10_isOn_89 : decode cX10_isOn 89 = .ok (.invokevirtual 57, 3) := by decide +kernel
theorem dX10_isOn_92 : decode cX10_isOn 92 = .ok (.ifCond .ne 31, 3) := by decide +kernel
theorem dX10_isOn_95 : decode cX10_isOn 95 = .ok (.iload 4, 2) := by decide +kernel
theorem dX10_isOn_97 : decode cX10_isOn 97 = .ok (.iload 6, 2) := by decide +kernel
theorem dX10_isOn_99 : decode cX10_isOn 99 = .ok (.iload_n 2, 1) := by decide +kernel
theorem dX10_isOn_100 : decode cX10_isOn 100 = .ok (.invokestatic 112, 3) := by decide +kernel
theorem dX10_isOn_103 : decode cX10_isOn 103 = .ok (.imul, 1) := by decide +kernel
theorem dX10_isOn_104 : decode cX10_isOn 104 = .ok (.if_icmp .ne 19, 3) := by decide +kernel
theorem dX10_isOn_107 : decode cX10_isOn 107 = .ok (.iload 5, 2) := by decide +kernel
theorem dX10_isOn_109 : decode cX10_isOn 109 = .ok (.iload 6, 2) := by decide +kernel
theorem dX10_isOn_111 : decode cX10_isOn 111 = .ok (.iload_n 2, 1) := by decide +kernel
theorem dX10_isOn_112 : decode cX10_isOn 112 = .ok (.invokestatic 116, 3) := by decide +kernel
theorem dX10_isOn_115 : decode cX10_isOn 115 = .ok (.imul, 1) := by decide +kernel
theorem dX10_isOn_116 : decode cX10_isOn 116 = .ok (.if_icmp .ne 7, 3) := by decide +kernel
theorem dX10_isOn_119 : decode cX10_isOn 119 = .ok (.iconst 1, 1) := by decide +kernel
theorem dX10_isOn_120 : decode cX10_isOn 120 = .ok (.goto 4, 3) := by decide +kernel
theorem dX10_isOn_123 : decode cX10_isOn 123 = .ok (.iconst 0, 1) := by decide +kernel
theorem dX10_isOn_124 : decode cX10_isOn 124 = .ok (.ireturn, 1) := by decide +kernel
theorem dX10_meetOf_0 : decode cX10_meetOf 0 = .ok (.bipush (-6), 2) := by decide +kernel
theorem dX10_meetOf_2 : decode cX10_meetOf 2 = .ok (.istore_n 2, 1) := by decide +kernel
theorem dX10_meetOf_3 : decode cX10_meetOf 3 = .ok (.aload_n 0, 1) := by decide +kernel
theorem dX10_meetOf_4 : decode cX10_meetOf 4 = .ok (.iconst 0, 1) := by decide +kernel
theorem dX10_meetOf_5 : decode cX10_meetOf 5 = .ok (.putfield 119, 3) := by decide +kernel
theorem dX10_meetOf_8 : decode cX10_meetOf 8 = .ok (.iconst 0, 1) := by decide +kernel
theorem dX10_meetOf_9 : decode cX10_meetOf 9 = .ok (.istore_n 3, 1) := by decide +kernel
theorem dX10_meetOf_10 : decode cX10_meetOf 10 = .ok (.iload_n 3, 1) := by decide +kernel
theorem dX10_meetOf_11 : decode cX10_meetOf 11 = .ok (.bipush 96, 2) := by decide +kernel
theorem dX10_meetOf_13 : decode cX10_meetOf 13 = .ok (.if_icmp .ge 110, 3) := by decide +kernel
theorem dX10_meetOf_16 : decode cX10_meetOf 16 = .ok (.iconst 0, 1) := by decide +kernel
theorem dX10_meetOf_17 : decode cX10_meetOf 17 = .ok (.istore 4, 2) := by decide +kernel
theorem dX10_meetOf_19 : decode cX10_meetOf 19 = .ok (.iconst 0, 1) := by decide +kernel
theorem dX10_meetOf_20 : decode cX10_meetOf 20 = .ok (.istore 5, 2) := by decide +kernel
theorem dX10_meetOf_22 : decode cX10_meetOf 22 = .ok (.iload 5, 2) := by decide +kernel
theorem dX10_meetOf_24 : decode cX10_meetOf 24 = .ok (.aload_n 0, 1) := by decide +kernel
theorem dX10_meetOf_25 : decode cX10_meetOf 25 = .ok (.getfield 39, 3) := by decide +kernel
theorem dX10_meetOf_28 : decode cX10_meetOf 28 = .ok (.if_icmp .ge 52, 3) := by decide +kernel
theorem dX10_meetOf_31 : decode cX10_meetOf 31 = .ok (.iload 4, 2) := by decide +kernel
theorem dX10_meetOf_33 : decode cX10_meetOf 33 = .ok (.aload_n 0, 1) := by decide +kernel
theorem dX10_meetOf_34 : decode cX10_meetOf 34 = .ok (.iload 5, 2) := by decide +kernel
theorem dX10_meetOf_36 : decode cX10_meetOf 36 = .ok (.iload_n 1, 1) := by decide +kernel
theorem dX10_meetOf_37 : decode cX10_meetOf 37 = .ok (.invokevirtual 122, 3) := by decide +kernel
theorem dX10_meetOf_40 : decode cX10_meetOf 40 = .ok (.ifCond .eq 30, 3) := by decide +kernel
theorem dX10_meetOf_43 : decode cX10_meetOf 43 = .ok (.aload_n 0, 1) := by decide +kernel
theorem dX10_meetOf_44 : decode cX10_meetOf 44 = .ok (.iload 5, 2) := by decide +kernel
theorem dX10_meetOf_46 : decode cX10_meetOf 46 = .ok (.aload_n 0, 1) := by decide +kernel
theorem dX10_meetOf_47 : decode cX10_meetOf 47 = .ok (.getfield 7, 3) := by decide +kernel
theorem dX10_meetOf_50 : decode cX10_meetOf 50 = .ok (.bipush 11, 2) := by decide +kernel
theorem dX10_meetOf_52 : decode cX10_meetOf 52 = .ok (.iload 5, 2) := by decide +kernel
theorem dX10_meetOf_54 : decode cX10_meetOf 54 = .ok (.imul, 1) := by decide +kernel
theorem dX10_meetOf_55 : decode cX10_meetOf 55 = .ok (.bipush 8, 2) := by decide +kernel
theorem dX10_meetOf_57 : decode cX10_meetOf 57 = .ok (.iadd, 1) := by decide +kernel
theorem dX10_meetOf_58 : decode cX10_meetOf 58 = .ok (.iaload, 1) := by decide +kernel
theorem dX10_meetOf_59 : decode cX10_meetOf 59 = .ok (.iload_n 3, 1) := by decide +kernel
theorem dX10_meetOf_60 : decode cX10_meetOf 60 = .ok (.invokevirtual 125, 3) := by decide +kernel
theorem dX10_meetOf_63 : decode cX10_meetOf 63 = .ok (.ifCond .eq 7, 3) := by decide +kernel
theorem dX10_meetOf_66 : decode cX10_meetOf 66 = .ok (.iconst 1, 1) := by decide +kernel
theorem dX10_meetOf_67 : decode cX10_meetOf 67 = .ok (.goto 4, 3) := by decide +kernel
theorem dX10_meetOf_70 : decode cX10_meetOf 70 = .ok (.iconst 0, 1) := by decide +kernel
theorem dX10_meetOf_71 : decode cX10_meetOf 71 = .ok (.iadd, 1) := by decide +kernel
theorem dX10_meetOf_72 : decode cX10_meetOf 72 = .ok (.istore 4, 2) := by decide +kernel
theorem dX10_meetOf_74 : decode cX10_meetOf 74 = .ok (.iinc 5 1, 3) := by decide +kernel
theorem dX10_meetOf_77 : decode cX10_meetOf 77 = .ok (.goto (-55), 3) := by decide +kernel
theorem dX10_meetOf_80 : decode cX10_meetOf 80 = .ok (.iload 4, 2) := by decide +kernel
theorem dX10_meetOf_82 : decode cX10_meetOf 82 = .ok (.aload_n 0, 1) := by decide +kernel
theorem dX10_meetOf_83 : decode cX10_meetOf 83 = .ok (.getfield 119, 3) := by decide +kernel
theorem dX10_meetOf_86 : decode cX10_meetOf 86 = .ok (.if_icmp .le 7, 3) := by decide +kernel
theorem dX10_meetOf_89 : decode cX10_meetOf 89 = .ok (.iload_n 3, 1) := by decide +kernel
theorem dX10_meetOf_90 : decode cX10_meetOf 90 = .ok (.goto 4, 3) := by decide +kernel
theorem dX10_meetOf_93 : decode cX10_meetOf 93 = .ok (.iload_n 2, 1) := by decide +kernel
theorem dX10_meetOf_94 : decode cX10_meetOf 94 = .ok (.istore_n 2, 1) := by decide +kernel
theorem dX10_meetOf_95 : decode cX10_meetOf 95 = .ok (.aload_n 0, 1) := by decide +kernel
theorem dX10_meetOf_96 : decode cX10_meetOf 96 = .ok (.iload 4, 2) := by decide +kernel
theorem dX10_meetOf_98 : decode cX10_meetOf 98 = .ok (.aload_n 0, 1) := by decide +kernel
theorem dX10_meetOf_99 : decode cX10_meetOf 99 = .ok (.getfield 119, 3) := by decide +kernel
theorem dX10_meetOf_102 : decode cX10_meetOf 102 = .ok (.if_icmp .le 8, 3) := by decide +kernel
theorem dX10_meetOf_105 : decode cX10_meetOf 105 = .ok (.iload 4, 2) := by decide +kernel
theorem dX10_meetOf_107 : decode cX10_meetOf 107 = .ok (.goto 7, 3) := by decide +kernel
theorem dX10_meetOf_110 : decode cX10_meetOf 110 = .ok (.aload_n 0, 1) := by decide +kernel
theorem dX10_meetOf_111 : decode cX10_meetOf 111 = .ok (.getfield 119, 3) := by decide +kernel
theorem dX10_meetOf_114 : decode cX10_meetOf 114 = .ok (.putfield 119, 3) := by decide +kernel
theorem dX10_meetOf_117 : decode cX10_meetOf 117 = .ok (.iinc 3 1, 3) := by decide +kernel
theorem dX10_meetOf_120 : decode cX10_meetOf 120 = .ok (.goto (-110), 3) := by decide +kernel
theorem dX10_meetOf_123 : decode cX10_meetOf 123 = .ok (.iload_n 2, 1) := by decide +kernel
theorem dX10_meetOf_124 : decode cX10_meetOf 124 = .ok (.ireturn, 1) := by decide +kernel
theorem dX10_meet_0 : decode cX10_meet 0 = .ok (.iload_n 1, 1) := by decide +kernel
theorem dX10_meet_1 : decode cX10_meet 1 = .ok (.invokestatic 46, 3) := by decide +kernel
theorem dX10_meet_4 : decode cX10_meet 4 = .ok (.ifCond .eq 10, 3) := by decide +kernel
theorem dX10_meet_7 : decode cX10_meet 7 = .ok (.iload_n 2, 1) := by decide +kernel
theorem dX10_meet_8 : decode cX10_meet 8 = .ok (.invokestatic 77, 3) := by decide +kernel
theorem dX10_meet_11 : decode cX10_meet 11 = .ok (.ifCond .ne 6, 3) := by decide +kernel
theorem dX10_meet_14 : decode cX10_meet 14 = .ok (.bipush (-2), 2) := by decide +kernel
theorem dX10_meet_16 : decode cX10_meet 16 = .ok (.ireturn, 1) := by decide +kernel
theorem dX10_meet_17 : decode cX10_meet 17 = .ok (.aload_n 0, 1) := by decide +kernel
theorem dX10_meet_18 : decode cX10_meet 18 = .ok (.iload_n 1, 1) := by decide +kernel
theorem dX10_meet_19 : decode cX10_meet 19 = .ok (.invokevirtual 128, 3) := by decide +kernel
theorem dX10_meet_22 : decode cX10_meet 22 = .ok (.istore_n 3, 1) := by decide +kernel
theorem dX10_meet_23 : decode cX10_meet 23 = .ok (.iload_n 2, 1) := by decide +kernel
theorem dX10_meet_24 : decode cX10_meet 24 = .ok (.ifCond .ne 7, 3) := by decide +kernel
theorem dX10_meet_27 : decode cX10_meet 27 = .ok (.iload_n 3, 1) := by decide +kernel
theorem dX10_meet_28 : decode cX10_meet 28 = .ok (.goto 7, 3) := by decide +kernel
theorem dX10_meet_31 : decode cX10_meet 31 = .ok (.aload_n 0, 1) := by decide +kernel
theorem dX10_meet_32 : decode cX10_meet 32 = .ok (.getfield 119, 3) := by decide +kernel
theorem dX10_meet_35 : decode cX10_meet 35 = .ok (.ireturn, 1) := by decide +kernel
theorem dX10_term_0 : decode cX10_term 0 = .ok (.lload_n 0, 1) := by decide +kernel
theorem dX10_term_1 : decode cX10_term 1 = .ok (.lstore 5, 2) := by decide +kernel
theorem dX10_term_3 : decode cX10_term 3 = .ok (.lload_n 2, 1) := by decide +kernel
theorem dX10_term_4 : decode cX10_term 4 = .ok (.lstore 7, 2) := by decide +kernel
theorem dX10_term_6 : decode cX10_term 6 = .ok (.lload 7, 2) := by decide +kernel
theorem dX10_term_8 : decode cX10_term 8 = .ok (.lconst 0, 1) := by decide +kernel
theorem dX10_term_9 : decode cX10_term 9 = .ok (.lcmp, 1) := by decide +kernel
theorem dX10_term_10 : decode cX10_term 10 = .ok (.ifCond .eq 21, 3) := by decide +kernel
theorem dX10_term_13 : decode cX10_term 13 = .ok (.lload 5, 2) := by decide +kernel
theorem dX10_term_15 : decode cX10_term 15 = .ok (.lload 7, 2) := by decide +kernel
theorem dX10_term_17 : decode cX10_term 17 = .ok (.lrem, 1) := by decide +kernel
theorem dX10_term_18 : decode cX10_term 18 = .ok (.lstore 9, 2) := by decide +kernel
theorem dX10_term_20 : decode cX10_term 20 = .ok (.lload 7, 2) := by decide +kernel
theorem dX10_term_22 : decode cX10_term 22 = .ok (.lstore 5, 2) := by decide +kernel
theorem dX10_term_24 : decode cX10_term 24 = .ok (.lload 9, 2) := by decide +kernel
theorem dX10_term_26 : decode cX10_term 26 = .ok (.lstore 7, 2) := by decide +kernel
theorem dX10_term_28 : decode cX10_term 28 = .ok (.goto (-22), 3) := by decide +kernel
theorem dX10_term_31 : decode cX10_term 31 = .ok (.iload 4, 2) := by decide +kernel
theorem dX10_term_33 : decode cX10_term 33 = .ok (.ifCond .ne 10, 3) := by decide +kernel
theorem dX10_term_36 : decode cX10_term 36 = .ok (.lload_n 0, 1) := by decide +kernel
theorem dX10_term_37 : decode cX10_term 37 = .ok (.lload 5, 2) := by decide +kernel
theorem dX10_term_39 : decode cX10_term 39 = .ok (.ldiv, 1) := by decide +kernel
theorem dX10_term_40 : decode cX10_term 40 = .ok (.goto 7, 3) := by decide +kernel
theorem dX10_term_43 : decode cX10_term 43 = .ok (.lload_n 2, 1) := by decide +kernel
theorem dX10_term_44 : decode cX10_term 44 = .ok (.lload 5, 2) := by decide +kernel
theorem dX10_term_46 : decode cX10_term 46 = .ok (.ldiv, 1) := by decide +kernel
theorem dX10_term_47 : decode cX10_term 47 = .ok (.lreturn, 1) := by decide +kernel
theorem dX10_chance_0 : decode cX10_chance 0 = .ok (.iload_n 1, 1) := by decide +kernel
theorem dX10_chance_1 : decode cX10_chance 1 = .ok (.invokestatic 46, 3) := by decide +kernel
theorem dX10_chance_4 : decode cX10_chance 4 = .ok (.ifCond .eq 10, 3) := by decide +kernel
theorem dX10_chance_7 : decode cX10_chance 7 = .ok (.iload_n 2, 1) := by decide +kernel
theorem dX10_chance_8 : decode cX10_chance 8 = .ok (.invokestatic 77, 3) := by decide +kernel
theorem dX10_chance_11 : decode cX10_chance 11 = .ok (.ifCond .ne 7, 3) := by decide +kernel
theorem dX10_chance_14 : decode cX10_chance 14 = .ok (.ldc2_w 131, 3) := by decide +kernel
theorem dX10_chance_17 : decode cX10_chance 17 = .ok (.lreturn, 1) := by decide +kernel
theorem dX10_chance_18 : decode cX10_chance 18 = .ok (.aload_n 0, 1) := by decide +kernel
theorem dX10_chance_19 : decode cX10_chance 19 = .ok (.iload_n 1, 1) := by decide +kernel
theorem dX10_chance_20 : decode cX10_chance 20 = .ok (.invokevirtual 128, 3) := by decide +kernel
theorem dX10_chance_23 : decode cX10_chance 23 = .ok (.istore_n 3, 1) := by decide +kernel
theorem dX10_chance_24 : decode cX10_chance 24 = .ok (.iload_n 3, 1) := by decide +kernel
theorem dX10_chance_25 : decode cX10_chance 25 = .ok (.ifCond .ge 7, 3) := by decide +kernel
theorem dX10_chance_28 : decode cX10_chance 28 = .ok (.ldc2_w 133, 3) := by decide +kernel
theorem dX10_chance_31 : decode cX10_chance 31 = .ok (.lreturn, 1) := by decide +kernel
theorem dX10_chance_32 : decode cX10_chance 32 = .ok (.lconst 1, 1) := by decide +kernel
theorem dX10_chance_33 : decode cX10_chance 33 = .ok (.lstore 4, 2) := by decide +kernel
theorem dX10_chance_35 : decode cX10_chance 35 = .ok (.lconst 1, 1) := by decide +kernel
theorem dX10_chance_36 : decode cX10_chance 36 = .ok (.lstore 6, 2) := by decide +kernel
theorem dX10_chance_38 : decode cX10_chance 38 = .ok (.iconst 0, 1) := by decide +kernel
theorem dX10_chance_39 : decode cX10_chance 39 = .ok (.istore 8, 2) := by decide +kernel
theorem dX10_chance_41 : decode cX10_chance 41 = .ok (.iload 8, 2) := by decide +kernel
theorem dX10_chance_43 : decode cX10_chance 43 = .ok (.aload_n 0, 1) := by decide +kernel
theorem dX10_chance_44 : decode cX10_chance 44 = .ok (.getfield 39, 3) := by decide +kernel
theorem dX10_chance_47 : decode cX10_chance 47 = .ok (.if_icmp .ge 75, 3) := by decide +kernel
theorem dX10_chance_50 : decode cX10_chance 50 = .ok (.aload_n 0, 1) := by decide +kernel
theorem dX10_chance_51 : decode cX10_chance 51 = .ok (.iload 8, 2) := by decide +kernel
theorem dX10_chance_53 : decode cX10_chance 53 = .ok (.iload_n 1, 1) := by decide +kernel
theorem dX10_chance_54 : decode cX10_chance 54 = .ok (.invokevirtual 122, 3) := by decide +kernel
theorem dX10_chance_57 : decode cX10_chance 57 = .ok (.ifCond .eq 59, 3) := by decide +kernel
theorem dX10_chance_60 : decode cX10_chance 60 = .ok (.lconst 0, 1) := by decide +kernel
theorem dX10_chance_61 : decode cX10_chance 61 = .ok (.lstore 9, 2) := by decide +kernel
theorem dX10_chance_63 : decode cX10_chance 63 = .ok (.iconst 0, 1) := by decide +kernel
theorem dX10_chance_64 : decode cX10_chance 64 = .ok (.istore 11, 2) := by decide +kernel
theorem dX10_chance_66 : decode cX10_chance 66 = .ok (.iload 11, 2) := by decide +kernel
theorem dX10_chance_68 : decode cX10_chance 68 = .ok (.bipush 8, 2) := by decide +kernel
theorem dX10_chance_70 : decode cX10_chance 70 = .ok (.if_icmp .ge 31, 3) := by decide +kernel
theorem dX10_chance_73 : decode cX10_chance 73 = .ok (.lload 9, 2) := by decide +kernel
theorem dX10_chance_75 : decode cX10_chance 75 = .ok (.aload_n 0, 1) := by decide +kernel
theorem dX10_chance_76 : decode cX10_chance 76 = .ok (.iload 8, 2) := by decide +kernel
theorem dX10_chance_78 : decode cX10_chance 78 = .ok (.iload 11, 2) := by decide +kernel
theorem dX10_chance_80 : decode cX10_chance 80 = .ok (.iload_n 3, 1) := by decide +kernel
theorem dX10_chance_81 : decode cX10_chance 81 = .ok (.invokevirtual 125, 3) := by decide +kernel
theorem dX10_chance_84 : decode cX10_chance 84 = .ok (.ifCond .eq 7, 3) := by decide +kernel
theorem dX10_chance_87 : decode cX10_chance 87 = .ok (.lconst 1, 1) := by decide +kernel
theorem dX10_chance_88 : decode cX10_chance 88 = .ok (.goto 4, 3) := by decide +kernel
theorem dX10_chance_91 : decode cX10_chance 91 = .ok (.lconst 0, 1) := by decide +kernel
theorem dX10_chance_92 : decode cX10_chance 92 = .ok (.ladd, 1) := by decide +kernel
theorem dX10_chance_93 : decode cX10_chance 93 = .ok (.lstore 9, 2) := by decide +kernel
theorem dX10_chance_95 : decode cX10_chance 95 = .ok (.iinc 11 1, 3) := by decide +kernel
theorem dX10_chance_98 : decode cX10_chance 98 = .ok (.goto (-32), 3) := by decide +kernel
theorem dX10_chance_101 : decode cX10_chance 101 = .ok (.lload 4, 2) := by decide +kernel
theorem dX10_chance_103 : decode cX10_chance 103 = .ok (.lload 9, 2) := by decide +kernel
theorem dX10_chance_105 : decode cX10_chance 105 = .ok (.lmul, 1) := by decide +kernel
theorem dX10_chance_106 : decode cX10_chance 106 = .ok (.lstore 4, 2) := by decide +kernel
theorem dX10_chance_108 : decode cX10_chance 108 = .ok (.lload 6, 2) := by decide +kernel
theorem dX10_chance_110 : decode cX10_chance 110 = .ok (.ldc2_w 135, 3) := by decide +kernel
theorem dX10_chance_113 : decode cX10_chance 113 = .ok (.lmul, 1) := by decide +kernel
theorem dX10_chance_114 : decode cX10_chance 114 = .ok (.lstore 6, 2) := by decide +kernel
theorem dX10_chance_116 : decode cX10_chance 116 = .ok (.iinc 8 1, 3) := by decide +kernel
theorem dX10_chance_119 : decode cX10_chance 119 = .ok (.goto (-78), 3) := by decide +kernel
theorem dX10_chance_122 : decode cX10_chance 122 = .ok (.lload 4, 2) := by decide +kernel
theorem dX10_chance_124 : decode cX10_chance 124 = .ok (.lload 6, 2) := by decide +kernel
theorem dX10_chance_126 : decode cX10_chance 126 = .ok (.iload_n 2, 1) := by decide +kernel
theorem dX10_chance_127 : decode cX10_chance 127 = .ok (.invokestatic 137, 3) := by decide +kernel
theorem dX10_chance_130 : decode cX10_chance 130 = .ok (.lreturn, 1) := by decide +kernel
theorem dX10_did_0 : decode cX10_did 0 = .ok (.aload_n 0, 1) := by decide +kernel
theorem dX10_did_1 : decode cX10_did 1 = .ok (.iload_n 1, 1) := by decide +kernel
theorem dX10_did_2 : decode cX10_did 2 = .ok (.invokevirtual 50, 3) := by decide +kernel
theorem dX10_did_5 : decode cX10_did 5 = .ok (.ifCond .ne 5, 3) := by decide +kernel
theorem dX10_did_8 : decode cX10_did 8 = .ok (.iconst (-1), 1) := by decide +kernel
theorem dX10_did_9 : decode cX10_did 9 = .ok (.ireturn, 1) := by decide +kernel
theorem dX10_did_10 : decode cX10_did 10 = .ok (.iload_n 2, 1) := by decide +kernel
theorem dX10_did_11 : decode cX10_did 11 = .ok (.invokestatic 46, 3) := by decide +kernel
theorem dX10_did_14 : decode cX10_did 14 = .ok (.ifCond .ne 6, 3) := by decide +kernel
theorem dX10_did_17 : decode cX10_did 17 = .ok (.bipush (-2), 2) := by decide +kernel
theorem dX10_did_19 : decode cX10_did 19 = .ok (.ireturn, 1) := by decide +kernel
theorem dX10_did_20 : decode cX10_did 20 = .ok (.aload_n 0, 1) := by decide +kernel
theorem dX10_did_21 : decode cX10_did 21 = .ok (.getfield 13, 3) := by decide +kernel
theorem dX10_did_24 : decode cX10_did 24 = .ok (.bipush 100, 2) := by decide +kernel
theorem dX10_did_26 : decode cX10_did 26 = .ok (.iload_n 1, 1) := by decide +kernel
theorem dX10_did_27 : decode cX10_did 27 = .ok (.imul, 1) := by decide +kernel
theorem dX10_did_28 : decode cX10_did 28 = .ok (.iload_n 2, 1) := by decide +kernel
theorem dX10_did_29 : decode cX10_did 29 = .ok (.iadd, 1) := by decide +kernel
theorem dX10_did_30 : decode cX10_did 30 = .ok (.baload, 1) := by decide +kernel
theorem dX10_did_31 : decode cX10_did 31 = .ok (.ifCond .eq 7, 3) := by decide +kernel
theorem dX10_did_34 : decode cX10_did 34 = .ok (.iconst 1, 1) := by decide +kernel
theorem dX10_did_35 : decode cX10_did 35 = .ok (.goto 4, 3) := by decide +kernel
theorem dX10_did_38 : decode cX10_did 38 = .ok (.iconst 0, 1) := by decide +kernel
theorem dX10_did_39 : decode cX10_did 39 = .ok (.istore 4, 2) := by decide +kernel
theorem dX10_did_41 : decode cX10_did 41 = .ok (.aload_n 0, 1) := by decide +kernel
theorem dX10_did_42 : decode cX10_did 42 = .ok (.getfield 13, 3) := by decide +kernel
theorem dX10_did_45 : decode cX10_did 45 = .ok (.bipush 100, 2) := by decide +kernel
theorem dX10_did_47 : decode cX10_did 47 = .ok (.iload_n 1, 1) := by decide +kernel
theorem dX10_did_48 : decode cX10_did 48 = .ok (.imul, 1) := by decide +kernel
theorem dX10_did_49 : decode cX10_did 49 = .ok (.iload_n 2, 1) := by decide +kernel
theorem dX10_did_50 : decode cX10_did 50 = .ok (.iadd, 1) := by decide +kernel
theorem dX10_did_51 : decode cX10_did 51 = .ok (.iload_n 3, 1) := by decide +kernel
theorem dX10_did_52 : decode cX10_did 52 = .ok (.bastore, 1) := by decide +kernel
theorem dX10_did_53 : decode cX10_did 53 = .ok (.iload 4, 2) := by decide +kernel
theorem dX10_did_55 : decode cX10_did 55 = .ok (.ireturn, 1) := by decide +kernel
theorem dX10_decoy_0 : decode cX10_decoy 0 = .ok (.aload_n 0, 1) := by decide +kernel
theorem dX10_decoy_1 : decode cX10_decoy 1 = .ok (.iload_n 1, 1) := by decide +kernel
theorem dX10_decoy_2 : decode cX10_decoy 2 = .ok (.invokevirtual 50, 3) := by decide +kernel
theorem dX10_decoy_5 : decode cX10_decoy 5 = .ok (.ifCond .ne 7, 3) := by decide +kernel
theorem dX10_decoy_8 : decode cX10_decoy 8 = .ok (.ldc2_w 141, 3) := by decide +kernel
theorem dX10_decoy_11 : decode cX10_decoy 11 = .ok (.lreturn, 1) := by decide +kernel
theorem dX10_decoy_12 : decode cX10_decoy 12 = .ok (.iload_n 2, 1) := by decide +kernel
theorem dX10_decoy_13 : decode cX10_decoy 13 = .ok (.invokestatic 46, 3) := by decide +kernel
theorem dX10_decoy_16 : decode cX10_decoy 16 = .ok (.ifCond .eq 34, 3) := by decide +kernel
theorem dX10_decoy_19 : decode cX10_decoy 19 = .ok (.iload_n 3, 1) := by decide +kernel
theorem dX10_decoy_20 : decode cX10_decoy 20 = .ok (.invokestatic 46, 3) := by decide +kernel
theorem dX10_decoy_23 : decode cX10_decoy 23 = .ok (.ifCond .eq 27, 3) := by decide +kernel
theorem dX10_decoy_26 : decode cX10_decoy 26 = .ok (.iload_n 2, 1) := by decide +kernel
theorem dX10_decoy_27 : decode cX10_decoy 27 = .ok (.iload_n 3, 1) := by decide +kernel
theorem dX10_decoy_28 : decode cX10_decoy 28 = .ok (.if_icmp .gt 22, 3) := by decide +kernel
theorem dX10_decoy_31 : decode cX10_decoy 31 = .ok (.iload 4, 2) := by decide +kernel
theorem dX10_decoy_33 : decode cX10_decoy 33 = .ok (.iconst 1, 1) := by decide +kernel
theorem dX10_decoy_34 : decode cX10_decoy 34 = .ok (.bipush 19, 2) := by decide +kernel
theorem dX10_decoy_36 : decode cX10_decoy 36 = .ok (.invokestatic 35, 3) := by decide +kernel
theorem dX10_decoy_39 : decode cX10_decoy 39 = .ok (.ifCond .eq 11, 3) := by decide +kernel
theorem dX10_decoy_42 : decode cX10_decoy 42 = .ok (.iload 5, 2) := by decide +kernel
theorem dX10_decoy_44 : decode cX10_decoy 44 = .ok (.invokestatic 77, 3) := by decide +kernel
theorem dX10_decoy_47 : decode cX10_decoy 47 = .ok (.ifCond .ne 7, 3) := by decide +kernel
theorem dX10_decoy_50 : decode cX10_decoy 50 = .ok (.ldc2_w 131, 3) := by decide +kernel
theorem dX10_decoy_53 : decode cX10_decoy 53 = .ok (.lreturn, 1) := by decide +kernel
theorem dX10_decoy_54 : decode cX10_decoy 54 = .ok (.iconst 0, 1) := by decide +kernel
theorem dX10_decoy_55 : decode cX10_decoy 55 = .ok (.istore 6, 2) := by decide +kernel
theorem dX10_decoy_57 : decode cX10_decoy 57 = .ok (.iload_n 2, 1) := by decide +kernel
theorem dX10_decoy_58 : decode cX10_decoy 58 = .ok (.istore 7, 2) := by decide +kernel
theorem dX10_decoy_60 : decode cX10_decoy 60 = .ok (.iload 7, 2) := by decide +kernel
theorem dX10_decoy_62 : decode cX10_decoy 62 = .ok (.iload_n 3, 1) := by decide +kernel
theorem dX10_decoy_63 : decode cX10_decoy 63 = .ok (.if_icmp .gt 34, 3) := by decide +kernel
theorem dX10_decoy_66 : decode cX10_decoy 66 = .ok (.iload 6, 2) := by decide +kernel
theorem dX10_decoy_68 : decode cX10_decoy 68 = .ok (.aload_n 0, 1) := by decide +kernel
theorem dX10_decoy_69 : decode cX10_decoy 69 = .ok (.getfield 13, 3) := by decide +kernel
theorem dX10_decoy_72 : decode cX10_decoy 72 = .ok (.bipush 100, 2) := by decide +kernel
theorem dX10_decoy_74 : decode cX10_decoy 74 = .ok (.iload_n 1, 1) := by decide +kernel
theorem dX10_decoy_75 : decode cX10_decoy 75 = .ok (.imul, 1) := by decide +kernel
theorem dX10_decoy_76 : decode cX10_decoy 76 = .ok (.iload 7, 2) := by decide +kernel
theorem dX10_decoy_78 : decode cX10_decoy 78 = .ok (.iadd, 1) := by decide +kernel
theorem dX10_decoy_79 : decode cX10_decoy 79 = .ok (.baload, 1) := by decide +kernel
theorem dX10_decoy_80 : decode cX10_decoy 80 = .ok (.ifCond .eq 7, 3) := by decide +kernel
theorem dX10_decoy_83 : decode cX10_decoy 83 = .ok (.iconst 0, 1) := by decide +kernel
theorem dX10_decoy_84 : decode cX10_decoy 84 = .ok (.goto 4, 3) := by decide +kernel
theorem dX10_decoy_87 : decode cX10_decoy 87 = .ok (.iconst 1, 1) := by decide +kernel
theorem dX10_decoy_88 : decode cX10_decoy 88 = .ok (.iadd, 1) := by decide +kernel
theorem dX10_decoy_89 : decode cX10_decoy 89 = .ok (.istore 6, 2) := by decide +kernel
theorem dX10_decoy_91 : decode cX10_decoy 91 = .ok (.iinc 7 1, 3) := by decide +kernel
theorem dX10_decoy_94 : decode cX10_decoy 94 = .ok (.goto (-34), 3) := by decide +kernel
theorem dX10_decoy_97 : decode cX10_decoy 97 = .ok (.iload 6, 2) := by decide +kernel
theorem dX10_decoy_99 : decode cX10_decoy 99 = .ok (.bipush 12, 2) := by decide +kernel
theorem dX10_decoy_101 : decode cX10_decoy 101 = .ok (.if_icmp .le 7, 3) := by decide +kernel
theorem dX10_decoy_104 : decode cX10_decoy 104 = .ok (.ldc2_w 131, 3) := by decide +kernel
theorem dX10_decoy_107 : decode cX10_decoy 107 = .ok (.lreturn, 1) := by decide +kernel
theorem dX10_decoy_108 : decode cX10_decoy 108 = .ok (.lconst 1, 1) := by decide +kernel
theorem dX10_decoy_109 : decode cX10_decoy 109 = .ok (.lstore 7, 2) := by decide +kernel
theorem dX10_decoy_111 : decode cX10_decoy 111 = .ok (.lconst 1, 1) := by decide +kernel
theorem dX10_decoy_112 : decode cX10_decoy 112 = .ok (.lstore 9, 2) := by decide +kernel
theorem dX10_decoy_114 : decode cX10_decoy 114 = .ok (.iconst 0, 1) := by decide +kernel
theorem dX10_decoy_115 : decode cX10_decoy 115 = .ok (.istore 11, 2) := by decide +kernel
theorem dX10_decoy_117 : decode cX10_decoy 117 = .ok (.iload 11, 2) := by decide +kernel
theorem dX10_decoy_119 : decode cX10_decoy 119 = .ok (.iload 6, 2) := by decide +kernel
theorem dX10_decoy_121 : decode cX10_decoy 121 = .ok (.if_icmp .ge 29, 3) := by decide +kernel
theorem dX10_decoy_124 : decode cX10_decoy 124 = .ok (.lload 7, 2) := by decide +kernel
theorem dX10_decoy_126 : decode cX10_decoy 126 = .ok (.ldc2_w 143, 3) := by decide +kernel
theorem dX10_decoy_129 : decode cX10_decoy 129 = .ok (.iload 4, 2) := by decide +kernel
theorem dX10_decoy_131 : decode cX10_decoy 131 = .ok (.i2l, 1) := by decide +kernel
theorem dX10_decoy_132 : decode cX10_decoy 132 = .ok (.lsub, 1) := by decide +kernel
theorem dX10_decoy_133 : decode cX10_decoy 133 = .ok (.lmul, 1) := by decide +kernel
theorem dX10_decoy_134 : decode cX10_decoy 134 = .ok (.lstore 7, 2) := by decide +kernel
theorem dX10_decoy_136 : decode cX10_decoy 136 = .ok (.lload 9, 2) := by decide +kernel
theorem dX10_decoy_138 : decode cX10_decoy 138 = .ok (.ldc2_w 143, 3) := by decide +kernel
theorem dX10_decoy_141 : decode cX10_decoy 141 = .ok (.lmul, 1) := by decide +kernel
theorem dX10_decoy_142 : decode cX10_decoy 142 = .ok (.lstore 9, 2) := by decide +kernel
theorem dX10_decoy_144 : decode cX10_decoy 144 = .ok (.iinc 11 1, 3) := by decide +kernel
theorem dX10_decoy_147 : decode cX10_decoy 147 = .ok (.goto (-30), 3) := by decide +kernel
theorem dX10_decoy_150 : decode cX10_decoy 150 = .ok (.lload 7, 2) := by decide +kernel
theorem dX10_decoy_152 : decode cX10_decoy 152 = .ok (.lload 9, 2) := by decide +kernel
theorem dX10_decoy_154 : decode cX10_decoy 154 = .ok (.iload 5, 2) := by decide +kernel
theorem dX10_decoy_156 : decode cX10_decoy 156 = .ok (.invokestatic 137, 3) := by decide +kernel
theorem dX10_decoy_159 : decode cX10_decoy 159 = .ok (.lreturn, 1) := by decide +kernel
theorem dX10_sure_0 : decode cX10_sure 0 = .ok (.iload_n 1, 1) := by decide +kernel
theorem dX10_sure_1 : decode cX10_sure 1 = .ok (.iconst 1, 1) := by decide +kernel
theorem dX10_sure_2 : decode cX10_sure 2 = .ok (.bipush 19, 2) := by decide +kernel
theorem dX10_sure_4 : decode cX10_sure 4 = .ok (.invokestatic 35, 3) := by decide +kernel
theorem dX10_sure_7 : decode cX10_sure 7 = .ok (.ifCond .eq 13, 3) := by decide +kernel
theorem dX10_sure_10 : decode cX10_sure 10 = .ok (.iload_n 2, 1) := by decide +kernel
theorem dX10_sure_11 : decode cX10_sure 11 = .ok (.iconst 0, 1) := by decide +kernel
theorem dX10_sure_12 : decode cX10_sure 12 = .ok (.bipush 100, 2) := by decide +kernel
theorem dX10_sure_14 : decode cX10_sure 14 = .ok (.invokestatic 35, 3) := by decide +kernel
theorem dX10_sure_17 : decode cX10_sure 17 = .ok (.ifCond .ne 6, 3) := by decide +kernel
theorem dX10_sure_20 : decode cX10_sure 20 = .ok (.bipush (-2), 2) := by decide +kernel
theorem dX10_sure_22 : decode cX10_sure 22 = .ok (.ireturn, 1) := by decide +kernel
theorem dX10_sure_23 : decode cX10_sure 23 = .ok (.ldc2_w 145, 3) := by decide +kernel
theorem dX10_sure_26 : decode cX10_sure 26 = .ok (.lstore_n 3, 1) := by decide +kernel
theorem dX10_sure_27 : decode cX10_sure 27 = .ok (.iload_n 2, 1) := by decide +kernel
theorem dX10_sure_28 : decode cX10_sure 28 = .ok (.i2l, 1) := by decide +kernel
theorem dX10_sure_29 : decode cX10_sure 29 = .ok (.lstore 5, 2) := by decide +kernel
theorem dX10_sure_31 : decode cX10_sure 31 = .ok (.iconst 0, 1) := by decide +kernel
theorem dX10_sure_32 : decode cX10_sure 32 = .ok (.istore 7, 2) := by decide +kernel
theorem dX10_sure_34 : decode cX10_sure 34 = .ok (.iload 7, 2) := by decide +kernel
theorem dX10_sure_36 : decode cX10_sure 36 = .ok (.bipush 13, 2) := by decide +kernel
theorem dX10_sure_38 : decode cX10_sure 38 = .ok (.if_icmp .ge 36, 3) := by decide +kernel
theorem dX10_sure_41 : decode cX10_sure 41 = .ok (.lload_n 3, 1) := by decide +kernel
theorem dX10_sure_42 : decode cX10_sure 42 = .ok (.lload 5, 2) := by decide +kernel
theorem dX10_sure_44 : decode cX10_sure 44 = .ok (.lcmp, 1) := by decide +kernel
theorem dX10_sure_45 : decode cX10_sure 45 = .ok (.ifCond .gt 6, 3) := by decide +kernel
theorem dX10_sure_48 : decode cX10_sure 48 = .ok (.iload 7, 2) := by decide +kernel
theorem dX10_sure_50 : decode cX10_sure 50 = .ok (.ireturn, 1) := by decide +kernel
theorem dX10_sure_51 : decode cX10_sure 51 = .ok (.lload_n 3, 1) := by decide +kernel
theorem dX10_sure_52 : decode cX10_sure 52 = .ok (.ldc2_w 143, 3) := by decide +kernel
theorem dX10_sure_55 : decode cX10_sure 55 = .ok (.iload_n 1, 1) := by decide +kernel
theorem dX10_sure_56 : decode cX10_sure 56 = .ok (.i2l, 1) := by decide +kernel
theorem dX10_sure_57 : decode cX10_sure 57 = .ok (.lsub, 1) := by decide +kernel
theorem dX10_sure_58 : decode cX10_sure 58 = .ok (.lmul, 1) := by decide +kernel
theorem dX10_sure_59 : decode cX10_sure 59 = .ok (.lstore_n 3, 1) := by decide +kernel
theorem dX10_sure_60 : decode cX10_sure 60 = .ok (.lload 5, 2) := by decide +kernel
theorem dX10_sure_62 : decode cX10_sure 62 = .ok (.ldc2_w 143, 3) := by decide +kernel
theorem dX10_sure_65 : decode cX10_sure 65 = .ok (.lmul, 1) := by decide +kernel
theorem dX10_sure_66 : decode cX10_sure 66 = .ok (.lstore 5, 2) := by decide +kernel
theorem dX10_sure_68 : decode cX10_sure 68 = .ok (.iinc 7 1, 3) := by decide +kernel
theorem dX10_sure_71 : decode cX10_sure 71 = .ok (.goto (-37), 3) := by decide +kernel
theorem dX10_sure_74 : decode cX10_sure 74 = .ok (.bipush (-6), 2) := by decide +kernel
theorem dX10_sure_76 : decode cX10_sure 76 = .ok (.ireturn, 1) := by decide +kernel
theorem dX10_flight_0 : decode cX10_flight 0 = .ok (.iload_n 1, 1) := by decide +kernel
theorem dX10_flight_1 : decode cX10_flight 1 = .ok (.iconst 0, 1) := by decide +kernel
theorem dX10_flight_2 : decode cX10_flight 2 = .ok (.bipush 7, 2) := by decide +kernel
theorem dX10_flight_4 : decode cX10_flight 4 = .ok (.invokestatic 35, 3) := by decide +kernel
theorem dX10_flight_7 : decode cX10_flight 7 = .ok (.ifCond .ne 5, 3) := by decide +kernel
theorem dX10_flight_10 : decode cX10_flight 10 = .ok (.iconst (-1), 1) := by decide +kernel
theorem dX10_flight_11 : decode cX10_flight 11 = .ok (.ireturn, 1) := by decide +kernel
theorem dX10_flight_12 : decode cX10_flight 12 = .ok (.iload_n 2, 1) := by decide +kernel
theorem dX10_flight_13 : decode cX10_flight 13 = .ok (.iconst 0, 1) := by decide +kernel
theorem dX10_flight_14 : decode cX10_flight 14 = .ok (.bipush 11, 2) := by decide +kernel
theorem dX10_flight_16 : decode cX10_flight 16 = .ok (.invokestatic 35, 3) := by decide +kernel
theorem dX10_flight_19 : decode cX10_flight 19 = .ok (.ifCond .eq 40, 3) := by decide +kernel
theorem dX10_flight_22 : decode cX10_flight 22 = .ok (.iload_n 3, 1) := by decide +kernel
theorem dX10_flight_23 : decode cX10_flight 23 = .ok (.iconst 0, 1) := by decide +kernel
theorem dX10_flight_24 : decode cX10_flight 24 = .ok (.bipush 11, 2) := by decide +kernel
theorem dX10_flight_26 : decode cX10_flight 26 = .ok (.invokestatic 35, 3) := by decide +kernel
theorem dX10_flight_29 : decode cX10_flight 29 = .ok (.ifCond .eq 30, 3) := by decide +kernel
theorem dX10_flight_32 : decode cX10_flight 32 = .ok (.iload_n 2, 1) := by decide +kernel
theorem dX10_flight_33 : decode cX10_flight 33 = .ok (.iload_n 3, 1) := by decide +kernel
theorem dX10_flight_34 : decode cX10_flight 34 = .ok (.if_icmp .gt 25, 3) := by decide +kernel
theorem dX10_flight_37 : decode cX10_flight 37 = .ok (.iload 4, 2) := by decide +kernel
theorem dX10_flight_39 : decode cX10_flight 39 = .ok (.iconst 0, 1) := by decide +kernel
theorem dX10_flight_40 : decode cX10_flight 40 = .ok (.bipush 10, 2) := by decide +kernel
theorem dX10_flight_42 : decode cX10_flight 42 = .ok (.invokestatic 35, 3) := by decide +kernel
theorem dX10_flight_45 : decode cX10_flight 45 = .ok (.ifCond .eq 14, 3) := by decide +kernel
theorem dX10_flight_48 : decode cX10_flight 48 = .ok (.iload 5, 2) := by decide +kernel
theorem dX10_flight_50 : decode cX10_flight 50 = .ok (.iconst 0, 1) := by decide +kernel
theorem dX10_flight_51 : decode cX10_flight 51 = .ok (.bipush 100, 2) := by decide +kernel
theorem dX10_flight_53 : decode cX10_flight 53 = .ok (.invokestatic 35, 3) := by decide +kernel
theorem dX10_flight_56 : decode cX10_flight 56 = .ok (.ifCond .ne 6, 3) := by decide +kernel
theorem dX10_flight_59 : decode cX10_flight 59 = .ok (.bipush (-2), 2) := by decide +kernel
theorem dX10_flight_61 : decode cX10_flight 61 = .ok (.ireturn, 1) := by decide +kernel
theorem dX10_flight_62 : decode cX10_flight 62 = .ok (.aload_n 0, 1) := by decide +kernel
theorem dX10_flight_63 : decode cX10_flight 63 = .ok (.getfield 32, 3) := by decide +kernel
theorem dX10_flight_66 : decode cX10_flight 66 = .ok (.iconst 4, 1) := by decide +kernel
theorem dX10_flight_67 : decode cX10_flight 67 = .ok (.iload_n 1, 1) := by decide +kernel
theorem dX10_flight_68 : decode cX10_flight 68 = .ok (.imul, 1) := by decide +kernel
theorem dX10_flight_69 : decode cX10_flight 69 = .ok (.iload_n 2, 1) := by decide +kernel
theorem dX10_flight_70 : decode cX10_flight 70 = .ok (.iastore, 1) := by decide +kernel
theorem dX10_flight_71 : decode cX10_flight 71 = .ok (.aload_n 0, 1) := by decide +kernel
theorem dX10_flight_72 : decode cX10_flight 72 = .ok (.getfield 32, 3) := by decide +kernel
theorem dX10_flight_75 : decode cX10_flight 75 = .ok (.iconst 4, 1) := by decide +kernel
theorem dX10_flight_76 : decode cX10_flight 76 = .ok (.iload_n 1, 1) := by decide +kernel
theorem dX10_flight_77 : decode cX10_flight 77 = .ok (.imul, 1) := by decide +kernel
theorem dX10_flight_78 : decode cX10_flight 78 = .ok (.iconst 1, 1) := by decide +kernel
theorem dX10_flight_79 : decode cX10_flight 79 = .ok (.iadd, 1) := by decide +kernel
theorem dX10_flight_80 : decode cX10_flight 80 = .ok (.iload_n 3, 1) := by decide +kernel
theorem dX10_flight_81 : decode cX10_flight 81 = .ok (.iastore, 1) := by decide +kernel
theorem dX10_flight_82 : decode cX10_flight 82 = .ok (.aload_n 0, 1) := by decide +kernel
theorem dX10_flight_83 : decode cX10_flight 83 = .ok (.getfield 32, 3) := by decide +kernel
theorem dX10_flight_86 : decode cX10_flight 86 = .ok (.iconst 4, 1) := by decide +kernel
theorem dX10_flight_87 : decode cX10_flight 87 = .ok (.iload_n 1, 1) := by decide +kernel
theorem dX10_flight_88 : decode cX10_flight 88 = .ok (.imul, 1) := by decide +kernel
theorem dX10_flight_89 : decode cX10_flight 89 = .ok (.iconst 2, 1) := by decide +kernel
theorem dX10_flight_90 : decode cX10_flight 90 = .ok (.iadd, 1) := by decide +kernel
theorem dX10_flight_91 : decode cX10_flight 91 = .ok (.iload 4, 2) := by decide +kernel
theorem dX10_flight_93 : decode cX10_flight 93 = .ok (.iastore, 1) := by decide +kernel
theorem dX10_flight_94 : decode cX10_flight 94 = .ok (.aload_n 0, 1) := by decide +kernel
theorem dX10_flight_95 : decode cX10_flight 95 = .ok (.getfield 32, 3) := by decide +kernel
theorem dX10_flight_98 : decode cX10_flight 98 = .ok (.iconst 4, 1) := by decide +kernel
theorem dX10_flight_99 : decode cX10_flight 99 = .ok (.iload_n 1, 1) := by decide +kernel
theorem dX10_flight_100 : decode cX10_flight 100 = .ok (.imul, 1) := by decide +kernel
theorem dX10_flight_101 : decode cX10_flight 101 = .ok (.iconst 3, 1) := by decide +kernel
theorem dX10_flight_102 : decode cX10_flight 102 = .ok (.iadd, 1) := by decide +kernel
theorem dX10_flight_103 : decode cX10_flight 103 = .ok (.iload 5, 2) := by decide +kernel
theorem dX10_flight_105 : decode cX10_flight 105 = .ok (.iastore, 1) := by decide +kernel
theorem dX10_flight_106 : decode cX10_flight 106 = .ok (.iconst 1, 1) := by decide +kernel
theorem dX10_flight_107 : decode cX10_flight 107 = .ok (.ireturn, 1) := by decide +kernel
theorem dX10_worthOf_0 : decode cX10_worthOf 0 = .ok (.lconst 0, 1) := by decide +kernel
theorem dX10_worthOf_1 : decode cX10_worthOf 1 = .ok (.lstore_n 2, 1) := by decide +kernel
theorem dX10_worthOf_2 : decode cX10_worthOf 2 = .ok (.iconst 0, 1) := by decide +kernel
theorem dX10_worthOf_3 : decode cX10_worthOf 3 = .ok (.istore 4, 2) := by decide +kernel
theorem dX10_worthOf_5 : decode cX10_worthOf 5 = .ok (.iload 4, 2) := by decide +kernel
theorem dX10_worthOf_7 : decode cX10_worthOf 7 = .ok (.aload_n 0, 1) := by decide +kernel
theorem dX10_worthOf_8 : decode cX10_worthOf 8 = .ok (.getfield 39, 3) := by decide +kernel
theorem dX10_worthOf_11 : decode cX10_worthOf 11 = .ok (.if_icmp .ge 139, 3) := by decide +kernel
theorem dX10_worthOf_14 : decode cX10_worthOf 14 = .ok (.aload_n 0, 1) := by decide +kernel
theorem dX10_worthOf_15 : decode cX10_worthOf 15 = .ok (.getfield 7, 3) := by decide +kernel
theorem dX10_worthOf_18 : decode cX10_worthOf 18 = .ok (.bipush 11, 2) := by decide +kernel
theorem dX10_worthOf_20 : decode cX10_worthOf 20 = .ok (.iload 4, 2) := by decide +kernel
theorem dX10_worthOf_22 : decode cX10_worthOf 22 = .ok (.imul, 1) := by decide +kernel
theorem dX10_worthOf_23 : decode cX10_worthOf 23 = .ok (.bipush 10, 2) := by decide +kernel
theorem dX10_worthOf_25 : decode cX10_worthOf 25 = .ok (.iadd, 1) := by decide +kernel
theorem dX10_worthOf_26 : decode cX10_worthOf 26 = .ok (.iaload, 1) := by decide +kernel
theorem dX10_worthOf_27 : decode cX10_worthOf 27 = .ok (.iconst 1, 1) := by decide +kernel
theorem dX10_worthOf_28 : decode cX10_worthOf 28 = .ok (.if_icmp .ne 116, 3) := by decide +kernel
theorem dX10_worthOf_31 : decode cX10_worthOf 31 = .ok (.lconst 1, 1) := by decide +kernel
theorem dX10_worthOf_32 : decode cX10_worthOf 32 = .ok (.lstore 5, 2) := by decide +kernel
theorem dX10_worthOf_34 : decode cX10_worthOf 34 = .ok (.iconst 0, 1) := by decide +kernel
theorem dX10_worthOf_35 : decode cX10_worthOf 35 = .ok (.istore 7, 2) := by decide +kernel
theorem dX10_worthOf_37 : decode cX10_worthOf 37 = .ok (.iload 7, 2) := by decide +kernel
theorem dX10_worthOf_39 : decode cX10_worthOf 39 = .ok (.bipush 8, 2) := by decide +kernel
theorem dX10_worthOf_41 : decode cX10_worthOf 41 = .ok (.if_icmp .ge 94, 3) := by decide +kernel
theorem dX10_worthOf_44 : decode cX10_worthOf 44 = .ok (.iload_n 1, 1) := by decide +kernel
theorem dX10_worthOf_45 : decode cX10_worthOf 45 = .ok (.iload 7, 2) := by decide +kernel
theorem dX10_worthOf_47 : decode cX10_worthOf 47 = .ok (.ishr, 1) := by decide +kernel
theorem dX10_worthOf_48 : decode cX10_worthOf 48 = .ok (.iconst 1, 1) := by decide +kernel
theorem dX10_worthOf_49 : decode cX10_worthOf 49 = .ok (.iand, 1) := by decide +kernel
theorem dX10_worthOf_50 : decode cX10_worthOf 50 = .ok (.iconst 1, 1) := by decide +kernel
theorem dX10_worthOf_51 : decode cX10_worthOf 51 = .ok (.if_icmp .ne 43, 3) := by decide +kernel
theorem dX10_worthOf_54 : decode cX10_worthOf 54 = .ok (.aload_n 0, 1) := by decide +kernel
theorem dX10_worthOf_55 : decode cX10_worthOf 55 = .ok (.getfield 7, 3) := by decide +kernel
theorem dX10_worthOf_58 : decode cX10_worthOf 58 = .ok (.bipush 11, 2) := by decide +kernel
theorem dX10_worthOf_60 : decode cX10_worthOf 60 = .ok (.iload 4, 2) := by decide +kernel
theorem dX10_worthOf_62 : decode cX10_worthOf 62 = .ok (.imul, 1) := by decide +kernel
theorem dX10_worthOf_63 : decode cX10_worthOf 63 = .ok (.iaload, 1) := by decide +kernel
theorem dX10_worthOf_64 : decode cX10_worthOf 64 = .ok (.aload_n 0, 1) := by decide +kernel
theorem dX10_worthOf_65 : decode cX10_worthOf 65 = .ok (.getfield 32, 3) := by decide +kernel
theorem dX10_worthOf_68 : decode cX10_worthOf 68 = .ok (.iconst 4, 1) := by decide +kernel
theorem dX10_worthOf_69 : decode cX10_worthOf 69 = .ok (.iload 7, 2) := by decide +kernel
theorem dX10_worthOf_71 : decode cX10_worthOf 71 = .ok (.imul, 1) := by decide +kernel
theorem dX10_worthOf_72 : decode cX10_worthOf 72 = .ok (.iaload, 1) := by decide +kernel
theorem dX10_worthOf_73 : decode cX10_worthOf 73 = .ok (.aload_n 0, 1) := by decide +kernel
theorem dX10_worthOf_74 : decode cX10_worthOf 74 = .ok (.getfield 32, 3) := by decide +kernel
theorem dX10_worthOf_77 : decode cX10_worthOf 77 = .ok (.iconst 4, 1) := by decide +kernel
theorem dX10_worthOf_78 : decode cX10_worthOf 78 = .ok (.iload 7, 2) := by decide +kernel
theorem dX10_worthOf_80 : decode cX10_worthOf 80 = .ok (.imul, 1) := by decide +kernel
theorem dX10_worthOf_81 : decode cX10_worthOf 81 = .ok (.iconst 1, 1) := by decide +kernel
theorem dX10_worthOf_82 : decode cX10_worthOf 82 = .ok (.iadd, 1) := by decide +kernel
theorem dX10_worthOf_83 : decode cX10_worthOf 83 = .ok (.iaload, 1) := by decide +kernel
theorem dX10_worthOf_84 : decode cX10_worthOf 84 = .ok (.invokestatic 35, 3) := by decide +kernel
theorem dX10_worthOf_87 : decode cX10_worthOf 87 = .ok (.ifCond .eq 7, 3) := by decide +kernel
theorem dX10_worthOf_90 : decode cX10_worthOf 90 = .ok (.iconst 1, 1) := by decide +kernel
theorem dX10_worthOf_91 : decode cX10_worthOf 91 = .ok (.goto 4, 3) := by decide +kernel
theorem dX10_worthOf_94 : decode cX10_worthOf 94 = .ok (.iconst 0, 1) := by decide +kernel
theorem dX10_worthOf_95 : decode cX10_worthOf 95 = .ok (.istore 8, 2) := by decide +kernel
theorem dX10_worthOf_97 : decode cX10_worthOf 97 = .ok (.lload 5, 2) := by decide +kernel
theorem dX10_worthOf_99 : decode cX10_worthOf 99 = .ok (.iload 8, 2) := by decide +kernel
theorem dX10_worthOf_101 : decode cX10_worthOf 101 = .ok (.ifCond .eq 22, 3) := by decide +kernel
theorem dX10_worthOf_104 : decode cX10_worthOf 104 = .ok (.ldc2_w 147, 3) := by decide +kernel
theorem dX10_worthOf_107 : decode cX10_worthOf 107 = .ok (.aload_n 0, 1) := by decide +kernel
theorem dX10_worthOf_108 : decode cX10_worthOf 108 = .ok (.getfield 32, 3) := by decide +kernel
theorem dX10_worthOf_111 : decode cX10_worthOf 111 = .ok (.iconst 4, 1) := by decide +kernel
theorem dX10_worthOf_112 : decode cX10_worthOf 112 = .ok (.iload 7, 2) := by decide +kernel
theorem dX10_worthOf_114 : decode cX10_worthOf 114 = .ok (.imul, 1) := by decide +kernel
theorem dX10_worthOf_115 : decode cX10_worthOf 115 = .ok (.iconst 2, 1) := by decide +kernel
theorem dX10_worthOf_116 : decode cX10_worthOf 116 = .ok (.iadd, 1) := by decide +kernel
theorem dX10_worthOf_117 : decode cX10_worthOf 117 = .ok (.iaload, 1) := by decide +kernel
theorem dX10_worthOf_118 : decode cX10_worthOf 118 = .ok (.i2l, 1) := by decide +kernel
theorem dX10_worthOf_119 : decode cX10_worthOf 119 = .ok (.lsub, 1) := by decide +kernel
theorem dX10_worthOf_120 : decode cX10_worthOf 120 = .ok (.goto 6, 3) := by decide +kernel
theorem dX10_worthOf_123 : decode cX10_worthOf 123 = .ok (.ldc2_w 147, 3) := by decide +kernel
theorem dX10_worthOf_126 : decode cX10_worthOf 126 = .ok (.lmul, 1) := by decide +kernel
theorem dX10_worthOf_127 : decode cX10_worthOf 127 = .ok (.lstore 5, 2) := by decide +kernel
theorem dX10_worthOf_129 : decode cX10_worthOf 129 = .ok (.iinc 7 1, 3) := by decide +kernel
theorem dX10_worthOf_132 : decode cX10_worthOf 132 = .ok (.goto (-95), 3) := by decide +kernel
theorem dX10_worthOf_135 : decode cX10_worthOf 135 = .ok (.lload_n 2, 1) := by decide +kernel
theorem dX10_worthOf_136 : decode cX10_worthOf 136 = .ok (.ldc2_w 149, 3) := by decide +kernel
theorem dX10_worthOf_139 : decode cX10_worthOf 139 = .ok (.lload 5, 2) := by decide +kernel
theorem dX10_worthOf_141 : decode cX10_worthOf 141 = .ok (.lsub, 1) := by decide +kernel
theorem dX10_worthOf_142 : decode cX10_worthOf 142 = .ok (.ladd, 1) := by decide +kernel
theorem dX10_worthOf_143 : decode cX10_worthOf 143 = .ok (.lstore_n 2, 1) := by decide +kernel
theorem dX10_worthOf_144 : decode cX10_worthOf 144 = .ok (.iinc 4 1, 3) := by decide +kernel
theorem dX10_worthOf_147 : decode cX10_worthOf 147 = .ok (.goto (-142), 3) := by decide +kernel
theorem dX10_worthOf_150 : decode cX10_worthOf 150 = .ok (.lload_n 2, 1) := by decide +kernel
theorem dX10_worthOf_151 : decode cX10_worthOf 151 = .ok (.lreturn, 1) := by decide +kernel
theorem dX10_worth_0 : decode cX10_worth 0 = .ok (.iload_n 1, 1) := by decide +kernel
theorem dX10_worth_1 : decode cX10_worth 1 = .ok (.iconst 0, 1) := by decide +kernel
theorem dX10_worth_2 : decode cX10_worth 2 = .ok (.sipush 255, 3) := by decide +kernel
theorem dX10_worth_5 : decode cX10_worth 5 = .ok (.invokestatic 35, 3) := by decide +kernel
theorem dX10_worth_8 : decode cX10_worth 8 = .ok (.ifCond .eq 25, 3) := by decide +kernel
theorem dX10_worth_11 : decode cX10_worth 11 = .ok (.iload_n 2, 1) := by decide +kernel
theorem dX10_worth_12 : decode cX10_worth 12 = .ok (.invokestatic 77, 3) := by decide +kernel
theorem dX10_worth_15 : decode cX10_worth 15 = .ok (.ifCond .eq 18, 3) := by decide +kernel
theorem dX10_worth_18 : decode cX10_worth 18 = .ok (.aload_n 0, 1) := by decide +kernel
theorem dX10_worth_19 : decode cX10_worth 19 = .ok (.iload_n 1, 1) := by decide +kernel
theorem dX10_worth_20 : decode cX10_worth 20 = .ok (.invokevirtual 151, 3) := by decide +kernel
theorem dX10_worth_23 : decode cX10_worth 23 = .ok (.ldc2_w 149, 3) := by decide +kernel
theorem dX10_worth_26 : decode cX10_worth 26 = .ok (.iload_n 2, 1) := by decide +kernel
theorem dX10_worth_27 : decode cX10_worth 27 = .ok (.invokestatic 137, 3) := by decide +kernel
theorem dX10_worth_30 : decode cX10_worth 30 = .ok (.goto 6, 3) := by decide +kernel
theorem dX10_worth_33 : decode cX10_worth 33 = .ok (.ldc2_w 131, 3) := by decide +kernel
theorem dX10_worth_36 : decode cX10_worth 36 = .ok (.lreturn, 1) := by decide +kernel
theorem dX10_riskOf_0 : decode cX10_riskOf 0 = .ok (.iconst 0, 1) := by decide +kernel
theorem dX10_riskOf_1 : decode cX10_riskOf 1 = .ok (.istore_n 2, 1) := by decide +kernel
theorem dX10_riskOf_2 : decode cX10_riskOf 2 = .ok (.iconst 0, 1) := by decide +kernel
theorem dX10_riskOf_3 : decode cX10_riskOf 3 = .ok (.istore_n 3, 1) := by decide +kernel
theorem dX10_riskOf_4 : decode cX10_riskOf 4 = .ok (.iload_n 3, 1) := by decide +kernel
theorem dX10_riskOf_5 : decode cX10_riskOf 5 = .ok (.bipush 8, 2) := by decide +kernel
theorem dX10_riskOf_7 : decode cX10_riskOf 7 = .ok (.if_icmp .ge 28, 3) := by decide +kernel
theorem dX10_riskOf_10 : decode cX10_riskOf 10 = .ok (.iload_n 2, 1) := by decide +kernel
theorem dX10_riskOf_11 : decode cX10_riskOf 11 = .ok (.iload_n 1, 1) := by decide +kernel
theorem dX10_riskOf_12 : decode cX10_riskOf 12 = .ok (.iload_n 3, 1) := by decide +kernel
theorem dX10_riskOf_13 : decode cX10_riskOf 13 = .ok (.ishr, 1) := by decide +kernel
theorem dX10_riskOf_14 : decode cX10_riskOf 14 = .ok (.iconst 1, 1) := by decide +kernel
theorem dX10_riskOf_15 : decode cX10_riskOf 15 = .ok (.iand, 1) := by decide +kernel
theorem dX10_riskOf_16 : decode cX10_riskOf 16 = .ok (.aload_n 0, 1) := by decide +kernel
theorem dX10_riskOf_17 : decode cX10_riskOf 17 = .ok (.getfield 32, 3) := by decide +kernel
theorem dX10_riskOf_20 : decode cX10_riskOf 20 = .ok (.iconst 4, 1) := by decide +kernel
theorem dX10_riskOf_21 : decode cX10_riskOf 21 = .ok (.iload_n 3, 1) := by decide +kernel
theorem dX10_riskOf_22 : decode cX10_riskOf 22 = .ok (.imul, 1) := by decide +kernel
theorem dX10_riskOf_23 : decode cX10_riskOf 23 = .ok (.iconst 3, 1) := by decide +kernel
theorem dX10_riskOf_24 : decode cX10_riskOf 24 = .ok (.iadd, 1) := by decide +kernel
theorem dX10_riskOf_25 : decode cX10_riskOf 25 = .ok (.iaload, 1) := by decide +kernel
theorem dX10_riskOf_26 : decode cX10_riskOf 26 = .ok (.imul, 1) := by decide +kernel
theorem dX10_riskOf_27 : decode cX10_riskOf 27 = .ok (.iadd, 1) := by decide +kernel
theorem dX10_riskOf_28 : decode cX10_riskOf 28 = .ok (.istore_n 2, 1) := by decide +kernel
theorem dX10_riskOf_29 : decode cX10_riskOf 29 = .ok (.iinc 3 1, 3) := by decide +kernel
theorem dX10_riskOf_32 : decode cX10_riskOf 32 = .ok (.goto (-28), 3) := by decide +kernel
theorem dX10_riskOf_35 : decode cX10_riskOf 35 = .ok (.iload_n 2, 1) := by decide +kernel
theorem dX10_riskOf_36 : decode cX10_riskOf 36 = .ok (.ireturn, 1) := by decide +kernel
theorem dX10_best_0 : decode cX10_best 0 = .ok (.iload_n 1, 1) := by decide +kernel
theorem dX10_best_1 : decode cX10_best 1 = .ok (.iconst 0, 1) := by decide +kernel
theorem dX10_best_2 : decode cX10_best 2 = .ok (.sipush 800, 3) := by decide +kernel
theorem dX10_best_5 : decode cX10_best 5 = .ok (.invokestatic 35, 3) := by decide +kernel
theorem dX10_best_8 : decode cX10_best 8 = .ok (.ifCond .eq 10, 3) := by decide +kernel
theorem dX10_best_11 : decode cX10_best 11 = .ok (.iload_n 2, 1) := by decide +kernel
theorem dX10_best_12 : decode cX10_best 12 = .ok (.invokestatic 77, 3) := by decide +kernel
theorem dX10_best_15 : decode cX10_best 15 = .ok (.ifCond .ne 6, 3) := by decide +kernel
theorem dX10_best_18 : decode cX10_best 18 = .ok (.bipush (-2), 2) := by decide +kernel
theorem dX10_best_20 : decode cX10_best 20 = .ok (.ireturn, 1) := by decide +kernel
theorem dX10_best_21 : decode cX10_best 21 = .ok (.iconst 0, 1) := by decide +kernel
theorem dX10_best_22 : decode cX10_best 22 = .ok (.istore_n 3, 1) := by decide +kernel
theorem dX10_best_23 : decode cX10_best 23 = .ok (.iconst 1, 1) := by decide +kernel
theorem dX10_best_24 : decode cX10_best 24 = .ok (.istore 4, 2) := by decide +kernel
theorem dX10_best_26 : decode cX10_best 26 = .ok (.iload 4, 2) := by decide +kernel
theorem dX10_best_28 : decode cX10_best 28 = .ok (.sipush 256, 3) := by decide +kernel
theorem dX10_best_31 : decode cX10_best 31 = .ok (.if_icmp .ge 80, 3) := by decide +kernel
theorem dX10_best_34 : decode cX10_best 34 = .ok (.aload_n 0, 1) := by decide +kernel
theorem dX10_best_35 : decode cX10_best 35 = .ok (.iload 4, 2) := by decide +kernel
theorem dX10_best_37 : decode cX10_best 37 = .ok (.invokevirtual 151, 3) := by decide +kernel
theorem dX10_best_40 : decode cX10_best 40 = .ok (.aload_n 0, 1) := by decide +kernel
theorem dX10_best_41 : decode cX10_best 41 = .ok (.iload_n 3, 1) := by decide +kernel
theorem dX10_best_42 : decode cX10_best 42 = .ok (.invokevirtual 151, 3) := by decide +kernel
theorem dX10_best_45 : decode cX10_best 45 = .ok (.lsub, 1) := by decide +kernel
theorem dX10_best_46 : decode cX10_best 46 = .ok (.lstore 5, 2) := by decide +kernel
theorem dX10_best_48 : decode cX10_best 48 = .ok (.lload 5, 2) := by decide +kernel
theorem dX10_best_50 : decode cX10_best 50 = .ok (.lconst 0, 1) := by decide +kernel
theorem dX10_best_51 : decode cX10_best 51 = .ok (.lcmp, 1) := by decide +kernel
theorem dX10_best_52 : decode cX10_best 52 = .ok (.ifCond .gt 24, 3) := by decide +kernel
theorem dX10_best_55 : decode cX10_best 55 = .ok (.lload 5, 2) := by decide +kernel
theorem dX10_best_57 : decode cX10_best 57 = .ok (.lconst 0, 1) := by decide +kernel
theorem dX10_best_58 : decode cX10_best 58 = .ok (.lcmp, 1) := by decide +kernel
theorem dX10_best_59 : decode cX10_best 59 = .ok (.ifCond .ne 21, 3) := by decide +kernel
theorem dX10_best_62 : decode cX10_best 62 = .ok (.aload_n 0, 1) := by decide +kernel
theorem dX10_best_63 : decode cX10_best 63 = .ok (.iload 4, 2) := by decide +kernel
theorem dX10_best_65 : decode cX10_best 65 = .ok (.invokevirtual 155, 3) := by decide +kernel
theorem dX10_best_68 : decode cX10_best 68 = .ok (.aload_n 0, 1) := by decide +kernel
theorem dX10_best_69 : decode cX10_best 69 = .ok (.iload_n 3, 1) := by decide +kernel
theorem dX10_best_70 : decode cX10_best 70 = .ok (.invokevirtual 155, 3) := by decide +kernel
theorem dX10_best_73 : decode cX10_best 73 = .ok (.if_icmp .ge 7, 3) := by decide +kernel
theorem dX10_best_76 : decode cX10_best 76 = .ok (.iconst 1, 1) := by decide +kernel
theorem dX10_best_77 : decode cX10_best 77 = .ok (.goto 4, 3) := by decide +kernel
theorem dX10_best_80 : decode cX10_best 80 = .ok (.iconst 0, 1) := by decide +kernel
theorem dX10_best_81 : decode cX10_best 81 = .ok (.istore 7, 2) := by decide +kernel
theorem dX10_best_83 : decode cX10_best 83 = .ok (.aload_n 0, 1) := by decide +kernel
theorem dX10_best_84 : decode cX10_best 84 = .ok (.iload 4, 2) := by decide +kernel
theorem dX10_best_86 : decode cX10_best 86 = .ok (.invokevirtual 155, 3) := by decide +kernel
theorem dX10_best_89 : decode cX10_best 89 = .ok (.iload_n 1, 1) := by decide +kernel
theorem dX10_best_90 : decode cX10_best 90 = .ok (.if_icmp .gt 13, 3) := by decide +kernel
theorem dX10_best_93 : decode cX10_best 93 = .ok (.iload 7, 2) := by decide +kernel
theorem dX10_best_95 : decode cX10_best 95 = .ok (.ifCond .eq 8, 3) := by decide +kernel
theorem dX10_best_98 : decode cX10_best 98 = .ok (.iload 4, 2) := by decide +kernel
theorem dX10_best_100 : decode cX10_best 100 = .ok (.goto 4, 3) := by decide +kernel
theorem dX10_best_103 : decode cX10_best 103 = .ok (.iload_n 3, 1) := by decide +kernel
theorem dX10_best_104 : decode cX10_best 104 = .ok (.istore_n 3, 1) := by decide +kernel
theorem dX10_best_105 : decode cX10_best 105 = .ok (.iinc 4 1, 3) := by decide +kernel
theorem dX10_best_108 : decode cX10_best 108 = .ok (.goto (-82), 3) := by decide +kernel
theorem dX10_best_111 : decode cX10_best 111 = .ok (.iload_n 2, 1) := by decide +kernel
theorem dX10_best_112 : decode cX10_best 112 = .ok (.ifCond .ne 7, 3) := by decide +kernel
theorem dX10_best_115 : decode cX10_best 115 = .ok (.iload_n 3, 1) := by decide +kernel
theorem dX10_best_116 : decode cX10_best 116 = .ok (.goto 8, 3) := by decide +kernel
theorem dX10_best_119 : decode cX10_best 119 = .ok (.aload_n 0, 1) := by decide +kernel
theorem dX10_best_120 : decode cX10_best 120 = .ok (.iload_n 3, 1) := by decide +kernel
theorem dX10_best_121 : decode cX10_best 121 = .ok (.invokevirtual 155, 3) := by decide +kernel
theorem dX10_best_124 : decode cX10_best 124 = .ok (.ireturn, 1) := by decide +kernel
theorem dX10_choose_0 : decode cX10_choose 0 = .ok (.iload_n 1, 1) := by decide +kernel
theorem dX10_choose_1 : decode cX10_choose 1 = .ok (.ifCond .lt 8, 3) := by decide +kernel
theorem dX10_choose_4 : decode cX10_choose 4 = .ok (.iload_n 1, 1) := by decide +kernel
theorem dX10_choose_5 : decode cX10_choose 5 = .ok (.iload_n 0, 1) := by decide +kernel
theorem dX10_choose_6 : decode cX10_choose 6 = .ok (.if_icmp .le 7, 3) := by decide +kernel
theorem dX10_choose_9 : decode cX10_choose 9 = .ok (.lconst 0, 1) := by decide +kernel
theorem dX10_choose_10 : decode cX10_choose 10 = .ok (.goto 4, 3) := by decide +kernel
theorem dX10_choose_13 : decode cX10_choose 13 = .ok (.lconst 1, 1) := by decide +kernel
theorem dX10_choose_14 : decode cX10_choose 14 = .ok (.lstore_n 2, 1) := by decide +kernel
theorem dX10_choose_15 : decode cX10_choose 15 = .ok (.iconst 0, 1) := by decide +kernel
theorem dX10_choose_16 : decode cX10_choose 16 = .ok (.istore 4, 2) := by decide +kernel
theorem dX10_choose_18 : decode cX10_choose 18 = .ok (.iload 4, 2) := by decide +kernel
theorem dX10_choose_20 : decode cX10_choose 20 = .ok (.iload_n 1, 1) := by decide +kernel
theorem dX10_choose_21 : decode cX10_choose 21 = .ok (.if_icmp .ge 29, 3) := by decide +kernel
theorem dX10_choose_24 : decode cX10_choose 24 = .ok (.lload_n 2, 1) := by decide +kernel
theorem dX10_choose_25 : decode cX10_choose 25 = .ok (.lconst 0, 1) := by decide +kernel
theorem dX10_choose_26 : decode cX10_choose 26 = .ok (.lcmp, 1) := by decide +kernel
theorem dX10_choose_27 : decode cX10_choose 27 = .ok (.ifCond .le 23, 3) := by decide +kernel
theorem dX10_choose_30 : decode cX10_choose 30 = .ok (.lload_n 2, 1) := by decide +kernel
theorem dX10_choose_31 : decode cX10_choose 31 = .ok (.iload_n 0, 1) := by decide +kernel
theorem dX10_choose_32 : decode cX10_choose 32 = .ok (.iload 4, 2) := by decide +kernel
theorem dX10_choose_34 : decode cX10_choose 34 = .ok (.isub, 1) := by decide +kernel
theorem dX10_choose_35 : decode cX10_choose 35 = .ok (.i2l, 1) := by decide +kernel
theorem dX10_choose_36 : decode cX10_choose 36 = .ok (.lmul, 1) := by decide +kernel
theorem dX10_choose_37 : decode cX10_choose 37 = .ok (.iload 4, 2) := by decide +kernel
theorem dX10_choose_39 : decode cX10_choose 39 = .ok (.iconst 1, 1) := by decide +kernel
theorem dX10_choose_40 : decode cX10_choose 40 = .ok (.iadd, 1) := by decide +kernel
theorem dX10_choose_41 : decode cX10_choose 41 = .ok (.i2l, 1) := by decide +kernel
theorem dX10_choose_42 : decode cX10_choose 42 = .ok (.ldiv, 1) := by decide +kernel
theorem dX10_choose_43 : decode cX10_choose 43 = .ok (.lstore_n 2, 1) := by decide +kernel
theorem dX10_choose_44 : decode cX10_choose 44 = .ok (.iinc 4 1, 3) := by decide +kernel
theorem dX10_choose_47 : decode cX10_choose 47 = .ok (.goto (-29), 3) := by decide +kernel
theorem dX10_choose_50 : decode cX10_choose 50 = .ok (.lload_n 2, 1) := by decide +kernel
theorem dX10_choose_51 : decode cX10_choose 51 = .ok (.lreturn, 1) := by decide +kernel
theorem dX10_lean_0 : decode cX10_lean 0 = .ok (.iload_n 2, 1) := by decide +kernel
theorem dX10_lean_1 : decode cX10_lean 1 = .ok (.iconst 1, 1) := by decide +kernel
theorem dX10_lean_2 : decode cX10_lean 2 = .ok (.bipush 20, 2) := by decide +kernel
theorem dX10_lean_4 : decode cX10_lean 4 = .ok (.invokestatic 35, 3) := by decide +kernel
theorem dX10_lean_7 : decode cX10_lean 7 = .ok (.ifCond .eq 41, 3) := by decide +kernel
theorem dX10_lean_10 : decode cX10_lean 10 = .ok (.iload 4, 2) := by decide +kernel
theorem dX10_lean_12 : decode cX10_lean 12 = .ok (.iconst 1, 1) := by decide +kernel
theorem dX10_lean_13 : decode cX10_lean 13 = .ok (.bipush 20, 2) := by decide +kernel
theorem dX10_lean_15 : decode cX10_lean 15 = .ok (.invokestatic 35, 3) := by decide +kernel
theorem dX10_lean_18 : decode cX10_lean 18 = .ok (.ifCond .eq 30, 3) := by decide +kernel
theorem dX10_lean_21 : decode cX10_lean 21 = .ok (.iload_n 1, 1) := by decide +kernel
theorem dX10_lean_22 : decode cX10_lean 22 = .ok (.iconst 0, 1) := by decide +kernel
theorem dX10_lean_23 : decode cX10_lean 23 = .ok (.iload_n 2, 1) := by decide +kernel
theorem dX10_lean_24 : decode cX10_lean 24 = .ok (.invokestatic 35, 3) := by decide +kernel
theorem dX10_lean_27 : decode cX10_lean 27 = .ok (.ifCond .eq 21, 3) := by decide +kernel
theorem dX10_lean_30 : decode cX10_lean 30 = .ok (.iload_n 3, 1) := by decide +kernel
theorem dX10_lean_31 : decode cX10_lean 31 = .ok (.iconst 0, 1) := by decide +kernel
theorem dX10_lean_32 : decode cX10_lean 32 = .ok (.iload 4, 2) := by decide +kernel
theorem dX10_lean_34 : decode cX10_lean 34 = .ok (.invokestatic 35, 3) := by decide +kernel
theorem dX10_lean_37 : decode cX10_lean 37 = .ok (.ifCond .eq 11, 3) := by decide +kernel
theorem dX10_lean_40 : decode cX10_lean 40 = .ok (.iload 5, 2) := by decide +kernel
theorem dX10_lean_42 : decode cX10_lean 42 = .ok (.invokestatic 77, 3) := by decide +kernel
theorem dX10_lean_45 : decode cX10_lean 45 = .ok (.ifCond .ne 7, 3) := by decide +kernel
theorem dX10_lean_48 : decode cX10_lean 48 = .ok (.ldc2_w 131, 3) := by decide +kernel
theorem dX10_lean_51 : decode cX10_lean 51 = .ok (.lreturn, 1) := by decide +kernel
theorem dX10_lean_52 : decode cX10_lean 52 = .ok (.lconst 0, 1) := by decide +kernel
theorem dX10_lean_53 : decode cX10_lean 53 = .ok (.lstore 6, 2) := by decide +kernel
theorem dX10_lean_55 : decode cX10_lean 55 = .ok (.iload_n 1, 1) := by decide +kernel
theorem dX10_lean_56 : decode cX10_lean 56 = .ok (.istore 8, 2) := by decide +kernel
theorem dX10_lean_58 : decode cX10_lean 58 = .ok (.iload 8, 2) := by decide +kernel
theorem dX10_lean_60 : decode cX10_lean 60 = .ok (.iload_n 2, 1) := by decide +kernel
theorem dX10_lean_61 : decode cX10_lean 61 = .ok (.if_icmp .gt 32, 3) := by decide +kernel
theorem dX10_lean_64 : decode cX10_lean 64 = .ok (.lload 6, 2) := by decide +kernel
theorem dX10_lean_66 : decode cX10_lean 66 = .ok (.iload_n 2, 1) := by decide +kernel
theorem dX10_lean_67 : decode cX10_lean 67 = .ok (.iload 8, 2) := by decide +kernel
theorem dX10_lean_69 : decode cX10_lean 69 = .ok (.invokestatic 158, 3) := by decide +kernel
theorem dX10_lean_72 : decode cX10_lean 72 = .ok (.iload 4, 2) := by decide +kernel
theorem dX10_lean_74 : decode cX10_lean 74 = .ok (.iload_n 1, 1) := by decide +kernel
theorem dX10_lean_75 : decode cX10_lean 75 = .ok (.iload_n 3, 1) := by decide +kernel
theorem dX10_lean_76 : decode cX10_lean 76 = .ok (.iadd, 1) := by decide +kernel
theorem dX10_lean_77 : decode cX10_lean 77 = .ok (.iload 8, 2) := by decide +kernel
theorem dX10_lean_79 : decode cX10_lean 79 = .ok (.isub, 1) := by decide +kernel
theorem dX10_lean_80 : decode cX10_lean 80 = .ok (.invokestatic 158, 3) := by decide +kernel
theorem dX10_lean_83 : decode cX10_lean 83 = .ok (.lmul, 1) := by decide +kernel
theorem dX10_lean_84 : decode cX10_lean 84 = .ok (.ladd, 1) := by decide +kernel
theorem dX10_lean_85 : decode cX10_lean 85 = .ok (.lstore 6, 2) := by decide +kernel
theorem dX10_lean_87 : decode cX10_lean 87 = .ok (.iinc 8 1, 3) := by decide +kernel
theorem dX10_lean_90 : decode cX10_lean 90 = .ok (.goto (-32), 3) := by decide +kernel
theorem dX10_lean_93 : decode cX10_lean 93 = .ok (.lload 6, 2) := by decide +kernel
theorem dX10_lean_95 : decode cX10_lean 95 = .ok (.iload_n 2, 1) := by decide +kernel
theorem dX10_lean_96 : decode cX10_lean 96 = .ok (.iload 4, 2) := by decide +kernel
theorem dX10_lean_98 : decode cX10_lean 98 = .ok (.iadd, 1) := by decide +kernel
theorem dX10_lean_99 : decode cX10_lean 99 = .ok (.iload_n 1, 1) := by decide +kernel
theorem dX10_lean_100 : decode cX10_lean 100 = .ok (.iload_n 3, 1) := by decide +kernel
theorem dX10_lean_101 : decode cX10_lean 101 = .ok (.iadd, 1) := by decide +kernel
theorem dX10_lean_102 : decode cX10_lean 102 = .ok (.invokestatic 158, 3) := by decide +kernel
theorem dX10_lean_105 : decode cX10_lean 105 = .ok (.iload 5, 2) := by decide +kernel
theorem dX10_lean_107 : decode cX10_lean 107 = .ok (.invokestatic 137, 3) := by decide +kernel
theorem dX10_lean_110 : decode cX10_lean 110 = .ok (.lreturn, 1) := by decide +kernel
theorem dX10_told_0 : decode cX10_told 0 = .ok (.iconst 0, 1) := by decide +kernel
theorem dX10_told_1 : decode cX10_told 1 = .ok (.istore_n 2, 1) := by decide +kernel
theorem dX10_told_2 : decode cX10_told 2 = .ok (.iconst 0, 1) := by decide +kernel
theorem dX10_told_3 : decode cX10_told 3 = .ok (.istore_n 3, 1) := by decide +kernel
theorem dX10_told_4 : decode cX10_told 4 = .ok (.iload_n 3, 1) := by decide +kernel
theorem dX10_told_5 : decode cX10_told 5 = .ok (.iconst 5, 1) := by decide +kernel
theorem dX10_told_6 : decode cX10_told 6 = .ok (.if_icmp .ge 28, 3) := by decide +kernel
theorem dX10_told_9 : decode cX10_told 9 = .ok (.iload_n 2, 1) := by decide +kernel
theorem dX10_told_10 : decode cX10_told 10 = .ok (.aload_n 0, 1) := by decide +kernel
theorem dX10_told_11 : decode cX10_told 11 = .ok (.getfield 26, 3) := by decide +kernel
theorem dX10_told_14 : decode cX10_told 14 = .ok (.iload_n 3, 1) := by decide +kernel
theorem dX10_told_15 : decode cX10_told 15 = .ok (.iaload, 1) := by decide +kernel
theorem dX10_told_16 : decode cX10_told 16 = .ok (.ifCond .le 9, 3) := by decide +kernel
theorem dX10_told_19 : decode cX10_told 19 = .ok (.iconst 1, 1) := by decide +kernel
theorem dX10_told_20 : decode cX10_told 20 = .ok (.iload_n 3, 1) := by decide +kernel
theorem dX10_told_21 : decode cX10_told 21 = .ok (.ishl, 1) := by decide +kernel
theorem dX10_told_22 : decode cX10_told 22 = .ok (.goto 4, 3) := by decide +kernel
theorem dX10_told_25 : decode cX10_told 25 = .ok (.iconst 0, 1) := by decide +kernel
theorem dX10_told_26 : decode cX10_told 26 = .ok (.ior, 1) := by decide +kernel
theorem dX10_told_27 : decode cX10_told 27 = .ok (.istore_n 2, 1) := by decide +kernel
theorem dX10_told_28 : decode cX10_told 28 = .ok (.iinc 3 1, 3) := by decide +kernel
theorem dX10_told_31 : decode cX10_told 31 = .ok (.goto (-27), 3) := by decide +kernel
theorem dX10_told_34 : decode cX10_told 34 = .ok (.iload_n 1, 1) := by decide +kernel
theorem dX10_told_35 : decode cX10_told 35 = .ok (.ifCond .ne 10, 3) := by decide +kernel
theorem dX10_told_38 : decode cX10_told 38 = .ok (.aload_n 0, 1) := by decide +kernel
theorem dX10_told_39 : decode cX10_told 39 = .ok (.getfield 39, 3) := by decide +kernel
theorem dX10_told_42 : decode cX10_told 42 = .ok (.goto 38, 3) := by decide +kernel
theorem dX10_told_45 : decode cX10_told 45 = .ok (.iload_n 1, 1) := by decide +kernel
theorem dX10_told_46 : decode cX10_told 46 = .ok (.iconst 1, 1) := by decide +kernel
theorem dX10_told_47 : decode cX10_told 47 = .ok (.if_icmp .ne 10, 3) := by decide +kernel
theorem dX10_told_50 : decode cX10_told 50 = .ok (.aload_n 0, 1) := by decide +kernel
theorem dX10_told_51 : decode cX10_told 51 = .ok (.getfield 43, 3) := by decide +kernel
theorem dX10_told_54 : decode cX10_told 54 = .ok (.goto 26, 3) := by decide +kernel
theorem dX10_told_57 : decode cX10_told 57 = .ok (.iload_n 1, 1) := by decide +kernel
theorem dX10_told_58 : decode cX10_told 58 = .ok (.iconst 2, 1) := by decide +kernel
theorem dX10_told_59 : decode cX10_told 59 = .ok (.if_icmp .ne 10, 3) := by decide +kernel
theorem dX10_told_62 : decode cX10_told 62 = .ok (.aload_n 0, 1) := by decide +kernel
theorem dX10_told_63 : decode cX10_told 63 = .ok (.getfield 80, 3) := by decide +kernel
theorem dX10_told_66 : decode cX10_told 66 = .ok (.goto 14, 3) := by decide +kernel
theorem dX10_told_69 : decode cX10_told 69 = .ok (.iload_n 1, 1) := by decide +kernel
theorem dX10_told_70 : decode cX10_told 70 = .ok (.iconst 3, 1) := by decide +kernel
theorem dX10_told_71 : decode cX10_told 71 = .ok (.if_icmp .ne 7, 3) := by decide +kernel
theorem dX10_told_74 : decode cX10_told 74 = .ok (.iload_n 2, 1) := by decide +kernel
theorem dX10_told_75 : decode cX10_told 75 = .ok (.goto 5, 3) := by decide +kernel
theorem dX10_told_78 : decode cX10_told 78 = .ok (.bipush (-2), 2) := by decide +kernel
theorem dX10_told_80 : decode cX10_told 80 = .ok (.ireturn, 1) := by decide +kernel
end
section
theorem dL_law_0 : decode cL_law 0 = .ok (.new 7, 3) := by decide +kernel
theorem dL_law_3 : decode cL_law 3 = .ok (.dup, 1) := by decide +kernel
theorem dL_law_4 : decode cL_law 4 = .ok (.invokespecial 9, 3) := by decide +kernel
theorem dL_law_7 : decode cL_law 7 = .ok (.astore_n 1, 1) := by decide +kernel
theorem dL_law_8 : decode cL_law 8 = .ok (.new 10, 3) := by decide +kernel
theorem dL_law_11 : decode cL_law 11 = .ok (.dup, 1) := by decide +kernel
theorem dL_law_12 : decode cL_law 12 = .ok (.invokespecial 12, 3) := by decide +kernel
theorem dL_law_15 : decode cL_law 15 = .ok (.astore_n 2, 1) := by decide +kernel
theorem dL_law_16 : decode cL_law 16 = .ok (.iconst 0, 1) := by decide +kernel
theorem dL_law_17 : decode cL_law 17 = .ok (.istore_n 3, 1) := by decide +kernel
theorem dL_law_18 : decode cL_law 18 = .ok (.iload_n 3, 1) := by decide +kernel
theorem dL_law_19 : decode cL_law 19 = .ok (.aload_n 0, 1) := by decide +kernel
theorem dL_law_20 : decode cL_law 20 = .ok (.arraylength, 1) := by decide +kernel
theorem dL_law_21 : decode cL_law 21 = .ok (.bipush 9, 2) := by decide +kernel
theorem dL_law_23 : decode cL_law 23 = .ok (.isub, 1) := by decide +kernel
theorem dL_law_24 : decode cL_law 24 = .ok (.if_icmp .gt 1298, 3) := by decide +kernel
theorem dL_law_27 : decode cL_law 27 = .ok (.aload_n 0, 1) := by decide +kernel
theorem dL_law_28 : decode cL_law 28 = .ok (.iload_n 3, 1) := by decide +kernel
theorem dL_law_29 : decode cL_law 29 = .ok (.iaload, 1) := by decide +kernel
theorem dL_law_30 : decode cL_law 30 = .ok (.bipush 31, 2) := by decide +kernel
theorem dL_law_32 : decode cL_law 32 = .ok (.iand, 1) := by decide +kernel
theorem dL_law_33 : decode cL_law 33 = .ok (.tableswitch 1283 0 27 #[127, 226, 259, 302, 335, 398, 457, 490, 523, 566, 609, 632, 645, 658, 681, 724, 767, 800, 843, 876, 910, 969, 1033, 1066, 1129, 1163, 1196, 1260], 127) := by decide +kernel
theorem dL_law_160 : decode cL_law 160 = .ok (.aload_n 1, 1) := by decide +kernel
theorem dL_law_161 : decode cL_law 161 = .ok (.aload_n 0, 1) := by decide +kernel
theorem dL_law_162 : decode cL_law 162 = .ok (.iload_n 3, 1) := by decide +kernel
theorem dL_law_163 : decode cL_law 163 = .ok (.iconst 1, 1) := by decide +kernel
theorem dL_law_164 : decode cL_law 164 = .ok (.iadd, 1) := by decide +kernel
theorem dL_law_165 : decode cL_law 165 = .ok (.iaload, 1) := by decide +kernel
theorem dL_law_166 : decode cL_law 166 = .ok (.aload_n 0, 1) := by decide +kernel
theorem dL_law_167 : decode cL_law 167 = .ok (.iload_n 3, 1) := by decide +kernel
theorem dL_law_168 : decode cL_law 168 = .ok (.iconst 2, 1) := by decide +kernel
theorem dL_law_169 : decode cL_law 169 = .ok (.iadd, 1) := by decide +kernel
theorem dL_law_170 : decode cL_law 170 = .ok (.iaload, 1) := by decide +kernel
theorem dL_law_171 : decode cL_law 171 = .ok (.aload_n 0, 1) := by decide +kernel
theorem dL_law_172 : decode cL_law 172 = .ok (.iload_n 3, 1) := by decide +kernel
theorem dL_law_173 : decode cL_law 173 = .ok (.iconst 3, 1) := by decide +kernel
theorem dL_law_174 : decode cL_law 174 = .ok (.iadd, 1) := by decide +kernel
theorem dL_law_175 : decode cL_law 175 = .ok (.iaload, 1) := by decide +kernel
theorem dL_law_176 : decode cL_law 176 = .ok (.aload_n 0, 1) := by decide +kernel
theorem dL_law_177 : decode cL_law 177 = .ok (.iload_n 3, 1) := by decide +kernel
theorem dL_law_178 : decode cL_law 178 = .ok (.iconst 4, 1) := by decide +kernel
theorem dL_law_179 : decode cL_law 179 = .ok (.iadd, 1) := by decide +kernel
theorem dL_law_180 : decode cL_law 180 = .ok (.iaload, 1) := by decide +kernel
theorem dL_law_181 : decode cL_law 181 = .ok (.aload_n 0, 1) := by decide +kernel
theorem dL_law_182 : decode cL_law 182 = .ok (.iload_n 3, 1) := by decide +kernel
theorem dL_law_183 : decode cL_law 183 = .ok (.iconst 5, 1) := by decide +kernel
theorem dL_law_184 : decode cL_law 184 = .ok (.iadd, 1) := by decide +kernel
theorem dL_law_185 : decode cL_law 185 = .ok (.iaload, 1) := by decide +kernel
theorem dL_law_186 : decode cL_law 186 = .ok (.aload_n 0, 1) := by decide +kernel
theorem dL_law_187 : decode cL_law 187 = .ok (.iload_n 3, 1) := by decide +kernel
theorem dL_law_188 : decode cL_law 188 = .ok (.bipush 6, 2) := by decide +kernel
theorem dL_law_190 : decode cL_law 190 = .ok (.iadd, 1) := by decide +kernel
theorem dL_law_191 : decode cL_law 191 = .ok (.iaload, 1) := by decide +kernel
theorem dL_law_192 : decode cL_law 192 = .ok (.aload_n 0, 1) := by decide +kernel
theorem dL_law_193 : decode cL_law 193 = .ok (.iload_n 3, 1) := by decide +kernel
theorem dL_law_194 : decode cL_law 194 = .ok (.bipush 7, 2) := by decide +kernel
theorem dL_law_196 : decode cL_law 196 = .ok (.iadd, 1) := by decide +kernel
theorem dL_law_197 : decode cL_law 197 = .ok (.iaload, 1) := by decide +kernel
theorem dL_law_198 : decode cL_law 198 = .ok (.aload_n 0, 1) := by decide +kernel
theorem dL_law_199 : decode cL_law 199 = .ok (.iload_n 3, 1) := by decide +kernel
theorem dL_law_200 : decode cL_law 200 = .ok (.bipush 8, 2) := by decide +kernel
theorem dL_law_202 : decode cL_law 202 = .ok (.iadd, 1) := by decide +kernel
theorem dL_law_203 : decode cL_law 203 = .ok (.iaload, 1) := by decide +kernel
theorem dL_law_204 : decode cL_law 204 = .ok (.invokevirtual 13, 3) := by decide +kernel
theorem dL_law_207 : decode cL_law 207 = .ok (.aload_n 2, 1) := by decide +kernel
theorem dL_law_208 : decode cL_law 208 = .ok (.aload_n 0, 1) := by decide +kernel
theorem dL_law_209 : decode cL_law 209 = .ok (.iload_n 3, 1) := by decide +kernel
theorem dL_law_210 : decode cL_law 210 = .ok (.iconst 1, 1) := by decide +kernel
theorem dL_law_211 : decode cL_law 211 = .ok (.iadd, 1) := by decide +kernel
theorem dL_law_212 : decode cL_law 212 = .ok (.iaload, 1) := by decide +kernel
theorem dL_law_213 : decode cL_law 213 = .ok (.aload_n 0, 1) := by decide +kernel
theorem dL_law_214 : decode cL_law 214 = .ok (.iload_n 3, 1) := by decide +kernel
theorem dL_law_215 : decode cL_law 215 = .ok (.iconst 2, 1) := by decide +kernel
theorem dL_law_216 : decode cL_law 216 = .ok (.iadd, 1) := by decide +kernel
theorem dL_law_217 : decode cL_law 217 = .ok (.iaload, 1) := by decide +kernel
theorem dL_law_218 : decode cL_law 218 = .ok (.aload_n 0, 1) := by decide +kernel
theorem dL_law_219 : decode cL_law 219 = .ok (.iload_n 3, 1) := by decide +kernel
theorem dL_law_220 : decode cL_law 220 = .ok (.iconst 3, 1) := by decide +kernel
theorem dL_law_221 : decode cL_law 221 = .ok (.iadd, 1) := by decide +kernel
theorem dL_law_222 : decode cL_law 222 = .ok (.iaload, 1) := by decide +kernel
theorem dL_law_223 : decode cL_law 223 = .ok (.aload_n 0, 1) := by decide +kernel
theorem dL_law_224 : decode cL_law 224 = .ok (.iload_n 3, 1) := by decide +kernel
theorem dL_law_225 : decode cL_law 225 = .ok (.iconst 4, 1) := by decide +kernel
theorem dL_law_226 : decode cL_law 226 = .ok (.iadd, 1) := by decide +kernel
theorem dL_law_227 : decode cL_law 227 = .ok (.iaload, 1) := by decide +kernel
theorem dL_law_228 : decode cL_law 228 = .ok (.aload_n 0, 1) := by decide +kernel
theorem dL_law_229 : decode cL_law 229 = .ok (.iload_n 3, 1) := by decide +kernel
theorem dL_law_230 : decode cL_law 230 = .ok (.iconst 5, 1) := by decide +kernel
theorem dL_law_231 : decode cL_law 231 = .ok (.iadd, 1) := by decide +kernel
theorem dL_law_232 : decode cL_law 232 = .ok (.iaload, 1) := by decide +kernel
theorem dL_law_233 : decode cL_law 233 = .ok (.aload_n 0, 1) := by decide +kernel
theorem dL_law_234 : decode cL_law 234 = .ok (.iload_n 3, 1) := by decide +kernel
theorem dL_law_235 : decode cL_law 235 = .ok (.bipush 6, 2) := by decide +kernel
theorem dL_law_237 : decode cL_law 237 = .ok (.iadd, 1) := by decide +kernel
theorem dL_law_238 : decode cL_law 238 = .ok (.iaload, 1) := by decide +kernel
theorem dL_law_239 : decode cL_law 239 = .ok (.aload_n 0, 1) := by decide +kernel
theorem dL_law_240 : decode cL_law 240 = .ok (.iload_n 3, 1) := by decide +kernel
theorem dL_law_241 : decode cL_law 241 = .ok (.bipush 7, 2) := by decide +kernel
theorem dL_law_243 : decode cL_law 243 = .ok (.iadd, 1) := by decide +kernel
theorem dL_law_244 : decode cL_law 244 = .ok (.iaload, 1) := by decide +kernel
theorem dL_law_245 : decode cL_law 245 = .ok (.aload_n 0, 1) := by decide +kernel
theorem dL_law_246 : decode cL_law 246 = .ok (.iload_n 3, 1) := by decide +kernel
theorem dL_law_247 : decode cL_law 247 = .ok (.bipush 8, 2) := by decide +kernel
theorem dL_law_249 : decode cL_law 249 = .ok (.iadd, 1) := by decide +kernel
theorem dL_law_250 : decode cL_law 250 = .ok (.iaload, 1) := by decide +kernel
theorem dL_law_251 : decode cL_law 251 = .ok (.invokevirtual 17, 3) := by decide +kernel
theorem dL_law_254 : decode cL_law 254 = .ok (.if_icmp .eq 1062, 3) := by decide +kernel
theorem dL_law_257 : decode cL_law 257 = .ok (.iconst 0, 1) := by decide +kernel
theorem dL_law_258 : decode cL_law 258 = .ok (.ireturn, 1) := by decide +kernel
theorem dL_law_259 : decode cL_law 259 = .ok (.aload_n 1, 1) := by decide +kernel
theorem dL_law_260 : decode cL_law 260 = .ok (.aload_n 0, 1) := by decide +kernel
theorem dL_law_261 : decode cL_law 261 = .ok (.iload_n 3, 1) := by decide +kernel
theorem dL_law_262 : decode cL_law 262 = .ok (.iconst 1, 1) := by decide +kernel
theorem dL_law_263 : decode cL_law 263 = .ok (.iadd, 1) := by decide +kernel
theorem dL_law_264 : decode cL_law 264 = .ok (.iaload, 1) := by decide +kernel
theorem dL_law_265 : decode cL_law 265 = .ok (.aload_n 0, 1) := by decide +kernel
theorem dL_law_266 : decode cL_law 266 = .ok (.iload_n 3, 1) := by decide +kernel
theorem dL_law_267 : decode cL_law 267 = .ok (.iconst 2, 1) := by decide +kernel
theorem dL_law_268 : decode cL_law 268 = .ok (.iadd, 1) := by decide +kernel
theorem dL_law_269 : decode cL_law 269 = .ok (.iaload, 1) := by decide +kernel
theorem dL_law_270 : decode cL_law 270 = .ok (.invokevirtual 18, 3) := by decide +kernel
theorem dL_law_273 : decode cL_law 273 = .ok (.aload_n 2, 1) := by decide +kernel
theorem dL_law_274 : decode cL_law 274 = .ok (.aload_n 0, 1) := by decide +kernel
theorem dL_law_275 : decode cL_law 275 = .ok (.iload_n 3, 1) := by decide +kernel
theorem dL_law_276 : decode cL_law 276 = .ok (.iconst 1, 1) := by decide +kernel
theorem dL_law_277 : decode cL_law 277 = .ok (.iadd, 1) := by decide +kernel
theorem dL_law_278 : decode cL_law 278 = .ok (.iaload, 1) := by decide +kernel
theorem dL_law_279 : decode cL_law 279 = .ok (.aload_n 0, 1) := by decide +kernel
theorem dL_law_280 : decode cL_law 280 = .ok (.iload_n 3, 1) := by decide +kernel
theorem dL_law_281 : decode cL_law 281 = .ok (.iconst 2, 1) := by decide +kernel
theorem dL_law_282 : decode cL_law 282 = .ok (.iadd, 1) := by decide +kernel
theorem dL_law_283 : decode cL_law 283 = .ok (.iaload, 1) := by decide +kernel
theorem dL_law_284 : decode cL_law 284 = .ok (.invokevirtual 22, 3) := by decide +kernel
theorem dL_law_287 : decode cL_law 287 = .ok (.if_icmp .eq 1029, 3) := by decide +kernel
theorem dL_law_290 : decode cL_law 290 = .ok (.iconst 0, 1) := by decide +kernel
theorem dL_law_291 : decode cL_law 291 = .ok (.ireturn, 1) := by decide +kernel
theorem dL_law_292 : decode cL_law 292 = .ok (.aload_n 1, 1) := by decide +kernel
theorem dL_law_293 : decode cL_law 293 = .ok (.aload_n 0, 1) := by decide +kernel
theorem dL_law_294 : decode cL_law 294 = .ok (.iload_n 3, 1) := by decide +kernel
theorem dL_law_295 : decode cL_law 295 = .ok (.iconst 1, 1) := by decide +kernel
theorem dL_law_296 : decode cL_law 296 = .ok (.iadd, 1) := by decide +kernel
theorem dL_law_297 : decode cL_law 297 = .ok (.iaload, 1) := by decide +kernel
theorem dL_law_298 : decode cL_law 298 = .ok (.aload_n 0, 1) := by decide +kernel
theorem dL_law_299 : decode cL_law 299 = .ok (.iload_n 3, 1) := by decide +kernel
theorem dL_law_300 : decode cL_law 300 = .ok (.iconst 2, 1) := by decide +kernel
theorem dL_law_301 : decode cL_law 301 = .ok (.iadd, 1) := by decide +kernel
theorem dL_law_302 : decode cL_law 302 = .ok (.iaload, 1) := by decide +kernel
theorem dL_law_303 : decode cL_law 303 = .ok (.aload_n 0, 1) := by decide +kernel
theorem dL_law_304 : decode cL_law 304 = .ok (.iload_n 3, 1) := by decide +kernel
theorem dL_law_305 : decode cL_law 305 = .ok (.iconst 3, 1) := by decide +kernel
theorem dL_law_306 : decode cL_law 306 = .ok (.iadd, 1) := by decide +kernel
theorem dL_law_307 : decode cL_law 307 = .ok (.iaload, 1) := by decide +kernel
theorem dL_law_308 : decode cL_law 308 = .ok (.invokevirtual 23, 3) := by decide +kernel
theorem dL_law_311 : decode cL_law 311 = .ok (.aload_n 2, 1) := by decide +kernel
theorem dL_law_312 : decode cL_law 312 = .ok (.aload_n 0, 1) := by decide +kernel
theorem dL_law_313 : decode cL_law 313 = .ok (.iload_n 3, 1) := by decide +kernel
theorem dL_law_314 : decode cL_law 314 = .ok (.iconst 1, 1) := by decide +kernel
theorem dL_law_315 : decode cL_law 315 = .ok (.iadd, 1) := by decide +kernel
theorem dL_law_316 : decode cL_law 316 = .ok (.iaload, 1) := by decide +kernel
theorem dL_law_317 : decode cL_law 317 = .ok (.aload_n 0, 1) := by decide +kernel
theorem dL_law_318 : decode cL_law 318 = .ok (.iload_n 3, 1) := by decide +kernel
theorem dL_law_319 : decode cL_law 319 = .ok (.iconst 2, 1) := by decide +kernel
theorem dL_law_320 : decode cL_law 320 = .ok (.iadd, 1) := by decide +kernel
theorem dL_law_321 : decode cL_law 321 = .ok (.iaload, 1) := by decide +kernel
theorem dL_law_322 : decode cL_law 322 = .ok (.aload_n 0, 1) := by decide +kernel
theorem dL_law_323 : decode cL_law 323 = .ok (.iload_n 3, 1) := by decide +kernel
theorem dL_law_324 : decode cL_law 324 = .ok (.iconst 3, 1) := by decide +kernel
theorem dL_law_325 : decode cL_law 325 = .ok (.iadd, 1) := by decide +kernel
theorem dL_law_326 : decode cL_law 326 = .ok (.iaload, 1) := by decide +kernel
theorem dL_law_327 : decode cL_law 327 = .ok (.invokevirtual 27, 3) := by decide +kernel
theorem dL_law_330 : decode cL_law 330 = .ok (.if_icmp .eq 986, 3) := by decide +kernel
theorem dL_law_333 : decode cL_law 333 = .ok (.iconst 0, 1) := by decide +kernel
theorem dL_law_334 : decode cL_law 334 = .ok (.ireturn, 1) := by decide +kernel
theorem dL_law_335 : decode cL_law 335 = .ok (.aload_n 1, 1) := by decide +kernel
theorem dL_law_336 : decode cL_law 336 = .ok (.aload_n 0, 1) := by decide +kernel
theorem dL_law_337 : decode cL_law 337 = .ok (.iload_n 3, 1) := by decide +kernel
theorem dL_law_338 : decode cL_law 338 = .ok (.iconst 1, 1) := by decide +kernel
theorem dL_law_339 : decode cL_law 339 = .ok (.iadd, 1) := by decide +kernel
theorem dL_law_340 : decode cL_law 340 = .ok (.iaload, 1) := by decide +kernel
theorem dL_law_341 : decode cL_law 341 = .ok (.aload_n 0, 1) := by decide +kernel
theorem dL_law_342 : decode cL_law 342 = .ok (.iload_n 3, 1) := by decide +kernel
theorem dL_law_343 : decode cL_law 343 = .ok (.iconst 2, 1) := by decide +kernel
theorem dL_law_344 : decode cL_law 344 = .ok (.iadd, 1) := by decide +kernel
theorem dL_law_345 : decode cL_law 345 = .ok (.iaload, 1) := by decide +kernel
theorem dL_law_346 : decode cL_law 346 = .ok (.invokevirtual 28, 3) := by decide +kernel
theorem dL_law_349 : decode cL_law 349 = .ok (.aload_n 2, 1) := by decide +kernel
theorem dL_law_350 : decode cL_law 350 = .ok (.aload_n 0, 1) := by decide +kernel
theorem dL_law_351 : decode cL_law 351 = .ok (.iload_n 3, 1) := by decide +kernel
theorem dL_law_352 : decode cL_law 352 = .ok (.iconst 1, 1) := by decide +kernel
theorem dL_law_353 : decode cL_law 353 = .ok (.iadd, 1) := by decide +kernel
theorem dL_law_354 : decode cL_law 354 = .ok (.iaload, 1) := by decide +kernel
theorem dL_law_355 : decode cL_law 355 = .ok (.aload_n 0, 1) := by decide +kernel
theorem dL_law_356 : decode cL_law 356 = .ok (.iload_n 3, 1) := by decide +kernel
theorem dL_law_357 : decode cL_law 357 = .ok (.iconst 2, 1) := by decide +kernel
theorem dL_law_358 : decode cL_law 358 = .ok (.iadd, 1) := by decide +kernel
theorem dL_law_359 : decode cL_law 359 = .ok (.iaload, 1) := by decide +kernel
theorem dL_law_360 : decode cL_law 360 = .ok (.invokevirtual 31, 3) := by decide +kernel
theorem dL_law_363 : decode cL_law 363 = .ok (.if_icmp .eq 953, 3) := by decide +kernel
theorem dL_law_366 : decode cL_law 366 = .ok (.iconst 0, 1) := by decide +kernel
theorem dL_law_367 : decode cL_law 367 = .ok (.ireturn, 1) := by decide +kernel
theorem dL_law_368 : decode cL_law 368 = .ok (.aload_n 1, 1) := by decide +kernel
theorem dL_law_369 : decode cL_law 369 = .ok (.aload_n 0, 1) := by decide +kernel
theorem dL_law_370 : decode cL_law 370 = .ok (.iload_n 3, 1) := by decide +kernel
theorem dL_law_371 : decode cL_law 371 = .ok (.iconst 1, 1) := by decide +kernel
theorem dL_law_372 : decode cL_law 372 = .ok (.iadd, 1) := by decide +kernel
theorem dL_law_373 : decode cL_law 373 = .ok (.iaload, 1) := by decide +kernel
theorem dL_law_374 : decode cL_law 374 = .ok (.aload_n 0, 1) := by decide +kernel
theorem dL_law_375 : decode cL_law 375 = .ok (.iload_n 3, 1) := by decide +kernel
theorem dL_law_376 : decode cL_law 376 = .ok (.iconst 2, 1) := by decide +kernel
theorem dL_law_377 : decode cL_law 377 = .ok (.iadd, 1) := by decide +kernel
theorem dL_law_378 : decode cL_law 378 = .ok (.iaload, 1) := by decide +kernel
theorem dL_law_379 : decode cL_law 379 = .ok (.aload_n 0, 1) := by decide +kernel
theorem dL_law_380 : decode cL_law 380 = .ok (.iload_n 3, 1) := by decide +kernel
theorem dL_law_381 : decode cL_law 381 = .ok (.iconst 3, 1) := by decide +kernel
theorem dL_law_382 : decode cL_law 382 = .ok (.iadd, 1) := by decide +kernel
theorem dL_law_383 : decode cL_law 383 = .ok (.iaload, 1) := by decide +kernel
theorem dL_law_384 : decode cL_law 384 = .ok (.aload_n 0, 1) := by decide +kernel
theorem dL_law_385 : decode cL_law 385 = .ok (.iload_n 3, 1) := by decide +kernel
theorem dL_law_386 : decode cL_law 386 = .ok (.iconst 4, 1) := by decide +kernel
theorem dL_law_387 : decode cL_law 387 = .ok (.iadd, 1) := by decide +kernel
theorem dL_law_388 : decode cL_law 388 = .ok (.iaload, 1) := by decide +kernel
theorem dL_law_389 : decode cL_law 389 = .ok (.aload_n 0, 1) := by decide +kernel
theorem dL_law_390 : decode cL_law 390 = .ok (.iload_n 3, 1) := by decide +kernel
theorem dL_law_391 : decode cL_law 391 = .ok (.iconst 5, 1) := by decide +kernel
theorem dL_law_392 : decode cL_law 392 = .ok (.iadd, 1) := by decide +kernel
theorem dL_law_393 : decode cL_law 393 = .ok (.iaload, 1) := by decide +kernel
theorem dL_law_394 : decode cL_law 394 = .ok (.invokevirtual 32, 3) := by decide +kernel
theorem dL_law_397 : decode cL_law 397 = .ok (.aload_n 2, 1) := by decide +kernel
theorem dL_law_398 : decode cL_law 398 = .ok (.aload_n 0, 1) := by decide +kernel
theorem dL_law_399 : decode cL_law 399 = .ok (.iload_n 3, 1) := by decide +kernel
theorem dL_law_400 : decode cL_law 400 = .ok (.iconst 1, 1) := by decide +kernel
theorem dL_law_401 : decode cL_law 401 = .ok (.iadd, 1) := by decide +kernel
theorem dL_law_402 : decode cL_law 402 = .ok (.iaload, 1) := by decide +kernel
theorem dL_law_403 : decode cL_law 403 = .ok (.aload_n 0, 1) := by decide +kernel
theorem dL_law_404 : decode cL_law 404 = .ok (.iload_n 3, 1) := by decide +kernel
theorem dL_law_405 : decode cL_law 405 = .ok (.iconst 2, 1) := by decide +kernel
theorem dL_law_406 : decode cL_law 406 = .ok (.iadd, 1) := by decide +kernel
theorem dL_law_407 : decode cL_law 407 = .ok (.iaload, 1) := by decide +kernel
theorem dL_law_408 : decode cL_law 408 = .ok (.aload_n 0, 1) := by decide +kernel
theorem dL_law_409 : decode cL_law 409 = .ok (.iload_n 3, 1) := by decide +kernel
theorem dL_law_410 : decode cL_law 410 = .ok (.iconst 3, 1) := by decide +kernel
theorem dL_law_411 : decode cL_law 411 = .ok (.iadd, 1) := by decide +kernel
theorem dL_law_412 : decode cL_law 412 = .ok (.iaload, 1) := by decide +kernel
theorem dL_law_413 : decode cL_law 413 = .ok (.aload_n 0, 1) := by decide +kernel
theorem dL_law_414 : decode cL_law 414 = .ok (.iload_n 3, 1) := by decide +kernel
theorem dL_law_415 : decode cL_law 415 = .ok (.iconst 4, 1) := by decide +kernel
theorem dL_law_416 : decode cL_law 416 = .ok (.iadd, 1) := by decide +kernel
theorem dL_law_417 : decode cL_law 417 = .ok (.iaload, 1) := by decide +kernel
theorem dL_law_418 : decode cL_law 418 = .ok (.aload_n 0, 1) := by decide +kernel
theorem dL_law_419 : decode cL_law 419 = .ok (.iload_n 3, 1) := by decide +kernel
end
section
theorem dL_law_420 : decode cL_law 420 = .ok (.iconst 5, 1) := by decide +kernel
theorem dL_law_421 : decode cL_law 421 = .ok (.iadd, 1) := by decide +kernel
theorem dL_law_422 : decode cL_law 422 = .ok (.iaload, 1) := by decide +kernel
theorem dL_law_423 : decode cL_law 423 = .ok (.invokevirtual 36, 3) := by decide +kernel
theorem dL_law_426 : decode cL_law 426 = .ok (.if_icmp .eq 890, 3) := by decide +kernel
theorem dL_law_429 : decode cL_law 429 = .ok (.iconst 0, 1) := by decide +kernel
theorem dL_law_430 : decode cL_law 430 = .ok (.ireturn, 1) := by decide +kernel
theorem dL_law_431 : decode cL_law 431 = .ok (.aload_n 1, 1) := by decide +kernel
theorem dL_law_432 : decode cL_law 432 = .ok (.aload_n 0, 1) := by decide +kernel
theorem dL_law_433 : decode cL_law 433 = .ok (.iload_n 3, 1) := by decide +kernel
theorem dL_law_434 : decode cL_law 434 = .ok (.iconst 1, 1) := by decide +kernel
theorem dL_law_435 : decode cL_law 435 = .ok (.iadd, 1) := by decide +kernel
theorem dL_law_436 : decode cL_law 436 = .ok (.iaload, 1) := by decide +kernel
theorem dL_law_437 : decode cL_law 437 = .ok (.aload_n 0, 1) := by decide +kernel
theorem dL_law_438 : decode cL_law 438 = .ok (.iload_n 3, 1) := by decide +kernel
theorem dL_law_439 : decode cL_law 439 = .ok (.iconst 2, 1) := by decide +kernel
theorem dL_law_440 : decode cL_law 440 = .ok (.iadd, 1) := by decide +kernel
theorem dL_law_441 : decode cL_law 441 = .ok (.iaload, 1) := by decide +kernel
theorem dL_law_442 : decode cL_law 442 = .ok (.aload_n 0, 1) := by decide +kernel
theorem dL_law_443 : decode cL_law 443 = .ok (.iload_n 3, 1) := by decide +kernel
theorem dL_law_444 : decode cL_law 444 = .ok (.iconst 3, 1) := by decide +kernel
theorem dL_law_445 : decode cL_law 445 = .ok (.iadd, 1) := by decide +kernel
theorem dL_law_446 : decode cL_law 446 = .ok (.iaload, 1) := by decide +kernel
theorem dL_law_447 : decode cL_law 447 = .ok (.ifCond .eq 7, 3) := by decide +kernel
theorem dL_law_450 : decode cL_law 450 = .ok (.iconst 1, 1) := by decide +kernel
theorem dL_law_451 : decode cL_law 451 = .ok (.goto 4, 3) := by decide +kernel
theorem dL_law_454 : decode cL_law 454 = .ok (.iconst 0, 1) := by decide +kernel
theorem dL_law_455 : decode cL_law 455 = .ok (.invokevirtual 37, 3) := by decide +kernel
theorem dL_law_458 : decode cL_law 458 = .ok (.aload_n 2, 1) := by decide +kernel
theorem dL_law_459 : decode cL_law 459 = .ok (.aload_n 0, 1) := by decide +kernel
theorem dL_law_460 : decode cL_law 460 = .ok (.iload_n 3, 1) := by decide +kernel
theorem dL_law_461 : decode cL_law 461 = .ok (.iconst 1, 1) := by decide +kernel
theorem dL_law_462 : decode cL_law 462 = .ok (.iadd, 1) := by decide +kernel
theorem dL_law_463 : decode cL_law 463 = .ok (.iaload, 1) := by decide +kernel
theorem dL_law_464 : decode cL_law 464 = .ok (.aload_n 0, 1) := by decide +kernel
theorem dL_law_465 : decode cL_law 465 = .ok (.iload_n 3, 1) := by decide +kernel
theorem dL_law_466 : decode cL_law 466 = .ok (.iconst 2, 1) := by decide +kernel
theorem dL_law_467 : decode cL_law 467 = .ok (.iadd, 1) := by decide +kernel
theorem dL_law_468 : decode cL_law 468 = .ok (.iaload, 1) := by decide +kernel
theorem dL_law_469 : decode cL_law 469 = .ok (.aload_n 0, 1) := by decide +kernel
theorem dL_law_470 : decode cL_law 470 = .ok (.iload_n 3, 1) := by decide +kernel
theorem dL_law_471 : decode cL_law 471 = .ok (.iconst 3, 1) := by decide +kernel
theorem dL_law_472 : decode cL_law 472 = .ok (.iadd, 1) := by decide +kernel
theorem dL_law_473 : decode cL_law 473 = .ok (.iaload, 1) := by decide +kernel
theorem dL_law_474 : decode cL_law 474 = .ok (.ifCond .eq 7, 3) := by decide +kernel
theorem dL_law_477 : decode cL_law 477 = .ok (.iconst 1, 1) := by decide +kernel
theorem dL_law_478 : decode cL_law 478 = .ok (.goto 4, 3) := by decide +kernel
theorem dL_law_481 : decode cL_law 481 = .ok (.iconst 0, 1) := by decide +kernel
theorem dL_law_482 : decode cL_law 482 = .ok (.invokevirtual 41, 3) := by decide +kernel
theorem dL_law_485 : decode cL_law 485 = .ok (.if_icmp .eq 831, 3) := by decide +kernel
theorem dL_law_488 : decode cL_law 488 = .ok (.iconst 0, 1) := by decide +kernel
theorem dL_law_489 : decode cL_law 489 = .ok (.ireturn, 1) := by decide +kernel
theorem dL_law_490 : decode cL_law 490 = .ok (.aload_n 1, 1) := by decide +kernel
theorem dL_law_491 : decode cL_law 491 = .ok (.aload_n 0, 1) := by decide +kernel
theorem dL_law_492 : decode cL_law 492 = .ok (.iload_n 3, 1) := by decide +kernel
theorem dL_law_493 : decode cL_law 493 = .ok (.iconst 1, 1) := by decide +kernel
theorem dL_law_494 : decode cL_law 494 = .ok (.iadd, 1) := by decide +kernel
theorem dL_law_495 : decode cL_law 495 = .ok (.iaload, 1) := by decide +kernel
theorem dL_law_496 : decode cL_law 496 = .ok (.aload_n 0, 1) := by decide +kernel
theorem dL_law_497 : decode cL_law 497 = .ok (.iload_n 3, 1) := by decide +kernel
theorem dL_law_498 : decode cL_law 498 = .ok (.iconst 2, 1) := by decide +kernel
theorem dL_law_499 : decode cL_law 499 = .ok (.iadd, 1) := by decide +kernel
theorem dL_law_500 : decode cL_law 500 = .ok (.iaload, 1) := by decide +kernel
theorem dL_law_501 : decode cL_law 501 = .ok (.invokevirtual 42, 3) := by decide +kernel
theorem dL_law_504 : decode cL_law 504 = .ok (.aload_n 2, 1) := by decide +kernel
theorem dL_law_505 : decode cL_law 505 = .ok (.aload_n 0, 1) := by decide +kernel
theorem dL_law_506 : decode cL_law 506 = .ok (.iload_n 3, 1) := by decide +kernel
theorem dL_law_507 : decode cL_law 507 = .ok (.iconst 1, 1) := by decide +kernel
theorem dL_law_508 : decode cL_law 508 = .ok (.iadd, 1) := by decide +kernel
theorem dL_law_509 : decode cL_law 509 = .ok (.iaload, 1) := by decide +kernel
theorem dL_law_510 : decode cL_law 510 = .ok (.aload_n 0, 1) := by decide +kernel
theorem dL_law_511 : decode cL_law 511 = .ok (.iload_n 3, 1) := by decide +kernel
theorem dL_law_512 : decode cL_law 512 = .ok (.iconst 2, 1) := by decide +kernel
theorem dL_law_513 : decode cL_law 513 = .ok (.iadd, 1) := by decide +kernel
theorem dL_law_514 : decode cL_law 514 = .ok (.iaload, 1) := by decide +kernel
theorem dL_law_515 : decode cL_law 515 = .ok (.invokevirtual 45, 3) := by decide +kernel
theorem dL_law_518 : decode cL_law 518 = .ok (.if_icmp .eq 798, 3) := by decide +kernel
theorem dL_law_521 : decode cL_law 521 = .ok (.iconst 0, 1) := by decide +kernel
theorem dL_law_522 : decode cL_law 522 = .ok (.ireturn, 1) := by decide +kernel
theorem dL_law_523 : decode cL_law 523 = .ok (.aload_n 1, 1) := by decide +kernel
theorem dL_law_524 : decode cL_law 524 = .ok (.aload_n 0, 1) := by decide +kernel
theorem dL_law_525 : decode cL_law 525 = .ok (.iload_n 3, 1) := by decide +kernel
theorem dL_law_526 : decode cL_law 526 = .ok (.iconst 1, 1) := by decide +kernel
theorem dL_law_527 : decode cL_law 527 = .ok (.iadd, 1) := by decide +kernel
theorem dL_law_528 : decode cL_law 528 = .ok (.iaload, 1) := by decide +kernel
theorem dL_law_529 : decode cL_law 529 = .ok (.aload_n 0, 1) := by decide +kernel
theorem dL_law_530 : decode cL_law 530 = .ok (.iload_n 3, 1) := by decide +kernel
theorem dL_law_531 : decode cL_law 531 = .ok (.iconst 2, 1) := by decide +kernel
theorem dL_law_532 : decode cL_law 532 = .ok (.iadd, 1) := by decide +kernel
theorem dL_law_533 : decode cL_law 533 = .ok (.iaload, 1) := by decide +kernel
theorem dL_law_534 : decode cL_law 534 = .ok (.invokevirtual 46, 3) := by decide +kernel
theorem dL_law_537 : decode cL_law 537 = .ok (.aload_n 2, 1) := by decide +kernel
theorem dL_law_538 : decode cL_law 538 = .ok (.aload_n 0, 1) := by decide +kernel
theorem dL_law_539 : decode cL_law 539 = .ok (.iload_n 3, 1) := by decide +kernel
theorem dL_law_540 : decode cL_law 540 = .ok (.iconst 1, 1) := by decide +kernel
theorem dL_law_541 : decode cL_law 541 = .ok (.iadd, 1) := by decide +kernel
theorem dL_law_542 : decode cL_law 542 = .ok (.iaload, 1) := by decide +kernel
theorem dL_law_543 : decode cL_law 543 = .ok (.aload_n 0, 1) := by decide +kernel
theorem dL_law_544 : decode cL_law 544 = .ok (.iload_n 3, 1) := by decide +kernel
theorem dL_law_545 : decode cL_law 545 = .ok (.iconst 2, 1) := by decide +kernel
theorem dL_law_546 : decode cL_law 546 = .ok (.iadd, 1) := by decide +kernel
theorem dL_law_547 : decode cL_law 547 = .ok (.iaload, 1) := by decide +kernel
theorem dL_law_548 : decode cL_law 548 = .ok (.invokevirtual 49, 3) := by decide +kernel
theorem dL_law_551 : decode cL_law 551 = .ok (.if_icmp .eq 765, 3) := by decide +kernel
theorem dL_law_554 : decode cL_law 554 = .ok (.iconst 0, 1) := by decide +kernel
theorem dL_law_555 : decode cL_law 555 = .ok (.ireturn, 1) := by decide +kernel
theorem dL_law_556 : decode cL_law 556 = .ok (.aload_n 1, 1) := by decide +kernel
theorem dL_law_557 : decode cL_law 557 = .ok (.aload_n 0, 1) := by decide +kernel
theorem dL_law_558 : decode cL_law 558 = .ok (.iload_n 3, 1) := by decide +kernel
theorem dL_law_559 : decode cL_law 559 = .ok (.iconst 1, 1) := by decide +kernel
theorem dL_law_560 : decode cL_law 560 = .ok (.iadd, 1) := by decide +kernel
theorem dL_law_561 : decode cL_law 561 = .ok (.iaload, 1) := by decide +kernel
theorem dL_law_562 : decode cL_law 562 = .ok (.aload_n 0, 1) := by decide +kernel
theorem dL_law_563 : decode cL_law 563 = .ok (.iload_n 3, 1) := by decide +kernel
theorem dL_law_564 : decode cL_law 564 = .ok (.iconst 2, 1) := by decide +kernel
theorem dL_law_565 : decode cL_law 565 = .ok (.iadd, 1) := by decide +kernel
theorem dL_law_566 : decode cL_law 566 = .ok (.iaload, 1) := by decide +kernel
theorem dL_law_567 : decode cL_law 567 = .ok (.aload_n 0, 1) := by decide +kernel
theorem dL_law_568 : decode cL_law 568 = .ok (.iload_n 3, 1) := by decide +kernel
theorem dL_law_569 : decode cL_law 569 = .ok (.iconst 3, 1) := by decide +kernel
theorem dL_law_570 : decode cL_law 570 = .ok (.iadd, 1) := by decide +kernel
theorem dL_law_571 : decode cL_law 571 = .ok (.iaload, 1) := by decide +kernel
theorem dL_law_572 : decode cL_law 572 = .ok (.invokevirtual 50, 3) := by decide +kernel
theorem dL_law_575 : decode cL_law 575 = .ok (.aload_n 2, 1) := by decide +kernel
theorem dL_law_576 : decode cL_law 576 = .ok (.aload_n 0, 1) := by decide +kernel
theorem dL_law_577 : decode cL_law 577 = .ok (.iload_n 3, 1) := by decide +kernel
theorem dL_law_578 : decode cL_law 578 = .ok (.iconst 1, 1) := by decide +kernel
theorem dL_law_579 : decode cL_law 579 = .ok (.iadd, 1) := by decide +kernel
theorem dL_law_580 : decode cL_law 580 = .ok (.iaload, 1) := by decide +kernel
theorem dL_law_581 : decode cL_law 581 = .ok (.aload_n 0, 1) := by decide +kernel
theorem dL_law_582 : decode cL_law 582 = .ok (.iload_n 3, 1) := by decide +kernel
theorem dL_law_583 : decode cL_law 583 = .ok (.iconst 2, 1) := by decide +kernel
theorem dL_law_584 : decode cL_law 584 = .ok (.iadd, 1) := by decide +kernel
theorem dL_law_585 : decode cL_law 585 = .ok (.iaload, 1) := by decide +kernel
theorem dL_law_586 : decode cL_law 586 = .ok (.aload_n 0, 1) := by decide +kernel
theorem dL_law_587 : decode cL_law 587 = .ok (.iload_n 3, 1) := by decide +kernel
theorem dL_law_588 : decode cL_law 588 = .ok (.iconst 3, 1) := by decide +kernel
theorem dL_law_589 : decode cL_law 589 = .ok (.iadd, 1) := by decide +kernel
theorem dL_law_590 : decode cL_law 590 = .ok (.iaload, 1) := by decide +kernel
theorem dL_law_591 : decode cL_law 591 = .ok (.invokevirtual 53, 3) := by decide +kernel
theorem dL_law_594 : decode cL_law 594 = .ok (.if_icmp .eq 722, 3) := by decide +kernel
theorem dL_law_597 : decode cL_law 597 = .ok (.iconst 0, 1) := by decide +kernel
theorem dL_law_598 : decode cL_law 598 = .ok (.ireturn, 1) := by decide +kernel
theorem dL_law_599 : decode cL_law 599 = .ok (.aload_n 1, 1) := by decide +kernel
theorem dL_law_600 : decode cL_law 600 = .ok (.aload_n 0, 1) := by decide +kernel
theorem dL_law_601 : decode cL_law 601 = .ok (.iload_n 3, 1) := by decide +kernel
theorem dL_law_602 : decode cL_law 602 = .ok (.iconst 1, 1) := by decide +kernel
theorem dL_law_603 : decode cL_law 603 = .ok (.iadd, 1) := by decide +kernel
theorem dL_law_604 : decode cL_law 604 = .ok (.iaload, 1) := by decide +kernel
theorem dL_law_605 : decode cL_law 605 = .ok (.aload_n 0, 1) := by decide +kernel
theorem dL_law_606 : decode cL_law 606 = .ok (.iload_n 3, 1) := by decide +kernel
theorem dL_law_607 : decode cL_law 607 = .ok (.iconst 2, 1) := by decide +kernel
theorem dL_law_608 : decode cL_law 608 = .ok (.iadd, 1) := by decide +kernel
theorem dL_law_609 : decode cL_law 609 = .ok (.iaload, 1) := by decide +kernel
theorem dL_law_610 : decode cL_law 610 = .ok (.aload_n 0, 1) := by decide +kernel
theorem dL_law_611 : decode cL_law 611 = .ok (.iload_n 3, 1) := by decide +kernel
theorem dL_law_612 : decode cL_law 612 = .ok (.iconst 3, 1) := by decide +kernel
theorem dL_law_613 : decode cL_law 613 = .ok (.iadd, 1) := by decide +kernel
theorem dL_law_614 : decode cL_law 614 = .ok (.iaload, 1) := by decide +kernel
theorem dL_law_615 : decode cL_law 615 = .ok (.invokevirtual 54, 3) := by decide +kernel
theorem dL_law_618 : decode cL_law 618 = .ok (.aload_n 2, 1) := by decide +kernel
theorem dL_law_619 : decode cL_law 619 = .ok (.aload_n 0, 1) := by decide +kernel
theorem dL_law_620 : decode cL_law 620 = .ok (.iload_n 3, 1) := by decide +kernel
theorem dL_law_621 : decode cL_law 621 = .ok (.iconst 1, 1) := by decide +kernel
theorem dL_law_622 : decode cL_law 622 = .ok (.iadd, 1) := by decide +kernel
theorem dL_law_623 : decode cL_law 623 = .ok (.iaload, 1) := by decide +kernel
theorem dL_law_624 : decode cL_law 624 = .ok (.aload_n 0, 1) := by decide +kernel
theorem dL_law_625 : decode cL_law 625 = .ok (.iload_n 3, 1) := by decide +kernel
theorem dL_law_626 : decode cL_law 626 = .ok (.iconst 2, 1) := by decide +kernel
theorem dL_law_627 : decode cL_law 627 = .ok (.iadd, 1) := by decide +kernel
theorem dL_law_628 : decode cL_law 628 = .ok (.iaload, 1) := by decide +kernel
theorem dL_law_629 : decode cL_law 629 = .ok (.aload_n 0, 1) := by decide +kernel
theorem dL_law_630 : decode cL_law 630 = .ok (.iload_n 3, 1) := by decide +kernel
theorem dL_law_631 : decode cL_law 631 = .ok (.iconst 3, 1) := by decide +kernel
theorem dL_law_632 : decode cL_law 632 = .ok (.iadd, 1) := by decide +kernel
theorem dL_law_633 : decode cL_law 633 = .ok (.iaload, 1) := by decide +kernel
theorem dL_law_634 : decode cL_law 634 = .ok (.invokevirtual 57, 3) := by decide +kernel
theorem dL_law_637 : decode cL_law 637 = .ok (.if_icmp .eq 679, 3) := by decide +kernel
theorem dL_law_640 : decode cL_law 640 = .ok (.iconst 0, 1) := by decide +kernel
theorem dL_law_641 : decode cL_law 641 = .ok (.ireturn, 1) := by decide +kernel
theorem dL_law_642 : decode cL_law 642 = .ok (.aload_n 1, 1) := by decide +kernel
theorem dL_law_643 : decode cL_law 643 = .ok (.aload_n 0, 1) := by decide +kernel
theorem dL_law_644 : decode cL_law 644 = .ok (.iload_n 3, 1) := by decide +kernel
theorem dL_law_645 : decode cL_law 645 = .ok (.iconst 1, 1) := by decide +kernel
theorem dL_law_646 : decode cL_law 646 = .ok (.iadd, 1) := by decide +kernel
theorem dL_law_647 : decode cL_law 647 = .ok (.iaload, 1) := by decide +kernel
theorem dL_law_648 : decode cL_law 648 = .ok (.invokevirtual 58, 3) := by decide +kernel
theorem dL_law_651 : decode cL_law 651 = .ok (.aload_n 2, 1) := by decide +kernel
theorem dL_law_652 : decode cL_law 652 = .ok (.aload_n 0, 1) := by decide +kernel
theorem dL_law_653 : decode cL_law 653 = .ok (.iload_n 3, 1) := by decide +kernel
theorem dL_law_654 : decode cL_law 654 = .ok (.iconst 1, 1) := by decide +kernel
theorem dL_law_655 : decode cL_law 655 = .ok (.iadd, 1) := by decide +kernel
theorem dL_law_656 : decode cL_law 656 = .ok (.iaload, 1) := by decide +kernel
theorem dL_law_657 : decode cL_law 657 = .ok (.invokevirtual 62, 3) := by decide +kernel
theorem dL_law_660 : decode cL_law 660 = .ok (.if_icmp .eq 656, 3) := by decide +kernel
theorem dL_law_663 : decode cL_law 663 = .ok (.iconst 0, 1) := by decide +kernel
theorem dL_law_664 : decode cL_law 664 = .ok (.ireturn, 1) := by decide +kernel
theorem dL_law_665 : decode cL_law 665 = .ok (.aload_n 1, 1) := by decide +kernel
theorem dL_law_666 : decode cL_law 666 = .ok (.invokevirtual 63, 3) := by decide +kernel
theorem dL_law_669 : decode cL_law 669 = .ok (.aload_n 2, 1) := by decide +kernel
theorem dL_law_670 : decode cL_law 670 = .ok (.invokevirtual 67, 3) := by decide +kernel
theorem dL_law_673 : decode cL_law 673 = .ok (.if_icmp .eq 643, 3) := by decide +kernel
theorem dL_law_676 : decode cL_law 676 = .ok (.iconst 0, 1) := by decide +kernel
theorem dL_law_677 : decode cL_law 677 = .ok (.ireturn, 1) := by decide +kernel
theorem dL_law_678 : decode cL_law 678 = .ok (.aload_n 1, 1) := by decide +kernel
theorem dL_law_679 : decode cL_law 679 = .ok (.invokevirtual 68, 3) := by decide +kernel
theorem dL_law_682 : decode cL_law 682 = .ok (.aload_n 2, 1) := by decide +kernel
theorem dL_law_683 : decode cL_law 683 = .ok (.invokevirtual 71, 3) := by decide +kernel
theorem dL_law_686 : decode cL_law 686 = .ok (.if_icmp .eq 630, 3) := by decide +kernel
theorem dL_law_689 : decode cL_law 689 = .ok (.iconst 0, 1) := by decide +kernel
theorem dL_law_690 : decode cL_law 690 = .ok (.ireturn, 1) := by decide +kernel
theorem dL_law_691 : decode cL_law 691 = .ok (.aload_n 1, 1) := by decide +kernel
theorem dL_law_692 : decode cL_law 692 = .ok (.aload_n 0, 1) := by decide +kernel
theorem dL_law_693 : decode cL_law 693 = .ok (.iload_n 3, 1) := by decide +kernel
theorem dL_law_694 : decode cL_law 694 = .ok (.iconst 1, 1) := by decide +kernel
theorem dL_law_695 : decode cL_law 695 = .ok (.iadd, 1) := by decide +kernel
theorem dL_law_696 : decode cL_law 696 = .ok (.iaload, 1) := by decide +kernel
theorem dL_law_697 : decode cL_law 697 = .ok (.invokevirtual 72, 3) := by decide +kernel
theorem dL_law_700 : decode cL_law 700 = .ok (.aload_n 2, 1) := by decide +kernel
theorem dL_law_701 : decode cL_law 701 = .ok (.aload_n 0, 1) := by decide +kernel
theorem dL_law_702 : decode cL_law 702 = .ok (.iload_n 3, 1) := by decide +kernel
theorem dL_law_703 : decode cL_law 703 = .ok (.iconst 1, 1) := by decide +kernel
theorem dL_law_704 : decode cL_law 704 = .ok (.iadd, 1) := by decide +kernel
theorem dL_law_705 : decode cL_law 705 = .ok (.iaload, 1) := by decide +kernel
theorem dL_law_706 : decode cL_law 706 = .ok (.invokevirtual 75, 3) := by decide +kernel
theorem dL_law_709 : decode cL_law 709 = .ok (.if_icmp .eq 607, 3) := by decide +kernel
theorem dL_law_712 : decode cL_law 712 = .ok (.iconst 0, 1) := by decide +kernel
theorem dL_law_713 : decode cL_law 713 = .ok (.ireturn, 1) := by decide +kernel
theorem dL_law_714 : decode cL_law 714 = .ok (.aload_n 1, 1) := by decide +kernel
theorem dL_law_715 : decode cL_law 715 = .ok (.aload_n 0, 1) := by decide +kernel
theorem dL_law_716 : decode cL_law 716 = .ok (.iload_n 3, 1) := by decide +kernel
theorem dL_law_717 : decode cL_law 717 = .ok (.iconst 1, 1) := by decide +kernel
theorem dL_law_718 : decode cL_law 718 = .ok (.iadd, 1) := by decide +kernel
theorem dL_law_719 : decode cL_law 719 = .ok (.iaload, 1) := by decide +kernel
theorem dL_law_720 : decode cL_law 720 = .ok (.aload_n 0, 1) := by decide +kernel
theorem dL_law_721 : decode cL_law 721 = .ok (.iload_n 3, 1) := by decide +kernel
theorem dL_law_722 : decode cL_law 722 = .ok (.iconst 2, 1) := by decide +kernel
theorem dL_law_723 : decode cL_law 723 = .ok (.iadd, 1) := by decide +kernel
theorem dL_law_724 : decode cL_law 724 = .ok (.iaload, 1) := by decide +kernel
theorem dL_law_725 : decode cL_law 725 = .ok (.aload_n 0, 1) := by decide +kernel
theorem dL_law_726 : decode cL_law 726 = .ok (.iload_n 3, 1) := by decide +kernel
theorem dL_law_727 : decode cL_law 727 = .ok (.iconst 3, 1) := by decide +kernel
theorem dL_law_728 : decode cL_law 728 = .ok (.iadd, 1) := by decide +kernel
theorem dL_law_729 : decode cL_law 729 = .ok (.iaload, 1) := by decide +kernel
theorem dL_law_730 : decode cL_law 730 = .ok (.invokevirtual 76, 3) := by decide +kernel
theorem dL_law_733 : decode cL_law 733 = .ok (.aload_n 2, 1) := by decide +kernel
theorem dL_law_734 : decode cL_law 734 = .ok (.aload_n 0, 1) := by decide +kernel
theorem dL_law_735 : decode cL_law 735 = .ok (.iload_n 3, 1) := by decide +kernel
theorem dL_law_736 : decode cL_law 736 = .ok (.iconst 1, 1) := by decide +kernel
theorem dL_law_737 : decode cL_law 737 = .ok (.iadd, 1) := by decide +kernel
end
section
theorem dL_law_738 : decode cL_law 738 = .ok (.iaload, 1) := by decide +kernel
theorem dL_law_739 : decode cL_law 739 = .ok (.aload_n 0, 1) := by decide +kernel
theorem dL_law_740 : decode cL_law 740 = .ok (.iload_n 3, 1) := by decide +kernel
theorem dL_law_741 : decode cL_law 741 = .ok (.iconst 2, 1) := by decide +kernel
theorem dL_law_742 : decode cL_law 742 = .ok (.iadd, 1) := by decide +kernel
theorem dL_law_743 : decode cL_law 743 = .ok (.iaload, 1) := by decide +kernel
theorem dL_law_744 : decode cL_law 744 = .ok (.aload_n 0, 1) := by decide +kernel
theorem dL_law_745 : decode cL_law 745 = .ok (.iload_n 3, 1) := by decide +kernel
theorem dL_law_746 : decode cL_law 746 = .ok (.iconst 3, 1) := by decide +kernel
theorem dL_law_747 : decode cL_law 747 = .ok (.iadd, 1) := by decide +kernel
theorem dL_law_748 : decode cL_law 748 = .ok (.iaload, 1) := by decide +kernel
theorem dL_law_749 : decode cL_law 749 = .ok (.invokevirtual 79, 3) := by decide +kernel
theorem dL_law_752 : decode cL_law 752 = .ok (.if_icmp .eq 564, 3) := by decide +kernel
theorem dL_law_755 : decode cL_law 755 = .ok (.iconst 0, 1) := by decide +kernel
theorem dL_law_756 : decode cL_law 756 = .ok (.ireturn, 1) := by decide +kernel
theorem dL_law_757 : decode cL_law 757 = .ok (.aload_n 1, 1) := by decide +kernel
theorem dL_law_758 : decode cL_law 758 = .ok (.aload_n 0, 1) := by decide +kernel
theorem dL_law_759 : decode cL_law 759 = .ok (.iload_n 3, 1) := by decide +kernel
theorem dL_law_760 : decode cL_law 760 = .ok (.iconst 1, 1) := by decide +kernel
theorem dL_law_761 : decode cL_law 761 = .ok (.iadd, 1) := by decide +kernel
theorem dL_law_762 : decode cL_law 762 = .ok (.iaload, 1) := by decide +kernel
theorem dL_law_763 : decode cL_law 763 = .ok (.aload_n 0, 1) := by decide +kernel
theorem dL_law_764 : decode cL_law 764 = .ok (.iload_n 3, 1) := by decide +kernel
theorem dL_law_765 : decode cL_law 765 = .ok (.iconst 2, 1) := by decide +kernel
theorem dL_law_766 : decode cL_law 766 = .ok (.iadd, 1) := by decide +kernel
theorem dL_law_767 : decode cL_law 767 = .ok (.iaload, 1) := by decide +kernel
theorem dL_law_768 : decode cL_law 768 = .ok (.aload_n 0, 1) := by decide +kernel
theorem dL_law_769 : decode cL_law 769 = .ok (.iload_n 3, 1) := by decide +kernel
theorem dL_law_770 : decode cL_law 770 = .ok (.iconst 3, 1) := by decide +kernel
theorem dL_law_771 : decode cL_law 771 = .ok (.iadd, 1) := by decide +kernel
theorem dL_law_772 : decode cL_law 772 = .ok (.iaload, 1) := by decide +kernel
theorem dL_law_773 : decode cL_law 773 = .ok (.invokevirtual 80, 3) := by decide +kernel
theorem dL_law_776 : decode cL_law 776 = .ok (.aload_n 2, 1) := by decide +kernel
theorem dL_law_777 : decode cL_law 777 = .ok (.aload_n 0, 1) := by decide +kernel
theorem dL_law_778 : decode cL_law 778 = .ok (.iload_n 3, 1) := by decide +kernel
theorem dL_law_779 : decode cL_law 779 = .ok (.iconst 1, 1) := by decide +kernel
theorem dL_law_780 : decode cL_law 780 = .ok (.iadd, 1) := by decide +kernel
theorem dL_law_781 : decode cL_law 781 = .ok (.iaload, 1) := by decide +kernel
theorem dL_law_782 : decode cL_law 782 = .ok (.aload_n 0, 1) := by decide +kernel
theorem dL_law_783 : decode cL_law 783 = .ok (.iload_n 3, 1) := by decide +kernel
theorem dL_law_784 : decode cL_law 784 = .ok (.iconst 2, 1) := by decide +kernel
theorem dL_law_785 : decode cL_law 785 = .ok (.iadd, 1) := by decide +kernel
theorem dL_law_786 : decode cL_law 786 = .ok (.iaload, 1) := by decide +kernel
theorem dL_law_787 : decode cL_law 787 = .ok (.aload_n 0, 1) := by decide +kernel
theorem dL_law_788 : decode cL_law 788 = .ok (.iload_n 3, 1) := by decide +kernel
theorem dL_law_789 : decode cL_law 789 = .ok (.iconst 3, 1) := by decide +kernel
theorem dL_law_790 : decode cL_law 790 = .ok (.iadd, 1) := by decide +kernel
theorem dL_law_791 : decode cL_law 791 = .ok (.iaload, 1) := by decide +kernel
theorem dL_law_792 : decode cL_law 792 = .ok (.invokevirtual 83, 3) := by decide +kernel
theorem dL_law_795 : decode cL_law 795 = .ok (.if_icmp .eq 521, 3) := by decide +kernel
theorem dL_law_798 : decode cL_law 798 = .ok (.iconst 0, 1) := by decide +kernel
theorem dL_law_799 : decode cL_law 799 = .ok (.ireturn, 1) := by decide +kernel
theorem dL_law_800 : decode cL_law 800 = .ok (.aload_n 1, 1) := by decide +kernel
theorem dL_law_801 : decode cL_law 801 = .ok (.aload_n 0, 1) := by decide +kernel
theorem dL_law_802 : decode cL_law 802 = .ok (.iload_n 3, 1) := by decide +kernel
theorem dL_law_803 : decode cL_law 803 = .ok (.iconst 1, 1) := by decide +kernel
theorem dL_law_804 : decode cL_law 804 = .ok (.iadd, 1) := by decide +kernel
theorem dL_law_805 : decode cL_law 805 = .ok (.iaload, 1) := by decide +kernel
theorem dL_law_806 : decode cL_law 806 = .ok (.aload_n 0, 1) := by decide +kernel
theorem dL_law_807 : decode cL_law 807 = .ok (.iload_n 3, 1) := by decide +kernel
theorem dL_law_808 : decode cL_law 808 = .ok (.iconst 2, 1) := by decide +kernel
theorem dL_law_809 : decode cL_law 809 = .ok (.iadd, 1) := by decide +kernel
theorem dL_law_810 : decode cL_law 810 = .ok (.iaload, 1) := by decide +kernel
theorem dL_law_811 : decode cL_law 811 = .ok (.invokevirtual 84, 3) := by decide +kernel
theorem dL_law_814 : decode cL_law 814 = .ok (.aload_n 2, 1) := by decide +kernel
theorem dL_law_815 : decode cL_law 815 = .ok (.aload_n 0, 1) := by decide +kernel
theorem dL_law_816 : decode cL_law 816 = .ok (.iload_n 3, 1) := by decide +kernel
theorem dL_law_817 : decode cL_law 817 = .ok (.iconst 1, 1) := by decide +kernel
theorem dL_law_818 : decode cL_law 818 = .ok (.iadd, 1) := by decide +kernel
theorem dL_law_819 : decode cL_law 819 = .ok (.iaload, 1) := by decide +kernel
theorem dL_law_820 : decode cL_law 820 = .ok (.aload_n 0, 1) := by decide +kernel
theorem dL_law_821 : decode cL_law 821 = .ok (.iload_n 3, 1) := by decide +kernel
theorem dL_law_822 : decode cL_law 822 = .ok (.iconst 2, 1) := by decide +kernel
theorem dL_law_823 : decode cL_law 823 = .ok (.iadd, 1) := by decide +kernel
theorem dL_law_824 : decode cL_law 824 = .ok (.iaload, 1) := by decide +kernel
theorem dL_law_825 : decode cL_law 825 = .ok (.invokevirtual 87, 3) := by decide +kernel
theorem dL_law_828 : decode cL_law 828 = .ok (.if_icmp .eq 488, 3) := by decide +kernel
theorem dL_law_831 : decode cL_law 831 = .ok (.iconst 0, 1) := by decide +kernel
theorem dL_law_832 : decode cL_law 832 = .ok (.ireturn, 1) := by decide +kernel
theorem dL_law_833 : decode cL_law 833 = .ok (.aload_n 1, 1) := by decide +kernel
theorem dL_law_834 : decode cL_law 834 = .ok (.aload_n 0, 1) := by decide +kernel
theorem dL_law_835 : decode cL_law 835 = .ok (.iload_n 3, 1) := by decide +kernel
theorem dL_law_836 : decode cL_law 836 = .ok (.iconst 1, 1) := by decide +kernel
theorem dL_law_837 : decode cL_law 837 = .ok (.iadd, 1) := by decide +kernel
theorem dL_law_838 : decode cL_law 838 = .ok (.iaload, 1) := by decide +kernel
theorem dL_law_839 : decode cL_law 839 = .ok (.aload_n 0, 1) := by decide +kernel
theorem dL_law_840 : decode cL_law 840 = .ok (.iload_n 3, 1) := by decide +kernel
theorem dL_law_841 : decode cL_law 841 = .ok (.iconst 2, 1) := by decide +kernel
theorem dL_law_842 : decode cL_law 842 = .ok (.iadd, 1) := by decide +kernel
theorem dL_law_843 : decode cL_law 843 = .ok (.iaload, 1) := by decide +kernel
theorem dL_law_844 : decode cL_law 844 = .ok (.aload_n 0, 1) := by decide +kernel
theorem dL_law_845 : decode cL_law 845 = .ok (.iload_n 3, 1) := by decide +kernel
theorem dL_law_846 : decode cL_law 846 = .ok (.iconst 3, 1) := by decide +kernel
theorem dL_law_847 : decode cL_law 847 = .ok (.iadd, 1) := by decide +kernel
theorem dL_law_848 : decode cL_law 848 = .ok (.iaload, 1) := by decide +kernel
theorem dL_law_849 : decode cL_law 849 = .ok (.invokevirtual 88, 3) := by decide +kernel
theorem dL_law_852 : decode cL_law 852 = .ok (.aload_n 2, 1) := by decide +kernel
theorem dL_law_853 : decode cL_law 853 = .ok (.aload_n 0, 1) := by decide +kernel
theorem dL_law_854 : decode cL_law 854 = .ok (.iload_n 3, 1) := by decide +kernel
theorem dL_law_855 : decode cL_law 855 = .ok (.iconst 1, 1) := by decide +kernel
theorem dL_law_856 : decode cL_law 856 = .ok (.iadd, 1) := by decide +kernel
theorem dL_law_857 : decode cL_law 857 = .ok (.iaload, 1) := by decide +kernel
theorem dL_law_858 : decode cL_law 858 = .ok (.aload_n 0, 1) := by decide +kernel
theorem dL_law_859 : decode cL_law 859 = .ok (.iload_n 3, 1) := by decide +kernel
theorem dL_law_860 : decode cL_law 860 = .ok (.iconst 2, 1) := by decide +kernel
theorem dL_law_861 : decode cL_law 861 = .ok (.iadd, 1) := by decide +kernel
theorem dL_law_862 : decode cL_law 862 = .ok (.iaload, 1) := by decide +kernel
theorem dL_law_863 : decode cL_law 863 = .ok (.aload_n 0, 1) := by decide +kernel
theorem dL_law_864 : decode cL_law 864 = .ok (.iload_n 3, 1) := by decide +kernel
theorem dL_law_865 : decode cL_law 865 = .ok (.iconst 3, 1) := by decide +kernel
theorem dL_law_866 : decode cL_law 866 = .ok (.iadd, 1) := by decide +kernel
theorem dL_law_867 : decode cL_law 867 = .ok (.iaload, 1) := by decide +kernel
theorem dL_law_868 : decode cL_law 868 = .ok (.invokevirtual 91, 3) := by decide +kernel
theorem dL_law_871 : decode cL_law 871 = .ok (.if_icmp .eq 445, 3) := by decide +kernel
theorem dL_law_874 : decode cL_law 874 = .ok (.iconst 0, 1) := by decide +kernel
theorem dL_law_875 : decode cL_law 875 = .ok (.ireturn, 1) := by decide +kernel
theorem dL_law_876 : decode cL_law 876 = .ok (.aload_n 1, 1) := by decide +kernel
theorem dL_law_877 : decode cL_law 877 = .ok (.aload_n 0, 1) := by decide +kernel
theorem dL_law_878 : decode cL_law 878 = .ok (.iload_n 3, 1) := by decide +kernel
theorem dL_law_879 : decode cL_law 879 = .ok (.iconst 1, 1) := by decide +kernel
theorem dL_law_880 : decode cL_law 880 = .ok (.iadd, 1) := by decide +kernel
theorem dL_law_881 : decode cL_law 881 = .ok (.iaload, 1) := by decide +kernel
theorem dL_law_882 : decode cL_law 882 = .ok (.aload_n 0, 1) := by decide +kernel
theorem dL_law_883 : decode cL_law 883 = .ok (.iload_n 3, 1) := by decide +kernel
theorem dL_law_884 : decode cL_law 884 = .ok (.iconst 2, 1) := by decide +kernel
theorem dL_law_885 : decode cL_law 885 = .ok (.iadd, 1) := by decide +kernel
theorem dL_law_886 : decode cL_law 886 = .ok (.iaload, 1) := by decide +kernel
theorem dL_law_887 : decode cL_law 887 = .ok (.invokevirtual 92, 3) := by decide +kernel
theorem dL_law_890 : decode cL_law 890 = .ok (.aload_n 2, 1) := by decide +kernel
theorem dL_law_891 : decode cL_law 891 = .ok (.aload_n 0, 1) := by decide +kernel
theorem dL_law_892 : decode cL_law 892 = .ok (.iload_n 3, 1) := by decide +kernel
theorem dL_law_893 : decode cL_law 893 = .ok (.iconst 1, 1) := by decide +kernel
theorem dL_law_894 : decode cL_law 894 = .ok (.iadd, 1) := by decide +kernel
theorem dL_law_895 : decode cL_law 895 = .ok (.iaload, 1) := by decide +kernel
theorem dL_law_896 : decode cL_law 896 = .ok (.aload_n 0, 1) := by decide +kernel
theorem dL_law_897 : decode cL_law 897 = .ok (.iload_n 3, 1) := by decide +kernel
theorem dL_law_898 : decode cL_law 898 = .ok (.iconst 2, 1) := by decide +kernel
theorem dL_law_899 : decode cL_law 899 = .ok (.iadd, 1) := by decide +kernel
theorem dL_law_900 : decode cL_law 900 = .ok (.iaload, 1) := by decide +kernel
theorem dL_law_901 : decode cL_law 901 = .ok (.invokevirtual 95, 3) := by decide +kernel
theorem dL_law_904 : decode cL_law 904 = .ok (.if_icmp .eq 412, 3) := by decide +kernel
theorem dL_law_907 : decode cL_law 907 = .ok (.iconst 0, 1) := by decide +kernel
theorem dL_law_908 : decode cL_law 908 = .ok (.ireturn, 1) := by decide +kernel
theorem dL_law_909 : decode cL_law 909 = .ok (.aload_n 1, 1) := by decide +kernel
theorem dL_law_910 : decode cL_law 910 = .ok (.aload_n 0, 1) := by decide +kernel
theorem dL_law_911 : decode cL_law 911 = .ok (.iload_n 3, 1) := by decide +kernel
theorem dL_law_912 : decode cL_law 912 = .ok (.iconst 1, 1) := by decide +kernel
theorem dL_law_913 : decode cL_law 913 = .ok (.iadd, 1) := by decide +kernel
theorem dL_law_914 : decode cL_law 914 = .ok (.iaload, 1) := by decide +kernel
theorem dL_law_915 : decode cL_law 915 = .ok (.aload_n 0, 1) := by decide +kernel
theorem dL_law_916 : decode cL_law 916 = .ok (.iload_n 3, 1) := by decide +kernel
theorem dL_law_917 : decode cL_law 917 = .ok (.iconst 2, 1) := by decide +kernel
theorem dL_law_918 : decode cL_law 918 = .ok (.iadd, 1) := by decide +kernel
theorem dL_law_919 : decode cL_law 919 = .ok (.iaload, 1) := by decide +kernel
theorem dL_law_920 : decode cL_law 920 = .ok (.invokevirtual 96, 3) := by decide +kernel
theorem dL_law_923 : decode cL_law 923 = .ok (.aload_n 2, 1) := by decide +kernel
theorem dL_law_924 : decode cL_law 924 = .ok (.aload_n 0, 1) := by decide +kernel
theorem dL_law_925 : decode cL_law 925 = .ok (.iload_n 3, 1) := by decide +kernel
theorem dL_law_926 : decode cL_law 926 = .ok (.iconst 1, 1) := by decide +kernel
theorem dL_law_927 : decode cL_law 927 = .ok (.iadd, 1) := by decide +kernel
theorem dL_law_928 : decode cL_law 928 = .ok (.iaload, 1) := by decide +kernel
theorem dL_law_929 : decode cL_law 929 = .ok (.aload_n 0, 1) := by decide +kernel
theorem dL_law_930 : decode cL_law 930 = .ok (.iload_n 3, 1) := by decide +kernel
theorem dL_law_931 : decode cL_law 931 = .ok (.iconst 2, 1) := by decide +kernel
theorem dL_law_932 : decode cL_law 932 = .ok (.iadd, 1) := by decide +kernel
theorem dL_law_933 : decode cL_law 933 = .ok (.iaload, 1) := by decide +kernel
theorem dL_law_934 : decode cL_law 934 = .ok (.invokevirtual 100, 3) := by decide +kernel
theorem dL_law_937 : decode cL_law 937 = .ok (.lcmp, 1) := by decide +kernel
theorem dL_law_938 : decode cL_law 938 = .ok (.ifCond .eq 378, 3) := by decide +kernel
theorem dL_law_941 : decode cL_law 941 = .ok (.iconst 0, 1) := by decide +kernel
theorem dL_law_942 : decode cL_law 942 = .ok (.ireturn, 1) := by decide +kernel
theorem dL_law_943 : decode cL_law 943 = .ok (.aload_n 1, 1) := by decide +kernel
theorem dL_law_944 : decode cL_law 944 = .ok (.aload_n 0, 1) := by decide +kernel
theorem dL_law_945 : decode cL_law 945 = .ok (.iload_n 3, 1) := by decide +kernel
theorem dL_law_946 : decode cL_law 946 = .ok (.iconst 1, 1) := by decide +kernel
theorem dL_law_947 : decode cL_law 947 = .ok (.iadd, 1) := by decide +kernel
theorem dL_law_948 : decode cL_law 948 = .ok (.iaload, 1) := by decide +kernel
theorem dL_law_949 : decode cL_law 949 = .ok (.aload_n 0, 1) := by decide +kernel
theorem dL_law_950 : decode cL_law 950 = .ok (.iload_n 3, 1) := by decide +kernel
theorem dL_law_951 : decode cL_law 951 = .ok (.iconst 2, 1) := by decide +kernel
theorem dL_law_952 : decode cL_law 952 = .ok (.iadd, 1) := by decide +kernel
theorem dL_law_953 : decode cL_law 953 = .ok (.iaload, 1) := by decide +kernel
theorem dL_law_954 : decode cL_law 954 = .ok (.aload_n 0, 1) := by decide +kernel
theorem dL_law_955 : decode cL_law 955 = .ok (.iload_n 3, 1) := by decide +kernel
theorem dL_law_956 : decode cL_law 956 = .ok (.iconst 3, 1) := by decide +kernel
theorem dL_law_957 : decode cL_law 957 = .ok (.iadd, 1) := by decide +kernel
theorem dL_law_958 : decode cL_law 958 = .ok (.iaload, 1) := by decide +kernel
theorem dL_law_959 : decode cL_law 959 = .ok (.ifCond .eq 7, 3) := by decide +kernel
theorem dL_law_962 : decode cL_law 962 = .ok (.iconst 1, 1) := by decide +kernel
theorem dL_law_963 : decode cL_law 963 = .ok (.goto 4, 3) := by decide +kernel
theorem dL_law_966 : decode cL_law 966 = .ok (.iconst 0, 1) := by decide +kernel
theorem dL_law_967 : decode cL_law 967 = .ok (.invokevirtual 101, 3) := by decide +kernel
theorem dL_law_970 : decode cL_law 970 = .ok (.aload_n 2, 1) := by decide +kernel
theorem dL_law_971 : decode cL_law 971 = .ok (.aload_n 0, 1) := by decide +kernel
theorem dL_law_972 : decode cL_law 972 = .ok (.iload_n 3, 1) := by decide +kernel
theorem dL_law_973 : decode cL_law 973 = .ok (.iconst 1, 1) := by decide +kernel
theorem dL_law_974 : decode cL_law 974 = .ok (.iadd, 1) := by decide +kernel
theorem dL_law_975 : decode cL_law 975 = .ok (.iaload, 1) := by decide +kernel
theorem dL_law_976 : decode cL_law 976 = .ok (.aload_n 0, 1) := by decide +kernel
theorem dL_law_977 : decode cL_law 977 = .ok (.iload_n 3, 1) := by decide +kernel
theorem dL_law_978 : decode cL_law 978 = .ok (.iconst 2, 1) := by decide +kernel
theorem dL_law_979 : decode cL_law 979 = .ok (.iadd, 1) := by decide +kernel
theorem dL_law_980 : decode cL_law 980 = .ok (.iaload, 1) := by decide +kernel
theorem dL_law_981 : decode cL_law 981 = .ok (.aload_n 0, 1) := by decide +kernel
theorem dL_law_982 : decode cL_law 982 = .ok (.iload_n 3, 1) := by decide +kernel
theorem dL_law_983 : decode cL_law 983 = .ok (.iconst 3, 1) := by decide +kernel
theorem dL_law_984 : decode cL_law 984 = .ok (.iadd, 1) := by decide +kernel
theorem dL_law_985 : decode cL_law 985 = .ok (.iaload, 1) := by decide +kernel
theorem dL_law_986 : decode cL_law 986 = .ok (.ifCond .eq 7, 3) := by decide +kernel
theorem dL_law_989 : decode cL_law 989 = .ok (.iconst 1, 1) := by decide +kernel
theorem dL_law_990 : decode cL_law 990 = .ok (.goto 4, 3) := by decide +kernel
theorem dL_law_993 : decode cL_law 993 = .ok (.iconst 0, 1) := by decide +kernel
theorem dL_law_994 : decode cL_law 994 = .ok (.invokevirtual 104, 3) := by decide +kernel
theorem dL_law_997 : decode cL_law 997 = .ok (.if_icmp .eq 319, 3) := by decide +kernel
theorem dL_law_1000 : decode cL_law 1000 = .ok (.iconst 0, 1) := by decide +kernel
theorem dL_law_1001 : decode cL_law 1001 = .ok (.ireturn, 1) := by decide +kernel
theorem dL_law_1002 : decode cL_law 1002 = .ok (.aload_n 1, 1) := by decide +kernel
theorem dL_law_1003 : decode cL_law 1003 = .ok (.aload_n 0, 1) := by decide +kernel
theorem dL_law_1004 : decode cL_law 1004 = .ok (.iload_n 3, 1) := by decide +kernel
theorem dL_law_1005 : decode cL_law 1005 = .ok (.iconst 1, 1) := by decide +kernel
theorem dL_law_1006 : decode cL_law 1006 = .ok (.iadd, 1) := by decide +kernel
theorem dL_law_1007 : decode cL_law 1007 = .ok (.iaload, 1) := by decide +kernel
theorem dL_law_1008 : decode cL_law 1008 = .ok (.aload_n 0, 1) := by decide +kernel
theorem dL_law_1009 : decode cL_law 1009 = .ok (.iload_n 3, 1) := by decide +kernel
theorem dL_law_1010 : decode cL_law 1010 = .ok (.iconst 2, 1) := by decide +kernel
theorem dL_law_1011 : decode cL_law 1011 = .ok (.iadd, 1) := by decide +kernel
theorem dL_law_1012 : decode cL_law 1012 = .ok (.iaload, 1) := by decide +kernel
theorem dL_law_1013 : decode cL_law 1013 = .ok (.aload_n 0, 1) := by decide +kernel
theorem dL_law_1014 : decode cL_law 1014 = .ok (.iload_n 3, 1) := by decide +kernel
theorem dL_law_1015 : decode cL_law 1015 = .ok (.iconst 3, 1) := by decide +kernel
theorem dL_law_1016 : decode cL_law 1016 = .ok (.iadd, 1) := by decide +kernel
theorem dL_law_1017 : decode cL_law 1017 = .ok (.iaload, 1) := by decide +kernel
theorem dL_law_1018 : decode cL_law 1018 = .ok (.aload_n 0, 1) := by decide +kernel
theorem dL_law_1019 : decode cL_law 1019 = .ok (.iload_n 3, 1) := by decide +kernel
theorem dL_law_1020 : decode cL_law 1020 = .ok (.iconst 4, 1) := by decide +kernel
theorem dL_law_1021 : decode cL_law 1021 = .ok (.iadd, 1) := by decide +kernel
theorem dL_law_1022 : decode cL_law 1022 = .ok (.iaload, 1) := by decide +kernel
theorem dL_law_1023 : decode cL_law 1023 = .ok (.aload_n 0, 1) := by decide +kernel
theorem dL_law_1024 : decode cL_law 1024 = .ok (.iload_n 3, 1) := by decide +kernel
theorem dL_law_1025 : decode cL_law 1025 = .ok (.iconst 5, 1) := by decide +kernel
theorem dL_law_1026 : decode cL_law 1026 = .ok (.iadd, 1) := by decide +kernel
theorem dL_law_1027 : decode cL_law 1027 = .ok (.iaload, 1) := by decide +kernel
theorem dL_law_1028 : decode cL_law 1028 = .ok (.invokevirtual 105, 3) := by decide +kernel
theorem dL_law_1031 : decode cL_law 1031 = .ok (.aload_n 2, 1) := by decide +kernel
theorem dL_law_1032 : decode cL_law 1032 = .ok (.aload_n 0, 1) := by decide +kernel
theorem dL_law_1033 : decode cL_law 1033 = .ok (.iload_n 3, 1) := by decide +kernel
theorem dL_law_1034 : decode cL_law 1034 = .ok (.iconst 1, 1) := by decide +kernel
theorem dL_law_1035 : decode cL_law 1035 = .ok (.iadd, 1) := by decide +kernel
theorem dL_law_1036 : decode cL_law 1036 = .ok (.iaload, 1) := by decide +kernel
theorem dL_law_1037 : decode cL_law 1037 = .ok (.aload_n 0, 1) := by decide +kernel
end
section
theorem dL_law_1038 : decode cL_law 1038 = .ok (.iload_n 3, 1) := by decide +kernel
theorem dL_law_1039 : decode cL_law 1039 = .ok (.iconst 2, 1) := by decide +kernel
theorem dL_law_1040 : decode cL_law 1040 = .ok (.iadd, 1) := by decide +kernel
theorem dL_law_1041 : decode cL_law 1041 = .ok (.iaload, 1) := by decide +kernel
theorem dL_law_1042 : decode cL_law 1042 = .ok (.aload_n 0, 1) := by decide +kernel
theorem dL_law_1043 : decode cL_law 1043 = .ok (.iload_n 3, 1) := by decide +kernel
theorem dL_law_1044 : decode cL_law 1044 = .ok (.iconst 3, 1) := by decide +kernel
theorem dL_law_1045 : decode cL_law 1045 = .ok (.iadd, 1) := by decide +kernel
theorem dL_law_1046 : decode cL_law 1046 = .ok (.iaload, 1) := by decide +kernel
theorem dL_law_1047 : decode cL_law 1047 = .ok (.aload_n 0, 1) := by decide +kernel
theorem dL_law_1048 : decode cL_law 1048 = .ok (.iload_n 3, 1) := by decide +kernel
theorem dL_law_1049 : decode cL_law 1049 = .ok (.iconst 4, 1) := by decide +kernel
theorem dL_law_1050 : decode cL_law 1050 = .ok (.iadd, 1) := by decide +kernel
theorem dL_law_1051 : decode cL_law 1051 = .ok (.iaload, 1) := by decide +kernel
theorem dL_law_1052 : decode cL_law 1052 = .ok (.aload_n 0, 1) := by decide +kernel
theorem dL_law_1053 : decode cL_law 1053 = .ok (.iload_n 3, 1) := by decide +kernel
theorem dL_law_1054 : decode cL_law 1054 = .ok (.iconst 5, 1) := by decide +kernel
theorem dL_law_1055 : decode cL_law 1055 = .ok (.iadd, 1) := by decide +kernel
theorem dL_law_1056 : decode cL_law 1056 = .ok (.iaload, 1) := by decide +kernel
theorem dL_law_1057 : decode cL_law 1057 = .ok (.invokevirtual 109, 3) := by decide +kernel
theorem dL_law_1060 : decode cL_law 1060 = .ok (.lcmp, 1) := by decide +kernel
theorem dL_law_1061 : decode cL_law 1061 = .ok (.ifCond .eq 255, 3) := by decide +kernel
theorem dL_law_1064 : decode cL_law 1064 = .ok (.iconst 0, 1) := by decide +kernel
theorem dL_law_1065 : decode cL_law 1065 = .ok (.ireturn, 1) := by decide +kernel
theorem dL_law_1066 : decode cL_law 1066 = .ok (.aload_n 1, 1) := by decide +kernel
theorem dL_law_1067 : decode cL_law 1067 = .ok (.aload_n 0, 1) := by decide +kernel
theorem dL_law_1068 : decode cL_law 1068 = .ok (.iload_n 3, 1) := by decide +kernel
theorem dL_law_1069 : decode cL_law 1069 = .ok (.iconst 1, 1) := by decide +kernel
theorem dL_law_1070 : decode cL_law 1070 = .ok (.iadd, 1) := by decide +kernel
theorem dL_law_1071 : decode cL_law 1071 = .ok (.iaload, 1) := by decide +kernel
theorem dL_law_1072 : decode cL_law 1072 = .ok (.aload_n 0, 1) := by decide +kernel
theorem dL_law_1073 : decode cL_law 1073 = .ok (.iload_n 3, 1) := by decide +kernel
theorem dL_law_1074 : decode cL_law 1074 = .ok (.iconst 2, 1) := by decide +kernel
theorem dL_law_1075 : decode cL_law 1075 = .ok (.iadd, 1) := by decide +kernel
theorem dL_law_1076 : decode cL_law 1076 = .ok (.iaload, 1) := by decide +kernel
theorem dL_law_1077 : decode cL_law 1077 = .ok (.invokevirtual 110, 3) := by decide +kernel
theorem dL_law_1080 : decode cL_law 1080 = .ok (.aload_n 2, 1) := by decide +kernel
theorem dL_law_1081 : decode cL_law 1081 = .ok (.aload_n 0, 1) := by decide +kernel
theorem dL_law_1082 : decode cL_law 1082 = .ok (.iload_n 3, 1) := by decide +kernel
theorem dL_law_1083 : decode cL_law 1083 = .ok (.iconst 1, 1) := by decide +kernel
theorem dL_law_1084 : decode cL_law 1084 = .ok (.iadd, 1) := by decide +kernel
theorem dL_law_1085 : decode cL_law 1085 = .ok (.iaload, 1) := by decide +kernel
theorem dL_law_1086 : decode cL_law 1086 = .ok (.aload_n 0, 1) := by decide +kernel
theorem dL_law_1087 : decode cL_law 1087 = .ok (.iload_n 3, 1) := by decide +kernel
theorem dL_law_1088 : decode cL_law 1088 = .ok (.iconst 2, 1) := by decide +kernel
theorem dL_law_1089 : decode cL_law 1089 = .ok (.iadd, 1) := by decide +kernel
theorem dL_law_1090 : decode cL_law 1090 = .ok (.iaload, 1) := by decide +kernel
theorem dL_law_1091 : decode cL_law 1091 = .ok (.invokevirtual 113, 3) := by decide +kernel
theorem dL_law_1094 : decode cL_law 1094 = .ok (.if_icmp .eq 222, 3) := by decide +kernel
theorem dL_law_1097 : decode cL_law 1097 = .ok (.iconst 0, 1) := by decide +kernel
theorem dL_law_1098 : decode cL_law 1098 = .ok (.ireturn, 1) := by decide +kernel
theorem dL_law_1099 : decode cL_law 1099 = .ok (.aload_n 1, 1) := by decide +kernel
theorem dL_law_1100 : decode cL_law 1100 = .ok (.aload_n 0, 1) := by decide +kernel
theorem dL_law_1101 : decode cL_law 1101 = .ok (.iload_n 3, 1) := by decide +kernel
theorem dL_law_1102 : decode cL_law 1102 = .ok (.iconst 1, 1) := by decide +kernel
theorem dL_law_1103 : decode cL_law 1103 = .ok (.iadd, 1) := by decide +kernel
theorem dL_law_1104 : decode cL_law 1104 = .ok (.iaload, 1) := by decide +kernel
theorem dL_law_1105 : decode cL_law 1105 = .ok (.aload_n 0, 1) := by decide +kernel
theorem dL_law_1106 : decode cL_law 1106 = .ok (.iload_n 3, 1) := by decide +kernel
theorem dL_law_1107 : decode cL_law 1107 = .ok (.iconst 2, 1) := by decide +kernel
theorem dL_law_1108 : decode cL_law 1108 = .ok (.iadd, 1) := by decide +kernel
theorem dL_law_1109 : decode cL_law 1109 = .ok (.iaload, 1) := by decide +kernel
theorem dL_law_1110 : decode cL_law 1110 = .ok (.aload_n 0, 1) := by decide +kernel
theorem dL_law_1111 : decode cL_law 1111 = .ok (.iload_n 3, 1) := by decide +kernel
theorem dL_law_1112 : decode cL_law 1112 = .ok (.iconst 3, 1) := by decide +kernel
theorem dL_law_1113 : decode cL_law 1113 = .ok (.iadd, 1) := by decide +kernel
theorem dL_law_1114 : decode cL_law 1114 = .ok (.iaload, 1) := by decide +kernel
theorem dL_law_1115 : decode cL_law 1115 = .ok (.aload_n 0, 1) := by decide +kernel
theorem dL_law_1116 : decode cL_law 1116 = .ok (.iload_n 3, 1) := by decide +kernel
theorem dL_law_1117 : decode cL_law 1117 = .ok (.iconst 4, 1) := by decide +kernel
theorem dL_law_1118 : decode cL_law 1118 = .ok (.iadd, 1) := by decide +kernel
theorem dL_law_1119 : decode cL_law 1119 = .ok (.iaload, 1) := by decide +kernel
theorem dL_law_1120 : decode cL_law 1120 = .ok (.aload_n 0, 1) := by decide +kernel
theorem dL_law_1121 : decode cL_law 1121 = .ok (.iload_n 3, 1) := by decide +kernel
theorem dL_law_1122 : decode cL_law 1122 = .ok (.iconst 5, 1) := by decide +kernel
theorem dL_law_1123 : decode cL_law 1123 = .ok (.iadd, 1) := by decide +kernel
theorem dL_law_1124 : decode cL_law 1124 = .ok (.iaload, 1) := by decide +kernel
theorem dL_law_1125 : decode cL_law 1125 = .ok (.invokevirtual 114, 3) := by decide +kernel
theorem dL_law_1128 : decode cL_law 1128 = .ok (.aload_n 2, 1) := by decide +kernel
theorem dL_law_1129 : decode cL_law 1129 = .ok (.aload_n 0, 1) := by decide +kernel
theorem dL_law_1130 : decode cL_law 1130 = .ok (.iload_n 3, 1) := by decide +kernel
theorem dL_law_1131 : decode cL_law 1131 = .ok (.iconst 1, 1) := by decide +kernel
theorem dL_law_1132 : decode cL_law 1132 = .ok (.iadd, 1) := by decide +kernel
theorem dL_law_1133 : decode cL_law 1133 = .ok (.iaload, 1) := by decide +kernel
theorem dL_law_1134 : decode cL_law 1134 = .ok (.aload_n 0, 1) := by decide +kernel
theorem dL_law_1135 : decode cL_law 1135 = .ok (.iload_n 3, 1) := by decide +kernel
theorem dL_law_1136 : decode cL_law 1136 = .ok (.iconst 2, 1) := by decide +kernel
theorem dL_law_1137 : decode cL_law 1137 = .ok (.iadd, 1) := by decide +kernel
theorem dL_law_1138 : decode cL_law 1138 = .ok (.iaload, 1) := by decide +kernel
theorem dL_law_1139 : decode cL_law 1139 = .ok (.aload_n 0, 1) := by decide +kernel
theorem dL_law_1140 : decode cL_law 1140 = .ok (.iload_n 3, 1) := by decide +kernel
theorem dL_law_1141 : decode cL_law 1141 = .ok (.iconst 3, 1) := by decide +kernel
theorem dL_law_1142 : decode cL_law 1142 = .ok (.iadd, 1) := by decide +kernel
theorem dL_law_1143 : decode cL_law 1143 = .ok (.iaload, 1) := by decide +kernel
theorem dL_law_1144 : decode cL_law 1144 = .ok (.aload_n 0, 1) := by decide +kernel
theorem dL_law_1145 : decode cL_law 1145 = .ok (.iload_n 3, 1) := by decide +kernel
theorem dL_law_1146 : decode cL_law 1146 = .ok (.iconst 4, 1) := by decide +kernel
theorem dL_law_1147 : decode cL_law 1147 = .ok (.iadd, 1) := by decide +kernel
theorem dL_law_1148 : decode cL_law 1148 = .ok (.iaload, 1) := by decide +kernel
theorem dL_law_1149 : decode cL_law 1149 = .ok (.aload_n 0, 1) := by decide +kernel
theorem dL_law_1150 : decode cL_law 1150 = .ok (.iload_n 3, 1) := by decide +kernel
theorem dL_law_1151 : decode cL_law 1151 = .ok (.iconst 5, 1) := by decide +kernel
theorem dL_law_1152 : decode cL_law 1152 = .ok (.iadd, 1) := by decide +kernel
theorem dL_law_1153 : decode cL_law 1153 = .ok (.iaload, 1) := by decide +kernel
theorem dL_law_1154 : decode cL_law 1154 = .ok (.invokevirtual 117, 3) := by decide +kernel
theorem dL_law_1157 : decode cL_law 1157 = .ok (.if_icmp .eq 159, 3) := by decide +kernel
theorem dL_law_1160 : decode cL_law 1160 = .ok (.iconst 0, 1) := by decide +kernel
theorem dL_law_1161 : decode cL_law 1161 = .ok (.ireturn, 1) := by decide +kernel
theorem dL_law_1162 : decode cL_law 1162 = .ok (.aload_n 1, 1) := by decide +kernel
theorem dL_law_1163 : decode cL_law 1163 = .ok (.aload_n 0, 1) := by decide +kernel
theorem dL_law_1164 : decode cL_law 1164 = .ok (.iload_n 3, 1) := by decide +kernel
theorem dL_law_1165 : decode cL_law 1165 = .ok (.iconst 1, 1) := by decide +kernel
theorem dL_law_1166 : decode cL_law 1166 = .ok (.iadd, 1) := by decide +kernel
theorem dL_law_1167 : decode cL_law 1167 = .ok (.iaload, 1) := by decide +kernel
theorem dL_law_1168 : decode cL_law 1168 = .ok (.aload_n 0, 1) := by decide +kernel
theorem dL_law_1169 : decode cL_law 1169 = .ok (.iload_n 3, 1) := by decide +kernel
theorem dL_law_1170 : decode cL_law 1170 = .ok (.iconst 2, 1) := by decide +kernel
theorem dL_law_1171 : decode cL_law 1171 = .ok (.iadd, 1) := by decide +kernel
theorem dL_law_1172 : decode cL_law 1172 = .ok (.iaload, 1) := by decide +kernel
theorem dL_law_1173 : decode cL_law 1173 = .ok (.invokevirtual 118, 3) := by decide +kernel
theorem dL_law_1176 : decode cL_law 1176 = .ok (.aload_n 2, 1) := by decide +kernel
theorem dL_law_1177 : decode cL_law 1177 = .ok (.aload_n 0, 1) := by decide +kernel
theorem dL_law_1178 : decode cL_law 1178 = .ok (.iload_n 3, 1) := by decide +kernel
theorem dL_law_1179 : decode cL_law 1179 = .ok (.iconst 1, 1) := by decide +kernel
theorem dL_law_1180 : decode cL_law 1180 = .ok (.iadd, 1) := by decide +kernel
theorem dL_law_1181 : decode cL_law 1181 = .ok (.iaload, 1) := by decide +kernel
theorem dL_law_1182 : decode cL_law 1182 = .ok (.aload_n 0, 1) := by decide +kernel
theorem dL_law_1183 : decode cL_law 1183 = .ok (.iload_n 3, 1) := by decide +kernel
theorem dL_law_1184 : decode cL_law 1184 = .ok (.iconst 2, 1) := by decide +kernel
theorem dL_law_1185 : decode cL_law 1185 = .ok (.iadd, 1) := by decide +kernel
theorem dL_law_1186 : decode cL_law 1186 = .ok (.iaload, 1) := by decide +kernel
theorem dL_law_1187 : decode cL_law 1187 = .ok (.invokevirtual 121, 3) := by decide +kernel
theorem dL_law_1190 : decode cL_law 1190 = .ok (.lcmp, 1) := by decide +kernel
theorem dL_law_1191 : decode cL_law 1191 = .ok (.ifCond .eq 125, 3) := by decide +kernel
theorem dL_law_1194 : decode cL_law 1194 = .ok (.iconst 0, 1) := by decide +kernel
theorem dL_law_1195 : decode cL_law 1195 = .ok (.ireturn, 1) := by decide +kernel
theorem dL_law_1196 : decode cL_law 1196 = .ok (.aload_n 1, 1) := by decide +kernel
theorem dL_law_1197 : decode cL_law 1197 = .ok (.aload_n 0, 1) := by decide +kernel
theorem dL_law_1198 : decode cL_law 1198 = .ok (.iload_n 3, 1) := by decide +kernel
theorem dL_law_1199 : decode cL_law 1199 = .ok (.iconst 1, 1) := by decide +kernel
theorem dL_law_1200 : decode cL_law 1200 = .ok (.iadd, 1) := by decide +kernel
theorem dL_law_1201 : decode cL_law 1201 = .ok (.iaload, 1) := by decide +kernel
theorem dL_law_1202 : decode cL_law 1202 = .ok (.aload_n 0, 1) := by decide +kernel
theorem dL_law_1203 : decode cL_law 1203 = .ok (.iload_n 3, 1) := by decide +kernel
theorem dL_law_1204 : decode cL_law 1204 = .ok (.iconst 2, 1) := by decide +kernel
theorem dL_law_1205 : decode cL_law 1205 = .ok (.iadd, 1) := by decide +kernel
theorem dL_law_1206 : decode cL_law 1206 = .ok (.iaload, 1) := by decide +kernel
theorem dL_law_1207 : decode cL_law 1207 = .ok (.invokevirtual 122, 3) := by decide +kernel
theorem dL_law_1210 : decode cL_law 1210 = .ok (.aload_n 2, 1) := by decide +kernel
theorem dL_law_1211 : decode cL_law 1211 = .ok (.aload_n 0, 1) := by decide +kernel
theorem dL_law_1212 : decode cL_law 1212 = .ok (.iload_n 3, 1) := by decide +kernel
theorem dL_law_1213 : decode cL_law 1213 = .ok (.iconst 1, 1) := by decide +kernel
theorem dL_law_1214 : decode cL_law 1214 = .ok (.iadd, 1) := by decide +kernel
theorem dL_law_1215 : decode cL_law 1215 = .ok (.iaload, 1) := by decide +kernel
theorem dL_law_1216 : decode cL_law 1216 = .ok (.aload_n 0, 1) := by decide +kernel
theorem dL_law_1217 : decode cL_law 1217 = .ok (.iload_n 3, 1) := by decide +kernel
theorem dL_law_1218 : decode cL_law 1218 = .ok (.iconst 2, 1) := by decide +kernel
theorem dL_law_1219 : decode cL_law 1219 = .ok (.iadd, 1) := by decide +kernel
theorem dL_law_1220 : decode cL_law 1220 = .ok (.iaload, 1) := by decide +kernel
theorem dL_law_1221 : decode cL_law 1221 = .ok (.invokevirtual 125, 3) := by decide +kernel
theorem dL_law_1224 : decode cL_law 1224 = .ok (.if_icmp .eq 92, 3) := by decide +kernel
theorem dL_law_1227 : decode cL_law 1227 = .ok (.iconst 0, 1) := by decide +kernel
theorem dL_law_1228 : decode cL_law 1228 = .ok (.ireturn, 1) := by decide +kernel
theorem dL_law_1229 : decode cL_law 1229 = .ok (.aload_n 1, 1) := by decide +kernel
theorem dL_law_1230 : decode cL_law 1230 = .ok (.aload_n 0, 1) := by decide +kernel
theorem dL_law_1231 : decode cL_law 1231 = .ok (.iload_n 3, 1) := by decide +kernel
theorem dL_law_1232 : decode cL_law 1232 = .ok (.iconst 1, 1) := by decide +kernel
theorem dL_law_1233 : decode cL_law 1233 = .ok (.iadd, 1) := by decide +kernel
theorem dL_law_1234 : decode cL_law 1234 = .ok (.iaload, 1) := by decide +kernel
theorem dL_law_1235 : decode cL_law 1235 = .ok (.aload_n 0, 1) := by decide +kernel
theorem dL_law_1236 : decode cL_law 1236 = .ok (.iload_n 3, 1) := by decide +kernel
theorem dL_law_1237 : decode cL_law 1237 = .ok (.iconst 2, 1) := by decide +kernel
theorem dL_law_1238 : decode cL_law 1238 = .ok (.iadd, 1) := by decide +kernel
theorem dL_law_1239 : decode cL_law 1239 = .ok (.iaload, 1) := by decide +kernel
theorem dL_law_1240 : decode cL_law 1240 = .ok (.aload_n 0, 1) := by decide +kernel
theorem dL_law_1241 : decode cL_law 1241 = .ok (.iload_n 3, 1) := by decide +kernel
theorem dL_law_1242 : decode cL_law 1242 = .ok (.iconst 3, 1) := by decide +kernel
theorem dL_law_1243 : decode cL_law 1243 = .ok (.iadd, 1) := by decide +kernel
theorem dL_law_1244 : decode cL_law 1244 = .ok (.iaload, 1) := by decide +kernel
theorem dL_law_1245 : decode cL_law 1245 = .ok (.aload_n 0, 1) := by decide +kernel
theorem dL_law_1246 : decode cL_law 1246 = .ok (.iload_n 3, 1) := by decide +kernel
theorem dL_law_1247 : decode cL_law 1247 = .ok (.iconst 4, 1) := by decide +kernel
theorem dL_law_1248 : decode cL_law 1248 = .ok (.iadd, 1) := by decide +kernel
theorem dL_law_1249 : decode cL_law 1249 = .ok (.iaload, 1) := by decide +kernel
theorem dL_law_1250 : decode cL_law 1250 = .ok (.aload_n 0, 1) := by decide +kernel
theorem dL_law_1251 : decode cL_law 1251 = .ok (.iload_n 3, 1) := by decide +kernel
theorem dL_law_1252 : decode cL_law 1252 = .ok (.iconst 5, 1) := by decide +kernel
theorem dL_law_1253 : decode cL_law 1253 = .ok (.iadd, 1) := by decide +kernel
theorem dL_law_1254 : decode cL_law 1254 = .ok (.iaload, 1) := by decide +kernel
theorem dL_law_1255 : decode cL_law 1255 = .ok (.invokevirtual 126, 3) := by decide +kernel
theorem dL_law_1258 : decode cL_law 1258 = .ok (.aload_n 2, 1) := by decide +kernel
theorem dL_law_1259 : decode cL_law 1259 = .ok (.aload_n 0, 1) := by decide +kernel
theorem dL_law_1260 : decode cL_law 1260 = .ok (.iload_n 3, 1) := by decide +kernel
theorem dL_law_1261 : decode cL_law 1261 = .ok (.iconst 1, 1) := by decide +kernel
theorem dL_law_1262 : decode cL_law 1262 = .ok (.iadd, 1) := by decide +kernel
theorem dL_law_1263 : decode cL_law 1263 = .ok (.iaload, 1) := by decide +kernel
theorem dL_law_1264 : decode cL_law 1264 = .ok (.aload_n 0, 1) := by decide +kernel
theorem dL_law_1265 : decode cL_law 1265 = .ok (.iload_n 3, 1) := by decide +kernel
theorem dL_law_1266 : decode cL_law 1266 = .ok (.iconst 2, 1) := by decide +kernel
theorem dL_law_1267 : decode cL_law 1267 = .ok (.iadd, 1) := by decide +kernel
theorem dL_law_1268 : decode cL_law 1268 = .ok (.iaload, 1) := by decide +kernel
theorem dL_law_1269 : decode cL_law 1269 = .ok (.aload_n 0, 1) := by decide +kernel
theorem dL_law_1270 : decode cL_law 1270 = .ok (.iload_n 3, 1) := by decide +kernel
theorem dL_law_1271 : decode cL_law 1271 = .ok (.iconst 3, 1) := by decide +kernel
theorem dL_law_1272 : decode cL_law 1272 = .ok (.iadd, 1) := by decide +kernel
theorem dL_law_1273 : decode cL_law 1273 = .ok (.iaload, 1) := by decide +kernel
theorem dL_law_1274 : decode cL_law 1274 = .ok (.aload_n 0, 1) := by decide +kernel
theorem dL_law_1275 : decode cL_law 1275 = .ok (.iload_n 3, 1) := by decide +kernel
theorem dL_law_1276 : decode cL_law 1276 = .ok (.iconst 4, 1) := by decide +kernel
theorem dL_law_1277 : decode cL_law 1277 = .ok (.iadd, 1) := by decide +kernel
theorem dL_law_1278 : decode cL_law 1278 = .ok (.iaload, 1) := by decide +kernel
theorem dL_law_1279 : decode cL_law 1279 = .ok (.aload_n 0, 1) := by decide +kernel
theorem dL_law_1280 : decode cL_law 1280 = .ok (.iload_n 3, 1) := by decide +kernel
theorem dL_law_1281 : decode cL_law 1281 = .ok (.iconst 5, 1) := by decide +kernel
theorem dL_law_1282 : decode cL_law 1282 = .ok (.iadd, 1) := by decide +kernel
theorem dL_law_1283 : decode cL_law 1283 = .ok (.iaload, 1) := by decide +kernel
theorem dL_law_1284 : decode cL_law 1284 = .ok (.invokevirtual 129, 3) := by decide +kernel
theorem dL_law_1287 : decode cL_law 1287 = .ok (.lcmp, 1) := by decide +kernel
theorem dL_law_1288 : decode cL_law 1288 = .ok (.ifCond .eq 28, 3) := by decide +kernel
theorem dL_law_1291 : decode cL_law 1291 = .ok (.iconst 0, 1) := by decide +kernel
theorem dL_law_1292 : decode cL_law 1292 = .ok (.ireturn, 1) := by decide +kernel
theorem dL_law_1293 : decode cL_law 1293 = .ok (.aload_n 1, 1) := by decide +kernel
theorem dL_law_1294 : decode cL_law 1294 = .ok (.aload_n 0, 1) := by decide +kernel
theorem dL_law_1295 : decode cL_law 1295 = .ok (.iload_n 3, 1) := by decide +kernel
theorem dL_law_1296 : decode cL_law 1296 = .ok (.iconst 1, 1) := by decide +kernel
theorem dL_law_1297 : decode cL_law 1297 = .ok (.iadd, 1) := by decide +kernel
theorem dL_law_1298 : decode cL_law 1298 = .ok (.iaload, 1) := by decide +kernel
theorem dL_law_1299 : decode cL_law 1299 = .ok (.invokevirtual 130, 3) := by decide +kernel
theorem dL_law_1302 : decode cL_law 1302 = .ok (.aload_n 2, 1) := by decide +kernel
theorem dL_law_1303 : decode cL_law 1303 = .ok (.aload_n 0, 1) := by decide +kernel
theorem dL_law_1304 : decode cL_law 1304 = .ok (.iload_n 3, 1) := by decide +kernel
theorem dL_law_1305 : decode cL_law 1305 = .ok (.iconst 1, 1) := by decide +kernel
theorem dL_law_1306 : decode cL_law 1306 = .ok (.iadd, 1) := by decide +kernel
theorem dL_law_1307 : decode cL_law 1307 = .ok (.iaload, 1) := by decide +kernel
theorem dL_law_1308 : decode cL_law 1308 = .ok (.invokevirtual 133, 3) := by decide +kernel
theorem dL_law_1311 : decode cL_law 1311 = .ok (.if_icmp .eq 5, 3) := by decide +kernel
theorem dL_law_1314 : decode cL_law 1314 = .ok (.iconst 0, 1) := by decide +kernel
theorem dL_law_1315 : decode cL_law 1315 = .ok (.ireturn, 1) := by decide +kernel
theorem dL_law_1316 : decode cL_law 1316 = .ok (.iinc 3 9, 3) := by decide +kernel
theorem dL_law_1319 : decode cL_law 1319 = .ok (.goto (-1301), 3) := by decide +kernel
theorem dL_law_1322 : decode cL_law 1322 = .ok (.iconst 1, 1) := by decide +kernel
theorem dL_law_1323 : decode cL_law 1323 = .ok (.ireturn, 1) := by decide +kernel
end
section
/-! The frame: the system's cells as a map from addresses; one judgement V for a walk over such a map; a row an instruction, a row a call. -/
abbrev Mem : Type := Nat → Option va_E
abbrev Gm : Type := va_G × (Nat → ClassId) × Nat × Nat × Nat
abbrev gD (g : Gm) : va_G := g.1
abbrev gC (g : Gm) : Nat → ClassId := g.2.1
abbrev gB (g : Gm) : Nat := g.2.2.1
abbrev gE (g : Gm) : Nat := g.2.2.2.1
abbrev gS (g : Gm) : Nat := g.2.2.2.2
/-- the classes of the arrays that the system makes -/
abbrev gT (g : Gm) : List (ClassId × FieldType) := [(gC g 0, .int), (gC g 1, .long), (gC g 2, .boolean), (gC g 3, .object RX5), (gC g 4, .object RX6), (gC g 5, .array .int)]
/-- the cells that may be written: those made since the law began -/
def gA (g : Gm) : Nat → Prop := fun q => gB g ≤ q
def east (k : Nat) : Int32 := if k = 1 ∨ k = 2 ∨ k = 3 then 1 else if k = 5 ∨ k = 6 ∨ k = 7 then -1 else 0
def south (k : Nat) : Int32 := if k = 3 ∨ k = 4 ∨ k = 5 then 1 else if k = 0 ∨ k = 1 ∨ k = 7 then -1 else 0
def eW (g : Gm) (U : State) : Prop := va_K (gD g) vwCl (gT g) U ∧ ∀ w ∈ tbl, ∀ a : Array Value, w.before a U = true
def hW (g : Gm) (M : Mem) (H : Heap) : Prop := gB g ≤ H.size ∧ ∀ (a : Nat) (e : va_E), M a = some e → gB g ≤ a ∧ va_at (gD g) vwCl (a, e) H
def sW (g : Gm) (U : State) (H : Heap) : Prop := (va_Z "PictureDesk" "EAST_STEP" "[I" (.ref (gE g)) (gA g) U H ∧ va_T .int (gE g) 8 (fun k => .int (east k)) (gA g) U H) ∧ va_Z "PictureDesk" "SOUTH_STEP" "[I" (.ref (gS g)) (gA g) U H ∧ va_T .int (gS g) 8 (fun k => .int (south k)) (gA g) U H
def mset (M : Mem) (a : Nat) (e : va_E) : Mem := fun b => if b = a then some e else M b
theorem mset_same (M : Mem) (a : Nat) (e : va_E) : mset M a e a = some e := if_pos rfl
theorem mset_ne {M : Mem} {a b : Nat} {e : va_E} (h : b ≠ a) : mset M a e b = M b := if_neg h
theorem mset_mset (M : Mem) (a : Nat) (e f : va_E) : mset (mset M a e) a f = mset M a f := by
  funext b
  by_cases h : b = a <;> simp [mset, h]
theorem mset_id {M : Mem} {a : Nat} {e : va_E} (h : M a = some e) : mset M a e = M := by
  funext b
  by_cases hb : b = a
  · subst hb; rw [mset_same, h]
  · rw [mset_ne hb]
def rmD (d mc ms : Nat) : Room := { frames := d, cells := mc, slots := ms, locals := 44 * d }
theorem aoI_spec {args : Array Value} {s : State} (h : (Cond.arrayOver (.array .int)).before args s = true) : ∃ comp c k, s.vm.findClass (FieldType.array .int).toString = some comp ∧ (s.vm.classes.findIdx? fun x => match x.kind with | .array component _ => component == comp | _ => false) = some c ∧ s.vm.classes[c]? = some k ∧ k.kind = .array comp (.array .int) ∧ s.vm.findClass ("[" ++ (FieldType.array .int).toString) = some c := by
  simp only [Cond.before, Cond.holds, Cond.value, beq_iff_eq] at h
  cases hc : s.vm.findClass (FieldType.array .int).toString with
  | none => simp [hc] at h
  | some comp =>
    simp only [hc, Option.bind_some, Option.bind_eq_some_iff, Option.map_eq_some_iff] at h
    obtain ⟨c, hi, k, hk, hb⟩ := h
    refine ⟨comp, c, k, rfl, hi, hk, ?_⟩
    cases hkk : k.kind with
    | array c2 ty =>
      rw [hkk] at hb
      have hb' : (decide (ty = FieldType.array .int) && decide (s.vm.findClass ("[" ++ (FieldType.array .int).toString) = some c)) = true := hb
      simp only [Bool.and_eq_true, decide_eq_true_eq] at hb'
      obtain ⟨rfl, h5⟩ := hb'
      have h6 := Array.findIdx?_eq_some_iff_getElem.mp hi
      obtain ⟨hlt, hp, -⟩ := h6
      have hke : s.vm.classes[c] = k := by
        have := Array.getElem?_eq_getElem hlt
        rw [this] at hk
        exact Option.some.inj hk
      rw [hke, hkk] at hp
      have : c2 = comp := by simpa using hp
      exact ⟨by rw [this], h5⟩
    | _ => rw [hkk] at hb; simp at hb
theorem aoI_moved {u U : State} (hvm : u.vm.Alike U.vm) {A B : Array Value} (h : (Cond.arrayOver (.array .int)).before A u = true) : (Cond.arrayOver (.array .int)).before B U = true := by
  obtain ⟨comp, c, k, h1, h2, h3, h4, h5⟩ := aoI_spec h
  obtain ⟨k', hk', he⟩ := hvm.2.2 _ _ h3
  have hi : (U.vm.classes.findIdx? fun (x : Class) => match x.kind with | .array component _ => component == comp | _ => false) = some c := by
    have e1 := va_idx_bare U.vm comp
    have e2 := va_idx_bare u.vm comp
    have e3 : u.vm.bare = U.vm.bare := by first | exact hvm.bare_eq | exact hvm.bare_eq.symm
    rw [e3] at e2
    exact e1.symm.trans (e2.trans h2)
  have hkind : k'.kind = .array comp (.array .int) := by rw [he]; exact h4
  have f1 : U.vm.findClass (FieldType.array .int).toString = some comp := by rw [hvm.findClass]; exact h1
  have f2 : U.vm.findClass ("[" ++ (FieldType.array .int).toString) = some c := by rw [hvm.findClass]; exact h5
  unfold Cond.before Cond.holds
  simp only [Cond.value]
  rw [f1, Option.bind_some]
  refine (congrArg (fun o : Option Nat => (o.bind (fun c => (U.vm.classes[c]?).map fun (k : Class) => match k.kind with | .array _ ty => decide (ty = FieldType.array .int) && decide (U.vm.findClass ("[" ++ (FieldType.array .int).toString) = some c) | _ => false)) == some true) hi).trans ?_
  simp [hk', hkind, f2]
theorem tb_warm {w : Cond} (h : okWord w = true) {s U : State} (hW : s.WarmedH U.vm) (hZ : ∀ a, w.before a s = true) : ∀ a, w.before a U = true := by
  intro a'
  by_cases h1 : (∃ a b c d, w = .methodLinkNest a b c d) ∨ (∃ a b c d e f, w = .fieldLinkNest a b c d e f) ∨ (∃ a, w = .arrayOver (.object a)) ∨ w = .arrayOver (.array .int)
  · rcases h1 with ⟨a, b, c, d, rfl⟩ | ⟨a, b, c, d, e, f, rfl⟩ | ⟨a, rfl⟩ | rfl
    · exact va_Nw.use rfl (va_Nw.warmM hW (hZ #[]))
    · exact va_Nw.use rfl (va_Nw.warmF hW (hZ #[]))
    · exact va_AO.use (va_AO.moved hW.alike (hZ #[]))
    · exact aoI_moved hW.alike (hZ #[])
  · have h2 : goodWord w = true := by
      unfold okWord at h
      split at h
      · exact absurd (Or.inl ⟨_, _, _, _, rfl⟩) h1
      · exact absurd (Or.inr (Or.inl ⟨_, _, _, _, _, _, rfl⟩)) h1
      · exact absurd (Or.inr (Or.inr (Or.inl ⟨_, rfl⟩))) h1
      · exact absurd (Or.inr (Or.inr (Or.inr rfl))) h1
      · exact h
    exact word_at hW (good_of_word h2) (hZ #[])
theorem eW.warm {g : Gm} {s U : State} (hw : s.WarmedH U.vm) (h : eW g s) : eW g U := ⟨va_K.moved hw.alike h.1, fun w hm => tb_warm (tb_ok hm) hw (h.2 w hm)⟩
theorem eW.same {g : Gm} {s U : State} (hv : s.vm = U.vm) (h : eW g s) : eW g U := h.warm (by rw [← hv]; exact State.WarmedH.refl s)
theorem eW.use {g : Gm} {s : State} (h : eW g s) (args : Array Value) : ∀ w ∈ tbl, w.before args s = true := fun w hm => h.2 w hm args
theorem sW.moved {g : Gm} {s U : State} {H : Heap} (hv : s.vm.Alike U.vm) (h : sW g s H) : sW g U H := ⟨⟨va_Z.moved hv h.1.1, va_T.moved hv h.1.2⟩, va_Z.moved hv h.2.1, va_T.moved hv h.2.2⟩
theorem sW.kept {g : Gm} {s : State} {H H1 : Heap} (h : sW g s H) (hq : ∀ a : Nat, a < H.size → ¬ gA g a → H1[a]? = H[a]?) : sW g s H1 := ⟨⟨va_Z.kept h.1.1 hq, va_T.kept h.1.2 hq⟩, va_Z.kept h.2.1 hq, va_T.kept h.2.2 hq⟩
theorem hW.set {g : Gm} {M : Mem} {H H1 : Heap} {a : Nat} {e0 e : va_E} (h : hW g M H) (h0 : M a = some e0) (e1 : va_at (gD g) vwCl (a, e) H1) (z : H1.size = H.size) (oq : ∀ q : Nat, q ≠ a → H1[q]? = H[q]?) : hW g (mset M a e) H1 := by
  refine ⟨by rw [z]; exact h.1, fun b f hb => ?_⟩
  by_cases hba : b = a
  · subst hba
    rw [mset_same] at hb
    cases hb
    exact ⟨(h.2 b e0 h0).1, e1⟩
  · rw [mset_ne hba] at hb
    exact ⟨(h.2 b f hb).1, (h.2 b f hb).2.kept (oq b hba)⟩
theorem hW.fresh {g : Gm} {M : Mem} {H : Heap} (h : hW g M H) {a : Nat} (ha : H.size ≤ a) : M a = none := by
  cases hm : M a with
  | none => rfl
  | some e =>
    have h1 := (h.2 a e hm).2.lt
    exact absurd h1 (Nat.not_lt.mpr ha)
theorem hW.push {g : Gm} {M : Mem} {H H1 : Heap} {e : va_E} (h : hW g M H) (e1 : va_at (gD g) vwCl (H.size, e) H1) (z : H1.size = H.size + 1) (oq : ∀ q : Nat, q < H.size → H1[q]? = H[q]?) : hW g (mset M H.size e) H1 := by
  refine ⟨by rw [z]; exact Nat.le_succ_of_le h.1, fun b f hb => ?_⟩
  by_cases hba : b = H.size
  · subst hba
    rw [mset_same] at hb
    cases hb
    exact ⟨h.1, e1⟩
  · rw [mset_ne hba] at hb
    exact ⟨(h.2 b f hb).1, (h.2 b f hb).2.kept (oq b (h.2 b f hb).2.lt)⟩
theorem hW.one {g : Gm} {M : Mem} {H : Heap} {a : Nat} {e : va_E} (h : hW g M H) (h0 : M a = some e) : va_P (gD g) vwCl [(a, e)] H := fun k q hk => by
  have hz : k < 1 := (List.getElem?_eq_some_iff.mp hk).1
  rw [show k = 0 by omega] at hk
  cases hk
  exact (h.2 a e h0).2
/-- what a contract says at its end -/
def qW (g : Gm) (post : Option Value → Mem → Prop) : Array Value → State → Outcome → State → Prop := fun _ st o t => ∃ (v : Option Value) (M' : Mem), o = .returned v ∧ post v M' ∧ hW g M' t.heap ∧ va_F (gA g) st t
/-- A CONTRACT: called with av over the cells M, the method y answers v and leaves the cells M', as post says; at most mc cells of ms slots are new; d frames stand above it -/
def Ct (l : Launch) (g : Gm) (y : MethodName) (cc : ByteArray) (nL : Nat) (ret : Option FieldType) (d mc ms : Nat) (av : List Value) (M : Mem) (post : Option Value → Mem → Prop) : Prop :=
  Met l y [.code y cc nL ret] (rmD d mc ms) (va_Pc av (fun U => eW g U ∧ hW g M U.heap ∧ sW g U U.heap)) (qW g post) mc ms (gA g)
abbrev FC : Type := Program × Launch × Env × State × MethodId × Array Value × List Frame × Method × Code × (State → Prop) × Gm × Nat
abbrev xl (X : FC) : Launch := X.2.1
abbrev xg (X : FC) : Gm := X.2.2.2.2.2.2.2.2.2.2.1
abbrev xn (X : FC) : Nat := X.2.2.2.2.2.2.2.2.2.2.2
/-- what holds all along a walk of y's code cc, in the room R -/
def Bx (X : FC) (y : MethodName) (cc : ByteArray) : Prop := match X with
  | (p, _, _, s, m, _, _, _, c, _, g, nL) => p.tables.exec = Jvm.exec ∧ c.code = cc ∧ c.maxLocals = nL ∧ s.vm.findClass y.cls = some m.cls ∧ eW g s ∧ sW g s s.heap ∧ gB g ≤ s.heap.size
/-- what holds for a walk that is to end by a return -/
def Rx (X : FC) (y : MethodName) (ret : Option FieldType) (mc ms : Nat) (post : Option Value → Mem → Prop) : Prop := match X with
  | (_, _, _, s, _, args, below, meth, _, Q, g, _) => meth.sig.returnType = ret ∧ meth.locks = false ∧ meth.name = y.name ∧ Q = MQ below (qW g post) args s mc ms (gA g)
/-- THE WALK: at pc, with the locals lv and the operands st, over the cells M, k cells of n slots made so far -/
def V (X : FC) (R : Room) (M : Mem) (k n : Nat) (lv : List (Nat × Value)) (pc : Nat) (st : List Value) : Prop := match X with
  | (p, l, e, s, m, args, below, meth, c, Q, g, nL) => ∀ (H : Heap) (locs : List Loc) (ls : Array Slot), hW g M H → va_S (gA g) s.heap H locs → lv_has ls nL lv → W p l e R s m args below meth c H locs k n Q (F0 m pc ls st)
theorem Ct.of {l : Launch} {g : Gm} {y : MethodName} {cc : ByteArray} {nL : Nat} {ret : Option FieldType} {d mc ms : Nat} {av : List Value} {M : Mem} {post : Option Value → Mem → Prop} (hy : plainName y.cls = true) (hlen : (lg_sl av).length ≤ nL)
    (body : ∀ X : FC, xl X = l → xg X = g → xn X = nL → Bx X y cc → Rx X y ret mc ms post → V X (rmD d mc ms) M 0 0 (lv_args 0 av) 0 []) : Ct l g y cc nL ret d mc ms av M post := by
  refine Met.ofW (cc := cc) (maxL := nL) (ret := ret) hy rfl ?_
  intro p e s m args below meth c s₁ B hml hv
  obtain ⟨rfl, hE, hH, hZ⟩ := hv
  have hown : s.vm.findClass y.cls = some m.cls := findClass_of_methodNamed B.named
  have hl := lv_entry av (n := nL) hlen
  rw [lg_entry_eq]
  generalize (lg_sl av ++ List.replicate (nL - (lg_sl av).length) Slot.unset).toArray = ls at hl ⊢
  exact body (p, l, e, s, m, av.toArray, below, meth, c, MQ below (qW g post) av.toArray s mc ms (gA g), g, nL) rfl rfl rfl ⟨B.exec, B.bytes, hml, hown, hE, hZ, hH.1⟩ ⟨B.returns, B.notSynchronized, (name_of_methodNamed B.named B.method).1, rfl⟩ s.heap [] ls hH va_S.rf hl
def bI (b : Bool) : Int32 := if b then 1 else 0
theorem bI_t : bI true = 1 := rfl
theorem bI_f : bI false = 0 := rfl
theorem bI_01 (b : Bool) : bI b = 0 ∨ bI b = 1 := by cases b <;> simp [bI]
theorem bI_eq0 (b : Bool) : bI b = 0 ↔ b = false := by cases b <;> decide
theorem narrow_b01 {v : Int32} (h : v = 0 ∨ v = 1) : narrow .boolean (.int v) = .int v := by rcases h with rfl | rfl <;> decide +kernel
end
section
/-! Rows of V: one an instruction. C: what holds along the walk; the decode row; the goal behind the instruction. -/
section VRows
variable {X : FC} {y : MethodName} {cc : ByteArray} {R : Room} {M : Mem} {k n : Nat} {lv lv' : List (Nat × Value)} {pc tgt : Nat} {rest : List Value}
/-- the locals' value at a place -/
def lvg (lv : List (Nat × Value)) (i : Nat) : Option Value := (lv.find? (fun q => q.1 == i)).map (·.2)
theorem lvg_has {ls : Array Slot} {nL : Nat} {lv : List (Nat × Value)} {i : Nat} {v : Value} (h : lv_has ls nL lv) (hv : lvg lv i = some v) : ls[i]? = some (.val v) := by
  unfold lvg at hv
  rw [Option.map_eq_some_iff] at hv
  obtain ⟨q, hq, rfl⟩ := hv
  have h1 := List.find?_some hq
  have h2 : q.1 = i := by simpa using h1
  rw [← h2]
  exact h.2.2 q (List.mem_of_find?_eq_some hq)
theorem v_iconst (C : Bx X y cc) {z : Int} {v : Int32} (hd : decode cc pc = .ok (.iconst z, 1)) (hv : Int32.ofInt z = v) (kk : V X R M k n lv (pc + 1) (.int v :: rest)) : V X R M k n lv pc (rest) := by
  obtain ⟨p, l, e, s, m, args, below, meth, c, Q, g, nL⟩ := X
  obtain ⟨hx, hb, hml, hown, hE, hZ, hB⟩ := C
  intro H locs ls h1 h2 h3
  exact lv_iconst hx hb hd hv (kk H locs ls h1 h2 h3)
theorem v_bipush (C : Bx X y cc) {z : Int} {v : Int32} (hd : decode cc pc = .ok (.bipush z, 2)) (hv : (Int8.ofInt z).toInt32 = v) (kk : V X R M k n lv (pc + 2) (.int v :: rest)) : V X R M k n lv pc (rest) := by
  obtain ⟨p, l, e, s, m, args, below, meth, c, Q, g, nL⟩ := X
  obtain ⟨hx, hb, hml, hown, hE, hZ, hB⟩ := C
  intro H locs ls h1 h2 h3
  exact lv_bipush hx hb hd hv (kk H locs ls h1 h2 h3)
theorem v_sipush (C : Bx X y cc) {z : Int} {v : Int32} (hd : decode cc pc = .ok (.sipush z, 3)) (hv : (Int16.ofInt z).toInt32 = v) (kk : V X R M k n lv (pc + 3) (.int v :: rest)) : V X R M k n lv pc (rest) := by
  obtain ⟨p, l, e, s, m, args, below, meth, c, Q, g, nL⟩ := X
  obtain ⟨hx, hb, hml, hown, hE, hZ, hB⟩ := C
  intro H locs ls h1 h2 h3
  exact lv_sipush hx hb hd hv (kk H locs ls h1 h2 h3)
theorem v_lconst (C : Bx X y cc) {z : Fin 2} {v : Int64} (hd : decode cc pc = .ok (.lconst z, 1)) (hv : Int64.ofNat (z : Nat) = v) (kk : V X R M k n lv (pc + 1) (.long v :: rest)) : V X R M k n lv pc (rest) := by
  obtain ⟨p, l, e, s, m, args, below, meth, c, Q, g, nL⟩ := X
  obtain ⟨hx, hb, hml, hown, hE, hZ, hB⟩ := C
  intro H locs ls h1 h2 h3
  exact lv_lconst hx hb hd hv (kk H locs ls h1 h2 h3)
theorem v_null (C : Bx X y cc)  (hd : decode cc pc = .ok (.aconst_null, 1)) (kk : V X R M k n lv (pc + 1) (.null :: rest)) : V X R M k n lv pc (rest) := by
  obtain ⟨p, l, e, s, m, args, below, meth, c, Q, g, nL⟩ := X
  obtain ⟨hx, hb, hml, hown, hE, hZ, hB⟩ := C
  intro H locs ls h1 h2 h3
  exact lv_null hx hb hd (kk H locs ls h1 h2 h3)
theorem v_ldc2 (C : Bx X y cc) {ix : Nat} {v : Int64} (hd : decode cc pc = .ok (.ldc2_w ix, 3)) (hw : Cond.constantLong y.cls ix v ∈ tbl) (kk : V X R M k n lv (pc + 3) (.long v :: rest)) : V X R M k n lv pc (rest) := by
  obtain ⟨p, l, e, s, m, args, below, meth, c, Q, g, nL⟩ := X
  obtain ⟨hx, hb, hml, hown, hE, hZ, hB⟩ := C
  intro H locs ls h1 h2 h3
  exact lv_ldc2 hx hb hown (hE.use args _ hw) hd (kk H locs ls h1 h2 h3)
theorem v_iload_n (C : Bx X y cc) {i : Fin 4} {x : Int32} (hd : decode cc pc = .ok (.iload_n i, 1)) (hg : lvg lv (i : Nat) = some (.int x)) (kk : V X R M k n lv (pc + 1) (.int x :: rest)) : V X R M k n lv pc (rest) := by
  obtain ⟨p, l, e, s, m, args, below, meth, c, Q, g, nL⟩ := X
  obtain ⟨hx, hb, hml, hown, hE, hZ, hB⟩ := C
  intro H locs ls h1 h2 h3
  exact lv_iload_n hx hb hd rfl (lvg_has h3 hg) (kk H locs ls h1 h2 h3)
theorem v_iload (C : Bx X y cc) {i : Nat} {x : Int32} (hd : decode cc pc = .ok (.iload i, 2)) (hg : lvg lv i = some (.int x)) (kk : V X R M k n lv (pc + 2) (.int x :: rest)) : V X R M k n lv pc (rest) := by
  obtain ⟨p, l, e, s, m, args, below, meth, c, Q, g, nL⟩ := X
  obtain ⟨hx, hb, hml, hown, hE, hZ, hB⟩ := C
  intro H locs ls h1 h2 h3
  exact lv_iload hx hb hd (lvg_has h3 hg) (kk H locs ls h1 h2 h3)
theorem v_lload_n (C : Bx X y cc) {i : Fin 4} {x : Int64} (hd : decode cc pc = .ok (.lload_n i, 1)) (hg : lvg lv (i : Nat) = some (.long x)) (kk : V X R M k n lv (pc + 1) (.long x :: rest)) : V X R M k n lv pc (rest) := by
  obtain ⟨p, l, e, s, m, args, below, meth, c, Q, g, nL⟩ := X
  obtain ⟨hx, hb, hml, hown, hE, hZ, hB⟩ := C
  intro H locs ls h1 h2 h3
  exact lv_lload_n hx hb hd rfl (lvg_has h3 hg) (kk H locs ls h1 h2 h3)
theorem v_lload (C : Bx X y cc) {i : Nat} {x : Int64} (hd : decode cc pc = .ok (.lload i, 2)) (hg : lvg lv i = some (.long x)) (kk : V X R M k n lv (pc + 2) (.long x :: rest)) : V X R M k n lv pc (rest) := by
  obtain ⟨p, l, e, s, m, args, below, meth, c, Q, g, nL⟩ := X
  obtain ⟨hx, hb, hml, hown, hE, hZ, hB⟩ := C
  intro H locs ls h1 h2 h3
  exact lv_lload hx hb hd (lvg_has h3 hg) (kk H locs ls h1 h2 h3)
theorem v_aload_n (C : Bx X y cc) {i : Fin 4} {x : Nat} (hd : decode cc pc = .ok (.aload_n i, 1)) (hg : lvg lv (i : Nat) = some (.ref x)) (kk : V X R M k n lv (pc + 1) (.ref x :: rest)) : V X R M k n lv pc (rest) := by
  obtain ⟨p, l, e, s, m, args, below, meth, c, Q, g, nL⟩ := X
  obtain ⟨hx, hb, hml, hown, hE, hZ, hB⟩ := C
  intro H locs ls h1 h2 h3
  exact lv_aload_n hx hb hd rfl (lvg_has h3 hg) (kk H locs ls h1 h2 h3)
theorem v_aload (C : Bx X y cc) {i : Nat} {x : Nat} (hd : decode cc pc = .ok (.aload i, 2)) (hg : lvg lv i = some (.ref x)) (kk : V X R M k n lv (pc + 2) (.ref x :: rest)) : V X R M k n lv pc (rest) := by
  obtain ⟨p, l, e, s, m, args, below, meth, c, Q, g, nL⟩ := X
  obtain ⟨hx, hb, hml, hown, hE, hZ, hB⟩ := C
  intro H locs ls h1 h2 h3
  exact lv_aload hx hb hd (lvg_has h3 hg) (kk H locs ls h1 h2 h3)
theorem v_aload_nN (C : Bx X y cc) {i : Fin 4} (hd : decode cc pc = .ok (.aload_n i, 1)) (hg : lvg lv (i : Nat) = some .null) (kk : V X R M k n lv (pc + 1) (.null :: rest)) : V X R M k n lv pc (rest) := by
  obtain ⟨p, l, e, s, m, args, below, meth, c, Q, g, nL⟩ := X
  obtain ⟨hx, hb, hml, hown, hE, hZ, hB⟩ := C
  intro H locs ls h1 h2 h3
  exact lv_aload_nN hx hb hd rfl (lvg_has h3 hg) (kk H locs ls h1 h2 h3)
theorem v_aloadN (C : Bx X y cc) {i : Nat} (hd : decode cc pc = .ok (.aload i, 2)) (hg : lvg lv i = some .null) (kk : V X R M k n lv (pc + 2) (.null :: rest)) : V X R M k n lv pc (rest) := by
  obtain ⟨p, l, e, s, m, args, below, meth, c, Q, g, nL⟩ := X
  obtain ⟨hx, hb, hml, hown, hE, hZ, hB⟩ := C
  intro H locs ls h1 h2 h3
  exact lv_aloadN hx hb hd (lvg_has h3 hg) (kk H locs ls h1 h2 h3)
theorem v_istore_n (C : Bx X y cc) {i : Fin 4} {x : Int32} (hd : decode cc pc = .ok (.istore_n i, 1)) {nl0 : Nat} (hN : xn X = nl0) (hn : (i : Nat) < nl0) (hl : ((i : Nat), Value.int x) :: lv.filter (fun q => !(q.1 == (i : Nat)) && !(q.1 + 1 == (i : Nat) && q.2.category == 2)) = lv') (kk : V X R M k n lv' (pc + 1) (rest)) : V X R M k n lv pc (.int x :: rest) := by
  obtain ⟨p, l, e, s, m, args, below, meth, c, Q, g, nL⟩ := X
  obtain ⟨hx, hb, hml, hown, hE, hZ, hB⟩ := C
  intro H locs ls h1 h2 h3
  exact lv_istore_n hx hb hd rfl h3 (Nat.lt_of_lt_of_eq hn (Eq.symm hN)) hl (fun ls' h' => kk H locs ls' h1 h2 h')
theorem v_istore (C : Bx X y cc) {i : Nat} {x : Int32} (hd : decode cc pc = .ok (.istore i, 2)) {nl0 : Nat} (hN : xn X = nl0) (hn : i < nl0) (hl : (i, Value.int x) :: lv.filter (fun q => !(q.1 == i) && !(q.1 + 1 == i && q.2.category == 2)) = lv') (kk : V X R M k n lv' (pc + 2) (rest)) : V X R M k n lv pc (.int x :: rest) := by
  obtain ⟨p, l, e, s, m, args, below, meth, c, Q, g, nL⟩ := X
  obtain ⟨hx, hb, hml, hown, hE, hZ, hB⟩ := C
  intro H locs ls h1 h2 h3
  exact lv_istore hx hb hd h3 (Nat.lt_of_lt_of_eq hn (Eq.symm hN)) hl (fun ls' h' => kk H locs ls' h1 h2 h')
theorem v_astore_n (C : Bx X y cc) {i : Fin 4} {x : Nat} (hd : decode cc pc = .ok (.astore_n i, 1)) {nl0 : Nat} (hN : xn X = nl0) (hn : (i : Nat) < nl0) (hl : ((i : Nat), Value.ref x) :: lv.filter (fun q => !(q.1 == (i : Nat)) && !(q.1 + 1 == (i : Nat) && q.2.category == 2)) = lv') (kk : V X R M k n lv' (pc + 1) (rest)) : V X R M k n lv pc (.ref x :: rest) := by
  obtain ⟨p, l, e, s, m, args, below, meth, c, Q, g, nL⟩ := X
  obtain ⟨hx, hb, hml, hown, hE, hZ, hB⟩ := C
  intro H locs ls h1 h2 h3
  exact lv_astore_n hx hb hd rfl h3 (Nat.lt_of_lt_of_eq hn (Eq.symm hN)) hl (fun ls' h' => kk H locs ls' h1 h2 h')
theorem v_astore (C : Bx X y cc) {i : Nat} {x : Nat} (hd : decode cc pc = .ok (.astore i, 2)) {nl0 : Nat} (hN : xn X = nl0) (hn : i < nl0) (hl : (i, Value.ref x) :: lv.filter (fun q => !(q.1 == i) && !(q.1 + 1 == i && q.2.category == 2)) = lv') (kk : V X R M k n lv' (pc + 2) (rest)) : V X R M k n lv pc (.ref x :: rest) := by
  obtain ⟨p, l, e, s, m, args, below, meth, c, Q, g, nL⟩ := X
  obtain ⟨hx, hb, hml, hown, hE, hZ, hB⟩ := C
  intro H locs ls h1 h2 h3
  exact lv_astore hx hb hd h3 (Nat.lt_of_lt_of_eq hn (Eq.symm hN)) hl (fun ls' h' => kk H locs ls' h1 h2 h')
theorem v_lstore_n (C : Bx X y cc) {i : Fin 4} {x : Int64} (hd : decode cc pc = .ok (.lstore_n i, 1)) {nl0 : Nat} (hN : xn X = nl0) (hn : (i : Nat) + 1 < nl0) (hl : ((i : Nat), Value.long x) :: lv.filter (fun q => !(q.1 == (i : Nat)) && (!(q.1 == (i : Nat) + 1) && !(q.1 + 1 == (i : Nat) && q.2.category == 2))) = lv') (kk : V X R M k n lv' (pc + 1) (rest)) : V X R M k n lv pc (.long x :: rest) := by
  obtain ⟨p, l, e, s, m, args, below, meth, c, Q, g, nL⟩ := X
  obtain ⟨hx, hb, hml, hown, hE, hZ, hB⟩ := C
  intro H locs ls h1 h2 h3
  exact lv_lstore_n hx hb hd rfl h3 (Nat.lt_of_lt_of_eq hn (Eq.symm hN)) hl (fun ls' h' => kk H locs ls' h1 h2 h')
theorem v_lstore (C : Bx X y cc) {i : Nat} {x : Int64} (hd : decode cc pc = .ok (.lstore i, 2)) {nl0 : Nat} (hN : xn X = nl0) (hn : i + 1 < nl0) (hl : (i, Value.long x) :: lv.filter (fun q => !(q.1 == i) && (!(q.1 == i + 1) && !(q.1 + 1 == i && q.2.category == 2))) = lv') (kk : V X R M k n lv' (pc + 2) (rest)) : V X R M k n lv pc (.long x :: rest) := by
  obtain ⟨p, l, e, s, m, args, below, meth, c, Q, g, nL⟩ := X
  obtain ⟨hx, hb, hml, hown, hE, hZ, hB⟩ := C
  intro H locs ls h1 h2 h3
  exact lv_lstore hx hb hd h3 (Nat.lt_of_lt_of_eq hn (Eq.symm hN)) hl (fun ls' h' => kk H locs ls' h1 h2 h')
theorem v_astore_nN (C : Bx X y cc) {i : Fin 4} (hd : decode cc pc = .ok (.astore_n i, 1)) {nl0 : Nat} (hN : xn X = nl0) (hn : (i : Nat) < nl0) (hl : ((i : Nat), Value.null) :: lv.filter (fun q => !(q.1 == (i : Nat)) && !(q.1 + 1 == (i : Nat) && q.2.category == 2)) = lv') (kk : V X R M k n lv' (pc + 1) (rest)) : V X R M k n lv pc (.null :: rest) := by
  obtain ⟨p, l, e, s, m, args, below, meth, c, Q, g, nL⟩ := X
  obtain ⟨hx, hb, hml, hown, hE, hZ, hB⟩ := C
  intro H locs ls h1 h2 h3
  exact lv_astore_nN hx hb hd rfl h3 (Nat.lt_of_lt_of_eq hn (Eq.symm hN)) hl (fun ls' h' => kk H locs ls' h1 h2 h')
theorem v_astoreN (C : Bx X y cc) {i : Nat} (hd : decode cc pc = .ok (.astore i, 2)) {nl0 : Nat} (hN : xn X = nl0) (hn : i < nl0) (hl : (i, Value.null) :: lv.filter (fun q => !(q.1 == i) && !(q.1 + 1 == i && q.2.category == 2)) = lv') (kk : V X R M k n lv' (pc + 2) (rest)) : V X R M k n lv pc (.null :: rest) := by
  obtain ⟨p, l, e, s, m, args, below, meth, c, Q, g, nL⟩ := X
  obtain ⟨hx, hb, hml, hown, hE, hZ, hB⟩ := C
  intro H locs ls h1 h2 h3
  exact lv_astoreN hx hb hd h3 (Nat.lt_of_lt_of_eq hn (Eq.symm hN)) hl (fun ls' h' => kk H locs ls' h1 h2 h')
theorem v_iinc (C : Bx X y cc) {i : Nat} {z : Int} {x v : Int32} (hd : decode cc pc = .ok (.iinc i z, 3)) (j : Nat) (hg : lv[j]? = some (i, .int x)) (hv : x + Int32.ofInt z = v) {nl0 : Nat} (hN : xn X = nl0) (hn : i < nl0) (hl : (i, Value.int v) :: lv.filter (fun q => !(q.1 == i) && !(q.1 + 1 == i && q.2.category == 2)) = lv') (kk : V X R M k n lv' (pc + 3) rest) : V X R M k n lv pc rest := by
  obtain ⟨p, l, e, s, m, args, below, meth, c, Q, g, nL⟩ := X
  obtain ⟨hx, hb, hml, hown, hE, hZ, hB⟩ := C
  intro H locs ls h1 h2 h3
  exact lv_iinc hx hb hd h3 hg hv (Nat.lt_of_lt_of_eq hn (Eq.symm hN)) hl (fun ls' h' => kk H locs ls' h1 h2 h')
theorem v_iadd (C : Bx X y cc) {a b : Int32} (hd : decode cc pc = .ok (.iadd, 1)) (kk : V X R M k n lv (pc + 1) (.int (a + b) :: rest)) : V X R M k n lv pc (.int b :: .int a :: rest) := by
  obtain ⟨p, l, e, s, m, args, below, meth, c, Q, g, nL⟩ := X
  obtain ⟨hx, hb, hml, hown, hE, hZ, hB⟩ := C
  intro H locs ls h1 h2 h3
  exact lv_iadd hx hb hd (kk H locs ls h1 h2 h3)
theorem v_isub (C : Bx X y cc) {a b : Int32} (hd : decode cc pc = .ok (.isub, 1)) (kk : V X R M k n lv (pc + 1) (.int (a - b) :: rest)) : V X R M k n lv pc (.int b :: .int a :: rest) := by
  obtain ⟨p, l, e, s, m, args, below, meth, c, Q, g, nL⟩ := X
  obtain ⟨hx, hb, hml, hown, hE, hZ, hB⟩ := C
  intro H locs ls h1 h2 h3
  exact lv_isub hx hb hd (kk H locs ls h1 h2 h3)
theorem v_imul (C : Bx X y cc) {a b : Int32} (hd : decode cc pc = .ok (.imul, 1)) (kk : V X R M k n lv (pc + 1) (.int (a * b) :: rest)) : V X R M k n lv pc (.int b :: .int a :: rest) := by
  obtain ⟨p, l, e, s, m, args, below, meth, c, Q, g, nL⟩ := X
  obtain ⟨hx, hb, hml, hown, hE, hZ, hB⟩ := C
  intro H locs ls h1 h2 h3
  exact lv_imul hx hb hd (kk H locs ls h1 h2 h3)
theorem v_iand (C : Bx X y cc) {a b : Int32} (hd : decode cc pc = .ok (.iand, 1)) (kk : V X R M k n lv (pc + 1) (.int (a &&& b) :: rest)) : V X R M k n lv pc (.int b :: .int a :: rest) := by
  obtain ⟨p, l, e, s, m, args, below, meth, c, Q, g, nL⟩ := X
  obtain ⟨hx, hb, hml, hown, hE, hZ, hB⟩ := C
  intro H locs ls h1 h2 h3
  exact lv_iand hx hb hd (kk H locs ls h1 h2 h3)
theorem v_ior (C : Bx X y cc) {a b : Int32} (hd : decode cc pc = .ok (.ior, 1)) (kk : V X R M k n lv (pc + 1) (.int (a ||| b) :: rest)) : V X R M k n lv pc (.int b :: .int a :: rest) := by
  obtain ⟨p, l, e, s, m, args, below, meth, c, Q, g, nL⟩ := X
  obtain ⟨hx, hb, hml, hown, hE, hZ, hB⟩ := C
  intro H locs ls h1 h2 h3
  exact lv_ior hx hb hd (kk H locs ls h1 h2 h3)
theorem v_ishl (C : Bx X y cc) {a b : Int32} (hd : decode cc pc = .ok (.ishl, 1)) (kk : V X R M k n lv (pc + 1) (.int (a <<< (b &&& 31)) :: rest)) : V X R M k n lv pc (.int b :: .int a :: rest) := by
  obtain ⟨p, l, e, s, m, args, below, meth, c, Q, g, nL⟩ := X
  obtain ⟨hx, hb, hml, hown, hE, hZ, hB⟩ := C
  intro H locs ls h1 h2 h3
  exact lv_ishl hx hb hd (kk H locs ls h1 h2 h3)
theorem v_ishr (C : Bx X y cc) {a b : Int32} (hd : decode cc pc = .ok (.ishr, 1)) (kk : V X R M k n lv (pc + 1) (.int (a >>> (b &&& 31)) :: rest)) : V X R M k n lv pc (.int b :: .int a :: rest) := by
  obtain ⟨p, l, e, s, m, args, below, meth, c, Q, g, nL⟩ := X
  obtain ⟨hx, hb, hml, hown, hE, hZ, hB⟩ := C
  intro H locs ls h1 h2 h3
  exact lv_ishr hx hb hd (kk H locs ls h1 h2 h3)
theorem v_ladd (C : Bx X y cc) {a b : Int64} (hd : decode cc pc = .ok (.ladd, 1)) (kk : V X R M k n lv (pc + 1) (.long (a + b) :: rest)) : V X R M k n lv pc (.long b :: .long a :: rest) := by
  obtain ⟨p, l, e, s, m, args, below, meth, c, Q, g, nL⟩ := X
  obtain ⟨hx, hb, hml, hown, hE, hZ, hB⟩ := C
  intro H locs ls h1 h2 h3
  exact lv_ladd hx hb hd (kk H locs ls h1 h2 h3)
theorem v_lsub (C : Bx X y cc) {a b : Int64} (hd : decode cc pc = .ok (.lsub, 1)) (kk : V X R M k n lv (pc + 1) (.long (a - b) :: rest)) : V X R M k n lv pc (.long b :: .long a :: rest) := by
  obtain ⟨p, l, e, s, m, args, below, meth, c, Q, g, nL⟩ := X
  obtain ⟨hx, hb, hml, hown, hE, hZ, hB⟩ := C
  intro H locs ls h1 h2 h3
  exact lv_lsub hx hb hd (kk H locs ls h1 h2 h3)
theorem v_lmul (C : Bx X y cc) {a b : Int64} (hd : decode cc pc = .ok (.lmul, 1)) (kk : V X R M k n lv (pc + 1) (.long (a * b) :: rest)) : V X R M k n lv pc (.long b :: .long a :: rest) := by
  obtain ⟨p, l, e, s, m, args, below, meth, c, Q, g, nL⟩ := X
  obtain ⟨hx, hb, hml, hown, hE, hZ, hB⟩ := C
  intro H locs ls h1 h2 h3
  exact lv_lmul hx hb hd (kk H locs ls h1 h2 h3)
theorem v_land (C : Bx X y cc) {a b : Int64} (hd : decode cc pc = .ok (.land, 1)) (kk : V X R M k n lv (pc + 1) (.long (a &&& b) :: rest)) : V X R M k n lv pc (.long b :: .long a :: rest) := by
  obtain ⟨p, l, e, s, m, args, below, meth, c, Q, g, nL⟩ := X
  obtain ⟨hx, hb, hml, hown, hE, hZ, hB⟩ := C
  intro H locs ls h1 h2 h3
  exact lv_land hx hb hd (kk H locs ls h1 h2 h3)
theorem v_lxor (C : Bx X y cc) {a b : Int64} (hd : decode cc pc = .ok (.lxor, 1)) (kk : V X R M k n lv (pc + 1) (.long (a ^^^ b) :: rest)) : V X R M k n lv pc (.long b :: .long a :: rest) := by
  obtain ⟨p, l, e, s, m, args, below, meth, c, Q, g, nL⟩ := X
  obtain ⟨hx, hb, hml, hown, hE, hZ, hB⟩ := C
  intro H locs ls h1 h2 h3
  exact lv_lxor hx hb hd (kk H locs ls h1 h2 h3)
theorem v_ineg (C : Bx X y cc) {a : Int32} (hd : decode cc pc = .ok (.ineg, 1)) (kk : V X R M k n lv (pc + 1) (.int (-a) :: rest)) : V X R M k n lv pc (.int a :: rest) := by
  obtain ⟨p, l, e, s, m, args, below, meth, c, Q, g, nL⟩ := X
  obtain ⟨hx, hb, hml, hown, hE, hZ, hB⟩ := C
  intro H locs ls h1 h2 h3
  exact lv_ineg hx hb hd (kk H locs ls h1 h2 h3)
theorem v_idiv (C : Bx X y cc) {a b : Int32} (hd : decode cc pc = .ok (.idiv, 1)) (hz : ¬ b = 0) (kk : V X R M k n lv (pc + 1) (.int (a / b) :: rest)) : V X R M k n lv pc (.int b :: .int a :: rest) := by
  obtain ⟨p, l, e, s, m, args, below, meth, c, Q, g, nL⟩ := X
  obtain ⟨hx, hb, hml, hown, hE, hZ, hB⟩ := C
  intro H locs ls h1 h2 h3
  exact lv_idiv hx hb hd hz (kk H locs ls h1 h2 h3)
theorem v_irem (C : Bx X y cc) {a b : Int32} (hd : decode cc pc = .ok (.irem, 1)) (hz : ¬ b = 0) (kk : V X R M k n lv (pc + 1) (.int (a - a / b * b) :: rest)) : V X R M k n lv pc (.int b :: .int a :: rest) := by
  obtain ⟨p, l, e, s, m, args, below, meth, c, Q, g, nL⟩ := X
  obtain ⟨hx, hb, hml, hown, hE, hZ, hB⟩ := C
  intro H locs ls h1 h2 h3
  exact lv_irem hx hb hd hz (kk H locs ls h1 h2 h3)
theorem v_ldiv (C : Bx X y cc) {a b : Int64} (hd : decode cc pc = .ok (.ldiv, 1)) (hz : ¬ b = 0) (kk : V X R M k n lv (pc + 1) (.long (a / b) :: rest)) : V X R M k n lv pc (.long b :: .long a :: rest) := by
  obtain ⟨p, l, e, s, m, args, below, meth, c, Q, g, nL⟩ := X
  obtain ⟨hx, hb, hml, hown, hE, hZ, hB⟩ := C
  intro H locs ls h1 h2 h3
  exact lv_ldiv hx hb hd hz (kk H locs ls h1 h2 h3)
theorem v_lrem (C : Bx X y cc) {a b : Int64} (hd : decode cc pc = .ok (.lrem, 1)) (hz : ¬ b = 0) (kk : V X R M k n lv (pc + 1) (.long (a - a / b * b) :: rest)) : V X R M k n lv pc (.long b :: .long a :: rest) := by
  obtain ⟨p, l, e, s, m, args, below, meth, c, Q, g, nL⟩ := X
  obtain ⟨hx, hb, hml, hown, hE, hZ, hB⟩ := C
  intro H locs ls h1 h2 h3
  exact lv_lrem hx hb hd hz (kk H locs ls h1 h2 h3)
theorem v_lushr (C : Bx X y cc) {a : Int64} {b : Int32} (hd : decode cc pc = .ok (.lushr, 1)) (kk : V X R M k n lv (pc + 1) (.long ((a.toUInt64 >>> (b.toInt64.toUInt64 &&& Int64.toUInt64 63)).toInt64) :: rest)) : V X R M k n lv pc (.int b :: .long a :: rest) := by
  obtain ⟨p, l, e, s, m, args, below, meth, c, Q, g, nL⟩ := X
  obtain ⟨hx, hb, hml, hown, hE, hZ, hB⟩ := C
  intro H locs ls h1 h2 h3
  exact lv_lushr hx hb hd rfl (kk H locs ls h1 h2 h3)
theorem v_lshl (C : Bx X y cc) {a : Int64} {b : Int32} (hd : decode cc pc = .ok (.lshl, 1)) (kk : V X R M k n lv (pc + 1) (.long (a <<< (b.toInt64 &&& 63)) :: rest)) : V X R M k n lv pc (.int b :: .long a :: rest) := by
  obtain ⟨p, l, e, s, m, args, below, meth, c, Q, g, nL⟩ := X
  obtain ⟨hx, hb, hml, hown, hE, hZ, hB⟩ := C
  intro H locs ls h1 h2 h3
  exact lv_lshl hx hb hd rfl (kk H locs ls h1 h2 h3)
theorem v_i2l (C : Bx X y cc) {a : Int32} (hd : decode cc pc = .ok (.i2l, 1)) (kk : V X R M k n lv (pc + 1) (.long a.toInt64 :: rest)) : V X R M k n lv pc (.int a :: rest) := by
  obtain ⟨p, l, e, s, m, args, below, meth, c, Q, g, nL⟩ := X
  obtain ⟨hx, hb, hml, hown, hE, hZ, hB⟩ := C
  intro H locs ls h1 h2 h3
  exact lv_i2l hx hb hd rfl (kk H locs ls h1 h2 h3)
theorem v_lcmp (C : Bx X y cc) {a b : Int64} (hd : decode cc pc = .ok (.lcmp, 1)) (kk : V X R M k n lv (pc + 1) (.int (lg_cmp a b) :: rest)) : V X R M k n lv pc (.long b :: .long a :: rest) := by
  obtain ⟨p, l, e, s, m, args, below, meth, c, Q, g, nL⟩ := X
  obtain ⟨hx, hb, hml, hown, hE, hZ, hB⟩ := C
  intro H locs ls h1 h2 h3
  exact W.lcmp hx hb hd (kk H locs ls h1 h2 h3)
theorem v_dup (C : Bx X y cc) {v : Value} (hd : decode cc pc = .ok (.dup, 1)) (hc : v.category = 1) (kk : V X R M k n lv (pc + 1) (v :: v :: rest)) : V X R M k n lv pc (v :: rest) := by
  obtain ⟨p, l, e, s, m, args, below, meth, c, Q, g, nL⟩ := X
  obtain ⟨hx, hb, hml, hown, hE, hZ, hB⟩ := C
  intro H locs ls h1 h2 h3
  exact lv_dup hx hb hd hc (kk H locs ls h1 h2 h3)
theorem v_dup2 (C : Bx X y cc) {v w : Value} (hd : decode cc pc = .ok (.dup2, 1)) (hc : v.category = 1) (hc2 : w.category = 1) (kk : V X R M k n lv (pc + 1) (v :: w :: v :: w :: rest)) : V X R M k n lv pc (v :: w :: rest) := by
  obtain ⟨p, l, e, s, m, args, below, meth, c, Q, g, nL⟩ := X
  obtain ⟨hx, hb, hml, hown, hE, hZ, hB⟩ := C
  intro H locs ls h1 h2 h3
  exact lv_dup2_11 hx hb hd hc hc2 (kk H locs ls h1 h2 h3)
theorem v_goto (C : Bx X y cc) {off : Int} (hd : decode cc pc = .ok (.goto off, 3)) (ht : (pc : Int) + off = (tgt : Int)) (kk : V X R M k n lv (tgt) (rest)) : V X R M k n lv pc (rest) := by
  obtain ⟨p, l, e, s, m, args, below, meth, c, Q, g, nL⟩ := X
  obtain ⟨hx, hb, hml, hown, hE, hZ, hB⟩ := C
  intro H locs ls h1 h2 h3
  exact lv_goto hx hb hd ht (kk H locs ls h1 h2 h3)
theorem v_icmp_eq (C : Bx X y cc) {a b : Int32} {off : Int} (hd : decode cc pc = .ok (.if_icmp .eq off, 3)) (ht : (pc : Int) + off = (tgt : Int)) (kt : a = b → V X R M k n lv tgt rest) (kf : ¬ a = b → V X R M k n lv (pc + 3) rest) : V X R M k n lv pc (.int b :: .int a :: rest) := by
  obtain ⟨p, l, e, s, m, args, below, meth, c, Q, g, nL⟩ := X
  obtain ⟨hx, hb, hml, hown, hE, hZ, hB⟩ := C
  intro H locs ls h1 h2 h3
  exact lv_icmp_eq hx hb hd ht (fun q => kt q H locs ls h1 h2 h3) (fun q => kf q H locs ls h1 h2 h3)
theorem v_icmp_ne (C : Bx X y cc) {a b : Int32} {off : Int} (hd : decode cc pc = .ok (.if_icmp .ne off, 3)) (ht : (pc : Int) + off = (tgt : Int)) (kt : ¬ a = b → V X R M k n lv tgt rest) (kf : a = b → V X R M k n lv (pc + 3) rest) : V X R M k n lv pc (.int b :: .int a :: rest) := by
  obtain ⟨p, l, e, s, m, args, below, meth, c, Q, g, nL⟩ := X
  obtain ⟨hx, hb, hml, hown, hE, hZ, hB⟩ := C
  intro H locs ls h1 h2 h3
  exact lv_icmp_ne hx hb hd ht (fun q => kt q H locs ls h1 h2 h3) (fun q => kf q H locs ls h1 h2 h3)
theorem v_icmp_lt (C : Bx X y cc) {a b : Int32} {off : Int} (hd : decode cc pc = .ok (.if_icmp .lt off, 3)) (ht : (pc : Int) + off = (tgt : Int)) (kt : a < b → V X R M k n lv tgt rest) (kf : ¬ a < b → V X R M k n lv (pc + 3) rest) : V X R M k n lv pc (.int b :: .int a :: rest) := by
  obtain ⟨p, l, e, s, m, args, below, meth, c, Q, g, nL⟩ := X
  obtain ⟨hx, hb, hml, hown, hE, hZ, hB⟩ := C
  intro H locs ls h1 h2 h3
  exact lv_icmp_lt hx hb hd ht (fun q => kt q H locs ls h1 h2 h3) (fun q => kf q H locs ls h1 h2 h3)
theorem v_icmp_ge (C : Bx X y cc) {a b : Int32} {off : Int} (hd : decode cc pc = .ok (.if_icmp .ge off, 3)) (ht : (pc : Int) + off = (tgt : Int)) (kt : b ≤ a → V X R M k n lv tgt rest) (kf : ¬ b ≤ a → V X R M k n lv (pc + 3) rest) : V X R M k n lv pc (.int b :: .int a :: rest) := by
  obtain ⟨p, l, e, s, m, args, below, meth, c, Q, g, nL⟩ := X
  obtain ⟨hx, hb, hml, hown, hE, hZ, hB⟩ := C
  intro H locs ls h1 h2 h3
  exact lv_icmp_ge hx hb hd ht (fun q => kt q H locs ls h1 h2 h3) (fun q => kf q H locs ls h1 h2 h3)
theorem v_icmp_gt (C : Bx X y cc) {a b : Int32} {off : Int} (hd : decode cc pc = .ok (.if_icmp .gt off, 3)) (ht : (pc : Int) + off = (tgt : Int)) (kt : b < a → V X R M k n lv tgt rest) (kf : ¬ b < a → V X R M k n lv (pc + 3) rest) : V X R M k n lv pc (.int b :: .int a :: rest) := by
  obtain ⟨p, l, e, s, m, args, below, meth, c, Q, g, nL⟩ := X
  obtain ⟨hx, hb, hml, hown, hE, hZ, hB⟩ := C
  intro H locs ls h1 h2 h3
  exact lv_icmp_gt hx hb hd ht (fun q => kt q H locs ls h1 h2 h3) (fun q => kf q H locs ls h1 h2 h3)
theorem v_icmp_le (C : Bx X y cc) {a b : Int32} {off : Int} (hd : decode cc pc = .ok (.if_icmp .le off, 3)) (ht : (pc : Int) + off = (tgt : Int)) (kt : a ≤ b → V X R M k n lv tgt rest) (kf : ¬ a ≤ b → V X R M k n lv (pc + 3) rest) : V X R M k n lv pc (.int b :: .int a :: rest) := by
  obtain ⟨p, l, e, s, m, args, below, meth, c, Q, g, nL⟩ := X
  obtain ⟨hx, hb, hml, hown, hE, hZ, hB⟩ := C
  intro H locs ls h1 h2 h3
  exact lv_icmp_le hx hb hd ht (fun q => kt q H locs ls h1 h2 h3) (fun q => kf q H locs ls h1 h2 h3)
theorem v_if_eq (C : Bx X y cc) {a : Int32} {off : Int} (hd : decode cc pc = .ok (.ifCond .eq off, 3)) (ht : (pc : Int) + off = (tgt : Int)) (kt : a = 0 → V X R M k n lv tgt rest) (kf : ¬ a = 0 → V X R M k n lv (pc + 3) rest) : V X R M k n lv pc (.int a :: rest) := by
  obtain ⟨p, l, e, s, m, args, below, meth, c, Q, g, nL⟩ := X
  obtain ⟨hx, hb, hml, hown, hE, hZ, hB⟩ := C
  intro H locs ls h1 h2 h3
  exact lv_if_eq hx hb hd ht (fun q => kt q H locs ls h1 h2 h3) (fun q => kf q H locs ls h1 h2 h3)
theorem v_if_ne (C : Bx X y cc) {a : Int32} {off : Int} (hd : decode cc pc = .ok (.ifCond .ne off, 3)) (ht : (pc : Int) + off = (tgt : Int)) (kt : ¬ a = 0 → V X R M k n lv tgt rest) (kf : a = 0 → V X R M k n lv (pc + 3) rest) : V X R M k n lv pc (.int a :: rest) := by
  obtain ⟨p, l, e, s, m, args, below, meth, c, Q, g, nL⟩ := X
  obtain ⟨hx, hb, hml, hown, hE, hZ, hB⟩ := C
  intro H locs ls h1 h2 h3
  exact lv_if_ne hx hb hd ht (fun q => kt q H locs ls h1 h2 h3) (fun q => kf q H locs ls h1 h2 h3)
theorem v_if_lt (C : Bx X y cc) {a : Int32} {off : Int} (hd : decode cc pc = .ok (.ifCond .lt off, 3)) (ht : (pc : Int) + off = (tgt : Int)) (kt : a < 0 → V X R M k n lv tgt rest) (kf : ¬ a < 0 → V X R M k n lv (pc + 3) rest) : V X R M k n lv pc (.int a :: rest) := by
  obtain ⟨p, l, e, s, m, args, below, meth, c, Q, g, nL⟩ := X
  obtain ⟨hx, hb, hml, hown, hE, hZ, hB⟩ := C
  intro H locs ls h1 h2 h3
  exact lv_if_lt hx hb hd ht (fun q => kt q H locs ls h1 h2 h3) (fun q => kf q H locs ls h1 h2 h3)
theorem v_if_ge (C : Bx X y cc) {a : Int32} {off : Int} (hd : decode cc pc = .ok (.ifCond .ge off, 3)) (ht : (pc : Int) + off = (tgt : Int)) (kt : 0 ≤ a → V X R M k n lv tgt rest) (kf : ¬ 0 ≤ a → V X R M k n lv (pc + 3) rest) : V X R M k n lv pc (.int a :: rest) := by
  obtain ⟨p, l, e, s, m, args, below, meth, c, Q, g, nL⟩ := X
  obtain ⟨hx, hb, hml, hown, hE, hZ, hB⟩ := C
  intro H locs ls h1 h2 h3
  exact lv_if_ge hx hb hd ht (fun q => kt q H locs ls h1 h2 h3) (fun q => kf q H locs ls h1 h2 h3)
theorem v_if_gt (C : Bx X y cc) {a : Int32} {off : Int} (hd : decode cc pc = .ok (.ifCond .gt off, 3)) (ht : (pc : Int) + off = (tgt : Int)) (kt : 0 < a → V X R M k n lv tgt rest) (kf : ¬ 0 < a → V X R M k n lv (pc + 3) rest) : V X R M k n lv pc (.int a :: rest) := by
  obtain ⟨p, l, e, s, m, args, below, meth, c, Q, g, nL⟩ := X
  obtain ⟨hx, hb, hml, hown, hE, hZ, hB⟩ := C
  intro H locs ls h1 h2 h3
  exact lv_if_gt hx hb hd ht (fun q => kt q H locs ls h1 h2 h3) (fun q => kf q H locs ls h1 h2 h3)
theorem v_if_le (C : Bx X y cc) {a : Int32} {off : Int} (hd : decode cc pc = .ok (.ifCond .le off, 3)) (ht : (pc : Int) + off = (tgt : Int)) (kt : a ≤ 0 → V X R M k n lv tgt rest) (kf : ¬ a ≤ 0 → V X R M k n lv (pc + 3) rest) : V X R M k n lv pc (.int a :: rest) := by
  obtain ⟨p, l, e, s, m, args, below, meth, c, Q, g, nL⟩ := X
  obtain ⟨hx, hb, hml, hown, hE, hZ, hB⟩ := C
  intro H locs ls h1 h2 h3
  exact lv_if_le hx hb hd ht (fun q => kt q H locs ls h1 h2 h3) (fun q => kf q H locs ls h1 h2 h3)
theorem v_ifb_eq (C : Bx X y cc) {b : Bool} {off : Int} (hd : decode cc pc = .ok (.ifCond .eq off, 3)) (ht : (pc : Int) + off = (tgt : Int)) (kt : b = false → V X R M k n lv tgt rest) (kf : b = true → V X R M k n lv (pc + 3) rest) : V X R M k n lv pc (.int (bI b) :: rest) :=
  v_if_eq C hd ht (fun h => kt ((bI_eq0 b).mp h)) (fun h => kf (by cases b with | false => exact absurd rfl h | true => rfl))
theorem v_ifb_ne (C : Bx X y cc) {b : Bool} {off : Int} (hd : decode cc pc = .ok (.ifCond .ne off, 3)) (ht : (pc : Int) + off = (tgt : Int)) (kt : b = true → V X R M k n lv tgt rest) (kf : b = false → V X R M k n lv (pc + 3) rest) : V X R M k n lv pc (.int (bI b) :: rest) :=
  v_if_ne C hd ht (fun h => kt (by cases b with | false => exact absurd rfl h | true => rfl)) (fun h => kf ((bI_eq0 b).mp h))
theorem v_ifnull (C : Bx X y cc) {a : Nat} {off : Int} (hd : decode cc pc = .ok (.ifnull off, 3)) (kk : V X R M k n lv (pc + 3) rest) : V X R M k n lv pc (.ref a :: rest) := by
  obtain ⟨p, l, e, s, m, args, below, meth, c, Q, g, nL⟩ := X
  obtain ⟨hx, hb, hml, hown, hE, hZ, hB⟩ := C
  intro H locs ls h1 h2 h3
  exact lv_ifnull hx hb hd (kk H locs ls h1 h2 h3)
theorem v_ifnullN (C : Bx X y cc) {off : Int} (hd : decode cc pc = .ok (.ifnull off, 3)) (ht : (pc : Int) + off = (tgt : Int)) (kk : V X R M k n lv tgt rest) : V X R M k n lv pc (.null :: rest) := by
  obtain ⟨p, l, e, s, m, args, below, meth, c, Q, g, nL⟩ := X
  obtain ⟨hx, hb, hml, hown, hE, hZ, hB⟩ := C
  intro H locs ls h1 h2 h3
  exact lv_ifnullN hx hb hd ht (kk H locs ls h1 h2 h3)
theorem v_ifnonnull (C : Bx X y cc) {a : Nat} {off : Int} (hd : decode cc pc = .ok (.ifnonnull off, 3)) (ht : (pc : Int) + off = (tgt : Int)) (kk : V X R M k n lv tgt rest) : V X R M k n lv pc (.ref a :: rest) := by
  obtain ⟨p, l, e, s, m, args, below, meth, c, Q, g, nL⟩ := X
  obtain ⟨hx, hb, hml, hown, hE, hZ, hB⟩ := C
  intro H locs ls h1 h2 h3
  exact lv_ifnonnull hx hb hd ht (kk H locs ls h1 h2 h3)
theorem v_ifnonnullN (C : Bx X y cc) {off : Int} (hd : decode cc pc = .ok (.ifnonnull off, 3)) (kk : V X R M k n lv (pc + 3) rest) : V X R M k n lv pc (.null :: rest) := by
  obtain ⟨p, l, e, s, m, args, below, meth, c, Q, g, nL⟩ := X
  obtain ⟨hx, hb, hml, hown, hE, hZ, hB⟩ := C
  intro H locs ls h1 h2 h3
  exact lv_ifnonnullN hx hb hd (kk H locs ls h1 h2 h3)
theorem v_tableIn (C : Bx X y cc) {dflt lo hi : Int} {offs : Array Int} {len : Nat} {a : Int32} {off : Int} (hd : decode cc pc = .ok (.tableswitch dflt lo hi offs, len)) (q1 : ¬ a.toInt < lo) (q2 : ¬ hi < a.toInt) (q3 : offs[(a.toInt - lo).toNat]? = some off) (ht : (pc : Int) + off = (tgt : Int)) (kk : V X R M k n lv tgt rest) : V X R M k n lv pc (.int a :: rest) := by
  obtain ⟨p, l, e, s, m, args, below, meth, c, Q, g, nL⟩ := X
  obtain ⟨hx, hb, hml, hown, hE, hZ, hB⟩ := C
  intro H locs ls h1 h2 h3
  exact lv_tableIn hx hb hd q1 q2 q3 ht (kk H locs ls h1 h2 h3)
theorem v_tableOut (C : Bx X y cc) {dflt lo hi : Int} {offs : Array Int} {len : Nat} {a : Int32} (hd : decode cc pc = .ok (.tableswitch dflt lo hi offs, len)) (q1 : a.toInt < lo ∨ hi < a.toInt) (ht : (pc : Int) + dflt = (tgt : Int)) (kk : V X R M k n lv tgt rest) : V X R M k n lv pc (.int a :: rest) := by
  obtain ⟨p, l, e, s, m, args, below, meth, c, Q, g, nL⟩ := X
  obtain ⟨hx, hb, hml, hown, hE, hZ, hB⟩ := C
  intro H locs ls h1 h2 h3
  exact lv_tableOut hx hb hd q1 ht (kk H locs ls h1 h2 h3)
theorem v_iret (C : Bx X y cc) {mc ms : Nat} {post : Option Value → Mem → Prop} (E : Rx X y (some .int) mc ms post) {a : Int32} (hd : decode cc pc = .ok (.ireturn, 1)) (hk : k ≤ mc) (hn : n ≤ ms) (hp : post (some (.int a)) M) : V X R M k n lv pc [.int a] := by
  obtain ⟨p, l, e, s, m, args, below, meth, c, Q, g, nL⟩ := X
  obtain ⟨hx, hb, hml, hown, hE, hZ, hB⟩ := C
  obtain ⟨hr, hlk, hnm, rfl⟩ := E
  intro H locs ls h1 h2 h3
  exact W.widen hk hn (W.iret hx hb hr (fun t ht hW => ⟨_, M, rfl, hp, by rw [ht]; exact h1, h2.F ht⟩) h2.2.2 hd hlk)
theorem v_lret (C : Bx X y cc) {mc ms : Nat} {post : Option Value → Mem → Prop} (E : Rx X y (some .long) mc ms post) {a : Int64} (hd : decode cc pc = .ok (.lreturn, 1)) (hk : k ≤ mc) (hn : n ≤ ms) (hp : post (some (.long a)) M) : V X R M k n lv pc [.long a] := by
  obtain ⟨p, l, e, s, m, args, below, meth, c, Q, g, nL⟩ := X
  obtain ⟨hx, hb, hml, hown, hE, hZ, hB⟩ := C
  obtain ⟨hr, hlk, hnm, rfl⟩ := E
  intro H locs ls h1 h2 h3
  exact W.widen hk hn (W.lret hx hb hr (fun t ht hW => ⟨_, M, rfl, hp, by rw [ht]; exact h1, h2.F ht⟩) h2.2.2 hd hlk)
theorem v_zret (C : Bx X y cc) {mc ms : Nat} {post : Option Value → Mem → Prop} (E : Rx X y (some .boolean) mc ms post) {a : Int32} (hd : decode cc pc = .ok (.ireturn, 1)) (hk : k ≤ mc) (hn : n ≤ ms) (ha : a = 0 ∨ a = 1) (hp : post (some (.int a)) M) : V X R M k n lv pc [.int a] := by
  obtain ⟨p, l, e, s, m, args, below, meth, c, Q, g, nL⟩ := X
  obtain ⟨hx, hb, hml, hown, hE, hZ, hB⟩ := C
  obtain ⟨hr, hlk, hnm, rfl⟩ := E
  intro H locs ls h1 h2 h3
  exact W.widen hk hn (W.zret hx hb hr (narrow_b01 ha) (fun t ht hW => ⟨_, M, rfl, hp, by rw [ht]; exact h1, h2.F ht⟩) h2.2.2 hd hlk)
theorem v_vret (C : Bx X y cc) {mc ms : Nat} {post : Option Value → Mem → Prop} (E : Rx X y none mc ms post) (hd : decode cc pc = .ok (.return_, 1)) (hk : k ≤ mc) (hn : n ≤ ms) (hp : post none M) : V X R M k n lv pc [] := by
  obtain ⟨p, l, e, s, m, args, below, meth, c, Q, g, nL⟩ := X
  obtain ⟨hx, hb, hml, hown, hE, hZ, hB⟩ := C
  obtain ⟨hr, hlk, hnm, rfl⟩ := E
  intro H locs ls h1 h2 h3
  exact W.widen hk hn (W.vret hx hb hr (fun t ht hW => ⟨_, M, rfl, hp, by rw [ht]; exact h1, h2.F ht⟩) h2.2.2 hd hlk)
theorem v_aret (C : Bx X y cc) {mc ms : Nat} {post : Option Value → Mem → Prop} {cn : String} (E : Rx X y (some (.object cn)) mc ms post) {r : Option Nat} (hd : decode cc pc = .ok (.areturn, 1)) (hk : k ≤ mc) (hn : n ≤ ms) (hp : post (some (va_rf r)) M) : V X R M k n lv pc [va_rf r] := by
  obtain ⟨p, l, e, s, m, args, below, meth, c, Q, g, nL⟩ := X
  obtain ⟨hx, hb, hml, hown, hE, hZ, hB⟩ := C
  obtain ⟨hr, hlk, hnm, rfl⟩ := E
  intro H locs ls h1 h2 h3
  exact W.widen hk hn (W.aret hx hb hr (Or.inl ⟨cn, rfl⟩) (va_rf_or r) (fun t ht hW => ⟨_, M, rfl, hp, by rw [ht]; exact h1, h2.F ht⟩) h2.2.2 hd hlk)
/-- more cells than were made -/
theorem v_widen {k' n' : Nat} (hk : k ≤ k') (hn : n ≤ n') {st : List Value} (kk : V X R M k' n' lv pc st) : V X R M k n lv pc st := by
  obtain ⟨p, l, e, s, m, args, below, meth, c, Q, g, nL⟩ := X
  intro H locs ls h1 h2 h3
  exact W.widen hk hn (kk H locs ls h1 h2 h3)
/-- fewer locals -/
theorem v_sub (ks : List Nat) {st : List Value} (hl : lv_pick lv ks = lv') (kk : V X R M k n lv' pc st) : V X R M k n lv pc st := by
  obtain ⟨p, l, e, s, m, args, below, meth, c, Q, g, nL⟩ := X
  intro H locs ls h1 h2 h3
  exact kk H locs ls h1 h2 (lv_sub h3 ks hl)
end VRows
end
section
/-! Rows of V over the cells: fields, arrays, new cells, statics. -/
abbrev aI (g : Gm) (len : Nat) (f : Nat → Int32) : va_E := .inl (gC g 0, len, .inl f)
abbrev aJ (g : Gm) (len : Nat) (f : Nat → Int64) : va_E := .inl (gC g 1, len, .inr (.inl f))
abbrev aZ (g : Gm) (len : Nat) (f : Nat → Int32) : va_E := .inl (gC g 2, len, .inl f)
abbrev aQ (g : Gm) (t : Nat) (len : Nat) (f : Nat → Option Nat) : va_E := .inl (gC g t, len, .inr (.inr (.inr (.inr f))))
/-- what the tables say of a kind of objects -/
def Kc (ci : Nat) (Cn : String) (T : u_T) (N : Nat) (ty : Nat → FieldType) : Prop := vwCl[ci]? = some (Cn, T, N) ∧ (∀ j, j < N → parseFieldDescriptor (T j).2.2.1 = some (ty j)) ∧ (∀ a, a < N → ∀ b, b < N → a ≠ b → (T a).2.1 ≠ (T b).2.1) ∧ ∀ w ∈ u_ws Cn T N, w ∈ tbl
theorem lw_all {ws : List Cond} (h : ws.all (fun w => decide (w ∈ tbl)) = true) : ∀ w ∈ ws, w ∈ tbl := fun w hw => of_decide_eq_true (List.all_eq_true.mp h w hw)
theorem kX0 : Kc 0 RX0 TX0 2 tyX0 := ⟨rfl, tyX0_ok, nmX0, lw_all (by decide +kernel)⟩
theorem kX1 : Kc 1 RX1 TX1 3 tyX1 := ⟨rfl, tyX1_ok, nmX1, lw_all (by decide +kernel)⟩
theorem kX2 : Kc 2 RX2 TX2 6 tyX2 := ⟨rfl, tyX2_ok, nmX2, lw_all (by decide +kernel)⟩
theorem kX3 : Kc 3 RX3 TX3 2 tyX3 := ⟨rfl, tyX3_ok, nmX3, lw_all (by decide +kernel)⟩
theorem kX4 : Kc 4 RX4 TX4 3 tyX4 := ⟨rfl, tyX4_ok, nmX4, lw_all (by decide +kernel)⟩
theorem kX5 : Kc 5 RX5 TX5 8 tyX5 := ⟨rfl, tyX5_ok, nmX5, lw_all (by decide +kernel)⟩
theorem kX6 : Kc 6 RX6 TX6 3 tyX6 := ⟨rfl, tyX6_ok, nmX6, lw_all (by decide +kernel)⟩
theorem kX7 : Kc 7 RX7 TX7 2 tyX7 := ⟨rfl, tyX7_ok, nmX7, lw_all (by decide +kernel)⟩
theorem kX8 : Kc 8 RX8 TX8 4 tyX8 := ⟨rfl, tyX8_ok, nmX8, lw_all (by decide +kernel)⟩
theorem kX9 : Kc 9 RX9 TX9 6 tyX9 := ⟨rfl, tyX9_ok, nmX9, lw_all (by decide +kernel)⟩
theorem kX10 : Kc 10 RX10 TX10 12 tyX10 := ⟨rfl, tyX10_ok, nmX10, lw_all (by decide +kernel)⟩
section VHeap
variable {X : FC} {y : MethodName} {cc : ByteArray} {R : Room} {M : Mem} {k n : Nat} {lv : List (Nat × Value)} {pc : Nat} {rest : List Value} {ci N ix : Nat} {Cn : String} {T : u_T} {ty : Nat → FieldType} {a : Nat} {fs : List Value} {len : Nat}
theorem v_get (C : Bx X y cc) (K : Kc ci Cn T N ty) (hm : M a = some (.inr (ci, fs))) (j : Nat) (hj : j < N) (hw : Cond.fieldLink y.cls ix (T j).1 (T j).2.1 (T j).2.2.1 ∈ tbl) {v : Value} (hv : fs[j]? = some v) (hd : decode cc pc = .ok (.getfield ix, 3)) (kk : V X R M k n lv (pc + 3) (v :: rest)) : V X R M k n lv pc (.ref a :: rest) := by
  obtain ⟨p, l, e, s, m, args, below, meth, c, Q, g, nL⟩ := X
  obtain ⟨hx, hb, hml, hown, hE, hZ, hB⟩ := C
  intro H locs ls h1 h2 h3
  exact va_get hx hb (hE.use args) K.2.2.2 hown hE.1 (h1.one hm) 0 rfl K.1 j hj (hE.use args _ hw) (fun _ h9 => h9) hv hd (kk H locs ls h1 h2 h3)
theorem v_put (C : Bx X y cc) (K : Kc ci Cn T N ty) (hm : M a = some (.inr (ci, fs))) (j : Nat) (hj : j < N) (hw : Cond.fieldLink y.cls ix (T j).1 (T j).2.1 (T j).2.2.1 ∈ tbl) {v : Value} (hfin : (T j).2.2.2 = false) (hn : narrow (ty j) v = v) (hfit : fits (ty j) v = true) (hl : j < fs.length) (hd : decode cc pc = .ok (.putfield ix, 3)) (kk : V X R (mset M a (.inr (ci, fs.set j v))) k n lv (pc + 3) rest) : V X R M k n lv pc (v :: .ref a :: rest) := by
  obtain ⟨p, l, e, s, m, args, below, meth, c, Q, g, nL⟩ := X
  obtain ⟨hx, hb, hml, hown, hE, hZ, hB⟩ := C
  intro H locs ls h1 h2 h3
  have hts := hE.use args
  have hin := K.2.2.2
  have hap := va_apart (own := y.cls) hts hin ty K.2.1 K.2.2.1 hE.1 K.1
  obtain ⟨r, hr0, cell, q1, q2, q3, q4⟩ := (h1.2 a _ hm).2
  have hr : r = (Cn, T, N) := Option.some.inj (hr0.symm.trans K.1)
  subst hr
  obtain ⟨hS, hfc, kC, hkC, hkind⟩ := hE.1.1 ci _ K.1
  obtain ⟨cf, kf, fi, f, hi, hsl⟩ := hS j hj
  have hlay := hts _ (hin _ (u_in_lay hj))
  unfold u_lay at hlay
  rw [if_neg (by rw [hfin]; decide)] at hlay
  have hst := (u_facts hfc hkC (u_lays hts hin hj) hi).1
  have h6 := u_store hfc hkC hkind hlay hi (K.2.1 j hj) hn hfit
  refine W.putK hx hb (f := f) ⟨hown, hts _ hw, ⟨_, _, _, hi⟩, hst⟩ (by rw [q2]; exact h6) q1 q3 (by rw [hsl]; exact k2_hasslot (q4 j hj)) rfl rfl hd fun H' e1 e2 e3 => ?_
  rw [hsl] at e1 ⊢
  exact kk H' _ ls (h1.set hm ⟨_, K.1, t_OB.to (V := updV (vp_V fs) j v) ⟨_, e1, q2, q3, t_set q4 hap hj v⟩ (fun i _ => vp_updV_set hl v i)⟩ e2 e3) (h2.put e2 e3 (h1.2 a _ hm).1) h3
theorem v_putF (C : Bx X y cc) {ret : Option FieldType} {mc ms : Nat} {post : Option Value → Mem → Prop} (E : Rx X y ret mc ms post) (hyn : y.name = "<init>") (K : Kc ci Cn T N ty) (hm : M a = some (.inr (ci, fs))) (j : Nat) (hj : j < N) (hw : Cond.fieldLink y.cls ix (T j).1 (T j).2.1 (T j).2.2.1 ∈ tbl) {v : Value} (hfin : (T j).2.2.2 = true) (hdecl : (T j).1 = y.cls) (hn : narrow (ty j) v = v) (hfit : fits (ty j) v = true) (hl : j < fs.length) (hd : decode cc pc = .ok (.putfield ix, 3)) (kk : V X R (mset M a (.inr (ci, fs.set j v))) k n lv (pc + 3) rest) : V X R M k n lv pc (v :: .ref a :: rest) := by
  obtain ⟨p, l, e, s, m, args, below, meth, c, Q, g, nL⟩ := X
  obtain ⟨hx, hb, hml, hown, hE, hZ, hB⟩ := C
  obtain ⟨-, -, hmn, -⟩ := E
  intro H locs ls h1 h2 h3
  have hts := hE.use args
  have hin := K.2.2.2
  have hap := va_apart (own := y.cls) hts hin ty K.2.1 K.2.2.1 hE.1 K.1
  obtain ⟨r, hr0, cell, q1, q2, q3, q4⟩ := (h1.2 a _ hm).2
  have hr : r = (Cn, T, N) := Option.some.inj (hr0.symm.trans K.1)
  subst hr
  obtain ⟨hS, hfc, kC, hkC, hkind⟩ := hE.1.1 ci _ K.1
  obtain ⟨cf, kf, fi, f, hi, hsl⟩ := hS j hj
  have hlay := hts _ (hin _ (u_in_lay hj))
  unfold u_lay at hlay
  rw [if_pos hfin] at hlay
  have hst := (u_facts hfc hkC (u_lays hts hin hj) hi).1
  have hcf : m.cls = cf := by
    obtain ⟨_, _, c', _, _, _, -, -, hf', -, -, -, hown2, -⟩ := Cond.laysFinal_spec hlay
    have e1 : c' = cf := by have := hi.symm.trans hf'; simp at this; exact this.1.symm
    rw [hdecl] at hown2
    rw [← e1]; exact Option.some.inj (hown.symm.trans hown2)
  have h6 := u_fits hfc hkC hkind (Or.inr hlay) hi (K.2.1 j hj) hn hfit
  refine W.putFinK hx hb hown (hts _ hw) hi hst hcf (hmn.trans hyn) (by rw [q2]; exact h6) q1 q3 (by rw [hsl]; exact k2_hasslot (q4 j hj)) rfl rfl hd fun H' e1 e2 e3 => ?_
  rw [hsl] at e1 ⊢
  exact kk H' _ ls (h1.set hm ⟨_, K.1, t_OB.to (V := updV (vp_V fs) j v) ⟨_, e1, q2, q3, t_set q4 hap hj v⟩ (fun i _ => vp_updV_set hl v i)⟩ e2 e3) (h2.put e2 e3 (h1.2 a _ hm).1) h3
theorem v_iald (C : Bx X y cc) {f : Nat → Int32} (hm : M a = some (aI (xg X) len f)) {i : Int32} (hi : vp_in i len) (hd : decode cc pc = .ok (.iaload, 1)) (kk : V X R M k n lv (pc + 1) (.int (f i.toNatClampNeg) :: rest)) : V X R M k n lv pc (.int i :: .ref a :: rest) := by
  obtain ⟨p, l, e, s, m, args, below, meth, c, Q, g, nL⟩ := X
  obtain ⟨hx, hb, hml, hown, hE, hZ, hB⟩ := C
  intro H locs ls h1 h2 h3
  exact va_iald hx hb hE.1 (h1.one hm) 0 0 rfl rfl hi hd (kk H locs ls h1 h2 h3)
theorem v_lald (C : Bx X y cc) {f : Nat → Int64} (hm : M a = some (aJ (xg X) len f)) {i : Int32} (hi : vp_in i len) (hd : decode cc pc = .ok (.laload, 1)) (kk : V X R M k n lv (pc + 1) (.long (f i.toNatClampNeg) :: rest)) : V X R M k n lv pc (.int i :: .ref a :: rest) := by
  obtain ⟨p, l, e, s, m, args, below, meth, c, Q, g, nL⟩ := X
  obtain ⟨hx, hb, hml, hown, hE, hZ, hB⟩ := C
  intro H locs ls h1 h2 h3
  exact va_lald hx hb hE.1 (h1.one hm) 0 1 rfl rfl hi hd (kk H locs ls h1 h2 h3)
theorem v_zald (C : Bx X y cc) {f : Nat → Int32} (hm : M a = some (aZ (xg X) len f)) {i : Int32} (hi : vp_in i len) (hd : decode cc pc = .ok (.baload, 1)) (kk : V X R M k n lv (pc + 1) (.int (f i.toNatClampNeg) :: rest)) : V X R M k n lv pc (.int i :: .ref a :: rest) := by
  obtain ⟨p, l, e, s, m, args, below, meth, c, Q, g, nL⟩ := X
  obtain ⟨hx, hb, hml, hown, hE, hZ, hB⟩ := C
  intro H locs ls h1 h2 h3
  exact va_zald hx hb hE.1 (h1.one hm) 0 2 rfl rfl hi hd (kk H locs ls h1 h2 h3)
theorem v_aald (C : Bx X y cc) {t : Nat} {f : Nat → Option Nat} (ht : 3 ≤ t ∧ t ≤ 5) (hm : M a = some (aQ (xg X) t len f)) {i : Int32} (hi : vp_in i len) (hd : decode cc pc = .ok (.aaload, 1)) (kk : V X R M k n lv (pc + 1) (va_rf (f i.toNatClampNeg) :: rest)) : V X R M k n lv pc (.int i :: .ref a :: rest) := by
  obtain ⟨p, l, e, s, m, args, below, meth, c, Q, g, nL⟩ := X
  obtain ⟨hx, hb, hml, hown, hE, hZ, hB⟩ := C
  intro H locs ls h1 h2 h3
  have hlt : i.toNatClampNeg < len := Nat.not_le.mp fun q => hi (Or.inr q)
  have hat := (h1.2 a _ hm).2
  rcases (show t = 3 ∨ t = 4 ∨ t = 5 by omega) with rfl | rfl | rfl
  · exact W.aald (v := va_rf (f i.toNatClampNeg)) (ty := .object RX5) hx hb hat ((hE.1.2 3 _ rfl).1 len (fun j => va_rf (f j))) rfl (fun q => by cases q) (by show ¬ (i < 0 ∨ (arrV _ _ _).slots.size ≤ _); rw [arrV_size]; exact hi) (by show (arrV _ _ _).slots[_]? = _; rw [arrV_read _ _ hlt]) rfl rfl hd (kk H locs ls h1 h2 h3)
  · exact W.aald (v := va_rf (f i.toNatClampNeg)) (ty := .object RX6) hx hb hat ((hE.1.2 4 _ rfl).1 len (fun j => va_rf (f j))) rfl (fun q => by cases q) (by show ¬ (i < 0 ∨ (arrV _ _ _).slots.size ≤ _); rw [arrV_size]; exact hi) (by show (arrV _ _ _).slots[_]? = _; rw [arrV_read _ _ hlt]) rfl rfl hd (kk H locs ls h1 h2 h3)
  · exact W.aald (v := va_rf (f i.toNatClampNeg)) (ty := .array .int) hx hb hat ((hE.1.2 5 _ rfl).1 len (fun j => va_rf (f j))) rfl (fun q => by cases q) (by show ¬ (i < 0 ∨ (arrV _ _ _).slots.size ≤ _); rw [arrV_size]; exact hi) (by show (arrV _ _ _).slots[_]? = _; rw [arrV_read _ _ hlt]) rfl rfl hd (kk H locs ls h1 h2 h3)
theorem v_iast (C : Bx X y cc) {f : Nat → Int32} (hm : M a = some (aI (xg X) len f)) {i x : Int32} (hi : vp_in i len) (hd : decode cc pc = .ok (.iastore, 1)) (kk : V X R (mset M a (aI (xg X) len (upd f i.toNatClampNeg x))) k n lv (pc + 1) rest) : V X R M k n lv pc (.int x :: .int i :: .ref a :: rest) := by
  obtain ⟨p, l, e, s, m, args, below, meth, c, Q, g, nL⟩ := X
  obtain ⟨hx, hb, hml, hown, hE, hZ, hB⟩ := C
  intro H locs ls h1 h2 h3
  refine W.iast hx hb (h1.2 a _ hm).2 ((hE.1.2 0 _ rfl).1 len (fun j => .int (f j))) (fun q => by cases q) (by show ¬ (i < 0 ∨ (arrV _ _ _).slots.size ≤ _); rw [arrV_size]; exact hi) rfl rfl hd fun H1 e z oq => ?_
  refine kk H1 _ ls (h1.set hm ?_ z oq) (h2.put z oq (h1.2 a _ hm).1) h3
  show H1[a]? = some (vp_cell _ _)
  rw [e]
  rw [vp_cell_i, vp_cell_i, arrV_store]
  congr 2
  funext q
  by_cases hq : q = i.toNatClampNeg
  · subst hq
    simp [updV, upd]
  · simp [updV, upd, hq]
theorem v_last (C : Bx X y cc) {f : Nat → Int64} (hm : M a = some (aJ (xg X) len f)) {i : Int32} {x : Int64} (hi : vp_in i len) (hd : decode cc pc = .ok (.lastore, 1)) (kk : V X R (mset M a (aJ (xg X) len (vp_updL f i.toNatClampNeg x))) k n lv (pc + 1) rest) : V X R M k n lv pc (.long x :: .int i :: .ref a :: rest) := by
  obtain ⟨p, l, e, s, m, args, below, meth, c, Q, g, nL⟩ := X
  obtain ⟨hx, hb, hml, hown, hE, hZ, hB⟩ := C
  intro H locs ls h1 h2 h3
  refine W.last hx hb (h1.2 a _ hm).2 ((hE.1.2 1 _ rfl).1 len (fun j => .long (f j))) (fun q => by cases q) (by show ¬ (i < 0 ∨ (arrV _ _ _).slots.size ≤ _); rw [arrV_size]; exact hi) rfl rfl hd fun H1 e z oq => ?_
  refine kk H1 _ ls (h1.set hm ?_ z oq) (h2.put z oq (h1.2 a _ hm).1) h3
  show H1[a]? = some (vp_cell _ _)
  rw [e]
  rw [vp_cell_l, vp_cell_l, arrV_store]
  congr 2
  funext q
  by_cases hq : q = i.toNatClampNeg
  · subst hq
    simp [updV, vp_updL]
  · simp [updV, vp_updL, hq]
theorem v_zast (C : Bx X y cc) {f : Nat → Int32} (hm : M a = some (aZ (xg X) len f)) {i x : Int32} (hi : vp_in i len) (h01 : x = 0 ∨ x = 1) (hd : decode cc pc = .ok (.bastore, 1)) (kk : V X R (mset M a (aZ (xg X) len (upd f i.toNatClampNeg x))) k n lv (pc + 1) rest) : V X R M k n lv pc (.int x :: .int i :: .ref a :: rest) := by
  obtain ⟨p, l, e, s, m, args, below, meth, c, Q, g, nL⟩ := X
  obtain ⟨hx, hb, hml, hown, hE, hZ, hB⟩ := C
  intro H locs ls h1 h2 h3
  have hnb := narrow_b01 h01
  refine W.zast hx hb (h1.2 a _ hm).2 ((hE.1.2 2 _ rfl).1 len (fun j => .int (f j))) (fun q => by cases q) (by show ¬ (i < 0 ∨ (arrV _ _ _).slots.size ≤ _); rw [arrV_size]; exact hi) rfl rfl hd fun H1 e z oq => ?_
  refine kk H1 _ ls (h1.set hm ?_ z oq) (h2.put z oq (h1.2 a _ hm).1) h3
  show H1[a]? = some (vp_cell _ _)
  rw [e]
  rw [vp_cell_i, vp_cell_i, arrV_store]
  congr 2
  funext q
  by_cases hq : q = i.toNatClampNeg
  · subst hq
    simp [updV, upd, hnb]
  · simp [updV, upd, hq]
theorem v_aast (C : Bx X y cc) {t cj Nj : Nat} {Cj : String} {Tj : u_T} {tyj : Nat → FieldType} {f : Nat → Option Nat} {b : Nat} {vs : List Value} (K : Kc cj Cj Tj Nj tyj) (ht : (gT (xg X))[t]? = some (gC (xg X) t, .object Cj)) (hm : M a = some (aQ (xg X) t len f)) (hv : M b = some (.inr (cj, vs))) {i : Int32} (hi : vp_in i len) (hd : decode cc pc = .ok (.aastore, 1)) (kk : V X R (mset M a (aQ (xg X) t len (va_up f i.toNatClampNeg (some b)))) k n lv (pc + 1) rest) : V X R M k n lv pc (.ref b :: .int i :: .ref a :: rest) := by
  obtain ⟨p, l, e, s, m, args, below, meth, c, Q, g, nL⟩ := X
  obtain ⟨hx, hb, hml, hown, hE, hZ, hB⟩ := C
  intro H locs ls h1 h2 h3
  have hlt : i.toNatClampNeg < len := Nat.not_le.mp fun q => hi (Or.inr q)
  have h0 : ¬ i < 0 := fun q => hi (Or.inl q)
  obtain ⟨r', hr', cellV, g1, g2, g3, -⟩ := (h1.2 b _ hv).2
  have hcls := (hE.1.1 cj _ K.1).2
  obtain ⟨kA, comp, k1, k2, k3, -⟩ := (hE.1.2 t _ ht).2
  have hcomp : comp = (gD g).1 cj := Option.some.inj (k3.symm.trans hcls.1)
  subst hcomp
  obtain ⟨kC, hkC, -⟩ := hcls.2
  refine W.aast hx hb (h1.2 a _ hm).2 (fun q h => by cases h) (fun h => by cases h) k1 k2 rfl hkC ⟨h0, by show _ < (arrV _ _ _).slots.size; rw [arrV_size]; exact hlt⟩ g1 (fun q h => by rw [g3] at h; cases h) (by rw [g2]; exact hkC) (by rw [g2]; exact va_assign hcls) rfl rfl hd fun H1 e z oq => ?_
  refine kk H1 _ ls (h1.set hm ?_ z oq) (h2.put z oq (h1.2 a _ hm).1) h3
  show H1[a]? = some (vp_cell _ _)
  rw [e]
  rw [vp_cell_q, vp_cell_q, arrV_store]
  congr 2
  funext q
  by_cases hq : q = i.toNatClampNeg
  · subst hq
    simp [updV, va_up, va_rf]
  · simp [updV, va_up, hq]
theorem v_aleni (C : Bx X y cc) {f : Nat → Int32} (hm : M a = some (aI (xg X) len f)) (hd : decode cc pc = .ok (.arraylength, 1)) (kk : V X R M k n lv (pc + 1) (.int (nI len) :: rest)) : V X R M k n lv pc (.ref a :: rest) := by
  obtain ⟨p, l, e, s, m, args, below, meth, c, Q, g, nL⟩ := X
  obtain ⟨hx, hb, hml, hown, hE, hZ, hB⟩ := C
  intro H locs ls h1 h2 h3
  exact W.alen hx hb (h1.2 a _ hm).2 ((hE.1.2 0 _ rfl).1 len (fun j => .int (f j))) (by show (arrV _ _ _).slots.size.toInt32 = nI len; rw [arrV_size]; rfl) rfl rfl hd (kk H locs ls h1 h2 h3)
theorem v_new (C : Bx X y cc) (K : Kc ci Cn T N ty) (hw : Cond.classLink y.cls ix Cn ∈ tbl) (hw2 : Cond.instantiable Cn N ∈ tbl) (hw3 : Cond.initialized Cn ∈ tbl) (hfs : ∀ j, j < N → defaultValue (ty j) = vp_V fs j) (hc1 : k + 1 ≤ R.cells) (hc2 : n + N ≤ R.slots) (hd : decode cc pc = .ok (.new ix, 3)) (kk : ∀ q : Nat, M q = none → V X R (mset M q (.inr (ci, fs))) (k + 1) (n + N) lv (pc + 3) (.ref q :: rest)) : V X R M k n lv pc rest := by
  obtain ⟨p, l, e, s, m, args, below, meth, c, Q, g, nL⟩ := X
  obtain ⟨hx, hb, hml, hown, hE, hZ, hB⟩ := C
  intro H locs ls h1 h2 h3
  have hts := hE.use args
  have hKn := hE.1.1 ci _ K.1
  refine W.newcK hx hb hown (hts _ hw) (hts _ hw2) (hts _ hw3) rfl hd hc1 hc2 hKn.2.1 rfl fun H1 kC hkC e1 z1 o1 => ?_
  exact kk H.size (h1.fresh (Nat.le_refl _)) H1 locs ls (h1.push ⟨_, K.1, (u_born ty hts K.2.2.2 hKn hkC e1 K.2.1).to hfs⟩ z1 o1) ⟨Nat.le_trans h2.1 (by omega), fun x g1 g2 => (o1 x (Nat.lt_of_lt_of_le g1 h2.1)).trans (h2.2.1 x g1 g2), h2.2.2⟩ h3
theorem v_newa (C : Bx X y cc) (t : Nat) {at0 : ArrayType} {ty0 : FieldType} {L : Nat} {z : vp_A} {v : Int32} (hty : newarray.typeOf at0 = ty0) (ht : (gT (xg X))[t]? = some (gC (xg X) t, ty0)) (hw : Cond.arrayClass ty0 ∈ tbl) (hnm : ∀ U cA, va_RA U cA ty0 → U.vm.findClass ("[" ++ ty0.toString) = some cA) (hz : ∀ cA : ClassId, vp_cell cA z = arrV cA L (fun _ => defaultValue ty0)) (hv : ¬ v < 0) (hvL : v.toNatClampNeg = L) (hby : L * componentBytes ty0 ≤ 536870912) (hc1 : k + 1 ≤ R.cells) (hc2 : n + L ≤ R.slots) (hd : decode cc pc = .ok (.newarray at0, 2)) (kk : ∀ q : Nat, M q = none → V X R (mset M q (.inl (gC (xg X) t, z))) (k + 1) (n + L) lv (pc + 2) (.ref q :: rest)) : V X R M k n lv pc (.int v :: rest) := by
  obtain ⟨p, l, e, s, m, args, below, meth, c, Q, g, nL⟩ := X
  obtain ⟨hx, hb, hml, hown, hE, hZ, hB⟩ := C
  intro H locs ls h1 h2 h3
  subst hty
  refine va_newaK hx hb (hE.use args _ hw) rfl hd rfl hv hvL hby hc1 hc2 rfl fun H1 cA e1 z1 o1 hAr hNm => ?_
  have hcA : cA = gC g t := Option.some.inj (hNm.symm.trans (hnm _ _ (hE.1.2 t _ ht).2))
  subst hcA
  refine kk H.size (h1.fresh (Nat.le_refl _)) H1 locs ls (h1.push ?_ z1 o1) ⟨Nat.le_trans h2.1 (by omega), fun x g1 g2 => (o1 x (Nat.lt_of_lt_of_le g1 h2.1)).trans (h2.2.1 x g1 g2), h2.2.2⟩ h3
  show H1[H.size]? = some (vp_cell _ _)
  rw [hz]
  exact e1
theorem v_newq (C : Bx X y cc) (t : Nat) {Cj : String} {L : Nat} {v : Int32} (ht : (gT (xg X))[t]? = some (gC (xg X) t, .object Cj)) (hw : Cond.classLink y.cls ix Cj ∈ tbl) (hw2 : Cond.arrayOver (.object Cj) ∈ tbl) (hv : ¬ v < 0) (hvL : v.toNatClampNeg = L) (hby : L * 4 ≤ 536870912) (hc1 : k + 1 ≤ R.cells) (hc2 : n + L ≤ R.slots) (hd : decode cc pc = .ok (.anewarray ix, 3)) (kk : ∀ q : Nat, M q = none → V X R (mset M q (aQ (xg X) t L (fun _ => none))) (k + 1) (n + L) lv (pc + 3) (.ref q :: rest)) : V X R M k n lv pc (.int v :: rest) := by
  obtain ⟨p, l, e, s, m, args, below, meth, c, Q, g, nL⟩ := X
  obtain ⟨hx, hb, hml, hown, hE, hZ, hB⟩ := C
  intro H locs ls h1 h2 h3
  subst hvL
  refine W.anew hx hb hown (hE.use args _ hw) (hE.use args _ hw2) rfl hd rfl hv hby hc1 hc2 fun cA kA comp f1 f2 f3 f4 => ?_
  have hcA : cA = gC g t := by
    obtain ⟨kA', comp', k1, k2, k3, k4⟩ := (hE.1.2 t _ ht).2
    exact Option.some.inj (f1.symm.trans k4)
  subst hcA
  generalize hH1 : H.push ({ cls := gC g t, slots := Array.replicate v.toNatClampNeg .null, vm := .none } : Cell) = H1
  have z1 : H1.size = H.size + 1 := by rw [← hH1, Array.size_push]
  have e1 : H1[H.size]? = some (arrV (gC g t) v.toNatClampNeg (fun _ => .null)) := by rw [← hH1, Array.getElem?_push_size, ← arrV_new]
  have o1 : ∀ q : Nat, q < H.size → H1[q]? = H[q]? := fun q hq => by rw [← hH1, Array.getElem?_push, if_neg (Nat.ne_of_lt hq)]
  refine kk H.size (h1.fresh (Nat.le_refl _)) H1 locs ls (h1.push ?_ z1 o1) ⟨Nat.le_trans h2.1 (by omega), fun x g1 g2 => (o1 x (Nat.lt_of_lt_of_le g1 h2.1)).trans (h2.2.1 x g1 g2), h2.2.2⟩ h3
  show H1[H.size]? = some (vp_cell _ _)
  rw [vp_cell_q]
  exact e1
theorem v_getE (C : Bx X y cc) {host : String} (hw : Cond.fieldLinkNest y.cls ix "PictureDesk" "EAST_STEP" "[I" host ∈ tbl) (hd : decode cc pc = .ok (.getstatic ix, 3)) (kk : V X R M k n lv (pc + 3) (.ref (gE (xg X)) :: rest)) : V X R M k n lv pc rest := by
  obtain ⟨p, l, e, s, m, args, below, meth, c, Q, g, nL⟩ := X
  obtain ⟨hx, hb, hml, hown, hE, hZ, hB⟩ := C
  intro H locs ls h1 h2 h3
  exact va_getsN hx hb hZ.1.1 h2 hown (hE.use args _ hw) (fun _ h9 => h9) hd (kk H locs ls h1 h2 h3)
theorem v_getS (C : Bx X y cc) {host : String} (hw : Cond.fieldLinkNest y.cls ix "PictureDesk" "SOUTH_STEP" "[I" host ∈ tbl) (hd : decode cc pc = .ok (.getstatic ix, 3)) (kk : V X R M k n lv (pc + 3) (.ref (gS (xg X)) :: rest)) : V X R M k n lv pc rest := by
  obtain ⟨p, l, e, s, m, args, below, meth, c, Q, g, nL⟩ := X
  obtain ⟨hx, hb, hml, hown, hE, hZ, hB⟩ := C
  intro H locs ls h1 h2 h3
  exact va_getsN hx hb hZ.2.1 h2 hown (hE.use args _ hw) (fun _ h9 => h9) hd (kk H locs ls h1 h2 h3)
theorem v_ialdE (C : Bx X y cc) {i : Int32} (hi : vp_in i 8) (hd : decode cc pc = .ok (.iaload, 1)) (kk : V X R M k n lv (pc + 1) (.int (east i.toNatClampNeg) :: rest)) : V X R M k n lv pc (.int i :: .ref (gE (xg X)) :: rest) := by
  obtain ⟨p, l, e, s, m, args, below, meth, c, Q, g, nL⟩ := X
  obtain ⟨hx, hb, hml, hown, hE, hZ, hB⟩ := C
  intro H locs ls h1 h2 h3
  exact va_ti hx hb hZ.1.2 h2 hi rfl hd (kk H locs ls h1 h2 h3)
theorem v_ialdS (C : Bx X y cc) {i : Int32} (hi : vp_in i 8) (hd : decode cc pc = .ok (.iaload, 1)) (kk : V X R M k n lv (pc + 1) (.int (south i.toNatClampNeg) :: rest)) : V X R M k n lv pc (.int i :: .ref (gS (xg X)) :: rest) := by
  obtain ⟨p, l, e, s, m, args, below, meth, c, Q, g, nL⟩ := X
  obtain ⟨hx, hb, hml, hown, hE, hZ, hB⟩ := C
  intro H locs ls h1 h2 h3
  exact va_ti hx hb hZ.2.2 h2 hi rfl hd (kk H locs ls h1 h2 h3)
theorem v_obj (C : Bx X y cc) (hw : Cond.methodLink y.cls ix Lib.objectInit ∈ tbl) (hw2 : Cond.instanceMethod Lib.objectInit ∈ tbl) (hw3 : Cond.code Lib.objectInit ⟨#[0xb1]⟩ 1 none ∈ tbl) (hf : 1 ≤ R.frames) (hl : (rest.map fun v => v.category).sum + 12 ≤ R.locals) (hd : decode cc pc = .ok (.invokespecial ix, 3)) (kk : V X R M k n lv (pc + 3) rest) : V X R M k n lv pc (.ref a :: rest) := by
  obtain ⟨p, l, e, s, m, args, below, meth, c, Q, g, nL⟩ := X
  obtain ⟨hx, hb, hml, hown, hE, hZ, hB⟩ := C
  intro H locs ls h1 h2 h3
  exact W.objInit hx hb hown (hE.use args _ hw) (hE.use args _ hw2) (hE.use args _ hw3) rfl (by rw [hml]; exact h3.1) rfl hd hf (by show 2 * 0 + _ + 12 ≤ _; omega) (kk H locs ls h1 h2 h3)
end VHeap
end
section
/-! Rows of V for calls: by the contract of the callee. -/
theorem Ct.blind {g : Gm} {M : Mem} {av : List Value} : FrameBlind (va_Pc av (fun U => eW g U ∧ hW g M U.heap ∧ sW g U U.heap)) := fun a U gf mk h => ⟨h.1, eW.same (s := U) (U := U.calling gf mk a) rfl h.2.1, h.2.2.1, sW.moved (Vm.Alike.refl _) h.2.2.2⟩
theorem Ct.pre {g : Gm} {M : Mem} {s : State} {H : Heap} {locs : List Loc} (hE : eW g s) (hZ : sW g s s.heap) (h1 : hW g M H) (h2 : va_S (gA g) s.heap H locs) (av : List Value) (U : State) (hU : U.heap = H) (hw : s.WarmedH U.vm) : va_Pc av (fun U => eW g U ∧ hW g M U.heap ∧ sW g U U.heap) av.toArray U :=
  ⟨rfl, hE.warm hw, by rw [hU]; exact h1, sW.moved hw.alike (by rw [hU]; exact hZ.kept (fun a ha hn => h2.2.1 a ha hn))⟩
/-- what the tables say of a method that is called with np arguments -/
def Pm (y : MethodName) (cc : ByteArray) (nL : Nat) (ret : Option FieldType) (np : Nat) : Prop := Cond.code y cc nL ret ∈ tbl ∧ Cond.initialized y.cls ∈ tbl ∧ y.cls ≠ "java/lang/invoke/MethodHandle" ∧ y.cls ≠ "java/lang/invoke/VarHandle" ∧ (parseMethodDescriptor y.desc).map (fun d => d.parameters.length) = some np
theorem Pm.good {y : MethodName} {cc : ByteArray} {nL : Nat} {ret : Option FieldType} {np : Nat} (P : Pm y cc nL ret np) : GoodIn tbl [Cond.code y cc nL ret] := fun w hw => by
  cases List.mem_singleton.mp hw
  exact ⟨P.1, Or.inl rfl⟩
section VCalls
variable {X : FC} {y y' : MethodName} {cc cc' : ByteArray} {R : Room} {M : Mem} {k n nL' d' mc' ms' ix : Nat} {ret' : Option FieldType} {lv : List (Nat × Value)} {pc : Nat} {st As rest : List Value} {post : Option Value → Mem → Prop} {b : Nat}
theorem v_back {p : Program} {l : Launch} {e : Env} {s : State} {m : MethodId} {args : Array Value} {below : List Frame} {meth : Method} {c : Code} {Q : State → Prop} {g : Gm} {nL : Nat} {H : Heap} {locs : List Loc} {ls : Array Slot} {a : Array Value} (h2 : va_S (gA g) s.heap H locs) (h3 : lv_has ls nL lv)
    (hr : va_Run p l e R s m args below meth c H locs k n mc' ms' (F0 m pc ls st) rest (qW g post a) (gA g)) (kk : ∀ (v : Option Value) (M' : Mem), post v M' → V (p, l, e, s, m, args, below, meth, c, Q, g, nL) R M' (k + mc') (n + ms') lv (pc + 3) (v.toList ++ rest)) : W p l e R s m args below meth c H locs k n Q (F0 m pc ls st) := by
  intro T hT X
  obtain ⟨v, st₀, t, T', L, h0, X', hL, e1, e2, ⟨v', M', hv, hp, hH, hz, hk⟩, stp⟩ := hr T hT X
  cases hv
  rw [h0] at hz hk
  obtain ⟨t2, a1, b1⟩ := kk v M' hp T'.heap (locs ++ L) ls (by rw [e1]; exact hH) ⟨Nat.le_trans h2.1 (by rw [e1]; exact hz), fun q g1 g2 => by rw [e1, hk q (Nat.lt_of_lt_of_le g1 h2.1) g2]; exact h2.2.1 q g1 g2, fun q hq => by
      rcases List.mem_append.mp hq with h | h
      · exact h2.2.2 q h
      · exact hL q h⟩ h3 T' rfl X'
  exact ⟨t2, stp t2 a1, b1⟩
theorem v_callV (C : Bx X y cc) (hc : Ct (xl X) (xg X) y' cc' nL' ret' d' mc' ms' (.ref b :: As) M post) (P : Pm y' cc' nL' ret' As.length) (hi : Cond.instanceMethod y' ∈ tbl) (hs : Cond.selects y'.cls y' y' ∈ tbl) (hw : Cond.methodLink y.cls ix y' ∈ tbl) {ci N : Nat} {T : u_T} {ty : Nat → FieldType} {fs : List Value} (K : Kc ci y'.cls T N ty) (hm : M b = some (.inr (ci, fs))) (hR : d' + 1 ≤ R.frames ∧ 8 + (nL' + 11) + 44 * d' ≤ R.locals) (hR2 : k + mc' ≤ R.cells ∧ n + ms' ≤ R.slots) (hrest : (rest.map fun v => v.category).sum ≤ 8) (hd : decode cc pc = .ok (.invokevirtual ix, 3)) (hst : st = As.reverse ++ .ref b :: rest) (kk : ∀ (v : Option Value) (M' : Mem), post v M' → V X R M' (k + mc') (n + ms') lv (pc + 3) (v.toList ++ rest)) : V X R M k n lv pc st := by
  obtain ⟨p, l, e, s, m, args, below, meth, c, Q, g, nL⟩ := X
  obtain ⟨hx, hb, hml, hown, hE, hZ, hB⟩ := C
  intro H locs ls h1 h2 h3
  have hts := hE.use args
  exact v_back h2 h3 (va_runV (As := As) (rest := rest) ⟨hx, hb, hml, hown, hts⟩ hc ⟨callB_of As.length hts P.good rfl rfl rfl (hts _ P.2.1) (hts _ hw) P.2.2 hR, hts _ hi, hts _ hs⟩ ⟨Ct.blind, va_recv hE.1 (h1.one hm) (q0 := 0) K.1 rfl, Ct.pre hE hZ h1 h2 _⟩ rfl rfl h3.1 hst (lv_room hrest) hd hR2) kk
theorem v_callS (C : Bx X y cc) (hc : Ct (xl X) (xg X) y' cc' nL' ret' d' mc' ms' As M post) (P : Pm y' cc' nL' ret' As.length) (hi : Cond.static y' ∈ tbl) (hw : Cond.methodLink y.cls ix y' ∈ tbl) (hR : d' + 1 ≤ R.frames ∧ 8 + (nL' + 11) + 44 * d' ≤ R.locals) (hR2 : k + mc' ≤ R.cells ∧ n + ms' ≤ R.slots) (hrest : (rest.map fun v => v.category).sum ≤ 8) (hd : decode cc pc = .ok (.invokestatic ix, 3)) (hst : st = As.reverse ++ rest) (kk : ∀ (v : Option Value) (M' : Mem), post v M' → V X R M' (k + mc') (n + ms') lv (pc + 3) (v.toList ++ rest)) : V X R M k n lv pc st := by
  obtain ⟨p, l, e, s, m, args, below, meth, c, Q, g, nL⟩ := X
  obtain ⟨hx, hb, hml, hown, hE, hZ, hB⟩ := C
  intro H locs ls h1 h2 h3
  have hts := hE.use args
  exact v_back h2 h3 (va_runS (As := As) (rest := rest) ⟨hx, hb, hml, hown, hts⟩ hc ⟨callB_of As.length hts P.good rfl rfl rfl (hts _ P.2.1) (hts _ hw) P.2.2 hR, hts _ hi⟩ ⟨Ct.blind, Ct.pre hE hZ h1 h2 _⟩ rfl rfl h3.1 hst (lv_room hrest) hd hR2) kk
theorem v_callSN (C : Bx X y cc) {host : String} (hc : Ct (xl X) (xg X) y' cc' nL' ret' d' mc' ms' As M post) (P : Pm y' cc' nL' ret' As.length) (hi : Cond.static y' ∈ tbl) (hw : Cond.methodLinkNest y.cls ix y' host ∈ tbl) (hR : d' + 1 ≤ R.frames ∧ 8 + (nL' + 11) + 44 * d' ≤ R.locals) (hR2 : k + mc' ≤ R.cells ∧ n + ms' ≤ R.slots) (hrest : (rest.map fun v => v.category).sum ≤ 8) (hd : decode cc pc = .ok (.invokestatic ix, 3)) (hst : st = As.reverse ++ rest) (kk : ∀ (v : Option Value) (M' : Mem), post v M' → V X R M' (k + mc') (n + ms') lv (pc + 3) (v.toList ++ rest)) : V X R M k n lv pc st := by
  obtain ⟨p, l, e, s, m, args, below, meth, c, Q, g, nL⟩ := X
  obtain ⟨hx, hb, hml, hown, hE, hZ, hB⟩ := C
  intro H locs ls h1 h2 h3
  have hts := hE.use args
  exact v_back h2 h3 (va_runSN (As := As) (rest := rest) ⟨hx, hb, hml, hown, hts⟩ hc ⟨va_cnB As.length hts P.good rfl rfl rfl (hts _ hw) (hts _ P.2.1) P.2.2 hR, hts _ hi, trivial⟩ ⟨Ct.blind, Ct.pre hE hZ h1 h2 _⟩ rfl rfl h3.1 hst (lv_room hrest) hd hR2) kk
theorem v_callI (C : Bx X y cc) (hc : Ct (xl X) (xg X) y' cc' nL' none d' mc' ms' (.ref b :: As) M post) (P : Pm y' cc' nL' none As.length) (hi : Cond.instanceMethod y' ∈ tbl) (hyn : y'.name = "<init>") (hw : Cond.methodLink y.cls ix y' ∈ tbl) (hR : d' + 1 ≤ R.frames ∧ 8 + (nL' + 11) + 44 * d' ≤ R.locals) (hR2 : k + mc' ≤ R.cells ∧ n + ms' ≤ R.slots) (hrest : (rest.map fun v => v.category).sum ≤ 8) (hd : decode cc pc = .ok (.invokespecial ix, 3)) (hst : st = As.reverse ++ .ref b :: rest) (kk : ∀ (v : Option Value) (M' : Mem), post v M' → V X R M' (k + mc') (n + ms') lv (pc + 3) (v.toList ++ rest)) : V X R M k n lv pc st := by
  obtain ⟨p, l, e, s, m, args, below, meth, c, Q, g, nL⟩ := X
  obtain ⟨hx, hb, hml, hown, hE, hZ, hB⟩ := C
  intro H locs ls h1 h2 h3
  have hts := hE.use args
  exact v_back h2 h3 (va_runI (As := As) (rest := rest) ⟨hx, hb, hml, hown, hts⟩ hc ⟨callB_of As.length hts P.good rfl rfl rfl (hts _ P.2.1) (hts _ hw) P.2.2 hR, hyn, hts _ hi⟩ ⟨Ct.blind, Ct.pre hE hZ h1 h2 _⟩ rfl rfl h3.1 hst (lv_room hrest) hd hR2) kk
theorem v_callIN (C : Bx X y cc) {host : String} (hc : Ct (xl X) (xg X) y' cc' nL' none d' mc' ms' (.ref b :: As) M post) (P : Pm y' cc' nL' none As.length) (hi : Cond.instanceMethod y' ∈ tbl) (hyn : y'.name = "<init>") (hw : Cond.methodLinkNest y.cls ix y' host ∈ tbl) (hR : d' + 1 ≤ R.frames ∧ 8 + (nL' + 11) + 44 * d' ≤ R.locals) (hR2 : k + mc' ≤ R.cells ∧ n + ms' ≤ R.slots) (hrest : (rest.map fun v => v.category).sum ≤ 8) (hd : decode cc pc = .ok (.invokespecial ix, 3)) (hst : st = As.reverse ++ .ref b :: rest) (kk : ∀ (v : Option Value) (M' : Mem), post v M' → V X R M' (k + mc') (n + ms') lv (pc + 3) (v.toList ++ rest)) : V X R M k n lv pc st := by
  obtain ⟨p, l, e, s, m, args, below, meth, c, Q, g, nL⟩ := X
  obtain ⟨hx, hb, hml, hown, hE, hZ, hB⟩ := C
  intro H locs ls h1 h2 h3
  have hts := hE.use args
  exact v_back h2 h3 (va_runIN (As := As) (rest := rest) ⟨hx, hb, hml, hown, hts⟩ hc ⟨va_cnB As.length hts P.good rfl rfl rfl (hts _ hw) (hts _ P.2.1) P.2.2 hR, hyn, hts _ hi⟩ ⟨Ct.blind, Ct.pre hE hZ h1 h2 _⟩ rfl rfl h3.1 hst (lv_room hrest) hd hR2) kk
/-- a contract that names its answer and its cells, and makes none -/
abbrev Cd (l : Launch) (g : Gm) (y : MethodName) (cc : ByteArray) (nL : Nat) (ret : Option FieldType) (d : Nat) (av : List Value) (M : Mem) (v : Option Value) (M' : Mem) : Prop := Ct l g y cc nL ret d 0 0 av M (fun w N => w = v ∧ N = M')
theorem dt1 {M' : Mem} {v : Value} {P : Option Value → Mem → Prop} (h : P (some v) M') : ∀ (w : Option Value) (N : Mem), w = some v ∧ N = M' → P w N := fun _ _ q => by rw [q.1, q.2]; exact h
theorem dt0 {M' : Mem} {P : Option Value → Mem → Prop} (h : P none M') : ∀ (w : Option Value) (N : Mem), w = none ∧ N = M' → P w N := fun _ _ q => by rw [q.1, q.2]; exact h
theorem v_abs (C : Bx X y cc) {a : Int32} (hw : Cond.methodLink y.cls ix Lib.Math.abs.name ∈ tbl) (h1 : Cond.static Lib.Math.abs.name ∈ tbl) (h2 : Cond.initialized "java/lang/Math" ∈ tbl) (h3 : Cond.code Lib.Math.abs.name Lib.Math.abs.code 1 (some .int) ∈ tbl) (hf : 1 ≤ R.frames) (hl : (rest.map fun v => v.category).sum + 13 ≤ R.locals) (hk : k ≤ R.cells ∧ n ≤ R.slots) (hd : decode cc pc = .ok (.invokestatic ix, 3)) (kk : V X R M k n lv (pc + 3) (.int (if 0 ≤ a then a else 0 - a) :: rest)) : V X R M k n lv pc (.int a :: rest) := by
  obtain ⟨p, l, e, s, m, args, below, meth, c, Q, g, nL⟩ := X
  obtain ⟨hx, hb, hml, hown, hE, hZ, hB⟩ := C
  intro H locs ls g1 g2 g3
  exact va_mabs hx hb (by rw [hml]; exact g3.1.symm) hown (hE.use args _ hw) (hE.use args _ h1) (hE.use args _ h2) (hE.use args _ h3) hf hl hk.1 hk.2 hd (kk H locs ls g1 g2 g3)
theorem v_max (C : Bx X y cc) {a b : Int32} (hw : Cond.methodLink y.cls ix Lib.Math.max.name ∈ tbl) (h1 : Cond.static Lib.Math.max.name ∈ tbl) (h2 : Cond.initialized "java/lang/Math" ∈ tbl) (h3 : Cond.code Lib.Math.max.name Lib.Math.max.code 2 (some .int) ∈ tbl) (hf : 1 ≤ R.frames) (hl : (rest.map fun v => v.category).sum + 13 ≤ R.locals) (hk : k ≤ R.cells ∧ n ≤ R.slots) (hd : decode cc pc = .ok (.invokestatic ix, 3)) (kk : V X R M k n lv (pc + 3) (.int (if a < b then b else a) :: rest)) : V X R M k n lv pc (.int b :: .int a :: rest) := by
  obtain ⟨p, l, e, s, m, args, below, meth, c, Q, g, nL⟩ := X
  obtain ⟨hx, hb, hml, hown, hE, hZ, hB⟩ := C
  intro H locs ls g1 g2 g3
  exact va_mmax hx hb (by rw [hml]; exact g3.1.symm) hown (hE.use args _ hw) (hE.use args _ h1) (hE.use args _ h2) (hE.use args _ h3) hf hl hk.1 hk.2 hd (kk H locs ls g1 g2 g3)
theorem v_min (C : Bx X y cc) {a b : Int32} (hw : Cond.methodLink y.cls ix Lib.Math.min.name ∈ tbl) (h1 : Cond.static Lib.Math.min.name ∈ tbl) (h2 : Cond.initialized "java/lang/Math" ∈ tbl) (h3 : Cond.code Lib.Math.min.name Lib.Math.min.code 2 (some .int) ∈ tbl) (hf : 1 ≤ R.frames) (hl : (rest.map fun v => v.category).sum + 13 ≤ R.locals) (hk : k ≤ R.cells ∧ n ≤ R.slots) (hd : decode cc pc = .ok (.invokestatic ix, 3)) (kk : V X R M k n lv (pc + 3) (.int (if b < a then b else a) :: rest)) : V X R M k n lv pc (.int b :: .int a :: rest) := by
  obtain ⟨p, l, e, s, m, args, below, meth, c, Q, g, nL⟩ := X
  obtain ⟨hx, hb, hml, hown, hE, hZ, hB⟩ := C
  intro H locs ls g1 g2 g3
  exact va_mmin hx hb (by rw [hml]; exact g3.1.symm) hown (hE.use args _ hw) (hE.use args _ h1) (hE.use args _ h2) (hE.use args _ h3) hf hl hk.1 hk.2 hd (kk H locs ls g1 g2 g3)
end VCalls
end
section
theorem nle {a b : Nat} (h : Nat.ble a b = true) : a ≤ b := Nat.le_of_ble_eq_true h
theorem cell_ne {M : Mem} {a b : Nat} {e f : va_E} (h1 : M a = some e) (h2 : M b = some f) (h : e ≠ f) : a ≠ b := fun q => h (Option.some.inj (h1.symm.trans (q ▸ h2)))
theorem fits_b01 {v : Int32} (h : v = 0 ∨ v = 1) : fits .boolean (.int v) = true := by rcases h with rfl | rfl <;> decide +kernel
theorem pm_X0_init : Pm yX0_init cX0_init 1 none 0 := ⟨wC_X0_init, wN_X0, by decide +kernel, by decide +kernel, by decide +kernel⟩
theorem pm_X0_size : Pm yX0_size cX0_size 1 (some .int) 0 := ⟨wC_X0_size, wN_X0, by decide +kernel, by decide +kernel, by decide +kernel⟩
theorem pm_X0_isFull : Pm yX0_isFull cX0_isFull 1 (some .boolean) 0 := ⟨wC_X0_isFull, wN_X0, by decide +kernel, by decide +kernel, by decide +kernel⟩
theorem pm_X0_add : Pm yX0_add cX0_add 2 (some .int) 1 := ⟨wC_X0_add, wN_X0, by decide +kernel, by decide +kernel, by decide +kernel⟩
theorem pm_X0_find : Pm yX0_find cX0_find 2 (some (.object "PictureDesk$Picture")) 1 := ⟨wC_X0_find, wN_X0, by decide +kernel, by decide +kernel, by decide +kernel⟩
theorem pm_X0_hasDay : Pm yX0_hasDay cX0_hasDay 4 (some .boolean) 1 := ⟨wC_X0_hasDay, wN_X0, by decide +kernel, by decide +kernel, by decide +kernel⟩
theorem pm_X0_develop : Pm yX0_develop cX0_develop 4 none 1 := ⟨wC_X0_develop, wN_X0, by decide +kernel, by decide +kernel, by decide +kernel⟩
theorem pm_X1_init : Pm yX1_init cX1_init 1 none 0 := ⟨wC_X1_init, wN_X1, by decide +kernel, by decide +kernel, by decide +kernel⟩
theorem pm_X1_known : Pm yX1_known cX1_known 2 (some .int) 1 := ⟨wC_X1_known, wN_X1, by decide +kernel, by decide +kernel, by decide +kernel⟩
theorem pm_X1_learn : Pm yX1_learn cX1_learn 8 none 3 := ⟨wC_X1_learn, wN_X1, by decide +kernel, by decide +kernel, by decide +kernel⟩
theorem pm_X1_lookAt : Pm yX1_lookAt cX1_lookAt 9 none 5 := ⟨wC_X1_lookAt, wN_X1, by decide +kernel, by decide +kernel, by decide +kernel⟩
theorem pm_X1_comeNearer : Pm yX1_comeNearer cX1_comeNearer 3 none 2 := ⟨wC_X1_comeNearer, wN_X1, by decide +kernel, by decide +kernel, by decide +kernel⟩
theorem pm_X1_ruleOutTheRest : Pm yX1_ruleOutTheRest cX1_ruleOutTheRest 2 none 0 := ⟨wC_X1_ruleOutTheRest, wN_X1, by decide +kernel, by decide +kernel, by decide +kernel⟩
theorem pm_X2_init : Pm yX2_init cX2_init 1 none 0 := ⟨wC_X2_init, wN_X2, by decide +kernel, by decide +kernel, by decide +kernel⟩
theorem pm_X2_plan : Pm yX2_plan cX2_plan 6 none 5 := ⟨wC_X2_plan, wN_X2, by decide +kernel, by decide +kernel, by decide +kernel⟩
theorem pm_X2_weigh : Pm yX2_weigh cX2_weigh 4 none 1 := ⟨wC_X2_weigh, wN_X2, by decide +kernel, by decide +kernel, by decide +kernel⟩
theorem pm_X2_weighColumn : Pm yX2_weighColumn cX2_weighColumn 6 none 1 := ⟨wC_X2_weighColumn, wN_X2, by decide +kernel, by decide +kernel, by decide +kernel⟩
theorem pm_X2_tenthsMissing : Pm yX2_tenthsMissing cX2_tenthsMissing 3 (some .int) 2 := ⟨wC_X2_tenthsMissing, wN_X2, by decide +kernel, by decide +kernel, by decide +kernel⟩
theorem pm_X2_weight : Pm yX2_weight cX2_weight 2 (some .long) 1 := ⟨wC_X2_weight, wN_X2, by decide +kernel, by decide +kernel, by decide +kernel⟩
theorem pm_X2_riskOf : Pm yX2_riskOf cX2_riskOf 4 (some .int) 1 := ⟨wC_X2_riskOf, wN_X2, by decide +kernel, by decide +kernel, by decide +kernel⟩
theorem pm_X2_choose : Pm yX2_choose cX2_choose 8 (some .int) 1 := ⟨wC_X2_choose, wN_X2, by decide +kernel, by decide +kernel, by decide +kernel⟩
theorem pm_X3_init : Pm yX3_init cX3_init 1 none 0 := ⟨wC_X3_init, wN_X3, by decide +kernel, by decide +kernel, by decide +kernel⟩
theorem pm_X3_size : Pm yX3_size cX3_size 1 (some .int) 0 := ⟨wC_X3_size, wN_X3, by decide +kernel, by decide +kernel, by decide +kernel⟩
theorem pm_X3_isFull : Pm yX3_isFull cX3_isFull 1 (some .boolean) 0 := ⟨wC_X3_isFull, wN_X3, by decide +kernel, by decide +kernel, by decide +kernel⟩
theorem pm_X3_add : Pm yX3_add cX3_add 2 (some .int) 1 := ⟨wC_X3_add, wN_X3, by decide +kernel, by decide +kernel, by decide +kernel⟩
theorem pm_X3_find : Pm yX3_find cX3_find 2 (some (.object "PictureDesk$Thing")) 1 := ⟨wC_X3_find, wN_X3, by decide +kernel, by decide +kernel, by decide +kernel⟩
theorem pm_X3_counting : Pm yX3_counting cX3_counting 6 (some .int) 2 := ⟨wC_X3_counting, wN_X3, by decide +kernel, by decide +kernel, by decide +kernel⟩
theorem pm_X3_fillCounting : Pm yX3_fillCounting cX3_fillCounting 5 none 2 := ⟨wC_X3_fillCounting, wN_X3, by decide +kernel, by decide +kernel, by decide +kernel⟩
theorem pm_X3_lay : Pm yX3_lay cX3_lay 7 none 2 := ⟨wC_X3_lay, wN_X3, by decide +kernel, by decide +kernel, by decide +kernel⟩
theorem pm_X4_init : Pm yX4_init cX4_init 1 none 0 := ⟨wC_X4_init, wN_X4, by decide +kernel, by decide +kernel, by decide +kernel⟩
theorem pm_X4_cell : Pm yX4_cell cX4_cell 1 (some .int) 0 := ⟨wC_X4_cell, wN_X4, by decide +kernel, by decide +kernel, by decide +kernel⟩
theorem pm_X4_most : Pm yX4_most cX4_most 1 (some .int) 0 := ⟨wC_X4_most, wN_X4, by decide +kernel, by decide +kernel, by decide +kernel⟩
theorem pm_X4_draw : Pm yX4_draw cX4_draw 5 none 2 := ⟨wC_X4_draw, wN_X4, by decide +kernel, by decide +kernel, by decide +kernel⟩
theorem pm_X4_drawFrom : Pm yX4_drawFrom cX4_drawFrom 6 none 1 := ⟨wC_X4_drawFrom, wN_X4, by decide +kernel, by decide +kernel, by decide +kernel⟩
theorem pm_X4_allMayCross : Pm yX4_allMayCross cX4_allMayCross 5 (some .boolean) 2 := ⟨wC_X4_allMayCross, wN_X4, by decide +kernel, by decide +kernel, by decide +kernel⟩
theorem pm_X4_mayCross : Pm yX4_mayCross cX4_mayCross 6 (some .boolean) 1 := ⟨wC_X4_mayCross, wN_X4, by decide +kernel, by decide +kernel, by decide +kernel⟩
theorem pm_X4_lots : Pm yX4_lots cX4_lots 7 (some .long) 2 := ⟨wC_X4_lots, wN_X4, by decide +kernel, by decide +kernel, by decide +kernel⟩
theorem pm_X5_init : Pm yX5_init cX5_init 6 none 5 := ⟨wC_X5_init, wN_X5, by decide +kernel, by decide +kernel, by decide +kernel⟩
theorem pm_X5_develop : Pm yX5_develop cX5_develop 4 none 1 := ⟨wC_X5_develop, wN_X5, by decide +kernel, by decide +kernel, by decide +kernel⟩
theorem pm_X5_shadowOf : Pm yX5_shadowOf cX5_shadowOf 2 (some .int) 1 := ⟨wC_X5_shadowOf, wN_X5, by decide +kernel, by decide +kernel, by decide +kernel⟩
theorem pm_X5_castShadow : Pm yX5_castShadow cX5_castShadow 7 none 2 := ⟨wC_X5_castShadow, wN_X5, by decide +kernel, by decide +kernel, by decide +kernel⟩
theorem pm_X5_day : Pm yX5_day cX5_day 1 (some .int) 0 := ⟨wC_X5_day, wN_X5, by decide +kernel, by decide +kernel, by decide +kernel⟩
theorem pm_X5_tickCloud : Pm yX5_tickCloud cX5_tickCloud 3 (some .boolean) 2 := ⟨wC_X5_tickCloud, wN_X5, by decide +kernel, by decide +kernel, by decide +kernel⟩
theorem pm_X5_covers : Pm yX5_covers cX5_covers 2 (some .boolean) 1 := ⟨wC_X5_covers, wN_X5, by decide +kernel, by decide +kernel, by decide +kernel⟩
theorem pm_X5_look : Pm yX5_look cX5_look 2 (some .int) 1 := ⟨wC_X5_look, wN_X5, by decide +kernel, by decide +kernel, by decide +kernel⟩
theorem pm_X5_counting : Pm yX5_counting cX5_counting 2 (some .int) 1 := ⟨wC_X5_counting, wN_X5, by decide +kernel, by decide +kernel, by decide +kernel⟩
theorem pm_X5_tally : Pm yX5_tally cX5_tally 4 (some .int) 1 := ⟨wC_X5_tally, wN_X5, by decide +kernel, by decide +kernel, by decide +kernel⟩
theorem pm_X5_sortOf : Pm yX5_sortOf cX5_sortOf 1 (some .int) 1 := ⟨wC_X5_sortOf, wN_X5, by decide +kernel, by decide +kernel, by decide +kernel⟩
theorem pm_X5_leastHeight : Pm yX5_leastHeight cX5_leastHeight 3 (some .int) 1 := ⟨wC_X5_leastHeight, wN_X5, by decide +kernel, by decide +kernel, by decide +kernel⟩
theorem pm_X5_greatestHeight : Pm yX5_greatestHeight cX5_greatestHeight 3 (some .int) 1 := ⟨wC_X5_greatestHeight, wN_X5, by decide +kernel, by decide +kernel, by decide +kernel⟩
theorem pm_X5_isUnlike : Pm yX5_isUnlike cX5_isUnlike 3 (some .boolean) 2 := ⟨wC_X5_isUnlike, wN_X5, by decide +kernel, by decide +kernel, by decide +kernel⟩
theorem pm_X5_unlike : Pm yX5_unlike cX5_unlike 4 (some .int) 1 := ⟨wC_X5_unlike, wN_X5, by decide +kernel, by decide +kernel, by decide +kernel⟩
theorem pm_X5_unlikeByHour : Pm yX5_unlikeByHour cX5_unlikeByHour 5 (some .int) 1 := ⟨wC_X5_unlikeByHour, wN_X5, by decide +kernel, by decide +kernel, by decide +kernel⟩
theorem pm_X5_firstUnlike : Pm yX5_firstUnlike cX5_firstUnlike 3 (some .int) 1 := ⟨wC_X5_firstUnlike, wN_X5, by decide +kernel, by decide +kernel, by decide +kernel⟩
theorem pm_X6_init : Pm yX6_init cX6_init 3 none 2 := ⟨wC_X6_init, wN_X6, by decide +kernel, by decide +kernel, by decide +kernel⟩
theorem pm_X6_number : Pm yX6_number cX6_number 1 (some .int) 0 := ⟨wC_X6_number, wN_X6, by decide +kernel, by decide +kernel, by decide +kernel⟩
theorem pm_X6_mark : Pm yX6_mark cX6_mark 2 (some .int) 1 := ⟨wC_X6_mark, wN_X6, by decide +kernel, by decide +kernel, by decide +kernel⟩
theorem pm_X6_remark : Pm yX6_remark cX6_remark 3 none 2 := ⟨wC_X6_remark, wN_X6, by decide +kernel, by decide +kernel, by decide +kernel⟩
theorem pm_X6_isThere : Pm yX6_isThere cX6_isThere 2 (some .boolean) 1 := ⟨wC_X6_isThere, wN_X6, by decide +kernel, by decide +kernel, by decide +kernel⟩
theorem pm_X6_liesOn : Pm yX6_liesOn cX6_liesOn 5 (some .boolean) 2 := ⟨wC_X6_liesOn, wN_X6, by decide +kernel, by decide +kernel, by decide +kernel⟩
theorem pm_X6_isAbove : Pm yX6_isAbove cX6_isAbove 2 (some .boolean) 1 := ⟨wC_X6_isAbove, wN_X6, by decide +kernel, by decide +kernel, by decide +kernel⟩
theorem pm_X6_hasLine : Pm yX6_hasLine cX6_hasLine 2 (some .boolean) 1 := ⟨wC_X6_hasLine, wN_X6, by decide +kernel, by decide +kernel, by decide +kernel⟩
theorem pm_X6_distance : Pm yX6_distance cX6_distance 3 (some .int) 2 := ⟨wC_X6_distance, wN_X6, by decide +kernel, by decide +kernel, by decide +kernel⟩
theorem pm_X6_tickDoing : Pm yX6_tickDoing cX6_tickDoing 3 (some .boolean) 2 := ⟨wC_X6_tickDoing, wN_X6, by decide +kernel, by decide +kernel, by decide +kernel⟩
theorem pm_X6_daysWithout : Pm yX6_daysWithout cX6_daysWithout 5 (some .int) 2 := ⟨wC_X6_daysWithout, wN_X6, by decide +kernel, by decide +kernel, by decide +kernel⟩
theorem pm_X7_init : Pm yX7_init cX7_init 1 none 0 := ⟨wC_X7_init, wN_X7, by decide +kernel, by decide +kernel, by decide +kernel⟩
theorem pm_X7_has : Pm yX7_has cX7_has 4 (some .boolean) 1 := ⟨wC_X7_has, wN_X7, by decide +kernel, by decide +kernel, by decide +kernel⟩
theorem pm_X7_put : Pm yX7_put cX7_put 6 (some .boolean) 2 := ⟨wC_X7_put, wN_X7, by decide +kernel, by decide +kernel, by decide +kernel⟩
theorem pm_X8_init : Pm yX8_init cX8_init 1 none 0 := ⟨wC_X8_init, wN_X8, by decide +kernel, by decide +kernel, by decide +kernel⟩
theorem pm_X8_signs : Pm yX8_signs cX8_signs 1 (some .int) 0 := ⟨wC_X8_signs, wN_X8, by decide +kernel, by decide +kernel, by decide +kernel⟩
theorem pm_X8_append : Pm yX8_append cX8_append 2 (some .int) 1 := ⟨wC_X8_append, wN_X8, by decide +kernel, by decide +kernel, by decide +kernel⟩
theorem pm_X8_clear : Pm yX8_clear cX8_clear 2 (some .int) 0 := ⟨wC_X8_clear, wN_X8, by decide +kernel, by decide +kernel, by decide +kernel⟩
theorem pm_X8_firstFault : Pm yX8_firstFault cX8_firstFault 3 (some .int) 0 := ⟨wC_X8_firstFault, wN_X8, by decide +kernel, by decide +kernel, by decide +kernel⟩
theorem pm_X8_behind : Pm yX8_behind cX8_behind 2 (some .int) 2 := ⟨wC_X8_behind, wN_X8, by decide +kernel, by decide +kernel, by decide +kernel⟩
theorem pm_X8_behindFact : Pm yX8_behindFact cX8_behindFact 1 (some .int) 1 := ⟨wC_X8_behindFact, wN_X8, by decide +kernel, by decide +kernel, by decide +kernel⟩
theorem pm_X8_behindJoint : Pm yX8_behindJoint cX8_behindJoint 1 (some .int) 1 := ⟨wC_X8_behindJoint, wN_X8, by decide +kernel, by decide +kernel, by decide +kernel⟩
theorem pm_X8_isDigit : Pm yX8_isDigit cX8_isDigit 1 (some .boolean) 1 := ⟨wC_X8_isDigit, wN_X8, by decide +kernel, by decide +kernel, by decide +kernel⟩
theorem pm_X8_isPlace : Pm yX8_isPlace cX8_isPlace 2 (some .boolean) 1 := ⟨wC_X8_isPlace, wN_X8, by decide +kernel, by decide +kernel, by decide +kernel⟩
theorem pm_X8_has : Pm yX8_has cX8_has 2 (some .boolean) 1 := ⟨wC_X8_has, wN_X8, by decide +kernel, by decide +kernel, by decide +kernel⟩
theorem pm_X8_keep : Pm yX8_keep cX8_keep 3 none 1 := ⟨wC_X8_keep, wN_X8, by decide +kernel, by decide +kernel, by decide +kernel⟩
theorem pm_X8_bits : Pm yX8_bits cX8_bits 3 (some .int) 0 := ⟨wC_X8_bits, wN_X8, by decide +kernel, by decide +kernel, by decide +kernel⟩
theorem pm_X8_judge : Pm yX8_judge cX8_judge 10 (some .int) 2 := ⟨wC_X8_judge, wN_X8, by decide +kernel, by decide +kernel, by decide +kernel⟩
theorem pm_X8_signOf : Pm yX8_signOf cX8_signOf 3 (some .int) 2 := ⟨wC_X8_signOf, wN_X8, by decide +kernel, by decide +kernel, by decide +kernel⟩
theorem pm_X8_test : Pm yX8_test cX8_test 3 (some .int) 3 := ⟨wC_X8_test, wN_X8, by decide +kernel, by decide +kernel, by decide +kernel⟩
theorem pm_X9_init : Pm yX9_init cX9_init 1 none 0 := ⟨wC_X9_init, wN_X9, by decide +kernel, by decide +kernel, by decide +kernel⟩
theorem pm_X9_thing : Pm yX9_thing cX9_thing 11 (some .int) 8 := ⟨wC_X9_thing, wN_X9, by decide +kernel, by decide +kernel, by decide +kernel⟩
theorem pm_X9_of : Pm yX9_of cX9_of 4 (some .int) 2 := ⟨wC_X9_of, wN_X9, by decide +kernel, by decide +kernel, by decide +kernel⟩
theorem pm_X9_set : Pm yX9_set cX9_set 6 (some .int) 3 := ⟨wC_X9_set, wN_X9, by decide +kernel, by decide +kernel, by decide +kernel⟩
theorem pm_X9_at : Pm yX9_at cX9_at 3 (some .int) 2 := ⟨wC_X9_at, wN_X9, by decide +kernel, by decide +kernel, by decide +kernel⟩
theorem pm_X9_picture : Pm yX9_picture cX9_picture 7 (some .int) 5 := ⟨wC_X9_picture, wN_X9, by decide +kernel, by decide +kernel, by decide +kernel⟩
theorem pm_X9_cloud : Pm yX9_cloud cX9_cloud 5 (some .int) 3 := ⟨wC_X9_cloud, wN_X9, by decide +kernel, by decide +kernel, by decide +kernel⟩
theorem pm_X9_shows : Pm yX9_shows cX9_shows 4 (some .int) 2 := ⟨wC_X9_shows, wN_X9, by decide +kernel, by decide +kernel, by decide +kernel⟩
theorem pm_X9_count : Pm yX9_count cX9_count 4 (some .int) 2 := ⟨wC_X9_count, wN_X9, by decide +kernel, by decide +kernel, by decide +kernel⟩
theorem pm_X9_span : Pm yX9_span cX9_span 5 (some .int) 3 := ⟨wC_X9_span, wN_X9, by decide +kernel, by decide +kernel, by decide +kernel⟩
theorem pm_X9_changed : Pm yX9_changed cX9_changed 6 (some .int) 3 := ⟨wC_X9_changed, wN_X9, by decide +kernel, by decide +kernel, by decide +kernel⟩
theorem pm_X9_say : Pm yX9_say cX9_say 2 (some .int) 1 := ⟨wC_X9_say, wN_X9, by decide +kernel, by decide +kernel, by decide +kernel⟩
theorem pm_X9_wipe : Pm yX9_wipe cX9_wipe 1 (some .int) 0 := ⟨wC_X9_wipe, wN_X9, by decide +kernel, by decide +kernel, by decide +kernel⟩
theorem pm_X9_fault : Pm yX9_fault cX9_fault 1 (some .int) 0 := ⟨wC_X9_fault, wN_X9, by decide +kernel, by decide +kernel, by decide +kernel⟩
theorem pm_X9_use : Pm yX9_use cX9_use 3 (some .int) 1 := ⟨wC_X9_use, wN_X9, by decide +kernel, by decide +kernel, by decide +kernel⟩
theorem pm_X9_fact : Pm yX9_fact cX9_fact 5 (some .int) 3 := ⟨wC_X9_fact, wN_X9, by decide +kernel, by decide +kernel, by decide +kernel⟩
theorem pm_X9_fit : Pm yX9_fit cX9_fit 5 (some .int) 3 := ⟨wC_X9_fit, wN_X9, by decide +kernel, by decide +kernel, by decide +kernel⟩
theorem pm_X9_could : Pm yX9_could cX9_could 6 (some .int) 2 := ⟨wC_X9_could, wN_X9, by decide +kernel, by decide +kernel, by decide +kernel⟩
theorem pm_X9_all : Pm yX9_all cX9_all 7 (some .int) 3 := ⟨wC_X9_all, wN_X9, by decide +kernel, by decide +kernel, by decide +kernel⟩
theorem pm_X9_meet : Pm yX9_meet cX9_meet 3 (some .int) 2 := ⟨wC_X9_meet, wN_X9, by decide +kernel, by decide +kernel, by decide +kernel⟩
theorem pm_X9_chance : Pm yX9_chance cX9_chance 5 (some .long) 2 := ⟨wC_X9_chance, wN_X9, by decide +kernel, by decide +kernel, by decide +kernel⟩
theorem pm_X9_did : Pm yX9_did cX9_did 5 (some .int) 3 := ⟨wC_X9_did, wN_X9, by decide +kernel, by decide +kernel, by decide +kernel⟩
theorem pm_X9_decoy : Pm yX9_decoy cX9_decoy 8 (some .long) 5 := ⟨wC_X9_decoy, wN_X9, by decide +kernel, by decide +kernel, by decide +kernel⟩
theorem pm_X9_sure : Pm yX9_sure cX9_sure 4 (some .int) 2 := ⟨wC_X9_sure, wN_X9, by decide +kernel, by decide +kernel, by decide +kernel⟩
theorem pm_X9_flight : Pm yX9_flight cX9_flight 6 (some .int) 5 := ⟨wC_X9_flight, wN_X9, by decide +kernel, by decide +kernel, by decide +kernel⟩
theorem pm_X9_worth : Pm yX9_worth cX9_worth 3 (some .long) 2 := ⟨wC_X9_worth, wN_X9, by decide +kernel, by decide +kernel, by decide +kernel⟩
theorem pm_X9_best : Pm yX9_best cX9_best 4 (some .int) 2 := ⟨wC_X9_best, wN_X9, by decide +kernel, by decide +kernel, by decide +kernel⟩
theorem pm_X9_lean : Pm yX9_lean cX9_lean 10 (some .long) 5 := ⟨wC_X9_lean, wN_X9, by decide +kernel, by decide +kernel, by decide +kernel⟩
theorem pm_X9_told : Pm yX9_told cX9_told 2 (some .int) 1 := ⟨wC_X9_told, wN_X9, by decide +kernel, by decide +kernel, by decide +kernel⟩
theorem pm_X9_judge : Pm yX9_judge cX9_judge 4 (some .int) 3 := ⟨wC_X9_judge, wN_X9, by decide +kernel, by decide +kernel, by decide +kernel⟩
theorem pm_X9_isWithin : Pm yX9_isWithin cX9_isWithin 3 (some .boolean) 3 := ⟨wC_X9_isWithin, wN_X9, by decide +kernel, by decide +kernel, by decide +kernel⟩
theorem pm_X9_isOnLand : Pm yX9_isOnLand cX9_isOnLand 2 (some .boolean) 2 := ⟨wC_X9_isOnLand, wN_X9, by decide +kernel, by decide +kernel, by decide +kernel⟩
theorem pm_X9_isCell : Pm yX9_isCell cX9_isCell 1 (some .boolean) 1 := ⟨wC_X9_isCell, wN_X9, by decide +kernel, by decide +kernel, by decide +kernel⟩
theorem pm_X9_isDay : Pm yX9_isDay cX9_isDay 1 (some .boolean) 1 := ⟨wC_X9_isDay, wN_X9, by decide +kernel, by decide +kernel, by decide +kernel⟩
theorem pm_X9_isStrip : Pm yX9_isStrip cX9_isStrip 2 (some .boolean) 2 := ⟨wC_X9_isStrip, wN_X9, by decide +kernel, by decide +kernel, by decide +kernel⟩
theorem pm_X9_isPart : Pm yX9_isPart cX9_isPart 1 (some .boolean) 1 := ⟨wC_X9_isPart, wN_X9, by decide +kernel, by decide +kernel, by decide +kernel⟩
theorem pm_X9_cellOf : Pm yX9_cellOf cX9_cellOf 2 (some .int) 2 := ⟨wC_X9_cellOf, wN_X9, by decide +kernel, by decide +kernel, by decide +kernel⟩
theorem pm_X9_power : Pm yX9_power cX9_power 6 (some .long) 2 := ⟨wC_X9_power, wN_X9, by decide +kernel, by decide +kernel, by decide +kernel⟩
theorem pm_X9_choices : Pm yX9_choices cX9_choices 5 (some .long) 2 := ⟨wC_X9_choices, wN_X9, by decide +kernel, by decide +kernel, by decide +kernel⟩
theorem pm_X9_partOf : Pm yX9_partOf cX9_partOf 7 (some .long) 3 := ⟨wC_X9_partOf, wN_X9, by decide +kernel, by decide +kernel, by decide +kernel⟩
theorem pm_X9_commonDivisor : Pm yX9_commonDivisor cX9_commonDivisor 11 (some .long) 2 := ⟨wC_X9_commonDivisor, wN_X9, by decide +kernel, by decide +kernel, by decide +kernel⟩
theorem pm_X10_init : Pm yX10_init cX10_init 1 none 0 := ⟨wC_X10_init, wN_X10, by decide +kernel, by decide +kernel, by decide +kernel⟩
theorem pm_X10_in : Pm yX10_in cX10_in 3 (some .boolean) 3 := ⟨wC_X10_in, wN_X10, by decide +kernel, by decide +kernel, by decide +kernel⟩
theorem pm_X10_isDay : Pm yX10_isDay cX10_isDay 1 (some .boolean) 1 := ⟨wC_X10_isDay, wN_X10, by decide +kernel, by decide +kernel, by decide +kernel⟩
theorem pm_X10_isCell : Pm yX10_isCell cX10_isCell 1 (some .boolean) 1 := ⟨wC_X10_isCell, wN_X10, by decide +kernel, by decide +kernel, by decide +kernel⟩
theorem pm_X10_isPart : Pm yX10_isPart cX10_isPart 1 (some .boolean) 1 := ⟨wC_X10_isPart, wN_X10, by decide +kernel, by decide +kernel, by decide +kernel⟩
theorem pm_X10_isThing : Pm yX10_isThing cX10_isThing 2 (some .boolean) 1 := ⟨wC_X10_isThing, wN_X10, by decide +kernel, by decide +kernel, by decide +kernel⟩
theorem pm_X10_isPicture : Pm yX10_isPicture cX10_isPicture 2 (some .boolean) 1 := ⟨wC_X10_isPicture, wN_X10, by decide +kernel, by decide +kernel, by decide +kernel⟩
theorem pm_X10_thing : Pm yX10_thing cX10_thing 11 (some .int) 8 := ⟨wC_X10_thing, wN_X10, by decide +kernel, by decide +kernel, by decide +kernel⟩
theorem pm_X10_of : Pm yX10_of cX10_of 3 (some .int) 2 := ⟨wC_X10_of, wN_X10, by decide +kernel, by decide +kernel, by decide +kernel⟩
theorem pm_X10_set : Pm yX10_set cX10_set 5 (some .int) 3 := ⟨wC_X10_set, wN_X10, by decide +kernel, by decide +kernel, by decide +kernel⟩
theorem pm_X10_isThere : Pm yX10_isThere cX10_isThere 3 (some .boolean) 2 := ⟨wC_X10_isThere, wN_X10, by decide +kernel, by decide +kernel, by decide +kernel⟩
theorem pm_X10_isOwn : Pm yX10_isOwn cX10_isOwn 5 (some .boolean) 3 := ⟨wC_X10_isOwn, wN_X10, by decide +kernel, by decide +kernel, by decide +kernel⟩
theorem pm_X10_thingAt : Pm yX10_thingAt cX10_thingAt 6 (some .int) 3 := ⟨wC_X10_thingAt, wN_X10, by decide +kernel, by decide +kernel, by decide +kernel⟩
theorem pm_X10_at : Pm yX10_at cX10_at 3 (some .int) 2 := ⟨wC_X10_at, wN_X10, by decide +kernel, by decide +kernel, by decide +kernel⟩
theorem pm_X10_picture : Pm yX10_picture cX10_picture 7 (some .int) 5 := ⟨wC_X10_picture, wN_X10, by decide +kernel, by decide +kernel, by decide +kernel⟩
theorem pm_X10_cloud : Pm yX10_cloud cX10_cloud 5 (some .int) 3 := ⟨wC_X10_cloud, wN_X10, by decide +kernel, by decide +kernel, by decide +kernel⟩
theorem pm_X10_covers : Pm yX10_covers cX10_covers 3 (some .boolean) 2 := ⟨wC_X10_covers, wN_X10, by decide +kernel, by decide +kernel, by decide +kernel⟩
theorem pm_X10_showsOf : Pm yX10_showsOf cX10_showsOf 15 (some .int) 2 := ⟨wC_X10_showsOf, wN_X10, by decide +kernel, by decide +kernel, by decide +kernel⟩
theorem pm_X10_shows : Pm yX10_shows cX10_shows 3 (some .int) 2 := ⟨wC_X10_shows, wN_X10, by decide +kernel, by decide +kernel, by decide +kernel⟩
theorem pm_X10_count : Pm yX10_count cX10_count 7 (some .int) 2 := ⟨wC_X10_count, wN_X10, by decide +kernel, by decide +kernel, by decide +kernel⟩
theorem pm_X10_span : Pm yX10_span cX10_span 7 (some .int) 3 := ⟨wC_X10_span, wN_X10, by decide +kernel, by decide +kernel, by decide +kernel⟩
theorem pm_X10_changed : Pm yX10_changed cX10_changed 10 (some .int) 3 := ⟨wC_X10_changed, wN_X10, by decide +kernel, by decide +kernel, by decide +kernel⟩
theorem pm_X10_say : Pm yX10_say cX10_say 2 (some .int) 1 := ⟨wC_X10_say, wN_X10, by decide +kernel, by decide +kernel, by decide +kernel⟩
theorem pm_X10_wipe : Pm yX10_wipe cX10_wipe 2 (some .int) 0 := ⟨wC_X10_wipe, wN_X10, by decide +kernel, by decide +kernel, by decide +kernel⟩
theorem pm_X10_faultOf : Pm yX10_faultOf cX10_faultOf 6 (some .int) 0 := ⟨wC_X10_faultOf, wN_X10, by decide +kernel, by decide +kernel, by decide +kernel⟩
theorem pm_X10_fault : Pm yX10_fault cX10_fault 1 (some .int) 0 := ⟨wC_X10_fault, wN_X10, by decide +kernel, by decide +kernel, by decide +kernel⟩
theorem pm_X10_use : Pm yX10_use cX10_use 4 (some .int) 1 := ⟨wC_X10_use, wN_X10, by decide +kernel, by decide +kernel, by decide +kernel⟩
theorem pm_X10_isSeen : Pm yX10_isSeen cX10_isSeen 3 (some .boolean) 2 := ⟨wC_X10_isSeen, wN_X10, by decide +kernel, by decide +kernel, by decide +kernel⟩
theorem pm_X10_isShown : Pm yX10_isShown cX10_isShown 8 (some .boolean) 5 := ⟨wC_X10_isShown, wN_X10, by decide +kernel, by decide +kernel, by decide +kernel⟩
theorem pm_X10_shownOf : Pm yX10_shownOf cX10_shownOf 5 (some .int) 2 := ⟨wC_X10_shownOf, wN_X10, by decide +kernel, by decide +kernel, by decide +kernel⟩
theorem pm_X10_farOf : Pm yX10_farOf cX10_farOf 5 (some .int) 2 := ⟨wC_X10_farOf, wN_X10, by decide +kernel, by decide +kernel, by decide +kernel⟩
theorem pm_X10_nearOf : Pm yX10_nearOf cX10_nearOf 8 (some .int) 3 := ⟨wC_X10_nearOf, wN_X10, by decide +kernel, by decide +kernel, by decide +kernel⟩
theorem pm_X10_factOf : Pm yX10_factOf cX10_factOf 5 (some .int) 3 := ⟨wC_X10_factOf, wN_X10, by decide +kernel, by decide +kernel, by decide +kernel⟩
theorem pm_X10_fact : Pm yX10_fact cX10_fact 4 (some .int) 3 := ⟨wC_X10_fact, wN_X10, by decide +kernel, by decide +kernel, by decide +kernel⟩
theorem pm_X10_fitOf : Pm yX10_fitOf cX10_fitOf 14 (some .int) 3 := ⟨wC_X10_fitOf, wN_X10, by decide +kernel, by decide +kernel, by decide +kernel⟩
theorem pm_X10_isUse : Pm yX10_isUse cX10_isUse 2 (some .boolean) 1 := ⟨wC_X10_isUse, wN_X10, by decide +kernel, by decide +kernel, by decide +kernel⟩
theorem pm_X10_fit : Pm yX10_fit cX10_fit 4 (some .int) 3 := ⟨wC_X10_fit, wN_X10, by decide +kernel, by decide +kernel, by decide +kernel⟩
theorem pm_X10_could : Pm yX10_could cX10_could 6 (some .int) 2 := ⟨wC_X10_could, wN_X10, by decide +kernel, by decide +kernel, by decide +kernel⟩
theorem pm_X10_all : Pm yX10_all cX10_all 6 (some .int) 3 := ⟨wC_X10_all, wN_X10, by decide +kernel, by decide +kernel, by decide +kernel⟩
theorem pm_X10_eastOf : Pm yX10_eastOf cX10_eastOf 1 (some .int) 1 := ⟨wC_X10_eastOf, wN_X10, by decide +kernel, by decide +kernel, by decide +kernel⟩
theorem pm_X10_southOf : Pm yX10_southOf cX10_southOf 1 (some .int) 1 := ⟨wC_X10_southOf, wN_X10, by decide +kernel, by decide +kernel, by decide +kernel⟩
theorem pm_X10_faces : Pm yX10_faces cX10_faces 3 (some .boolean) 2 := ⟨wC_X10_faces, wN_X10, by decide +kernel, by decide +kernel, by decide +kernel⟩
theorem pm_X10_isOn : Pm yX10_isOn cX10_isOn 7 (some .boolean) 3 := ⟨wC_X10_isOn, wN_X10, by decide +kernel, by decide +kernel, by decide +kernel⟩
theorem pm_X10_meetOf : Pm yX10_meetOf cX10_meetOf 6 (some .int) 1 := ⟨wC_X10_meetOf, wN_X10, by decide +kernel, by decide +kernel, by decide +kernel⟩
theorem pm_X10_meet : Pm yX10_meet cX10_meet 4 (some .int) 2 := ⟨wC_X10_meet, wN_X10, by decide +kernel, by decide +kernel, by decide +kernel⟩
theorem pm_X10_term : Pm yX10_term cX10_term 11 (some .long) 3 := ⟨wC_X10_term, wN_X10, by decide +kernel, by decide +kernel, by decide +kernel⟩
theorem pm_X10_chance : Pm yX10_chance cX10_chance 12 (some .long) 2 := ⟨wC_X10_chance, wN_X10, by decide +kernel, by decide +kernel, by decide +kernel⟩
theorem pm_X10_did : Pm yX10_did cX10_did 5 (some .int) 3 := ⟨wC_X10_did, wN_X10, by decide +kernel, by decide +kernel, by decide +kernel⟩
theorem pm_X10_decoy : Pm yX10_decoy cX10_decoy 12 (some .long) 5 := ⟨wC_X10_decoy, wN_X10, by decide +kernel, by decide +kernel, by decide +kernel⟩
theorem pm_X10_sure : Pm yX10_sure cX10_sure 8 (some .int) 2 := ⟨wC_X10_sure, wN_X10, by decide +kernel, by decide +kernel, by decide +kernel⟩
theorem pm_X10_flight : Pm yX10_flight cX10_flight 6 (some .int) 5 := ⟨wC_X10_flight, wN_X10, by decide +kernel, by decide +kernel, by decide +kernel⟩
theorem pm_X10_worthOf : Pm yX10_worthOf cX10_worthOf 9 (some .long) 1 := ⟨wC_X10_worthOf, wN_X10, by decide +kernel, by decide +kernel, by decide +kernel⟩
theorem pm_X10_worth : Pm yX10_worth cX10_worth 3 (some .long) 2 := ⟨wC_X10_worth, wN_X10, by decide +kernel, by decide +kernel, by decide +kernel⟩
theorem pm_X10_riskOf : Pm yX10_riskOf cX10_riskOf 4 (some .int) 1 := ⟨wC_X10_riskOf, wN_X10, by decide +kernel, by decide +kernel, by decide +kernel⟩
theorem pm_X10_best : Pm yX10_best cX10_best 8 (some .int) 2 := ⟨wC_X10_best, wN_X10, by decide +kernel, by decide +kernel, by decide +kernel⟩
theorem pm_X10_choose : Pm yX10_choose cX10_choose 5 (some .long) 2 := ⟨wC_X10_choose, wN_X10, by decide +kernel, by decide +kernel, by decide +kernel⟩
theorem pm_X10_lean : Pm yX10_lean cX10_lean 9 (some .long) 5 := ⟨wC_X10_lean, wN_X10, by decide +kernel, by decide +kernel, by decide +kernel⟩
theorem pm_X10_told : Pm yX10_told cX10_told 4 (some .int) 1 := ⟨wC_X10_told, wN_X10, by decide +kernel, by decide +kernel, by decide +kernel⟩
end
section
/-! Plain facts: ticks as bits of two longs. -/
def tk (lo hi : Int64) (j : Nat) : Bool := if j < 64 then lo.toBitVec.getLsbD j else hi.toBitVec.getLsbD (j - 64)
theorem tk_amt : ∀ k, k < 64 → (((nI k).toInt64.toUInt64 &&& Int64.toUInt64 63)).toNat = k := by decide +kernel
theorem tk_pow : ∀ k, k < 64 → ((1 : Int64) <<< ((nI k).toInt64 &&& 63)).toBitVec = BitVec.twoPow 64 k := by decide +kernel
theorem tk_and {j : Nat} (hj : j < 128) : nI j &&& 63 = nI (j % 64) := pk_andN (by omega) 6 rfl
theorem tk_get (w : Int64) {j : Nat} (hj : j < 128) : ((Int64.toUInt64 w >>> ((nI j &&& 63 : Int32).toInt64.toUInt64 &&& Int64.toUInt64 63)).toInt64 &&& 1 = 1) ↔ w.toBitVec.getLsbD (j % 64) = true := by
  rw [tk_and hj]
  have hk : j % 64 < 64 := Nat.mod_lt _ (by decide)
  have hs := tk_amt (j % 64) hk
  generalize ((nI (j % 64)).toInt64.toUInt64 &&& Int64.toUInt64 63) = s at hs
  generalize j % 64 = i at hk hs
  have e : (w.toUInt64 >>> s).toInt64.toBitVec = w.toBitVec >>> i := by
    apply BitVec.eq_of_toNat_eq
    show (w.toUInt64 >>> s).toNat = _
    rw [UInt64.toNat_shiftRight, hs, Nat.mod_eq_of_lt hk, BitVec.toNat_ushiftRight]
    rfl
  rw [← Int64.toBitVec_inj, Int64.toBitVec_and, e]
  show w.toBitVec >>> i &&& 1#64 = 1#64 ↔ _
  constructor
  · intro h
    have t := congrArg (fun x => x.getLsbD 0) h
    simpa using t
  · intro h
    apply BitVec.eq_of_getLsbD_eq
    intro q hq
    cases q with
    | zero => simp [h]
    | succ q => simp
theorem tk_flip (w : Int64) {j : Nat} (hj : j < 128) (i : Nat) (hi : i < 64) : (w ^^^ ((1 : Int64) <<< ((nI j &&& 63 : Int32).toInt64 &&& 63))).toBitVec.getLsbD i = (w.toBitVec.getLsbD i ^^ decide (i = j % 64)) := by
  rw [tk_and hj, Int64.toBitVec_xor, tk_pow _ (Nat.mod_lt _ (by decide)), BitVec.getLsbD_xor, BitVec.getLsbD_twoPow]
  congr 1
  by_cases h : i = j % 64
  · subst h; simp [hi]
  · simp [h, show ¬ j % 64 = i from fun q => h q.symm]
theorem tk_lo {lo hi : Int64} {j : Nat} (hj : j < 128) (h : ¬ (64 : Int32) ≤ nI j) : ((Int64.toUInt64 lo >>> ((nI j &&& 63 : Int32).toInt64.toUInt64 &&& Int64.toUInt64 63)).toInt64 &&& 1 = 1) ↔ tk lo hi j = true := by
  have h1 : j < 64 := by
    rcases Nat.lt_or_ge j 64 with q | q
    · exact q
    · exact absurd (nI_le q (by omega)) h
  rw [tk_get lo hj, Nat.mod_eq_of_lt h1, tk, if_pos h1]
theorem tk_hi {lo hi : Int64} {j : Nat} (hj : j < 128) (h : (64 : Int32) ≤ nI j) : ((Int64.toUInt64 hi >>> ((nI j &&& 63 : Int32).toInt64.toUInt64 &&& Int64.toUInt64 63)).toInt64 &&& 1 = 1) ↔ tk lo hi j = true := by
  have h1 : ¬ j < 64 := fun q => absurd h (nI_ge (b := 64) q (by decide))
  rw [tk_get hi hj, tk, if_neg h1, show j % 64 = j - 64 by omega]
theorem tk_setlo {lo hi : Int64} {j : Nat} (hj : j < 128) (h : ¬ (64 : Int32) ≤ nI j) {b : Bool} (hb : ¬ tk lo hi j = b) : ∀ i, i < 128 → tk (lo ^^^ ((1 : Int64) <<< ((nI j &&& 63 : Int32).toInt64 &&& 63))) hi i = if i = j then b else tk lo hi i := by
  intro i hi'
  have h1 : j < 64 := by
    rcases Nat.lt_or_ge j 64 with q | q
    · exact q
    · exact absurd (nI_le q (by omega)) h
  unfold tk at hb ⊢
  rw [if_pos h1] at hb
  by_cases h2 : i < 64
  · rw [if_pos h2, if_pos h2, tk_flip lo hj i h2, Nat.mod_eq_of_lt h1]
    by_cases h3 : i = j
    · subst h3
      rw [if_pos rfl]
      cases hq : lo.toBitVec.getLsbD i <;> cases b <;> simp_all
    · simp [h3]
  · rw [if_neg h2, if_neg h2, if_neg (by omega)]
theorem tk_sethi {lo hi : Int64} {j : Nat} (hj : j < 128) (h : (64 : Int32) ≤ nI j) {b : Bool} (hb : ¬ tk lo hi j = b) : ∀ i, i < 128 → tk lo (hi ^^^ ((1 : Int64) <<< ((nI j &&& 63 : Int32).toInt64 &&& 63))) i = if i = j then b else tk lo hi i := by
  intro i hi'
  have h1 : ¬ j < 64 := fun q => absurd h (nI_ge (b := 64) q (by decide))
  unfold tk at hb ⊢
  rw [if_neg h1] at hb
  by_cases h2 : i < 64
  · rw [if_pos h2, if_pos h2, if_neg (by omega)]
  · rw [if_neg h2, if_neg h2, tk_flip hi hj (i - 64) (by omega), show j % 64 = j - 64 by omega]
    by_cases h3 : i = j
    · subst h3
      rw [if_pos rfl]
      cases hq : hi.toBitVec.getLsbD (i - 64) <;> cases b <;> simp_all
    · simp [h3, show ¬ i - 64 = j - 64 by omega]
theorem bI_inj {a b : Bool} : bI a = bI b ↔ a = b := by cases a <;> cases b <;> decide
/-- how many of the days from a on, n of them, have no tick -/
def cntNo (B : Nat → Bool) (a : Nat) : Nat → Nat
  | 0 => 0
  | n + 1 => cntNo B a n + (if B (a + n) then 0 else 1)
theorem cntNo_le (B : Nat → Bool) (a : Nat) : ∀ n, cntNo B a n ≤ n
  | 0 => Nat.le_refl _
  | n + 1 => by
    have h := cntNo_le B a n
    unfold cntNo
    split <;> omega
theorem cntNo_cong {B B' : Nat → Bool} {a : Nat} : ∀ {n : Nat}, (∀ i, i < n → B (a + i) = B' (a + i)) → cntNo B a n = cntNo B' a n
  | 0, _ => rfl
  | n + 1, h => by
    unfold cntNo
    rw [cntNo_cong (fun i hi => h i (by omega)), h n (by omega)]
theorem nI_ltN {a b : Nat} (ha : a < 2 ^ 31) (hb : b < 2 ^ 31) (h : nI a < nI b) : a < b := (nI_ltI ha hb).mp h
theorem nI_nltN {a b : Nat} (ha : a < 2 ^ 31) (hb : b < 2 ^ 31) (h : ¬ nI a < nI b) : b ≤ a := Nat.not_lt.mp (fun q => h ((nI_ltI ha hb).mpr q))
theorem nI_leN {a b : Nat} (ha : a < 2 ^ 31) (hb : b < 2 ^ 31) (h : nI a ≤ nI b) : a ≤ b := (nI_leI ha hb).mp h
theorem nI_nleN {a b : Nat} (ha : a < 2 ^ 31) (hb : b < 2 ^ 31) (h : ¬ nI a ≤ nI b) : b < a := Nat.not_le.mp (fun q => h ((nI_leI ha hb).mpr q))
theorem nI_eqN {a b : Nat} (ha : a < 2 ^ 31) (hb : b < 2 ^ 31) (h : nI a = nI b) : a = b := (nI_eq ha hb).mp h
theorem nI_neN {a b : Nat} (ha : a < 2 ^ 31) (hb : b < 2 ^ 31) (h : ¬ nI a = nI b) : a ≠ b := fun q => h ((nI_eq ha hb).mpr q)
/-- a number within bounds is a plain one -/
theorem qin_nI {x : Int32} {N : Nat} (hN : N < 2 ^ 31) (h : (decide ((0 : Int32) ≤ x) && decide (x ≤ nI N)) = true) : ∃ j : Nat, j ≤ N ∧ x = nI j := by
  simp only [Bool.and_eq_true, decide_eq_true_eq] at h
  exact nI_of2 (M := nI N) (nI_toInt hN) (Int32.not_lt.mpr h.1) h.2
end
section
/-! The class's small static methods. -/
def qin (a b c : Int32) : Bool := decide (b ≤ a) && decide (a ≤ c)
theorem i32_nle {a b : Int32} (h : ¬ a ≤ b) : b < a := Int32.not_le.mp h
theorem i32_nlt {a b : Int32} (h : ¬ a < b) : b ≤ a := Int32.not_lt.mp h
theorem i32_lt_nle {a b : Int32} (h : a < b) : ¬ b ≤ a := Int32.not_le.mpr h
theorem i32_le95 (a : Int32) : a ≤ 95 ↔ a < 96 := by
  rw [Int32.le_iff_toInt_le, Int32.lt_iff_toInt_lt, show (95 : Int32).toInt = 95 from rfl, show (96 : Int32).toInt = 96 from rfl]
  omega
/-- the end of a counted loop -/
theorem lp_lt {i N : Nat} {c : Int32} (hc : c = nI N) (hN : N < 2 ^ 31) (hi : i ≤ N) (h : ¬ c ≤ nI i) : i < N := by
  subst hc
  rcases Nat.lt_or_ge i N with q | q
  · exact q
  · exact absurd (nI_le q (by omega)) h
theorem lp_eq {i N : Nat} {c : Int32} (hc : c = nI N) (hN : N < 2 ^ 31) (hi : i ≤ N) (h : c ≤ nI i) : i = N := by
  subst hc
  rcases Nat.lt_or_ge i N with q | q
  · exact absurd h (nI_ge q (by omega))
  · omega
set_option maxHeartbeats 4000000 in
set_option maxRecDepth 100000 in
theorem c_X9_isWithin (l : Launch) (g : Gm) (a b c : Int32) (M : Mem) : Ct l g yX9_isWithin cX9_isWithin 3 (some .boolean) 0 0 0 [.int a, .int b, .int c] M (fun w N => w = some (.int (bI (qin a b c))) ∧ N = M) := by
  refine Ct.of (by decide) (Nat.le_of_ble_eq_true rfl) ?_
  intro X hXl hXg hN C E
  subst hXl; subst hXg
  show V X (rmD 0 0 0) M 0 0 [(0, .int a), (1, .int b), (2, .int c)] 0 []
  refine v_iload_n C dX9_isWithin_0 rfl ?_
  refine v_iload_n C dX9_isWithin_1 rfl ?_
  refine v_icmp_lt (tgt := 14) C dX9_isWithin_2 (by decide) (fun h2 => ?_) (fun h2 => ?_)
  · refine v_iconst C dX9_isWithin_14 (v := 0) rfl ?_
    exact v_zret C E dX9_isWithin_15 (by decide) (by decide) (by decide) ⟨by simp_all [qin, bI, i32_nle, i32_nlt, i32_lt_nle], rfl⟩
  · refine v_iload_n C dX9_isWithin_5 rfl ?_
    refine v_iload_n C dX9_isWithin_6 rfl ?_
    refine v_icmp_gt (tgt := 14) C dX9_isWithin_7 (by decide) (fun h7 => ?_) (fun h7 => ?_)
    · refine v_iconst C dX9_isWithin_14 (v := 0) rfl ?_
      exact v_zret C E dX9_isWithin_15 (by decide) (by decide) (by decide) ⟨by simp_all [qin, bI, i32_nle, i32_nlt, i32_lt_nle], rfl⟩
    · refine v_iconst C dX9_isWithin_10 (v := 1) rfl ?_
      refine v_goto (tgt := 15) C dX9_isWithin_11 (by decide) ?_
      exact v_zret C E dX9_isWithin_15 (by decide) (by decide) (by decide) ⟨by simp_all [qin, bI, i32_nle, i32_nlt, i32_lt_nle], rfl⟩

set_option maxHeartbeats 4000000 in
set_option maxRecDepth 100000 in
theorem c_X9_isOnLand (l : Launch) (g : Gm) (a b : Int32) (M : Mem) : Ct l g yX9_isOnLand cX9_isOnLand 2 (some .boolean) 1 0 0 [.int a, .int b] M (fun w N => w = some (.int (bI (qin a 0 11 && qin b 0 7))) ∧ N = M) := by
  refine Ct.of (by decide) (Nat.le_of_ble_eq_true rfl) ?_
  intro X hXl hXg hN C E
  subst hXl; subst hXg
  show V X (rmD 1 0 0) M 0 0 [(0, .int a), (1, .int b)] 0 []
  refine v_iload_n C dX9_isOnLand_0 rfl ?_
  refine v_iconst C dX9_isOnLand_1 (v := 0) rfl ?_
  refine v_bipush C dX9_isOnLand_2 (v := 11) rfl ?_
  refine v_callS (As := [.int a, .int 0, .int 11]) (rest := []) C (c_X9_isWithin (xl X) (xg X) a 0 11 M) pm_X9_isWithin wT_X9_isWithin wM_X9_55 ⟨by decide, by decide⟩ ⟨by decide, by decide⟩ (nle rfl) dX9_isOnLand_4 rfl (dt1 ?_)
  show V X (rmD 1 0 0) M 0 0 [(0, .int a), (1, .int b)] 7 [.int (bI (qin a 0 11))]
  refine v_ifb_eq (tgt := 24) C dX9_isOnLand_7 (by decide) (fun h7 => ?_) (fun h7 => ?_)
  · refine v_iconst C dX9_isOnLand_24 (v := 0) rfl ?_
    exact v_zret C E dX9_isOnLand_25 (by decide) (by decide) (by decide) ⟨by simp_all [bI], rfl⟩
  · refine v_iload_n C dX9_isOnLand_10 rfl ?_
    refine v_iconst C dX9_isOnLand_11 (v := 0) rfl ?_
    refine v_bipush C dX9_isOnLand_12 (v := 7) rfl ?_
    refine v_callS (As := [.int b, .int 0, .int 7]) (rest := []) C (c_X9_isWithin (xl X) (xg X) b 0 7 M) pm_X9_isWithin wT_X9_isWithin wM_X9_55 ⟨by decide, by decide⟩ ⟨by decide, by decide⟩ (nle rfl) dX9_isOnLand_14 rfl (dt1 ?_)
    show V X (rmD 1 0 0) M 0 0 [(0, .int a), (1, .int b)] 17 [.int (bI (qin b 0 7))]
    refine v_ifb_eq (tgt := 24) C dX9_isOnLand_17 (by decide) (fun h17 => ?_) (fun h17 => ?_)
    · refine v_iconst C dX9_isOnLand_24 (v := 0) rfl ?_
      exact v_zret C E dX9_isOnLand_25 (by decide) (by decide) (by decide) ⟨by simp_all [bI], rfl⟩
    · refine v_iconst C dX9_isOnLand_20 (v := 1) rfl ?_
      refine v_goto (tgt := 25) C dX9_isOnLand_21 (by decide) ?_
      exact v_zret C E dX9_isOnLand_25 (by decide) (by decide) (by decide) ⟨by simp_all [bI], rfl⟩

set_option maxHeartbeats 4000000 in
set_option maxRecDepth 100000 in
theorem c_X9_isCell (l : Launch) (g : Gm) (a : Int32) (M : Mem) : Ct l g yX9_isCell cX9_isCell 1 (some .boolean) 0 0 0 [.int a] M (fun w N => w = some (.int (bI (qin a 0 95))) ∧ N = M) := by
  refine Ct.of (by decide) (Nat.le_of_ble_eq_true rfl) ?_
  intro X hXl hXg hN C E
  subst hXl; subst hXg
  show V X (rmD 0 0 0) M 0 0 [(0, .int a)] 0 []
  refine v_iload_n C dX9_isCell_0 rfl ?_
  refine v_if_lt (tgt := 14) C dX9_isCell_1 (by decide) (fun h1 => ?_) (fun h1 => ?_)
  · refine v_iconst C dX9_isCell_14 (v := 0) rfl ?_
    exact v_zret C E dX9_isCell_15 (by decide) (by decide) (by decide) ⟨by simp_all [qin, bI, i32_le95, i32_nle, i32_nlt, i32_lt_nle], rfl⟩
  · refine v_iload_n C dX9_isCell_4 rfl ?_
    refine v_bipush C dX9_isCell_5 (v := 96) rfl ?_
    refine v_icmp_ge (tgt := 14) C dX9_isCell_7 (by decide) (fun h7 => ?_) (fun h7 => ?_)
    · refine v_iconst C dX9_isCell_14 (v := 0) rfl ?_
      exact v_zret C E dX9_isCell_15 (by decide) (by decide) (by decide) ⟨by simp_all [qin, bI, i32_le95, i32_nle, i32_nlt, i32_lt_nle], rfl⟩
    · refine v_iconst C dX9_isCell_10 (v := 1) rfl ?_
      refine v_goto (tgt := 15) C dX9_isCell_11 (by decide) ?_
      exact v_zret C E dX9_isCell_15 (by decide) (by decide) (by decide) ⟨by simp_all [qin, bI, i32_le95, i32_nle, i32_nlt, i32_lt_nle], rfl⟩

set_option maxHeartbeats 4000000 in
set_option maxRecDepth 100000 in
theorem c_X9_isDay (l : Launch) (g : Gm) (a : Int32) (M : Mem) : Ct l g yX9_isDay cX9_isDay 1 (some .boolean) 1 0 0 [.int a] M (fun w N => w = some (.int (bI (qin a 0 99))) ∧ N = M) := by
  refine Ct.of (by decide) (Nat.le_of_ble_eq_true rfl) ?_
  intro X hXl hXg hN C E
  subst hXl; subst hXg
  show V X (rmD 1 0 0) M 0 0 [(0, .int a)] 0 []
  refine v_iload_n C dX9_isDay_0 rfl ?_
  refine v_iconst C dX9_isDay_1 (v := 0) rfl ?_
  refine v_bipush C dX9_isDay_2 (v := 99) rfl ?_
  refine v_callS (As := [.int a, .int 0, .int 99]) (rest := []) C (c_X9_isWithin (xl X) (xg X) a 0 99 M) pm_X9_isWithin wT_X9_isWithin wM_X9_55 ⟨by decide, by decide⟩ ⟨by decide, by decide⟩ (nle rfl) dX9_isDay_4 rfl (dt1 ?_)
  show V X (rmD 1 0 0) M 0 0 [(0, .int a)] 7 [.int (bI (qin a 0 99))]
  exact v_zret C E dX9_isDay_7 (by decide) (by decide) (bI_01 _) ⟨rfl, rfl⟩

set_option maxHeartbeats 4000000 in
set_option maxRecDepth 100000 in
theorem c_X9_isPart (l : Launch) (g : Gm) (a : Int32) (M : Mem) : Ct l g yX9_isPart cX9_isPart 1 (some .boolean) 1 0 0 [.int a] M (fun w N => w = some (.int (bI (qin a 0 1))) ∧ N = M) := by
  refine Ct.of (by decide) (Nat.le_of_ble_eq_true rfl) ?_
  intro X hXl hXg hN C E
  subst hXl; subst hXg
  show V X (rmD 1 0 0) M 0 0 [(0, .int a)] 0 []
  refine v_iload_n C dX9_isPart_0 rfl ?_
  refine v_iconst C dX9_isPart_1 (v := 0) rfl ?_
  refine v_iconst C dX9_isPart_2 (v := 1) rfl ?_
  refine v_callS (As := [.int a, .int 0, .int 1]) (rest := []) C (c_X9_isWithin (xl X) (xg X) a 0 1 M) pm_X9_isWithin wT_X9_isWithin wM_X9_55 ⟨by decide, by decide⟩ ⟨by decide, by decide⟩ (nle rfl) dX9_isPart_3 rfl (dt1 ?_)
  show V X (rmD 1 0 0) M 0 0 [(0, .int a)] 6 [.int (bI (qin a 0 1))]
  exact v_zret C E dX9_isPart_6 (by decide) (by decide) (bI_01 _) ⟨rfl, rfl⟩

set_option maxHeartbeats 4000000 in
set_option maxRecDepth 100000 in
theorem c_X9_isStrip (l : Launch) (g : Gm) (a b : Int32) (M : Mem) : Ct l g yX9_isStrip cX9_isStrip 2 (some .boolean) 1 0 0 [.int a, .int b] M (fun w N => w = some (.int (bI (qin a 0 11 && qin b a 11))) ∧ N = M) := by
  refine Ct.of (by decide) (Nat.le_of_ble_eq_true rfl) ?_
  intro X hXl hXg hN C E
  subst hXl; subst hXg
  show V X (rmD 1 0 0) M 0 0 [(0, .int a), (1, .int b)] 0 []
  refine v_iload_n C dX9_isStrip_0 rfl ?_
  refine v_iconst C dX9_isStrip_1 (v := 0) rfl ?_
  refine v_bipush C dX9_isStrip_2 (v := 11) rfl ?_
  refine v_callS (As := [.int a, .int 0, .int 11]) (rest := []) C (c_X9_isWithin (xl X) (xg X) a 0 11 M) pm_X9_isWithin wT_X9_isWithin wM_X9_55 ⟨by decide, by decide⟩ ⟨by decide, by decide⟩ (nle rfl) dX9_isStrip_4 rfl (dt1 ?_)
  show V X (rmD 1 0 0) M 0 0 [(0, .int a), (1, .int b)] 7 [.int (bI (qin a 0 11))]
  refine v_ifb_eq (tgt := 24) C dX9_isStrip_7 (by decide) (fun h7 => ?_) (fun h7 => ?_)
  · refine v_iconst C dX9_isStrip_24 (v := 0) rfl ?_
    exact v_zret C E dX9_isStrip_25 (by decide) (by decide) (by decide) ⟨by simp_all [bI], rfl⟩
  · refine v_iload_n C dX9_isStrip_10 rfl ?_
    refine v_iload_n C dX9_isStrip_11 rfl ?_
    refine v_bipush C dX9_isStrip_12 (v := 11) rfl ?_
    refine v_callS (As := [.int b, .int a, .int 11]) (rest := []) C (c_X9_isWithin (xl X) (xg X) b a 11 M) pm_X9_isWithin wT_X9_isWithin wM_X9_55 ⟨by decide, by decide⟩ ⟨by decide, by decide⟩ (nle rfl) dX9_isStrip_14 rfl (dt1 ?_)
    show V X (rmD 1 0 0) M 0 0 [(0, .int a), (1, .int b)] 17 [.int (bI (qin b a 11))]
    refine v_ifb_eq (tgt := 24) C dX9_isStrip_17 (by decide) (fun h17 => ?_) (fun h17 => ?_)
    · refine v_iconst C dX9_isStrip_24 (v := 0) rfl ?_
      exact v_zret C E dX9_isStrip_25 (by decide) (by decide) (by decide) ⟨by simp_all [bI], rfl⟩
    · refine v_iconst C dX9_isStrip_20 (v := 1) rfl ?_
      refine v_goto (tgt := 25) C dX9_isStrip_21 (by decide) ?_
      exact v_zret C E dX9_isStrip_25 (by decide) (by decide) (by decide) ⟨by simp_all [bI], rfl⟩

set_option maxHeartbeats 4000000 in
set_option maxRecDepth 100000 in
theorem c_X9_cellOf (l : Launch) (g : Gm) (a b : Int32) (M : Mem) : Ct l g yX9_cellOf cX9_cellOf 2 (some .int) 0 0 0 [.int a, .int b] M (fun w N => w = some (.int (12 * b + a)) ∧ N = M) := by
  refine Ct.of (by decide) (Nat.le_of_ble_eq_true rfl) ?_
  intro X hXl hXg hN C E
  subst hXl; subst hXg
  show V X (rmD 0 0 0) M 0 0 [(0, .int a), (1, .int b)] 0 []
  refine v_bipush C dX9_cellOf_0 (v := 12) rfl ?_
  refine v_iload_n C dX9_cellOf_2 rfl ?_
  refine v_imul C dX9_cellOf_3 ?_
  refine v_iload_n C dX9_cellOf_4 rfl ?_
  refine v_iadd C dX9_cellOf_5 ?_
  exact v_iret C E dX9_cellOf_6 (by decide) (by decide) ⟨rfl, rfl⟩

set_option maxHeartbeats 4000000 in
set_option maxRecDepth 100000 in
theorem c_X10_in (l : Launch) (g : Gm) (a b c : Int32) (M : Mem) : Ct l g yX10_in cX10_in 3 (some .boolean) 0 0 0 [.int a, .int b, .int c] M (fun w N => w = some (.int (bI (qin a b c))) ∧ N = M) := by
  refine Ct.of (by decide) (Nat.le_of_ble_eq_true rfl) ?_
  intro X hXl hXg hN C E
  subst hXl; subst hXg
  show V X (rmD 0 0 0) M 0 0 [(0, .int a), (1, .int b), (2, .int c)] 0 []
  refine v_iload_n C dX10_in_0 rfl ?_
  refine v_iload_n C dX10_in_1 rfl ?_
  refine v_icmp_lt (tgt := 14) C dX10_in_2 (by decide) (fun h2 => ?_) (fun h2 => ?_)
  · refine v_iconst C dX10_in_14 (v := 0) rfl ?_
    exact v_zret C E dX10_in_15 (by decide) (by decide) (by decide) ⟨by simp_all [qin, bI, i32_nle, i32_nlt, i32_lt_nle], rfl⟩
  · refine v_iload_n C dX10_in_5 rfl ?_
    refine v_iload_n C dX10_in_6 rfl ?_
    refine v_icmp_gt (tgt := 14) C dX10_in_7 (by decide) (fun h7 => ?_) (fun h7 => ?_)
    · refine v_iconst C dX10_in_14 (v := 0) rfl ?_
      exact v_zret C E dX10_in_15 (by decide) (by decide) (by decide) ⟨by simp_all [qin, bI, i32_nle, i32_nlt, i32_lt_nle], rfl⟩
    · refine v_iconst C dX10_in_10 (v := 1) rfl ?_
      refine v_goto (tgt := 15) C dX10_in_11 (by decide) ?_
      exact v_zret C E dX10_in_15 (by decide) (by decide) (by decide) ⟨by simp_all [qin, bI, i32_nle, i32_nlt, i32_lt_nle], rfl⟩

set_option maxHeartbeats 4000000 in
set_option maxRecDepth 100000 in
theorem c_X10_isDay (l : Launch) (g : Gm) (a : Int32) (M : Mem) : Ct l g yX10_isDay cX10_isDay 1 (some .boolean) 1 0 0 [.int a] M (fun w N => w = some (.int (bI (qin a 0 99))) ∧ N = M) := by
  refine Ct.of (by decide) (Nat.le_of_ble_eq_true rfl) ?_
  intro X hXl hXg hN C E
  subst hXl; subst hXg
  show V X (rmD 1 0 0) M 0 0 [(0, .int a)] 0 []
  refine v_iload_n C dX10_isDay_0 rfl ?_
  refine v_iconst C dX10_isDay_1 (v := 0) rfl ?_
  refine v_bipush C dX10_isDay_2 (v := 99) rfl ?_
  refine v_callS (As := [.int a, .int 0, .int 99]) (rest := []) C (c_X10_in (xl X) (xg X) a 0 99 M) pm_X10_in wT_X10_in wM_X10_35 ⟨by decide, by decide⟩ ⟨by decide, by decide⟩ (nle rfl) dX10_isDay_4 rfl (dt1 ?_)
  show V X (rmD 1 0 0) M 0 0 [(0, .int a)] 7 [.int (bI (qin a 0 99))]
  exact v_zret C E dX10_isDay_7 (by decide) (by decide) (bI_01 _) ⟨rfl, rfl⟩

set_option maxHeartbeats 4000000 in
set_option maxRecDepth 100000 in
theorem c_X10_isCell (l : Launch) (g : Gm) (a : Int32) (M : Mem) : Ct l g yX10_isCell cX10_isCell 1 (some .boolean) 1 0 0 [.int a] M (fun w N => w = some (.int (bI (qin a 0 95))) ∧ N = M) := by
  refine Ct.of (by decide) (Nat.le_of_ble_eq_true rfl) ?_
  intro X hXl hXg hN C E
  subst hXl; subst hXg
  show V X (rmD 1 0 0) M 0 0 [(0, .int a)] 0 []
  refine v_iload_n C dX10_isCell_0 rfl ?_
  refine v_iconst C dX10_isCell_1 (v := 0) rfl ?_
  refine v_bipush C dX10_isCell_2 (v := 95) rfl ?_
  refine v_callS (As := [.int a, .int 0, .int 95]) (rest := []) C (c_X10_in (xl X) (xg X) a 0 95 M) pm_X10_in wT_X10_in wM_X10_35 ⟨by decide, by decide⟩ ⟨by decide, by decide⟩ (nle rfl) dX10_isCell_4 rfl (dt1 ?_)
  show V X (rmD 1 0 0) M 0 0 [(0, .int a)] 7 [.int (bI (qin a 0 95))]
  exact v_zret C E dX10_isCell_7 (by decide) (by decide) (bI_01 _) ⟨rfl, rfl⟩

set_option maxHeartbeats 4000000 in
set_option maxRecDepth 100000 in
theorem c_X10_isPart (l : Launch) (g : Gm) (a : Int32) (M : Mem) : Ct l g yX10_isPart cX10_isPart 1 (some .boolean) 1 0 0 [.int a] M (fun w N => w = some (.int (bI (qin a 0 1))) ∧ N = M) := by
  refine Ct.of (by decide) (Nat.le_of_ble_eq_true rfl) ?_
  intro X hXl hXg hN C E
  subst hXl; subst hXg
  show V X (rmD 1 0 0) M 0 0 [(0, .int a)] 0 []
  refine v_iload_n C dX10_isPart_0 rfl ?_
  refine v_iconst C dX10_isPart_1 (v := 0) rfl ?_
  refine v_iconst C dX10_isPart_2 (v := 1) rfl ?_
  refine v_callS (As := [.int a, .int 0, .int 1]) (rest := []) C (c_X10_in (xl X) (xg X) a 0 1 M) pm_X10_in wT_X10_in wM_X10_35 ⟨by decide, by decide⟩ ⟨by decide, by decide⟩ (nle rfl) dX10_isPart_3 rfl (dt1 ?_)
  show V X (rmD 1 0 0) M 0 0 [(0, .int a)] 6 [.int (bI (qin a 0 1))]
  exact v_zret C E dX10_isPart_6 (by decide) (by decide) (bI_01 _) ⟨rfl, rfl⟩
end
section
/-! Ticks and Thing. -/
set_option maxHeartbeats 4000000 in
set_option maxRecDepth 100000 in
theorem c_X7_has (l : Launch) (g : Gm) (M : Mem) (a : Nat) (lo hi : Int64) (j : Nat) (hm : M a = some (.inr (7, [.long lo, .long hi]))) (hj : j < 128) : Ct l g yX7_has cX7_has 4 (some .boolean) 0 0 0 [.ref a, .int (nI j)] M (fun w N => w = some (.int (bI (tk lo hi j))) ∧ N = M) := by
  refine Ct.of (by decide) (Nat.le_of_ble_eq_true rfl) ?_
  intro X hXl hXg hN C E
  subst hXl; subst hXg
  show V X (rmD 0 0 0) M 0 0 [(0, .ref a), (1, .int (nI j))] 0 []
  refine v_iload_n C dX7_has_0 rfl ?_
  refine v_if_lt (tgt := 10) C dX7_has_1 (by decide) (fun hbad => absurd hbad (nI_pos (by omega))) (fun h1 => ?_)
  refine v_iload_n C dX7_has_4 rfl ?_
  refine v_bipush C dX7_has_5 (v := 127) rfl ?_
  refine v_icmp_le (tgt := 12) C dX7_has_7 (by decide) (fun h7 => ?_) (fun hbad => absurd hbad (not_not_intro (nI_le (a := j) (b := 127) (by omega) (by decide))))
  refine v_iload_n C dX7_has_12 rfl ?_
  refine v_bipush C dX7_has_13 (v := 64) rfl ?_
  refine v_icmp_ge (tgt := 25) C dX7_has_15 (by decide) (fun h15 => ?_) (fun h15 => ?_)
  · refine v_aload_n C dX7_has_25 rfl ?_
    refine v_get C kX7 hm 1 (by decide) wF_X7_13 rfl dX7_has_26 ?_
    refine v_lstore_n (lv' := [(2, .long hi), (0, .ref a), (1, .int (nI j))]) C dX7_has_29 hN (by decide) rfl ?_
    refine v_lload_n C dX7_has_30 rfl ?_
    refine v_iload_n C dX7_has_31 rfl ?_
    refine v_bipush C dX7_has_32 (v := 63) rfl ?_
    refine v_iand C dX7_has_34 ?_
    refine v_lushr C dX7_has_35 ?_
    refine v_lconst C dX7_has_36 (v := 1) rfl ?_
    refine v_land C dX7_has_37 ?_
    refine v_lconst C dX7_has_38 (v := 1) rfl ?_
    refine v_lcmp C dX7_has_39 ?_
    refine v_if_ne (tgt := 47) C dX7_has_40 (by decide) (fun h40 => ?_) (fun h40 => ?_)
    · refine v_iconst C dX7_has_47 (v := 0) rfl ?_
      exact v_zret C E dX7_has_48 (by decide) (by decide) (by decide) ⟨by rw [Bool.eq_false_iff.mpr (fun q => h40 ((lg_cmp_eq _ _).mpr ((tk_hi (lo := lo) (hi := hi) hj h15).mpr q)))]; rfl, rfl⟩
    · refine v_iconst C dX7_has_43 (v := 1) rfl ?_
      refine v_goto (tgt := 48) C dX7_has_44 (by decide) ?_
      exact v_zret C E dX7_has_48 (by decide) (by decide) (by decide) ⟨by rw [(tk_hi (lo := lo) (hi := hi) hj h15).mp ((lg_cmp_eq _ _).mp h40)]; rfl, rfl⟩
  · refine v_aload_n C dX7_has_18 rfl ?_
    refine v_get C kX7 hm 0 (by decide) wF_X7_7 rfl dX7_has_19 ?_
    refine v_goto (tgt := 29) C dX7_has_22 (by decide) ?_
    refine v_lstore_n (lv' := [(2, .long lo), (0, .ref a), (1, .int (nI j))]) C dX7_has_29 hN (by decide) rfl ?_
    refine v_lload_n C dX7_has_30 rfl ?_
    refine v_iload_n C dX7_has_31 rfl ?_
    refine v_bipush C dX7_has_32 (v := 63) rfl ?_
    refine v_iand C dX7_has_34 ?_
    refine v_lushr C dX7_has_35 ?_
    refine v_lconst C dX7_has_36 (v := 1) rfl ?_
    refine v_land C dX7_has_37 ?_
    refine v_lconst C dX7_has_38 (v := 1) rfl ?_
    refine v_lcmp C dX7_has_39 ?_
    refine v_if_ne (tgt := 47) C dX7_has_40 (by decide) (fun h40 => ?_) (fun h40 => ?_)
    · refine v_iconst C dX7_has_47 (v := 0) rfl ?_
      exact v_zret C E dX7_has_48 (by decide) (by decide) (by decide) ⟨by rw [Bool.eq_false_iff.mpr (fun q => h40 ((lg_cmp_eq _ _).mpr ((tk_lo (lo := lo) (hi := hi) hj h15).mpr q)))]; rfl, rfl⟩
    · refine v_iconst C dX7_has_43 (v := 1) rfl ?_
      refine v_goto (tgt := 48) C dX7_has_44 (by decide) ?_
      exact v_zret C E dX7_has_48 (by decide) (by decide) (by decide) ⟨by rw [(tk_lo (lo := lo) (hi := hi) hj h15).mp ((lg_cmp_eq _ _).mp h40)]; rfl, rfl⟩

set_option maxHeartbeats 4000000 in
set_option maxRecDepth 100000 in
theorem c_X7_put (l : Launch) (g : Gm) (M : Mem) (a : Nat) (lo hi : Int64) (j : Nat) (b : Bool) (hm : M a = some (.inr (7, [.long lo, .long hi]))) (hj : j < 128) : Ct l g yX7_put cX7_put 6 (some .boolean) 1 0 0 [.ref a, .int (nI j), .int (bI b)] M (fun w N => w = some (.int (bI (tk lo hi j))) ∧ ∃ lo' hi' : Int64, N = mset M a (.inr (7, [.long lo', .long hi'])) ∧ ∀ i, i < 128 → tk lo' hi' i = if i = j then b else tk lo hi i) := by
  refine Ct.of (by decide) (Nat.le_of_ble_eq_true rfl) ?_
  intro X hXl hXg hN C E
  subst hXl; subst hXg
  show V X (rmD 1 0 0) M 0 0 [(0, .ref a), (1, .int (nI j)), (2, .int (bI b))] 0 []
  refine v_aload_n C dX7_put_0 rfl ?_
  refine v_iload_n C dX7_put_1 rfl ?_
  refine v_callV (As := [.int (nI j)]) (rest := []) (b := a) C (c_X7_has (xl X) (xg X) M a lo hi j hm (by omega)) pm_X7_has wI_X7_has wS_X7_has wM_X7_16 kX7 hm ⟨by decide, by decide⟩ ⟨by decide, by decide⟩ (nle rfl) dX7_put_2 rfl (dt1 ?_)
  show V X (rmD 1 0 0) M 0 0 [(0, .ref a), (1, .int (nI j)), (2, .int (bI b))] 5 [.int (bI (tk lo hi j))]
  refine v_istore_n (lv' := [(3, .int (bI (tk lo hi j))), (0, .ref a), (1, .int (nI j)), (2, .int (bI b))]) C dX7_put_5 hN (by decide) rfl ?_
  refine v_iload_n C dX7_put_6 rfl ?_
  refine v_iload_n C dX7_put_7 rfl ?_
  refine v_icmp_eq (tgt := 21) C dX7_put_8 (by decide) (fun h8 => ?_) (fun h8 => ?_)
  · refine v_iload_n C dX7_put_21 rfl ?_
    exact v_zret C E dX7_put_22 (by decide) (by decide) (bI_01 _) ⟨rfl, lo, hi, (mset_id hm).symm, fun i _ => by by_cases q : i = j <;> simp [q, bI_inj.mp h8]⟩
  · refine v_iload_n C dX7_put_11 rfl ?_
    refine v_if_lt (tgt := 21) C dX7_put_12 (by decide) (fun hbad => absurd hbad (nI_pos (by omega))) (fun h12 => ?_)
    refine v_iload_n C dX7_put_15 rfl ?_
    refine v_bipush C dX7_put_16 (v := 127) rfl ?_
    refine v_icmp_le (tgt := 23) C dX7_put_18 (by decide) (fun h18 => ?_) (fun hbad => absurd hbad (not_not_intro (nI_le (a := j) (b := 127) (by omega) (by decide))))
    refine v_lconst C dX7_put_23 (v := 1) rfl ?_
    refine v_iload_n C dX7_put_24 rfl ?_
    refine v_bipush C dX7_put_25 (v := 63) rfl ?_
    refine v_iand C dX7_put_27 ?_
    refine v_lshl C dX7_put_28 ?_
    refine v_lstore (lv' := [(4, .long (1 <<< (((nI j) &&& 63 : Int32).toInt64 &&& 63))), (3, .int (bI (tk lo hi j))), (0, .ref a), (1, .int (nI j)), (2, .int (bI b))]) C dX7_put_29 hN (by decide) rfl ?_
    refine v_iload_n C dX7_put_31 rfl ?_
    refine v_bipush C dX7_put_32 (v := 64) rfl ?_
    refine v_icmp_ge (tgt := 51) C dX7_put_34 (by decide) (fun h34 => ?_) (fun h34 => ?_)
    · refine v_aload_n C dX7_put_51 rfl ?_
      refine v_dup C dX7_put_52 rfl ?_
      refine v_get C kX7 hm 1 (by decide) wF_X7_13 rfl dX7_put_53 ?_
      refine v_lload C dX7_put_56 rfl ?_
      refine v_lxor C dX7_put_58 ?_
      refine v_put C kX7 hm 1 (by decide) wF_X7_13 rfl rfl rfl (nle rfl) dX7_put_59 ?_
      show V X (rmD 1 0 0) (mset M a (.inr (7, [.long lo, .long (hi ^^^ (1 <<< (((nI j) &&& 63 : Int32).toInt64 &&& 63)))]))) 0 0 [(4, .long (1 <<< (((nI j) &&& 63 : Int32).toInt64 &&& 63))), (3, .int (bI (tk lo hi j))), (0, .ref a), (1, .int (nI j)), (2, .int (bI b))] 62 []
      refine v_iload_n C dX7_put_62 rfl ?_
      exact v_zret C E dX7_put_63 (by decide) (by decide) (bI_01 _) ⟨rfl, _, _, rfl, tk_sethi hj h34 (fun q => h8 (by rw [q]))⟩
    · refine v_aload_n C dX7_put_37 rfl ?_
      refine v_dup C dX7_put_38 rfl ?_
      refine v_get C kX7 hm 0 (by decide) wF_X7_7 rfl dX7_put_39 ?_
      refine v_lload C dX7_put_42 rfl ?_
      refine v_lxor C dX7_put_44 ?_
      refine v_put C kX7 hm 0 (by decide) wF_X7_7 rfl rfl rfl (nle rfl) dX7_put_45 ?_
      show V X (rmD 1 0 0) (mset M a (.inr (7, [.long (lo ^^^ (1 <<< (((nI j) &&& 63 : Int32).toInt64 &&& 63))), .long hi]))) 0 0 [(4, .long (1 <<< (((nI j) &&& 63 : Int32).toInt64 &&& 63))), (3, .int (bI (tk lo hi j))), (0, .ref a), (1, .int (nI j)), (2, .int (bI b))] 48 []
      refine v_goto (tgt := 62) C dX7_put_48 (by decide) ?_
      refine v_iload_n C dX7_put_62 rfl ?_
      exact v_zret C E dX7_put_63 (by decide) (by decide) (bI_01 _) ⟨rfl, _, _, rfl, tk_setlo hj h34 (fun q => h8 (by rw [q]))⟩

set_option maxHeartbeats 4000000 in
set_option maxRecDepth 100000 in
theorem c_X7_init (l : Launch) (g : Gm) (M : Mem) (a : Nat)  : Ct l g yX7_init cX7_init 1 none 1 0 0 [.ref a] M (fun w N => w = none ∧ N = M) := by
  refine Ct.of (by decide) (Nat.le_of_ble_eq_true rfl) ?_
  intro X hXl hXg hN C E
  subst hXl; subst hXg
  show V X (rmD 1 0 0) M 0 0 [(0, .ref a)] 0 []
  refine v_aload_n C dX7_init_0 rfl ?_
  refine v_obj C wM_X7_1 wI_java_lang_Object__init____V wC_java_lang_Object__init____V (by decide) (nle rfl) dX7_init_1 ?_
  exact v_vret C E dX7_init_4 (by decide) (by decide) ⟨rfl, rfl⟩

set_option maxHeartbeats 4000000 in
set_option maxRecDepth 100000 in
theorem c_X6_number (l : Launch) (g : Gm) (M : Mem) (a ma da : Nat) (nu : Int32) (ht : M a = some (.inr (6, [.int nu, .ref ma, .ref da]))) : Ct l g yX6_number cX6_number 1 (some .int) 0 0 0 [.ref a] M (fun w N => w = some (.int nu) ∧ N = M) := by
  refine Ct.of (by decide) (Nat.le_of_ble_eq_true rfl) ?_
  intro X hXl hXg hN C E
  subst hXl; subst hXg
  show V X (rmD 0 0 0) M 0 0 [(0, .ref a)] 0 []
  refine v_aload_n C dX6_number_0 rfl ?_
  refine v_get C kX6 ht 0 (by decide) wF_X6_18 rfl dX6_number_1 ?_
  exact v_iret C E dX6_number_4 (by decide) (by decide) ⟨rfl, rfl⟩

set_option maxHeartbeats 4000000 in
set_option maxRecDepth 100000 in
theorem c_X6_mark (l : Launch) (g : Gm) (M : Mem) (a ma da : Nat) (nu : Int32) (f : Nat → Int32) (w : Nat) (hw : w < 11) (ht : M a = some (.inr (6, [.int nu, .ref ma, .ref da]))) (hk : M ma = some (aI g 11 f)) : Ct l g yX6_mark cX6_mark 2 (some .int) 0 0 0 [.ref a, .int (nI w)] M (fun v N => v = some (.int (f w)) ∧ N = M) := by
  refine Ct.of (by decide) (Nat.le_of_ble_eq_true rfl) ?_
  intro X hXl hXg hN C E
  subst hXl; subst hXg
  show V X (rmD 0 0 0) M 0 0 [(0, .ref a), (1, .int (nI w))] 0 []
  refine v_iload_n C dX6_mark_0 rfl ?_
  refine v_if_lt (tgt := 22) C dX6_mark_1 (by decide) (fun hbad => absurd hbad (nI_pos (by omega))) (fun h1 => ?_)
  refine v_iload_n C dX6_mark_4 rfl ?_
  refine v_aload_n C dX6_mark_5 rfl ?_
  refine v_get C kX6 ht 1 (by decide) wF_X6_22 rfl dX6_mark_6 ?_
  refine v_aleni C hk dX6_mark_9 ?_
  refine v_icmp_ge (tgt := 22) C dX6_mark_10 (by decide) (fun hbad => absurd hbad (nI_ge hw (by decide))) (fun h10 => ?_)
  refine v_aload_n C dX6_mark_13 rfl ?_
  refine v_get C kX6 ht 1 (by decide) wF_X6_22 rfl dX6_mark_14 ?_
  refine v_iload_n C dX6_mark_17 rfl ?_
  refine v_iald C hk (vp_in_nI hw (by decide)) dX6_mark_18 ?_
  refine v_goto (tgt := 24) C dX6_mark_19 (by decide) ?_
  exact v_iret C E dX6_mark_24 (by decide) (by decide) ⟨by rw [nI_clamp (by omega)], rfl⟩

set_option maxHeartbeats 4000000 in
set_option maxRecDepth 100000 in
theorem c_X6_remark (l : Launch) (g : Gm) (M : Mem) (a ma da : Nat) (nu : Int32) (f : Nat → Int32) (w : Nat) (hw : w < 11) (v : Int32) (ht : M a = some (.inr (6, [.int nu, .ref ma, .ref da]))) (hk : M ma = some (aI g 11 f)) : Ct l g yX6_remark cX6_remark 3 none 0 0 0 [.ref a, .int (nI w), .int v] M (fun u N => u = none ∧ N = mset M ma (aI g 11 (upd f w v))) := by
  refine Ct.of (by decide) (Nat.le_of_ble_eq_true rfl) ?_
  intro X hXl hXg hN C E
  subst hXl; subst hXg
  show V X (rmD 0 0 0) M 0 0 [(0, .ref a), (1, .int (nI w)), (2, .int v)] 0 []
  refine v_iload_n C dX6_remark_0 rfl ?_
  refine v_if_lt (tgt := 20) C dX6_remark_1 (by decide) (fun hbad => absurd hbad (nI_pos (by omega))) (fun h1 => ?_)
  refine v_iload_n C dX6_remark_4 rfl ?_
  refine v_aload_n C dX6_remark_5 rfl ?_
  refine v_get C kX6 ht 1 (by decide) wF_X6_22 rfl dX6_remark_6 ?_
  refine v_aleni C hk dX6_remark_9 ?_
  refine v_icmp_ge (tgt := 20) C dX6_remark_10 (by decide) (fun hbad => absurd hbad (nI_ge hw (by decide))) (fun h10 => ?_)
  refine v_aload_n C dX6_remark_13 rfl ?_
  refine v_get C kX6 ht 1 (by decide) wF_X6_22 rfl dX6_remark_14 ?_
  refine v_iload_n C dX6_remark_17 rfl ?_
  refine v_iload_n C dX6_remark_18 rfl ?_
  refine v_iast C hk (vp_in_nI hw (by decide)) dX6_remark_19 ?_
  show V X (rmD 0 0 0) (mset M ma (aI (xg X) 11 (upd f (nI w : Int32).toNatClampNeg v))) 0 0 [(0, .ref a), (1, .int (nI w)), (2, .int v)] 20 []
  exact v_vret C E dX6_remark_20 (by decide) (by decide) ⟨rfl, by rw [nI_clamp (by omega)]⟩

set_option maxHeartbeats 4000000 in
set_option maxRecDepth 100000 in
theorem c_X6_isThere (l : Launch) (g : Gm) (M : Mem) (a ma da : Nat) (nu : Int32) (f : Nat → Int32) (x : Int32) (ht : M a = some (.inr (6, [.int nu, .ref ma, .ref da]))) (hk : M ma = some (aI g 11 f)) : Ct l g yX6_isThere cX6_isThere 2 (some .boolean) 1 0 0 [.ref a, .int x] M (fun v N => v = some (.int (bI (qin x (f 6) (f 7)))) ∧ N = M) := by
  refine Ct.of (by decide) (Nat.le_of_ble_eq_true rfl) ?_
  intro X hXl hXg hN C E
  subst hXl; subst hXg
  show V X (rmD 1 0 0) M 0 0 [(0, .ref a), (1, .int x)] 0 []
  refine v_iload_n C dX6_isThere_0 rfl ?_
  refine v_aload_n C dX6_isThere_1 rfl ?_
  refine v_bipush C dX6_isThere_2 (v := 6) rfl ?_
  refine v_callV (As := [.int 6]) (rest := [.int x]) (b := a) C (c_X6_mark (xl X) (xg X) M a ma da nu f 6 (by decide) ht hk) pm_X6_mark wI_X6_mark wS_X6_mark wM_X6_26 kX6 ht ⟨by decide, by decide⟩ ⟨by decide, by decide⟩ (nle rfl) dX6_isThere_4 rfl (dt1 ?_)
  show V X (rmD 1 0 0) M 0 0 [(0, .ref a), (1, .int x)] 7 [.int (f 6), .int x]
  refine v_aload_n C dX6_isThere_7 rfl ?_
  refine v_bipush C dX6_isThere_8 (v := 7) rfl ?_
  refine v_callV (As := [.int 7]) (rest := [.int (f 6), .int x]) (b := a) C (c_X6_mark (xl X) (xg X) M a ma da nu f 7 (by decide) ht hk) pm_X6_mark wI_X6_mark wS_X6_mark wM_X6_26 kX6 ht ⟨by decide, by decide⟩ ⟨by decide, by decide⟩ (nle rfl) dX6_isThere_10 rfl (dt1 ?_)
  show V X (rmD 1 0 0) M 0 0 [(0, .ref a), (1, .int x)] 13 [.int (f 7), .int (f 6), .int x]
  refine v_callSN (As := [.int x, .int (f 6), .int (f 7)]) (rest := []) C (c_X9_isWithin (xl X) (xg X) x (f 6) (f 7) M) pm_X9_isWithin wT_X9_isWithin wMN_X6_30 ⟨by decide, by decide⟩ ⟨by decide, by decide⟩ (nle rfl) dX6_isThere_13 rfl (dt1 ?_)
  show V X (rmD 1 0 0) M 0 0 [(0, .ref a), (1, .int x)] 16 [.int (bI (qin x (f 6) (f 7)))]
  exact v_zret C E dX6_isThere_16 (by decide) (by decide) (bI_01 _) ⟨rfl, rfl⟩

/-- the CELL x y is one of those that a THING with the marks f lies on -/
def lies (f : Nat → Int32) (x y : Int32) : Bool := qin (x - f 0) 0 (f 2 - 1) && qin (y - f 1) 0 (f 3 - 1)
set_option maxHeartbeats 4000000 in
set_option maxRecDepth 100000 in
theorem c_X6_liesOn (l : Launch) (g : Gm) (M : Mem) (a ma da : Nat) (nu : Int32) (f : Nat → Int32) (x y : Int32) (ht : M a = some (.inr (6, [.int nu, .ref ma, .ref da]))) (hk : M ma = some (aI g 11 f)) : Ct l g yX6_liesOn cX6_liesOn 5 (some .boolean) 1 0 0 [.ref a, .int x, .int y] M (fun v N => v = some (.int (bI (lies f x y))) ∧ N = M) := by
  refine Ct.of (by decide) (Nat.le_of_ble_eq_true rfl) ?_
  intro X hXl hXg hN C E
  subst hXl; subst hXg
  show V X (rmD 1 0 0) M 0 0 [(0, .ref a), (1, .int x), (2, .int y)] 0 []
  refine v_iload_n C dX6_liesOn_0 rfl ?_
  refine v_aload_n C dX6_liesOn_1 rfl ?_
  refine v_iconst C dX6_liesOn_2 (v := 0) rfl ?_
  refine v_callV (As := [.int 0]) (rest := [.int x]) (b := a) C (c_X6_mark (xl X) (xg X) M a ma da nu f 0 (by decide) ht hk) pm_X6_mark wI_X6_mark wS_X6_mark wM_X6_26 kX6 ht ⟨by decide, by decide⟩ ⟨by decide, by decide⟩ (nle rfl) dX6_liesOn_3 rfl (dt1 ?_)
  show V X (rmD 1 0 0) M 0 0 [(0, .ref a), (1, .int x), (2, .int y)] 6 [.int (f 0), .int x]
  refine v_isub C dX6_liesOn_6 ?_
  refine v_istore_n (lv' := [(3, .int (x - (f 0))), (0, .ref a), (1, .int x), (2, .int y)]) C dX6_liesOn_7 hN (by decide) rfl ?_
  refine v_iload_n C dX6_liesOn_8 rfl ?_
  refine v_aload_n C dX6_liesOn_9 rfl ?_
  refine v_iconst C dX6_liesOn_10 (v := 1) rfl ?_
  refine v_callV (As := [.int 1]) (rest := [.int y]) (b := a) C (c_X6_mark (xl X) (xg X) M a ma da nu f 1 (by decide) ht hk) pm_X6_mark wI_X6_mark wS_X6_mark wM_X6_26 kX6 ht ⟨by decide, by decide⟩ ⟨by decide, by decide⟩ (nle rfl) dX6_liesOn_11 rfl (dt1 ?_)
  show V X (rmD 1 0 0) M 0 0 [(3, .int (x - (f 0))), (0, .ref a), (1, .int x), (2, .int y)] 14 [.int (f 1), .int y]
  refine v_isub C dX6_liesOn_14 ?_
  refine v_istore (lv' := [(4, .int (y - (f 1))), (3, .int (x - (f 0))), (0, .ref a), (1, .int x), (2, .int y)]) C dX6_liesOn_15 hN (by decide) rfl ?_
  refine v_iload_n C dX6_liesOn_17 rfl ?_
  refine v_iconst C dX6_liesOn_18 (v := 0) rfl ?_
  refine v_aload_n C dX6_liesOn_19 rfl ?_
  refine v_iconst C dX6_liesOn_20 (v := 2) rfl ?_
  refine v_callV (As := [.int 2]) (rest := [.int 0, .int (x - (f 0))]) (b := a) C (c_X6_mark (xl X) (xg X) M a ma da nu f 2 (by decide) ht hk) pm_X6_mark wI_X6_mark wS_X6_mark wM_X6_26 kX6 ht ⟨by decide, by decide⟩ ⟨by decide, by decide⟩ (nle rfl) dX6_liesOn_21 rfl (dt1 ?_)
  show V X (rmD 1 0 0) M 0 0 [(4, .int (y - (f 1))), (3, .int (x - (f 0))), (0, .ref a), (1, .int x), (2, .int y)] 24 [.int (f 2), .int 0, .int (x - (f 0))]
  refine v_iconst C dX6_liesOn_24 (v := 1) rfl ?_
  refine v_isub C dX6_liesOn_25 ?_
  refine v_callSN (As := [.int (x - (f 0)), .int 0, .int ((f 2) - 1)]) (rest := []) C (c_X9_isWithin (xl X) (xg X) (x - (f 0)) 0 ((f 2) - 1) M) pm_X9_isWithin wT_X9_isWithin wMN_X6_30 ⟨by decide, by decide⟩ ⟨by decide, by decide⟩ (nle rfl) dX6_liesOn_26 rfl (dt1 ?_)
  show V X (rmD 1 0 0) M 0 0 [(4, .int (y - (f 1))), (3, .int (x - (f 0))), (0, .ref a), (1, .int x), (2, .int y)] 29 [.int (bI (qin (x - (f 0)) 0 ((f 2) - 1)))]
  refine v_ifb_eq (tgt := 52) C dX6_liesOn_29 (by decide) (fun h29 => ?_) (fun h29 => ?_)
  · refine v_iconst C dX6_liesOn_52 (v := 0) rfl ?_
    exact v_zret C E dX6_liesOn_53 (by decide) (by decide) (by decide) ⟨by simp_all [lies, bI], rfl⟩
  · refine v_iload C dX6_liesOn_32 rfl ?_
    refine v_iconst C dX6_liesOn_34 (v := 0) rfl ?_
    refine v_aload_n C dX6_liesOn_35 rfl ?_
    refine v_iconst C dX6_liesOn_36 (v := 3) rfl ?_
    refine v_callV (As := [.int 3]) (rest := [.int 0, .int (y - (f 1))]) (b := a) C (c_X6_mark (xl X) (xg X) M a ma da nu f 3 (by decide) ht hk) pm_X6_mark wI_X6_mark wS_X6_mark wM_X6_26 kX6 ht ⟨by decide, by decide⟩ ⟨by decide, by decide⟩ (nle rfl) dX6_liesOn_37 rfl (dt1 ?_)
    show V X (rmD 1 0 0) M 0 0 [(4, .int (y - (f 1))), (3, .int (x - (f 0))), (0, .ref a), (1, .int x), (2, .int y)] 40 [.int (f 3), .int 0, .int (y - (f 1))]
    refine v_iconst C dX6_liesOn_40 (v := 1) rfl ?_
    refine v_isub C dX6_liesOn_41 ?_
    refine v_callSN (As := [.int (y - (f 1)), .int 0, .int ((f 3) - 1)]) (rest := []) C (c_X9_isWithin (xl X) (xg X) (y - (f 1)) 0 ((f 3) - 1) M) pm_X9_isWithin wT_X9_isWithin wMN_X6_30 ⟨by decide, by decide⟩ ⟨by decide, by decide⟩ (nle rfl) dX6_liesOn_42 rfl (dt1 ?_)
    show V X (rmD 1 0 0) M 0 0 [(4, .int (y - (f 1))), (3, .int (x - (f 0))), (0, .ref a), (1, .int x), (2, .int y)] 45 [.int (bI (qin (y - (f 1)) 0 ((f 3) - 1)))]
    refine v_ifb_eq (tgt := 52) C dX6_liesOn_45 (by decide) (fun h45 => ?_) (fun h45 => ?_)
    · refine v_iconst C dX6_liesOn_52 (v := 0) rfl ?_
      exact v_zret C E dX6_liesOn_53 (by decide) (by decide) (by decide) ⟨by simp_all [lies, bI], rfl⟩
    · refine v_iconst C dX6_liesOn_48 (v := 1) rfl ?_
      refine v_goto (tgt := 53) C dX6_liesOn_49 (by decide) ?_
      exact v_zret C E dX6_liesOn_53 (by decide) (by decide) (by decide) ⟨by simp_all [lies, bI], rfl⟩

set_option maxHeartbeats 4000000 in
set_option maxRecDepth 100000 in
theorem c_X6_isAboveN (l : Launch) (g : Gm) (M : Mem) (a ma da : Nat) (nu : Int32) (f : Nat → Int32) (ht : M a = some (.inr (6, [.int nu, .ref ma, .ref da]))) (hk : M ma = some (aI g 11 f)) : Ct l g yX6_isAbove cX6_isAbove 2 (some .boolean) 1 0 0 [.ref a, .null] M (fun v N => v = some (.int (bI true)) ∧ N = M) := by
  refine Ct.of (by decide) (Nat.le_of_ble_eq_true rfl) ?_
  intro X hXl hXg hN C E
  subst hXl; subst hXg
  show V X (rmD 1 0 0) M 0 0 [(0, .ref a), (1, .null)] 0 []
  refine v_aload_nN C dX6_isAbove_0 rfl ?_
  refine v_ifnullN (tgt := 17) C dX6_isAbove_1 (by decide) ?_
  refine v_iconst C dX6_isAbove_17 (v := 1) rfl ?_
  refine v_goto (tgt := 22) C dX6_isAbove_18 (by decide) ?_
  exact v_zret C E dX6_isAbove_22 (by decide) (by decide) (by decide) ⟨rfl, rfl⟩

set_option maxHeartbeats 4000000 in
set_option maxRecDepth 100000 in
theorem c_X6_isAbove (l : Launch) (g : Gm) (M : Mem) (a ma da : Nat) (nu : Int32) (f : Nat → Int32) (b mb db : Nat) (nb : Int32) (q : Nat → Int32) (ht : M a = some (.inr (6, [.int nu, .ref ma, .ref da]))) (hk : M ma = some (aI g 11 f)) (ht2 : M b = some (.inr (6, [.int nb, .ref mb, .ref db]))) (hk2 : M mb = some (aI g 11 q)) : Ct l g yX6_isAbove cX6_isAbove 2 (some .boolean) 1 0 0 [.ref a, .ref b] M (fun v N => v = some (.int (bI (decide (q 4 < f 4)))) ∧ N = M) := by
  refine Ct.of (by decide) (Nat.le_of_ble_eq_true rfl) ?_
  intro X hXl hXg hN C E
  subst hXl; subst hXg
  show V X (rmD 1 0 0) M 0 0 [(0, .ref a), (1, .ref b)] 0 []
  refine v_aload_n C dX6_isAbove_0 rfl ?_
  refine v_ifnull C dX6_isAbove_1 ?_
  refine v_aload_n C dX6_isAbove_4 rfl ?_
  refine v_iconst C dX6_isAbove_5 (v := 4) rfl ?_
  refine v_callV (As := [.int 4]) (rest := []) (b := a) C (c_X6_mark (xl X) (xg X) M a ma da nu f 4 (by decide) ht hk) pm_X6_mark wI_X6_mark wS_X6_mark wM_X6_26 kX6 ht ⟨by decide, by decide⟩ ⟨by decide, by decide⟩ (nle rfl) dX6_isAbove_6 rfl (dt1 ?_)
  show V X (rmD 1 0 0) M 0 0 [(0, .ref a), (1, .ref b)] 9 [.int (f 4)]
  refine v_aload_n C dX6_isAbove_9 rfl ?_
  refine v_iconst C dX6_isAbove_10 (v := 4) rfl ?_
  refine v_callV (As := [.int 4]) (rest := [.int (f 4)]) (b := b) C (c_X6_mark (xl X) (xg X) M b mb db nb q 4 (by decide) ht2 hk2) pm_X6_mark wI_X6_mark wS_X6_mark wM_X6_26 kX6 ht2 ⟨by decide, by decide⟩ ⟨by decide, by decide⟩ (nle rfl) dX6_isAbove_11 rfl (dt1 ?_)
  show V X (rmD 1 0 0) M 0 0 [(0, .ref a), (1, .ref b)] 14 [.int (q 4), .int (f 4)]
  refine v_icmp_le (tgt := 21) C dX6_isAbove_14 (by decide) (fun h14 => ?_) (fun h14 => ?_)
  · refine v_iconst C dX6_isAbove_21 (v := 0) rfl ?_
    exact v_zret C E dX6_isAbove_22 (by decide) (by decide) (by decide) ⟨by simp_all [bI, i32_lt_nle, i32_nle], rfl⟩
  · refine v_iconst C dX6_isAbove_17 (v := 1) rfl ?_
    refine v_goto (tgt := 22) C dX6_isAbove_18 (by decide) ?_
    exact v_zret C E dX6_isAbove_22 (by decide) (by decide) (by decide) ⟨by simp_all [bI, i32_lt_nle, i32_nle], rfl⟩

set_option maxHeartbeats 4000000 in
set_option maxRecDepth 100000 in
theorem c_X6_hasLine (l : Launch) (g : Gm) (M : Mem) (a ma da : Nat) (nu : Int32) (f : Nat → Int32) (x : Int32) (ht : M a = some (.inr (6, [.int nu, .ref ma, .ref da]))) (hk : M ma = some (aI g 11 f)) : Ct l g yX6_hasLine cX6_hasLine 2 (some .boolean) 2 0 0 [.ref a, .int x] M (fun v N => v = some (.int (bI (!decide (f 8 = 8) && qin x (f 6) (f 7)))) ∧ N = M) := by
  refine Ct.of (by decide) (Nat.le_of_ble_eq_true rfl) ?_
  intro X hXl hXg hN C E
  subst hXl; subst hXg
  show V X (rmD 2 0 0) M 0 0 [(0, .ref a), (1, .int x)] 0 []
  refine v_aload_n C dX6_hasLine_0 rfl ?_
  refine v_bipush C dX6_hasLine_1 (v := 8) rfl ?_
  refine v_callV (As := [.int 8]) (rest := []) (b := a) C (c_X6_mark (xl X) (xg X) M a ma da nu f 8 (by decide) ht hk) pm_X6_mark wI_X6_mark wS_X6_mark wM_X6_26 kX6 ht ⟨by decide, by decide⟩ ⟨by decide, by decide⟩ (nle rfl) dX6_hasLine_3 rfl (dt1 ?_)
  show V X (rmD 2 0 0) M 0 0 [(0, .ref a), (1, .int x)] 6 [.int (f 8)]
  refine v_bipush C dX6_hasLine_6 (v := 8) rfl ?_
  refine v_icmp_eq (tgt := 23) C dX6_hasLine_8 (by decide) (fun h8 => ?_) (fun h8 => ?_)
  · refine v_iconst C dX6_hasLine_23 (v := 0) rfl ?_
    exact v_zret C E dX6_hasLine_24 (by decide) (by decide) (by decide) ⟨by simp_all [bI], rfl⟩
  · refine v_aload_n C dX6_hasLine_11 rfl ?_
    refine v_iload_n C dX6_hasLine_12 rfl ?_
    refine v_callV (As := [.int x]) (rest := []) (b := a) C (c_X6_isThere (xl X) (xg X) M a ma da nu f x ht hk) pm_X6_isThere wI_X6_isThere wS_X6_isThere wM_X6_34 kX6 ht ⟨by decide, by decide⟩ ⟨by decide, by decide⟩ (nle rfl) dX6_hasLine_13 rfl (dt1 ?_)
    show V X (rmD 2 0 0) M 0 0 [(0, .ref a), (1, .int x)] 16 [.int (bI (qin x (f 6) (f 7)))]
    refine v_ifb_eq (tgt := 23) C dX6_hasLine_16 (by decide) (fun h16 => ?_) (fun h16 => ?_)
    · refine v_iconst C dX6_hasLine_23 (v := 0) rfl ?_
      exact v_zret C E dX6_hasLine_24 (by decide) (by decide) (by decide) ⟨by simp_all [bI], rfl⟩
    · refine v_iconst C dX6_hasLine_19 (v := 1) rfl ?_
      refine v_goto (tgt := 24) C dX6_hasLine_20 (by decide) ?_
      exact v_zret C E dX6_hasLine_24 (by decide) (by decide) (by decide) ⟨by simp_all [bI], rfl⟩

def iabs (x : Int32) : Int32 := if 0 ≤ x then x else 0 - x
set_option maxHeartbeats 4000000 in
set_option maxRecDepth 100000 in
theorem c_X6_distance (l : Launch) (g : Gm) (M : Mem) (a ma da : Nat) (nu : Int32) (f : Nat → Int32) (x y : Int32) (ht : M a = some (.inr (6, [.int nu, .ref ma, .ref da]))) (hk : M ma = some (aI g 11 f)) : Ct l g yX6_distance cX6_distance 3 (some .int) 1 0 0 [.ref a, .int x, .int y] M (fun v N => v = some (.int (iabs (x - f 0) + iabs (y - f 1))) ∧ N = M) := by
  refine Ct.of (by decide) (Nat.le_of_ble_eq_true rfl) ?_
  intro X hXl hXg hN C E
  subst hXl; subst hXg
  show V X (rmD 1 0 0) M 0 0 [(0, .ref a), (1, .int x), (2, .int y)] 0 []
  refine v_iload_n C dX6_distance_0 rfl ?_
  refine v_aload_n C dX6_distance_1 rfl ?_
  refine v_iconst C dX6_distance_2 (v := 0) rfl ?_
  refine v_callV (As := [.int 0]) (rest := [.int x]) (b := a) C (c_X6_mark (xl X) (xg X) M a ma da nu f 0 (by decide) ht hk) pm_X6_mark wI_X6_mark wS_X6_mark wM_X6_26 kX6 ht ⟨by decide, by decide⟩ ⟨by decide, by decide⟩ (nle rfl) dX6_distance_3 rfl (dt1 ?_)
  show V X (rmD 1 0 0) M 0 0 [(0, .ref a), (1, .int x), (2, .int y)] 6 [.int (f 0), .int x]
  refine v_isub C dX6_distance_6 ?_
  refine v_abs C wM_X6_38 wT_J9_abs_0f7a4 wN_J9 wC_J9_abs_0f7a4 (by decide) (nle rfl) ⟨by decide, by decide⟩ dX6_distance_7 ?_
  refine v_iload_n C dX6_distance_10 rfl ?_
  refine v_aload_n C dX6_distance_11 rfl ?_
  refine v_iconst C dX6_distance_12 (v := 1) rfl ?_
  refine v_callV (As := [.int 1]) (rest := [.int y, .int (if 0 ≤ (x - (f 0)) then (x - (f 0)) else 0 - (x - (f 0)))]) (b := a) C (c_X6_mark (xl X) (xg X) M a ma da nu f 1 (by decide) ht hk) pm_X6_mark wI_X6_mark wS_X6_mark wM_X6_26 kX6 ht ⟨by decide, by decide⟩ ⟨by decide, by decide⟩ (nle rfl) dX6_distance_13 rfl (dt1 ?_)
  show V X (rmD 1 0 0) M 0 0 [(0, .ref a), (1, .int x), (2, .int y)] 16 [.int (f 1), .int y, .int (if 0 ≤ (x - (f 0)) then (x - (f 0)) else 0 - (x - (f 0)))]
  refine v_isub C dX6_distance_16 ?_
  refine v_abs C wM_X6_38 wT_J9_abs_0f7a4 wN_J9 wC_J9_abs_0f7a4 (by decide) (nle rfl) ⟨by decide, by decide⟩ dX6_distance_17 ?_
  refine v_iadd C dX6_distance_20 ?_
  exact v_iret C E dX6_distance_21 (by decide) (by decide) ⟨rfl, rfl⟩

set_option maxHeartbeats 4000000 in
set_option maxRecDepth 100000 in
theorem c_X6_tickDoing (l : Launch) (g : Gm) (M : Mem) (a ma da : Nat) (nu : Int32) (lo hi : Int64) (j : Nat) (b : Bool) (hj : j < 128) (ht : M a = some (.inr (6, [.int nu, .ref ma, .ref da]))) (hm : M da = some (.inr (7, [.long lo, .long hi]))) : Ct l g yX6_tickDoing cX6_tickDoing 3 (some .boolean) 2 0 0 [.ref a, .int (nI j), .int (bI b)] M (fun w N => w = some (.int (bI (tk lo hi j))) ∧ ∃ lo' hi' : Int64, N = mset M da (.inr (7, [.long lo', .long hi'])) ∧ ∀ i, i < 128 → tk lo' hi' i = if i = j then b else tk lo hi i) := by
  refine Ct.of (by decide) (Nat.le_of_ble_eq_true rfl) ?_
  intro X hXl hXg hN C E
  subst hXl; subst hXg
  show V X (rmD 2 0 0) M 0 0 [(0, .ref a), (1, .int (nI j)), (2, .int (bI b))] 0 []
  refine v_aload_n C dX6_tickDoing_0 rfl ?_
  refine v_get C kX6 ht 2 (by decide) wF_X6_12 rfl dX6_tickDoing_1 ?_
  refine v_iload_n C dX6_tickDoing_4 rfl ?_
  refine v_iload_n C dX6_tickDoing_5 rfl ?_
  refine v_callV (As := [.int (nI j), .int (bI b)]) (rest := []) (b := da) C (c_X7_put (xl X) (xg X) M da lo hi j b hm hj) pm_X7_put wI_X7_put wS_X7_put wM_X6_43 kX7 hm ⟨by decide, by decide⟩ ⟨by decide, by decide⟩ (nle rfl) dX6_tickDoing_6 rfl ?_
  rintro _ _ ⟨rfl, lo', hi', rfl, hq⟩
  show V X (rmD 2 0 0) (mset M da (.inr (7, [.long (lo'), .long (hi')]))) 0 0 [(0, .ref a), (1, .int (nI j)), (2, .int (bI b))] 9 [.int (bI (tk lo hi j))]
  exact v_zret C E dX6_tickDoing_9 (by decide) (by decide) (bI_01 _) ⟨rfl, _, _, rfl, hq⟩

set_option maxHeartbeats 4000000 in
set_option maxRecDepth 100000 in
theorem c_X6_daysWithout (l : Launch) (g : Gm) (M : Mem) (a ma da : Nat) (nu : Int32) (lo hi : Int64) (s e : Nat) (hs : s < 100) (he : e < 100) (ht : M a = some (.inr (6, [.int nu, .ref ma, .ref da]))) (hm : M da = some (.inr (7, [.long lo, .long hi]))) : Ct l g yX6_daysWithout cX6_daysWithout 5 (some .int) 1 0 0 [.ref a, .int (nI s), .int (nI e)] M (fun w N => w = some (.int (nI (cntNo (tk lo hi) s (e + 1 - s)))) ∧ N = M) := by
  refine Ct.of (by decide) (Nat.le_of_ble_eq_true rfl) ?_
  intro X hXl hXg hN C E
  subst hXl; subst hXg
  show V X (rmD 1 0 0) M 0 0 [(0, .ref a), (1, .int (nI s)), (2, .int (nI e))] 0 []
  refine v_iconst C dX6_daysWithout_0 (v := 0) rfl ?_
  refine v_istore_n (lv' := [(3, .int 0), (0, .ref a), (1, .int (nI s)), (2, .int (nI e))]) C dX6_daysWithout_1 hN (by decide) rfl ?_
  refine v_iload_n C dX6_daysWithout_2 rfl ?_
  refine v_istore (lv' := [(4, .int (nI s)), (3, .int 0), (0, .ref a), (1, .int (nI s)), (2, .int (nI e))]) C dX6_daysWithout_3 hN (by decide) rfl ?_
  refine v_sub (lv' := [(0, .ref a), (1, .int (nI s)), (2, .int (nI e)), (3, .int 0), (4, .int (nI s))]) [2, 3, 4, 1, 0] rfl ?_
  have lp5 : ∀ (mm : Nat) (i : Nat) (h1 : i ≤ e + 1 - s), e + 1 - s - i < mm → V X (rmD 1 0 0) M 0 0 [(0, .ref a), (1, .int (nI s)), (2, .int (nI e)), (3, .int (nI (cntNo (tk lo hi) s i))), (4, .int (nI (s + i)))] 5 [] := by
    intro mm
    induction mm with
    | zero => intro i h1 hmu; exact absurd hmu (Nat.not_lt_zero _)
    | succ mm ih5 =>
      intro i h1 hmu
      refine v_iload C dX6_daysWithout_5 rfl ?_
      refine v_iload_n C dX6_daysWithout_7 rfl ?_
      refine v_icmp_gt (tgt := 32) C dX6_daysWithout_8 (by decide) (fun h8 => ?_) (fun h8 => ?_)
      · have g8 := nI_ltN (by omega) (by omega) h8
        refine v_iload_n C dX6_daysWithout_32 rfl ?_
        exact v_iret C E dX6_daysWithout_33 (by decide) (by decide) ⟨by rw [show i = e + 1 - s by omega], rfl⟩
      · have g8 := nI_nltN (by omega) (by omega) h8
        refine v_aload_n C dX6_daysWithout_11 rfl ?_
        refine v_get C kX6 ht 2 (by decide) wF_X6_12 rfl dX6_daysWithout_12 ?_
        refine v_iload C dX6_daysWithout_15 rfl ?_
        refine v_callV (As := [.int (nI (s + i))]) (rest := []) (b := da) C (c_X7_has (xl X) (xg X) M da lo hi (s + i) hm (by omega)) pm_X7_has wI_X7_has wS_X7_has wM_X6_47 kX7 hm ⟨by decide, by decide⟩ ⟨by decide, by decide⟩ (nle rfl) dX6_daysWithout_17 rfl (dt1 ?_)
        show V X (rmD 1 0 0) M 0 0 [(0, .ref a), (1, .int (nI s)), (2, .int (nI e)), (3, .int (nI (cntNo (tk lo hi) s i))), (4, .int (nI (s + i)))] 20 [.int (bI (tk lo hi (s + i)))]
        refine v_ifb_ne (tgt := 26) C dX6_daysWithout_20 (by decide) (fun h20 => ?_) (fun h20 => ?_)
        · refine v_iinc (lv' := [(4, .int (nI ((s + i) + 1))), (0, .ref a), (1, .int (nI s)), (2, .int (nI e)), (3, .int (nI (cntNo (tk lo hi) s i)))]) C dX6_daysWithout_26 4 rfl (nI_1 _) hN (by decide) rfl ?_
          refine v_goto (tgt := 5) C dX6_daysWithout_29 (by decide) ?_
          refine v_sub (lv' := [(0, .ref a), (1, .int (nI s)), (2, .int (nI e)), (3, .int (nI (cntNo (tk lo hi) s i))), (4, .int (nI ((s + i) + 1)))]) [1, 2, 3, 4, 0] rfl ?_
          rw [show nI (s + i + 1) = nI (s + (i + 1)) from rfl, show cntNo (tk lo hi) s i = cntNo (tk lo hi) s (i + 1) by simp [cntNo, h20]]
          exact ih5 (i + 1) (by omega) (by omega)
        · refine v_iinc (lv' := [(3, .int (nI ((cntNo (tk lo hi) s i) + 1))), (0, .ref a), (1, .int (nI s)), (2, .int (nI e)), (4, .int (nI (s + i)))]) C dX6_daysWithout_23 3 rfl (nI_1 _) hN (by decide) rfl ?_
          refine v_iinc (lv' := [(4, .int (nI ((s + i) + 1))), (3, .int (nI ((cntNo (tk lo hi) s i) + 1))), (0, .ref a), (1, .int (nI s)), (2, .int (nI e))]) C dX6_daysWithout_26 4 rfl (nI_1 _) hN (by decide) rfl ?_
          refine v_goto (tgt := 5) C dX6_daysWithout_29 (by decide) ?_
          refine v_sub (lv' := [(0, .ref a), (1, .int (nI s)), (2, .int (nI e)), (3, .int (nI ((cntNo (tk lo hi) s i) + 1))), (4, .int (nI ((s + i) + 1)))]) [2, 3, 4, 1, 0] rfl ?_
          rw [show nI (s + i + 1) = nI (s + (i + 1)) from rfl, show cntNo (tk lo hi) s i + 1 = cntNo (tk lo hi) s (i + 1) by simp [cntNo, h20]]
          exact ih5 (i + 1) (by omega) (by omega)
  exact lp5 (_ + 1) 0 (Nat.zero_le _) (Nat.lt_succ_self _)
end
section
/-! What the land is, in plain numbers: the marks of a THING are numbers m 0 .. m 10. -/
def there (m : Nat → Nat) (d : Nat) : Bool := decide (m 6 ≤ d) && decide (d ≤ m 7)
def liesN (m : Nat → Nat) (x y : Nat) : Bool := (decide (m 0 ≤ x) && decide (x < m 0 + m 2)) && (decide (m 1 ≤ y) && decide (y < m 1 + m 3))
/-- the marks are as the document has them -/
def okM (m : Nat → Nat) : Prop := m 0 ≤ 11 ∧ m 1 ≤ 7 ∧ 1 ≤ m 2 ∧ m 2 ≤ 4 ∧ 1 ≤ m 3 ∧ m 3 ≤ 4 ∧ m 0 + m 2 ≤ 12 ∧ m 1 + m 3 ≤ 8 ∧ 1 ≤ m 4 ∧ m 4 ≤ 20 ∧ m 5 ≤ 5 ∧ m 6 ≤ m 7 ∧ m 7 ≤ 99 ∧ m 8 ≤ 8 ∧ m 9 ≤ 1 ∧ m 10 ≤ 1
def abv (m : Nat → Nat → Nat) (o : Option Nat) (n : Nat) : Bool := match o with
  | none => true
  | some b => decide (m b 4 < m n 4)
/-- the THING that counts at x y on the DAY d, among the first n -/
def bst (m : Nat → Nat → Nat) (x y d : Nat) : Nat → Option Nat
  | 0 => none
  | n + 1 => if (there (m n) d && liesN (m n) x y) && abv m (bst m x y d n) n then some n else bst m x y d n
theorem bst_lt {m : Nat → Nat → Nat} {x y d : Nat} : ∀ {n b : Nat}, bst m x y d n = some b → b < n
  | 0, b, h => by simp [bst] at h
  | n + 1, b, h => by
    unfold bst at h
    split at h
    · cases h; omega
    · have := bst_lt h; omega
theorem bst_here {m : Nat → Nat → Nat} {x y d : Nat} : ∀ {n b : Nat}, bst m x y d n = some b → there (m b) d = true ∧ liesN (m b) x y = true
  | 0, b, h => by simp [bst] at h
  | n + 1, b, h => by
    unfold bst at h
    split at h
    · next q => cases h; simp only [Bool.and_eq_true] at q; exact q.1
    · exact bst_here h
/-- an answer that may be NONE -/
def oI (o : Option Nat) : Int32 := match o with
  | none => -6
  | some k => nI k
theorem qin_N {a b c : Nat} (ha : a < 2 ^ 31) (hb : b < 2 ^ 31) (hc : c < 2 ^ 31) : qin (nI a) (nI b) (nI c) = (decide (b ≤ a) && decide (a ≤ c)) := by
  unfold qin
  rw [decide_eq_decide.mpr (nI_leI hb ha), decide_eq_decide.mpr (nI_leI ha hc)]
theorem i32_toInt_sub {a b : Nat} (ha : a < 2 ^ 30) (hb : b < 2 ^ 30) : (nI a - nI b).toInt = (a : Int) - b := pk_sub_toInt ha hb
theorem qin_sub {x X W : Nat} (hx : x < 2 ^ 30) (hX : X < 2 ^ 30) (hW : 1 ≤ W) (hW2 : W < 2 ^ 30) : qin (nI x - nI X) 0 (nI W - 1) = (decide (X ≤ x) && decide (x < X + W)) := by
  have e1 := i32_toInt_sub hx hX
  have e2 : (nI W - 1).toInt = (W : Int) - 1 := by
    have := i32_toInt_sub (a := W) (b := 1) hW2 (by decide)
    exact this
  unfold qin
  congr 1
  · apply decide_eq_decide.mpr
    rw [Int32.le_iff_toInt_le, e1, show (0 : Int32).toInt = 0 from rfl]
    omega
  · apply decide_eq_decide.mpr
    rw [Int32.le_iff_toInt_le, e1, e2]
    omega
theorem lies_N {m : Nat → Nat} (h : okM m) {x y : Nat} (hx : x < 2 ^ 30) (hy : y < 2 ^ 30) : lies (fun w => nI (m w)) (nI x) (nI y) = liesN m x y := by
  unfold okM at h
  unfold lies liesN
  rw [qin_sub hx (by omega) (by omega) (by omega), qin_sub hy (by omega) (by omega) (by omega)]
theorem there_N {m : Nat → Nat} (h : okM m) {d : Nat} (hd : d < 2 ^ 31) : qin (nI d) (nI (m 6)) (nI (m 7)) = there m d := by
  unfold okM at h
  exact qin_N hd (by omega) (by omega)
theorem above_N {m m' : Nat → Nat} (h : okM m) (h' : okM m') : decide (nI (m' 4) < nI (m 4)) = decide (m' 4 < m 4) := by
  unfold okM at h h'
  exact decide_eq_decide.mpr (nI_ltI (by omega) (by omega))
theorem cell_mod {c : Nat} (hc : c < 2 ^ 31) : nI c - nI c / 12 * 12 = nI (c % 12) := pk_rem (d := 12) hc (by decide) (by decide)
theorem cell_div {c : Nat} (hc : c < 2 ^ 31) : nI c / 12 = nI (c / 12) := pk_div (d := 12) hc (by decide) (by decide)
/-- THE LAND in the cells M: at la; its row at ta; THING i at th i, its marks at mk i, its ticks at dn i -/
def LandW (g : Gm) (M : Mem) (la ta : Nat) (th mk dn : Nat → Nat) (nT : Nat) (m : Nat → Nat → Nat) (lo hi : Nat → Int64) : Prop :=
  nT ≤ 12 ∧ M la = some (.inr (3, [.ref ta, .int (nI nT)])) ∧ M ta = some (aQ g 4 12 (fun i => if i < nT then some (th i) else none)) ∧ ∀ i, i < nT → M (th i) = some (.inr (6, [.int (nI i), .ref (mk i), .ref (dn i)])) ∧ M (mk i) = some (aI g 11 (fun w => nI (m i w))) ∧ M (dn i) = some (.inr (7, [.long (lo i), .long (hi i)])) ∧ okM (m i)
end
section
/-! Land. -/
set_option maxHeartbeats 4000000 in
set_option maxRecDepth 100000 in
theorem c_X3_size (l : Launch) (g : Gm) (M : Mem) (la ta : Nat) (th mk dn : Nat → Nat) (nT : Nat) (m : Nat → Nat → Nat) (lo hi : Nat → Int64) (hL : LandW g M la ta th mk dn nT m lo hi) : Ct l g yX3_size cX3_size 1 (some .int) 0 0 0 [.ref la] M (fun v N => v = some (.int (nI nT)) ∧ N = M) := by
  refine Ct.of (by decide) (Nat.le_of_ble_eq_true rfl) ?_
  intro X hXl hXg hN C E
  subst hXl; subst hXg
  show V X (rmD 0 0 0) M 0 0 [(0, .ref la)] 0 []
  refine v_aload_n C dX3_size_0 rfl ?_
  refine v_get C kX3 hL.2.1 1 (by decide) wF_X3_17 rfl dX3_size_1 ?_
  exact v_iret C E dX3_size_4 (by decide) (by decide) ⟨rfl, rfl⟩

set_option maxHeartbeats 4000000 in
set_option maxRecDepth 100000 in
theorem c_X3_isFull (l : Launch) (g : Gm) (M : Mem) (la ta : Nat) (th mk dn : Nat → Nat) (nT : Nat) (m : Nat → Nat → Nat) (lo hi : Nat → Int64) (hL : LandW g M la ta th mk dn nT m lo hi) : Ct l g yX3_isFull cX3_isFull 1 (some .boolean) 0 0 0 [.ref la] M (fun v N => v = some (.int (bI (decide (12 ≤ nT)))) ∧ N = M) := by
  refine Ct.of (by decide) (Nat.le_of_ble_eq_true rfl) ?_
  intro X hXl hXg hN C E
  subst hXl; subst hXg
  show V X (rmD 0 0 0) M 0 0 [(0, .ref la)] 0 []
  refine v_aload_n C dX3_isFull_0 rfl ?_
  refine v_get C kX3 hL.2.1 1 (by decide) wF_X3_17 rfl dX3_isFull_1 ?_
  refine v_bipush C dX3_isFull_4 (v := 12) rfl ?_
  refine v_icmp_lt (tgt := 13) C dX3_isFull_6 (by decide) (fun h6 => ?_) (fun h6 => ?_)
  · refine v_iconst C dX3_isFull_13 (v := 0) rfl ?_
    exact v_zret C E dX3_isFull_14 (by decide) (by decide) (by decide) ⟨by rw [decide_eq_false (fun q => absurd (nI_ltN (a := nT) (b := 12) (by have := hL.1; omega) (by decide) h6) (Nat.not_lt.mpr q))]; rfl, rfl⟩
  · refine v_iconst C dX3_isFull_9 (v := 1) rfl ?_
    refine v_goto (tgt := 14) C dX3_isFull_10 (by decide) ?_
    exact v_zret C E dX3_isFull_14 (by decide) (by decide) (by decide) ⟨by rw [decide_eq_true (nI_nltN (a := nT) (b := 12) (by have := hL.1; omega) (by decide) h6)]; rfl, rfl⟩

set_option maxHeartbeats 4000000 in
set_option maxRecDepth 100000 in
theorem c_X3_find (l : Launch) (g : Gm) (M : Mem) (la ta : Nat) (th mk dn : Nat → Nat) (nT : Nat) (m : Nat → Nat → Nat) (lo hi : Nat → Int64) (i : Nat) (lt : i < nT) (hL : LandW g M la ta th mk dn nT m lo hi) : Ct l g yX3_find cX3_find 2 (some (.object "PictureDesk$Thing")) 1 0 0 [.ref la, .int (nI i)] M (fun v N => v = some (.ref (th i)) ∧ N = M) := by
  refine Ct.of (by decide) (Nat.le_of_ble_eq_true rfl) ?_
  intro X hXl hXg hN C E
  subst hXl; subst hXg
  show V X (rmD 1 0 0) M 0 0 [(0, .ref la), (1, .int (nI i))] 0 []
  have h12 := hL.1
  have hq : qin (nI i) 0 11 = true := by rw [show qin (nI i) 0 11 = qin (nI i) (nI 0) (nI 11) from rfl, qin_N (by omega) (by decide) (by decide)]; simp; omega
  refine v_iload_n C dX3_find_0 rfl ?_
  refine v_iconst C dX3_find_1 (v := 0) rfl ?_
  refine v_bipush C dX3_find_2 (v := 11) rfl ?_
  refine v_callSN (As := [.int (nI i), .int 0, .int 11]) (rest := []) C (c_X9_isWithin (xl X) (xg X) (nI i) 0 11 M) pm_X9_isWithin wT_X9_isWithin wMN_X3_28 ⟨by decide, by decide⟩ ⟨by decide, by decide⟩ (nle rfl) dX3_find_4 rfl (dt1 ?_)
  show V X (rmD 1 0 0) M 0 0 [(0, .ref la), (1, .int (nI i))] 7 [.int (bI (qin (nI i) 0 11))]
  refine v_ifb_eq (tgt := 19) C dX3_find_7 (by decide) (fun hbad => absurd hbad (by rw [hq]; decide)) (fun h7 => ?_)
  refine v_aload_n C dX3_find_10 rfl ?_
  refine v_get C kX3 hL.2.1 0 (by decide) wF_X3_11 rfl dX3_find_11 ?_
  refine v_iload_n C dX3_find_14 rfl ?_
  refine v_aald C (by decide) hL.2.2.1 (vp_in_nI (by omega) (by decide)) dX3_find_15 ?_
  rw [nI_clamp (by omega), if_pos lt]
  show V X (rmD 1 0 0) M 0 0 [(0, .ref la), (1, .int (nI i))] 16 [.ref (th i)]
  refine v_goto (tgt := 20) C dX3_find_16 (by decide) ?_
  exact v_aret (r := some (th i)) C E dX3_find_20 (by decide) (by decide) ⟨rfl, rfl⟩

set_option maxHeartbeats 4000000 in
set_option maxRecDepth 100000 in
theorem c_X3_findN (l : Launch) (g : Gm) (M : Mem) (la ta : Nat) (th mk dn : Nat → Nat) (nT : Nat) (m : Nat → Nat → Nat) (lo hi : Nat → Int64) (x : Int32) (hx : ∀ i, i < nT → ¬ x = nI i) (hL : LandW g M la ta th mk dn nT m lo hi) : Ct l g yX3_find cX3_find 2 (some (.object "PictureDesk$Thing")) 1 0 0 [.ref la, .int x] M (fun v N => v = some .null ∧ N = M) := by
  refine Ct.of (by decide) (Nat.le_of_ble_eq_true rfl) ?_
  intro X hXl hXg hN C E
  subst hXl; subst hXg
  show V X (rmD 1 0 0) M 0 0 [(0, .ref la), (1, .int x)] 0 []
  refine v_iload_n C dX3_find_0 rfl ?_
  refine v_iconst C dX3_find_1 (v := 0) rfl ?_
  refine v_bipush C dX3_find_2 (v := 11) rfl ?_
  refine v_callSN (As := [.int x, .int 0, .int 11]) (rest := []) C (c_X9_isWithin (xl X) (xg X) x 0 11 M) pm_X9_isWithin wT_X9_isWithin wMN_X3_28 ⟨by decide, by decide⟩ ⟨by decide, by decide⟩ (nle rfl) dX3_find_4 rfl (dt1 ?_)
  show V X (rmD 1 0 0) M 0 0 [(0, .ref la), (1, .int x)] 7 [.int (bI (qin x 0 11))]
  refine v_ifb_eq (tgt := 19) C dX3_find_7 (by decide) (fun h7 => ?_) (fun h7 => ?_)
  · refine v_null C dX3_find_19 ?_
    exact v_aret (r := none) C E dX3_find_20 (by decide) (by decide) ⟨rfl, rfl⟩
  · obtain ⟨j, hj, rfl⟩ := qin_nI (N := 11) (by decide) h7
    show V X (rmD 1 0 0) M 0 0 [(0, .ref la), (1, .int (nI j))] 10 []
    refine v_aload_n C dX3_find_10 rfl ?_
    refine v_get C kX3 hL.2.1 0 (by decide) wF_X3_11 rfl dX3_find_11 ?_
    refine v_iload_n C dX3_find_14 rfl ?_
    refine v_aald C (by decide) hL.2.2.1 (vp_in_nI (by omega) (by decide)) dX3_find_15 ?_
    rw [nI_clamp (by omega), if_neg (fun q => hx j q rfl)]
    show V X (rmD 1 0 0) M 0 0 [(0, .ref la), (1, .int (nI j))] 16 [.null]
    refine v_goto (tgt := 20) C dX3_find_16 (by decide) ?_
    exact v_aret (r := none) C E dX3_find_20 (by decide) (by decide) ⟨rfl, rfl⟩

set_option maxHeartbeats 4000000 in
set_option maxRecDepth 100000 in
theorem c_X3_counting (l : Launch) (g : Gm) (M : Mem) (la ta : Nat) (th mk dn : Nat → Nat) (nT : Nat) (m : Nat → Nat → Nat) (lo hi : Nat → Int64) (c d : Nat) (hc : c < 96) (hd : d < 100) (hL : LandW g M la ta th mk dn nT m lo hi) : Ct l g yX3_counting cX3_counting 6 (some .int) 2 0 0 [.ref la, .int (nI c), .int (nI d)] M (fun v N => v = some (.int (oI (bst m (c % 12) (c / 12) d nT))) ∧ N = M) := by
  refine Ct.of (by decide) (Nat.le_of_ble_eq_true rfl) ?_
  intro X hXl hXg hN C E
  subst hXl; subst hXg
  show V X (rmD 2 0 0) M 0 0 [(0, .ref la), (1, .int (nI c)), (2, .int (nI d))] 0 []
  have h12 := hL.1
  refine v_null C dX3_counting_0 ?_
  refine v_astore_nN (lv' := [(3, .null), (0, .ref la), (1, .int (nI c)), (2, .int (nI d))]) C dX3_counting_1 hN (by decide) rfl ?_
  refine v_iconst C dX3_counting_2 (v := 0) rfl ?_
  refine v_istore (lv' := [(4, .int 0), (3, .null), (0, .ref la), (1, .int (nI c)), (2, .int (nI d))]) C dX3_counting_3 hN (by decide) rfl ?_
  refine v_sub (lv' := [(0, .ref la), (1, .int (nI c)), (2, .int (nI d)), (3, .null), (4, .int 0)]) [2, 3, 4, 1, 0] rfl ?_
  have lp5 : ∀ (mm : Nat) (i : Nat) (h1 : i ≤ nT), nT - i < mm → V X (rmD 2 0 0) M 0 0 [(0, .ref la), (1, .int (nI c)), (2, .int (nI d)), (3, va_rf ((bst m (c % 12) (c / 12) d i).map th)), (4, .int (nI i))] 5 [] := by
    intro mm
    induction mm with
    | zero => intro i h1 hmu; exact absurd hmu (Nat.not_lt_zero _)
    | succ mm ih5 =>
      intro i h1 hmu
      rcases hb : bst m (c % 12) (c / 12) d i with _ | b
      · show V X (rmD 2 0 0) M 0 0 [(0, .ref la), (1, .int (nI c)), (2, .int (nI d)), (3, .null), (4, .int (nI i))] 5 []
        refine v_iload C dX3_counting_5 rfl ?_
        refine v_aload_n C dX3_counting_7 rfl ?_
        refine v_get C kX3 hL.2.1 1 (by decide) wF_X3_17 rfl dX3_counting_8 ?_
        refine v_icmp_ge (tgt := 70) C dX3_counting_11 (by decide) (fun h11 => ?_) (fun h11 => ?_)
        · have g11 : i = nT := Nat.le_antisymm h1 (nI_leN (by omega) (by omega) h11)
          subst g11
          refine v_aload_nN C dX3_counting_70 rfl ?_
          refine v_ifnonnullN C dX3_counting_71 ?_
          refine v_bipush C dX3_counting_74 (v := (-6)) rfl ?_
          refine v_goto (tgt := 83) C dX3_counting_76 (by decide) ?_
          exact v_iret C E dX3_counting_83 (by decide) (by decide) ⟨by rw [hb]; rfl, rfl⟩
        · have g11 := nI_nleN (by omega) (by omega) h11
          refine v_aload_n C dX3_counting_14 rfl ?_
          refine v_iload C dX3_counting_15 rfl ?_
          refine v_callV (As := [.int (nI i)]) (rest := []) (b := la) C (c_X3_find (xl X) (xg X) M la ta th mk dn nT m lo hi i g11 hL) pm_X3_find wI_X3_find wS_X3_find wM_X3_32 kX3 hL.2.1 ⟨by decide, by decide⟩ ⟨by decide, by decide⟩ (nle rfl) dX3_counting_17 rfl (dt1 ?_)
          show V X (rmD 2 0 0) M 0 0 [(0, .ref la), (1, .int (nI c)), (2, .int (nI d)), (3, .null), (4, .int (nI i))] 20 [.ref (th i)]
          refine v_astore (lv' := [(5, .ref (th i)), (0, .ref la), (1, .int (nI c)), (2, .int (nI d)), (3, .null), (4, .int (nI i))]) C dX3_counting_20 hN (by decide) rfl ?_
          refine v_aload C dX3_counting_22 rfl ?_
          refine v_ifnull C dX3_counting_24 ?_
          refine v_aload C dX3_counting_27 rfl ?_
          refine v_iload_n C dX3_counting_29 rfl ?_
          refine v_callV (As := [.int (nI d)]) (rest := []) (b := th i) C (c_X6_isThere (xl X) (xg X) M (th i) (mk i) (dn i) (nI i) (fun w => nI (m i w)) (nI d) ((hL.2.2.2 i g11).1) ((hL.2.2.2 i g11).2.1)) pm_X6_isThere wI_X6_isThere wS_X6_isThere wM_X3_36 kX6 ((hL.2.2.2 i g11).1) ⟨by decide, by decide⟩ ⟨by decide, by decide⟩ (nle rfl) dX3_counting_30 rfl (dt1 ?_)
          show V X (rmD 2 0 0) M 0 0 [(5, .ref (th i)), (0, .ref la), (1, .int (nI c)), (2, .int (nI d)), (3, .null), (4, .int (nI i))] 33 [.int (bI (qin (nI d) ((fun w => nI (m i w)) 6) ((fun w => nI (m i w)) 7)))]
          rw [there_N (hL.2.2.2 i g11).2.2.2 (by omega)]
          show V X (rmD 2 0 0) M 0 0 [(5, .ref (th i)), (0, .ref la), (1, .int (nI c)), (2, .int (nI d)), (3, .null), (4, .int (nI i))] 33 [.int (bI (there (m i) d))]
          refine v_ifb_eq (tgt := 64) C dX3_counting_33 (by decide) (fun h33 => ?_) (fun h33 => ?_)
          · refine v_iinc (lv' := [(4, .int (nI (i + 1))), (5, .ref (th i)), (0, .ref la), (1, .int (nI c)), (2, .int (nI d)), (3, .null)]) C dX3_counting_64 5 rfl (nI_1 _) hN (by decide) rfl ?_
            refine v_goto (tgt := 5) C dX3_counting_67 (by decide) ?_
            refine v_sub (lv' := [(0, .ref la), (1, .int (nI c)), (2, .int (nI d)), (3, .null), (4, .int (nI (i + 1)))]) [2, 3, 4, 5, 0] rfl ?_
            have e1 : bst m (c % 12) (c / 12) d (i + 1) = none := by first | (simp [bst, hb, abv, *]; done) | simp_all
            have q := ih5 (i + 1) (by omega) (by omega)
            rw [e1] at q
            exact q
          · refine v_aload C dX3_counting_36 rfl ?_
            refine v_iload_n C dX3_counting_38 rfl ?_
            refine v_bipush C dX3_counting_39 (v := 12) rfl ?_
            refine v_irem C dX3_counting_41 (by decide) ?_
            refine v_iload_n C dX3_counting_42 rfl ?_
            refine v_bipush C dX3_counting_43 (v := 12) rfl ?_
            refine v_idiv C dX3_counting_45 (by decide) ?_
            rw [cell_mod (by omega), cell_div (by omega)]
            show V X (rmD 2 0 0) M 0 0 [(5, .ref (th i)), (0, .ref la), (1, .int (nI c)), (2, .int (nI d)), (3, .null), (4, .int (nI i))] 46 [.int (nI (c / 12)), .int (nI (c % 12)), .ref (th i)]
            refine v_callV (As := [.int (nI (c % 12)), .int (nI (c / 12))]) (rest := []) (b := th i) C (c_X6_liesOn (xl X) (xg X) M (th i) (mk i) (dn i) (nI i) (fun w => nI (m i w)) (nI (c % 12)) (nI (c / 12)) ((hL.2.2.2 i g11).1) ((hL.2.2.2 i g11).2.1)) pm_X6_liesOn wI_X6_liesOn wS_X6_liesOn wM_X3_40 kX6 ((hL.2.2.2 i g11).1) ⟨by decide, by decide⟩ ⟨by decide, by decide⟩ (nle rfl) dX3_counting_46 rfl (dt1 ?_)
            show V X (rmD 2 0 0) M 0 0 [(5, .ref (th i)), (0, .ref la), (1, .int (nI c)), (2, .int (nI d)), (3, .null), (4, .int (nI i))] 49 [.int (bI (lies (fun w => nI (m i w)) (nI (c % 12)) (nI (c / 12))))]
            rw [lies_N (hL.2.2.2 i g11).2.2.2 (by omega) (by omega)]
            show V X (rmD 2 0 0) M 0 0 [(5, .ref (th i)), (0, .ref la), (1, .int (nI c)), (2, .int (nI d)), (3, .null), (4, .int (nI i))] 49 [.int (bI (liesN (m i) (c % 12) (c / 12)))]
            refine v_ifb_eq (tgt := 64) C dX3_counting_49 (by decide) (fun h49 => ?_) (fun h49 => ?_)
            · refine v_iinc (lv' := [(4, .int (nI (i + 1))), (5, .ref (th i)), (0, .ref la), (1, .int (nI c)), (2, .int (nI d)), (3, .null)]) C dX3_counting_64 5 rfl (nI_1 _) hN (by decide) rfl ?_
              refine v_goto (tgt := 5) C dX3_counting_67 (by decide) ?_
              refine v_sub (lv' := [(0, .ref la), (1, .int (nI c)), (2, .int (nI d)), (3, .null), (4, .int (nI (i + 1)))]) [2, 3, 4, 5, 0] rfl ?_
              have e1 : bst m (c % 12) (c / 12) d (i + 1) = none := by first | (simp [bst, hb, abv, *]; done) | simp_all
              have q := ih5 (i + 1) (by omega) (by omega)
              rw [e1] at q
              exact q
            · refine v_aload C dX3_counting_52 rfl ?_
              refine v_aload_nN C dX3_counting_54 rfl ?_
              refine v_callV (As := [.null]) (rest := []) (b := th i) C (c_X6_isAboveN (xl X) (xg X) M (th i) (mk i) (dn i) (nI i) (fun w => nI (m i w)) ((hL.2.2.2 i g11).1) ((hL.2.2.2 i g11).2.1)) pm_X6_isAbove wI_X6_isAbove wS_X6_isAbove wM_X3_44 kX6 ((hL.2.2.2 i g11).1) ⟨by decide, by decide⟩ ⟨by decide, by decide⟩ (nle rfl) dX3_counting_55 rfl (dt1 ?_)
              show V X (rmD 2 0 0) M 0 0 [(5, .ref (th i)), (0, .ref la), (1, .int (nI c)), (2, .int (nI d)), (3, .null), (4, .int (nI i))] 58 [.int (bI true)]
              refine v_ifb_eq (tgt := 64) C dX3_counting_58 (by decide) (fun h58 => ?_) (fun h58 => ?_)
              · refine v_iinc (lv' := [(4, .int (nI (i + 1))), (5, .ref (th i)), (0, .ref la), (1, .int (nI c)), (2, .int (nI d)), (3, .null)]) C dX3_counting_64 5 rfl (nI_1 _) hN (by decide) rfl ?_
                refine v_goto (tgt := 5) C dX3_counting_67 (by decide) ?_
                refine v_sub (lv' := [(0, .ref la), (1, .int (nI c)), (2, .int (nI d)), (3, .null), (4, .int (nI (i + 1)))]) [2, 3, 4, 5, 0] rfl ?_
                have e1 : bst m (c % 12) (c / 12) d (i + 1) = none := by first | (simp [bst, hb, abv, *]; done) | simp_all
                have q := ih5 (i + 1) (by omega) (by omega)
                rw [e1] at q
                exact q
              · refine v_aload C dX3_counting_61 rfl ?_
                refine v_astore_n (lv' := [(3, .ref (th i)), (5, .ref (th i)), (0, .ref la), (1, .int (nI c)), (2, .int (nI d)), (4, .int (nI i))]) C dX3_counting_63 hN (by decide) rfl ?_
                refine v_iinc (lv' := [(4, .int (nI (i + 1))), (3, .ref (th i)), (5, .ref (th i)), (0, .ref la), (1, .int (nI c)), (2, .int (nI d))]) C dX3_counting_64 5 rfl (nI_1 _) hN (by decide) rfl ?_
                refine v_goto (tgt := 5) C dX3_counting_67 (by decide) ?_
                refine v_sub (lv' := [(0, .ref la), (1, .int (nI c)), (2, .int (nI d)), (3, .ref (th i)), (4, .int (nI (i + 1)))]) [3, 4, 5, 1, 0] rfl ?_
                have e1 : bst m (c % 12) (c / 12) d (i + 1) = some i := by first | (simp [bst, hb, abv, *]; done) | simp_all
                have q := ih5 (i + 1) (by omega) (by omega)
                rw [e1] at q
                exact q
      · have hbi := bst_lt hb
        show V X (rmD 2 0 0) M 0 0 [(0, .ref la), (1, .int (nI c)), (2, .int (nI d)), (3, .ref (th b)), (4, .int (nI i))] 5 []
        refine v_iload C dX3_counting_5 rfl ?_
        refine v_aload_n C dX3_counting_7 rfl ?_
        refine v_get C kX3 hL.2.1 1 (by decide) wF_X3_17 rfl dX3_counting_8 ?_
        refine v_icmp_ge (tgt := 70) C dX3_counting_11 (by decide) (fun h11 => ?_) (fun h11 => ?_)
        · have g11 : i = nT := Nat.le_antisymm h1 (nI_leN (by omega) (by omega) h11)
          subst g11
          refine v_aload_n C dX3_counting_70 rfl ?_
          refine v_ifnonnull (tgt := 79) C dX3_counting_71 (by decide) ?_
          refine v_aload_n C dX3_counting_79 rfl ?_
          refine v_callV (As := []) (rest := []) (b := th b) C (c_X6_number (xl X) (xg X) M (th b) (mk b) (dn b) (nI b) ((hL.2.2.2 b ((by omega))).1)) pm_X6_number wI_X6_number wS_X6_number wM_X3_48 kX6 ((hL.2.2.2 b ((by omega))).1) ⟨by decide, by decide⟩ ⟨by decide, by decide⟩ (nle rfl) dX3_counting_80 rfl (dt1 ?_)
          show V X (rmD 2 0 0) M 0 0 [(0, .ref la), (1, .int (nI c)), (2, .int (nI d)), (3, .ref (th b)), (4, .int (nI i))] 83 [.int (nI b)]
          exact v_iret C E dX3_counting_83 (by decide) (by decide) ⟨by rw [hb]; rfl, rfl⟩
        · have g11 := nI_nleN (by omega) (by omega) h11
          refine v_aload_n C dX3_counting_14 rfl ?_
          refine v_iload C dX3_counting_15 rfl ?_
          refine v_callV (As := [.int (nI i)]) (rest := []) (b := la) C (c_X3_find (xl X) (xg X) M la ta th mk dn nT m lo hi i g11 hL) pm_X3_find wI_X3_find wS_X3_find wM_X3_32 kX3 hL.2.1 ⟨by decide, by decide⟩ ⟨by decide, by decide⟩ (nle rfl) dX3_counting_17 rfl (dt1 ?_)
          show V X (rmD 2 0 0) M 0 0 [(0, .ref la), (1, .int (nI c)), (2, .int (nI d)), (3, .ref (th b)), (4, .int (nI i))] 20 [.ref (th i)]
          refine v_astore (lv' := [(5, .ref (th i)), (0, .ref la), (1, .int (nI c)), (2, .int (nI d)), (3, .ref (th b)), (4, .int (nI i))]) C dX3_counting_20 hN (by decide) rfl ?_
          refine v_aload C dX3_counting_22 rfl ?_
          refine v_ifnull C dX3_counting_24 ?_
          refine v_aload C dX3_counting_27 rfl ?_
          refine v_iload_n C dX3_counting_29 rfl ?_
          refine v_callV (As := [.int (nI d)]) (rest := []) (b := th i) C (c_X6_isThere (xl X) (xg X) M (th i) (mk i) (dn i) (nI i) (fun w => nI (m i w)) (nI d) ((hL.2.2.2 i g11).1) ((hL.2.2.2 i g11).2.1)) pm_X6_isThere wI_X6_isThere wS_X6_isThere wM_X3_36 kX6 ((hL.2.2.2 i g11).1) ⟨by decide, by decide⟩ ⟨by decide, by decide⟩ (nle rfl) dX3_counting_30 rfl (dt1 ?_)
          show V X (rmD 2 0 0) M 0 0 [(5, .ref (th i)), (0, .ref la), (1, .int (nI c)), (2, .int (nI d)), (3, .ref (th b)), (4, .int (nI i))] 33 [.int (bI (qin (nI d) ((fun w => nI (m i w)) 6) ((fun w => nI (m i w)) 7)))]
          rw [there_N (hL.2.2.2 i g11).2.2.2 (by omega)]
          show V X (rmD 2 0 0) M 0 0 [(5, .ref (th i)), (0, .ref la), (1, .int (nI c)), (2, .int (nI d)), (3, .ref (th b)), (4, .int (nI i))] 33 [.int (bI (there (m i) d))]
          refine v_ifb_eq (tgt := 64) C dX3_counting_33 (by decide) (fun h33 => ?_) (fun h33 => ?_)
          · refine v_iinc (lv' := [(4, .int (nI (i + 1))), (5, .ref (th i)), (0, .ref la), (1, .int (nI c)), (2, .int (nI d)), (3, .ref (th b))]) C dX3_counting_64 5 rfl (nI_1 _) hN (by decide) rfl ?_
            refine v_goto (tgt := 5) C dX3_counting_67 (by decide) ?_
            refine v_sub (lv' := [(0, .ref la), (1, .int (nI c)), (2, .int (nI d)), (3, .ref (th b)), (4, .int (nI (i + 1)))]) [2, 3, 4, 5, 0] rfl ?_
            have e1 : bst m (c % 12) (c / 12) d (i + 1) = some b := by first | (simp [bst, hb, abv, *]; done) | simp_all
            have q := ih5 (i + 1) (by omega) (by omega)
            rw [e1] at q
            exact q
          · refine v_aload C dX3_counting_36 rfl ?_
            refine v_iload_n C dX3_counting_38 rfl ?_
            refine v_bipush C dX3_counting_39 (v := 12) rfl ?_
            refine v_irem C dX3_counting_41 (by decide) ?_
            refine v_iload_n C dX3_counting_42 rfl ?_
            refine v_bipush C dX3_counting_43 (v := 12) rfl ?_
            refine v_idiv C dX3_counting_45 (by decide) ?_
            rw [cell_mod (by omega), cell_div (by omega)]
            show V X (rmD 2 0 0) M 0 0 [(5, .ref (th i)), (0, .ref la), (1, .int (nI c)), (2, .int (nI d)), (3, .ref (th b)), (4, .int (nI i))] 46 [.int (nI (c / 12)), .int (nI (c % 12)), .ref (th i)]
            refine v_callV (As := [.int (nI (c % 12)), .int (nI (c / 12))]) (rest := []) (b := th i) C (c_X6_liesOn (xl X) (xg X) M (th i) (mk i) (dn i) (nI i) (fun w => nI (m i w)) (nI (c % 12)) (nI (c / 12)) ((hL.2.2.2 i g11).1) ((hL.2.2.2 i g11).2.1)) pm_X6_liesOn wI_X6_liesOn wS_X6_liesOn wM_X3_40 kX6 ((hL.2.2.2 i g11).1) ⟨by decide, by decide⟩ ⟨by decide, by decide⟩ (nle rfl) dX3_counting_46 rfl (dt1 ?_)
            show V X (rmD 2 0 0) M 0 0 [(5, .ref (th i)), (0, .ref la), (1, .int (nI c)), (2, .int (nI d)), (3, .ref (th b)), (4, .int (nI i))] 49 [.int (bI (lies (fun w => nI (m i w)) (nI (c % 12)) (nI (c / 12))))]
            rw [lies_N (hL.2.2.2 i g11).2.2.2 (by omega) (by omega)]
            show V X (rmD 2 0 0) M 0 0 [(5, .ref (th i)), (0, .ref la), (1, .int (nI c)), (2, .int (nI d)), (3, .ref (th b)), (4, .int (nI i))] 49 [.int (bI (liesN (m i) (c % 12) (c / 12)))]
            refine v_ifb_eq (tgt := 64) C dX3_counting_49 (by decide) (fun h49 => ?_) (fun h49 => ?_)
            · refine v_iinc (lv' := [(4, .int (nI (i + 1))), (5, .ref (th i)), (0, .ref la), (1, .int (nI c)), (2, .int (nI d)), (3, .ref (th b))]) C dX3_counting_64 5 rfl (nI_1 _) hN (by decide) rfl ?_
              refine v_goto (tgt := 5) C dX3_counting_67 (by decide) ?_
              refine v_sub (lv' := [(0, .ref la), (1, .int (nI c)), (2, .int (nI d)), (3, .ref (th b)), (4, .int (nI (i + 1)))]) [2, 3, 4, 5, 0] rfl ?_
              have e1 : bst m (c % 12) (c / 12) d (i + 1) = some b := by first | (simp [bst, hb, abv, *]; done) | simp_all
              have q := ih5 (i + 1) (by omega) (by omega)
              rw [e1] at q
              exact q
            · refine v_aload C dX3_counting_52 rfl ?_
              refine v_aload_n C dX3_counting_54 rfl ?_
              refine v_callV (As := [.ref (th b)]) (rest := []) (b := th i) C (c_X6_isAbove (xl X) (xg X) M (th i) (mk i) (dn i) (nI i) (fun w => nI (m i w)) (th b) (mk b) (dn b) (nI b) (fun w => nI (m b w)) ((hL.2.2.2 i g11).1) ((hL.2.2.2 i g11).2.1) ((hL.2.2.2 b ((by omega))).1) ((hL.2.2.2 b ((by omega))).2.1)) pm_X6_isAbove wI_X6_isAbove wS_X6_isAbove wM_X3_44 kX6 ((hL.2.2.2 i g11).1) ⟨by decide, by decide⟩ ⟨by decide, by decide⟩ (nle rfl) dX3_counting_55 rfl (dt1 ?_)
              show V X (rmD 2 0 0) M 0 0 [(5, .ref (th i)), (0, .ref la), (1, .int (nI c)), (2, .int (nI d)), (3, .ref (th b)), (4, .int (nI i))] 58 [.int (bI (decide ((fun w => nI (m b w)) 4 < (fun w => nI (m i w)) 4)))]
              rw [above_N (hL.2.2.2 i g11).2.2.2 (hL.2.2.2 b (by omega)).2.2.2]
              show V X (rmD 2 0 0) M 0 0 [(5, .ref (th i)), (0, .ref la), (1, .int (nI c)), (2, .int (nI d)), (3, .ref (th b)), (4, .int (nI i))] 58 [.int (bI (decide (m b 4 < m i 4)))]
              refine v_ifb_eq (tgt := 64) C dX3_counting_58 (by decide) (fun h58 => ?_) (fun h58 => ?_)
              · refine v_iinc (lv' := [(4, .int (nI (i + 1))), (5, .ref (th i)), (0, .ref la), (1, .int (nI c)), (2, .int (nI d)), (3, .ref (th b))]) C dX3_counting_64 5 rfl (nI_1 _) hN (by decide) rfl ?_
                refine v_goto (tgt := 5) C dX3_counting_67 (by decide) ?_
                refine v_sub (lv' := [(0, .ref la), (1, .int (nI c)), (2, .int (nI d)), (3, .ref (th b)), (4, .int (nI (i + 1)))]) [2, 3, 4, 5, 0] rfl ?_
                have e1 : bst m (c % 12) (c / 12) d (i + 1) = some b := by first | (simp [bst, hb, abv, *]; done) | simp_all
                have q := ih5 (i + 1) (by omega) (by omega)
                rw [e1] at q
                exact q
              · refine v_aload C dX3_counting_61 rfl ?_
                refine v_astore_n (lv' := [(3, .ref (th i)), (5, .ref (th i)), (0, .ref la), (1, .int (nI c)), (2, .int (nI d)), (4, .int (nI i))]) C dX3_counting_63 hN (by decide) rfl ?_
                refine v_iinc (lv' := [(4, .int (nI (i + 1))), (3, .ref (th i)), (5, .ref (th i)), (0, .ref la), (1, .int (nI c)), (2, .int (nI d))]) C dX3_counting_64 5 rfl (nI_1 _) hN (by decide) rfl ?_
                refine v_goto (tgt := 5) C dX3_counting_67 (by decide) ?_
                refine v_sub (lv' := [(0, .ref la), (1, .int (nI c)), (2, .int (nI d)), (3, .ref (th i)), (4, .int (nI (i + 1)))]) [3, 4, 5, 1, 0] rfl ?_
                have e1 : bst m (c % 12) (c / 12) d (i + 1) = some i := by first | (simp [bst, hb, abv, *]; done) | simp_all
                have q := ih5 (i + 1) (by omega) (by omega)
                rw [e1] at q
                exact q
  exact lp5 (_ + 1) 0 (Nat.zero_le _) (Nat.lt_succ_self _)

theorem LandW.set {g : Gm} {M : Mem} {la ta : Nat} {th mk dn : Nat → Nat} {nT : Nat} {m : Nat → Nat → Nat} {lo hi : Nat → Int64} (hL : LandW g M la ta th mk dn nT m lo hi) {ra : Nat} (e : va_E) (h : la ≠ ra ∧ ta ≠ ra ∧ ∀ i, i < nT → th i ≠ ra ∧ mk i ≠ ra ∧ dn i ≠ ra) : LandW g (mset M ra e) la ta th mk dn nT m lo hi := by
  obtain ⟨h1, h2, h3, h4⟩ := hL
  refine ⟨h1, (mset_ne h.1).trans h2, (mset_ne h.2.1).trans h3, fun i hi => ?_⟩
  obtain ⟨q1, q2, q3, q4⟩ := h4 i hi
  obtain ⟨r1, r2, r3⟩ := h.2.2 i hi
  exact ⟨(mset_ne r1).trans q1, (mset_ne r2).trans q2, (mset_ne r3).trans q3, q4⟩
theorem LandW.setI {g : Gm} {M : Mem} {la ta : Nat} {th mk dn : Nat → Nat} {nT : Nat} {m : Nat → Nat → Nat} {lo hi : Nat → Int64} (hL : LandW g M la ta th mk dn nT m lo hi) {ra len : Nat} {f : Nat → Int32} (hR : M ra = some (aI g len f)) (hl : len ≠ 11) (e : va_E) : LandW g (mset M ra e) la ta th mk dn nT m lo hi := by
  have ⟨h1, h2, h3, h4⟩ := hL
  refine hL.set e ⟨cell_ne h2 hR (by simp), cell_ne h3 hR (by simp), fun i hi => ?_⟩
  obtain ⟨q1, q2, q3, q4⟩ := h4 i hi
  exact ⟨cell_ne q1 hR (by simp), cell_ne q2 hR (fun q => hl (by simp at q; exact q.1.symm)), cell_ne q3 hR (by simp)⟩
theorem LandW.setO {g : Gm} {M : Mem} {la ta : Nat} {th mk dn : Nat → Nat} {nT : Nat} {m : Nat → Nat → Nat} {lo hi : Nat → Int64} (hL : LandW g M la ta th mk dn nT m lo hi) {ra ci : Nat} {fs : List Value} (hR : M ra = some (.inr (ci, fs))) (hc : ci ≠ 3 ∧ ci ≠ 6 ∧ ci ≠ 7) (e : va_E) : LandW g (mset M ra e) la ta th mk dn nT m lo hi := by
  have ⟨h1, h2, h3, h4⟩ := hL
  refine hL.set e ⟨cell_ne h2 hR (fun q => hc.1 (by simp at q; exact q.1.symm)), cell_ne h3 hR (by simp), fun i hi => ?_⟩
  obtain ⟨q1, q2, q3, q4⟩ := h4 i hi
  exact ⟨cell_ne q1 hR (fun q => hc.2.1 (by simp at q; exact q.1.symm)), cell_ne q2 hR (by simp), cell_ne q3 hR (fun q => hc.2.2 (by simp at q; exact q.1.symm))⟩
theorem LandW.setJ {g : Gm} {M : Mem} {la ta : Nat} {th mk dn : Nat → Nat} {nT : Nat} {m : Nat → Nat → Nat} {lo hi : Nat → Int64} (hL : LandW g M la ta th mk dn nT m lo hi) {ra len : Nat} {f : Nat → Int64} (hR : M ra = some (aJ g len f)) (e : va_E) : LandW g (mset M ra e) la ta th mk dn nT m lo hi := by
  have ⟨h1, h2, h3, h4⟩ := hL
  refine hL.set e ⟨cell_ne h2 hR (by simp), cell_ne h3 hR (by simp), fun i hi => ?_⟩
  obtain ⟨q1, q2, q3, q4⟩ := h4 i hi
  exact ⟨cell_ne q1 hR (by simp), cell_ne q2 hR (by simp), cell_ne q3 hR (by simp)⟩
/-- the k-th CELL that a THING lies on, and which one a CELL is -/
def layC (m : Nat → Nat) (k : Nat) : Nat := 12 * (m 1 + k / m 2) + (m 0 + k % m 2)
def layK (m : Nat → Nat) (c : Nat) : Nat := (c / 12 - m 1) * m 2 + (c % 12 - m 0)
theorem lay_c {m : Nat → Nat} (h : okM m) {k : Nat} (hk : k < m 2 * m 3) : layC m k < 96 ∧ layC m k % 12 = m 0 + k % m 2 ∧ layC m k / 12 = m 1 + k / m 2 ∧ layK m (layC m k) = k ∧ liesN m (layC m k % 12) (layC m k / 12) = true := by
  unfold okM at h
  have h1 : k % m 2 < m 2 := Nat.mod_lt _ (by omega)
  have h2 : k / m 2 < m 3 := Nat.div_lt_of_lt_mul hk
  have h3 := Nat.div_add_mod k (m 2)
  unfold layK liesN layC
  generalize k / m 2 = q at *
  generalize k % m 2 = r at *
  have e1 : (12 * (m 1 + q) + (m 0 + r)) % 12 = m 0 + r := by omega
  have e2 : (12 * (m 1 + q) + (m 0 + r)) / 12 = m 1 + q := by omega
  rw [e1, e2]
  refine ⟨by omega, rfl, rfl, ?_, ?_⟩
  · rw [show m 1 + q - m 1 = q by omega, show m 0 + r - m 0 = r by omega, Nat.mul_comm]
    exact h3
  · simp only [Bool.and_eq_true, decide_eq_true_eq]
    omega
theorem lay_k {m : Nat → Nat} (h : okM m) {c : Nat} (hl : liesN m (c % 12) (c / 12) = true) : layK m c < m 2 * m 3 ∧ layC m (layK m c) = c := by
  unfold okM at h
  unfold liesN at hl
  simp only [Bool.and_eq_true, decide_eq_true_eq] at hl
  have e1 : layK m c % m 2 = c % 12 - m 0 := by
    unfold layK
    rw [Nat.mul_comm, Nat.mul_add_mod, Nat.mod_eq_of_lt (a := c % 12 - m 0) (b := m 2) (by omega)]
  have e2 : layK m c / m 2 = c / 12 - m 1 := by
    unfold layK
    rw [Nat.mul_comm, Nat.mul_add_div (by omega), Nat.div_eq_of_lt (a := c % 12 - m 0) (b := m 2) (by omega), Nat.add_zero]
  refine ⟨?_, ?_⟩
  · have : layK m c < (c / 12 - m 1) * m 2 + m 2 := by unfold layK; omega
    have h2 : (c / 12 - m 1) * m 2 + m 2 = (c / 12 - m 1 + 1) * m 2 := by rw [Nat.add_mul, Nat.one_mul]
    have h3 : (c / 12 - m 1 + 1) * m 2 ≤ m 3 * m 2 := Nat.mul_le_mul_right _ (by omega)
    rw [Nat.mul_comm (m 2)]
    omega
  · unfold layC
    rw [e1, e2]
    omega
/-- the row of a picture while THING i is laid on it: k CELLS are done -/
def layF (m : Nat → Nat → Nat) (d i k c : Nat) : Option Nat := if (liesN (m i) (c % 12) (c / 12) && decide (layK (m i) c < k)) && abv m (bst m (c % 12) (c / 12) d i) i then some i else bst m (c % 12) (c / 12) d i
theorem layF_0 (m : Nat → Nat → Nat) (d i c : Nat) : layF m d i 0 c = bst m (c % 12) (c / 12) d i := by simp [layF]
theorem layF_end {m : Nat → Nat → Nat} {d i : Nat} (h : okM (m i)) (ht : there (m i) d = true) (c : Nat) : layF m d i (m i 2 * m i 3) c = bst m (c % 12) (c / 12) d (i + 1) := by
  unfold layF
  rw [bst, ht]
  by_cases hl : liesN (m i) (c % 12) (c / 12) = true
  · have := (lay_k h hl).1
    simp [hl, this]
  · simp [hl]
theorem layF_here {m : Nat → Nat → Nat} {d i k : Nat} (h : okM (m i)) (hk : k < m i 2 * m i 3) : layF m d i k (layC (m i) k) = bst m (m i 0 + k % m i 2) (m i 1 + k / m i 2) d i := by
  obtain ⟨-, e1, e2, e3, -⟩ := lay_c h hk
  unfold layF
  rw [e3]
  simp [e1, e2]
theorem layF_step {m : Nat → Nat → Nat} {d i k : Nat} (h : okM (m i)) (hk : k < m i 2 * m i 3) (c : Nat) : layF m d i (k + 1) c = if c = layC (m i) k ∧ abv m (bst m (m i 0 + k % m i 2) (m i 1 + k / m i 2) d i) i = true then some i else layF m d i k c := by
  obtain ⟨-, e1, e2, e3, e4⟩ := lay_c h hk
  by_cases hc : c = layC (m i) k
  · subst hc
    unfold layF
    rw [e4, e3, e1, e2]
    simp
  · have hne : liesN (m i) (c % 12) (c / 12) = true → layK (m i) c ≠ k := fun hl q => hc (by rw [← (lay_k h hl).2, q])
    unfold layF
    simp only [hc, false_and, if_false]
    by_cases hl : liesN (m i) (c % 12) (c / 12) = true
    · have h1 := hne hl
      have h2 : decide (layK (m i) c < k + 1) = decide (layK (m i) c < k) := decide_eq_decide.mpr (by omega)
      rw [h2]
    · simp [hl]
theorem oI_find {o : Option Nat} {n : Nat} (h : ∀ b, o = some b → b < n) : (o = none ∧ oI o = -6) ∨ ∃ b, o = some b ∧ b < n ∧ oI o = nI b := by
  cases o with
  | none => exact Or.inl ⟨rfl, rfl⟩
  | some b => exact Or.inr ⟨b, rfl, h b rfl, rfl⟩
theorem m6_ne {n : Nat} (h : n < 2 ^ 31) : ¬ (-6 : Int32) = nI n := fun q => by
  have h1 : (nI n).toInt = -6 := by rw [← q]; rfl
  rw [nI_toInt h] at h1
  omega
end
section
theorem zz_end : True := trivial
end
